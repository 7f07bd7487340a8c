/-! ===== THE ENGINE: an abstract machine over a sorted heap. A cell is (sort, index); its contents are V sort index slot; a value is an Int or a reference to a cell (or null). AW: from this abstract state the machine comes to the method's end with Post. ===== -/
abbrev AV : Type := Int ⊕ Option (Nat × Nat)
abbrev Vw : Type := Nat → Nat → Nat → AV
abbrev Lw : Type := Nat → Nat → Bool
abbrev Ad : Type := Nat → Nat → Nat
abbrev Pst : Type := Option AV → Lw → Vw → Nat → Prop
def rl (ad : Ad) : AV → Value
  | .inl e => .int (Int32.ofInt e)
  | .inr none => .null
  | .inr (some q) => .ref (ad q.1 q.2)
theorem rl_cat (ad : Ad) (v : AV) : (rl ad v).category = 1 := by
  rcases v with e | _ | q <;> rfl
abbrev Rg (e : Int) : Prop := -2147483648 ≤ e ∧ e ≤ 2147483647
theorem rg_toInt {e : Int} (h : Rg e) : (Int32.ofInt e).toInt = e := Int32.toInt_ofInt_of_le (by omega) (by omega)
theorem rg_lt {a b : Int} (ha : Rg a) (hb : Rg b) : Int32.ofInt a < Int32.ofInt b ↔ a < b := by
  rw [Int32.lt_iff_toInt_lt, rg_toInt ha, rg_toInt hb]
theorem rg_le {a b : Int} (ha : Rg a) (hb : Rg b) : Int32.ofInt a ≤ Int32.ofInt b ↔ a ≤ b := by
  rw [Int32.le_iff_toInt_le, rg_toInt ha, rg_toInt hb]
theorem rg_eq {a b : Int} (ha : Rg a) (hb : Rg b) : Int32.ofInt a = Int32.ofInt b ↔ a = b := by
  rw [← Int32.toInt_inj, rg_toInt ha, rg_toInt hb]
theorem rg_0 : (0 : Int32) = Int32.ofInt 0 := by decide +kernel
theorem rg_z : Rg 0 := by decide
theorem rg_clamp {e : Int} (h : Rg e) : (Int32.ofInt e).toNatClampNeg = e.toNat := Int32.toNatClampNeg_ofInt_of_le (by omega) (by omega)
theorem rg_in {e : Int} {n : Nat} (h0 : 0 ≤ e) (h1 : e < n) (hn : n ≤ 1000000) : vp_in (Int32.ofInt e) n := by
  intro h
  have hr : Rg e := ⟨by omega, by omega⟩
  rcases h with h | h
  · rw [rg_0, rg_lt hr rg_z] at h; omega
  · rw [rg_clamp hr] at h; omega
/-- what a sort's cells are: objects of a class (its number), or arrays (their kind) -/
def Kd (σ i : Nat) : Nat ⊕ Nat := match σ with
  | 0 => .inl 5
  | 1 => .inl 3
  | 2 => .inl 1
  | 5 => .inl 4
  | 6 => .inr 0
  | 7 => .inl 0
  | 8 => .inr 3
  | 9 => .inr 0
  | 10 => .inr 0
  | 11 => .inr 4
  | 30 => .inl 2
  | 31 => .inl 2
  | 32 => .inl 2
  | 33 => .inl 2
  | 34 => .inl 2
  | 40 => .inr 2
  | 41 => .inr 2
  | 42 => .inr 2
  | 43 => .inr 2
  | 44 => .inr 2
  | 50 => .inl 6
  | 51 => if i = 5 ∨ i = 11 ∨ i = 13 ∨ i = 17 ∨ i = 18 then .inr 1 else .inr 0
  | _ => .inl 7
def LnR (i : Nat) : Nat := match i with
  | 3 => 8
  | 4 => 8
  | 5 => 8
  | 6 => 24
  | 7 => 24
  | 23 => 210
  | 25 => 12
  | 26 => 12
  | 27 => 12
  | 28 => 96
  | 29 => 12
  | 30 => 360
  | 31 => 2
  | 32 => 60
  | 33 => 16
  | 34 => 480
  | 35 => 16
  | _ => 30
theorem LnR_le (i : Nat) : LnR i ≤ 480 := by unfold LnR; split <;> decide
def Ln (σ i : Nat) : Nat := match σ with
  | 6 => 7
  | 8 => 8
  | 9 => 24
  | 10 => 24
  | 11 => 12
  | 40 => 3
  | 43 => 8
  | 51 => LnR i
  | _ => 30
theorem Ln_le (σ i : Nat) : Ln σ i ≤ 480 := by unfold Ln; split <;> first | decide | exact LnR_le i
def Nc : Nat → Nat
  | 0 => 4
  | 1 => 2
  | 2 => 2
  | 3 => 6
  | 4 => 16
  | 5 => 11
  | 6 => 36
  | _ => 0
def RR : Nat → String
  | 0 => RX0
  | 1 => RX1
  | 2 => RX2
  | 3 => RX3
  | 4 => RX4
  | 5 => RX5
  | _ => RX6
theorem lt7 {P : Nat → Prop} (h0 : P 0) (h1 : P 1) (h2 : P 2) (h3 : P 3) (h4 : P 4) (h5 : P 5) (h6 : P 6) : ∀ c, c < 7 → P c := by
  intro c hc
  match c, hc with
  | 0, _ => exact h0
  | 1, _ => exact h1
  | 2, _ => exact h2
  | 3, _ => exact h3
  | 4, _ => exact h4
  | 5, _ => exact h5
  | 6, _ => exact h6
theorem cl_at {ci : Nat} (h : ci < 7) : vwCl[ci]? = some (RR ci, TT ci, Nc ci) := lt7 (P := fun ci => vwCl[ci]? = some (RR ci, TT ci, Nc ci)) rfl rfl rfl rfl rfl rfl rfl ci h
theorem cl_uw {ci : Nat} (h : ci < 7) : ∀ w ∈ u_ws (RR ci) (TT ci) (Nc ci), w ∈ TB := lt7 (P := fun ci => ∀ w ∈ u_ws (RR ci) (TT ci) (Nc ci), w ∈ TB) uw_X0 uw_X1 uw_X2 uw_X3 uw_X4 uw_X5 uw_X6 ci h
theorem cl_ty {ci : Nat} (h : ci < 7) : ∀ k, k < Nc ci → parseFieldDescriptor (TT ci k).2.2.1 = some (tyT ci k) := lt7 (P := fun ci => ∀ k, k < Nc ci → parseFieldDescriptor (TT ci k).2.2.1 = some (tyT ci k)) tyX0_ok tyX1_ok tyX2_ok tyX3_ok tyX4_ok tyX5_ok tyX6_ok ci h
theorem cl_nm {ci : Nat} (h : ci < 7) : ∀ a, a < Nc ci → ∀ b, b < Nc ci → a ≠ b → (TT ci a).2.1 ≠ (TT ci b).2.1 := lt7 (P := fun ci => ∀ a, a < Nc ci → ∀ b, b < Nc ci → a ≠ b → (TT ci a).2.1 ≠ (TT ci b).2.1) nmX0 nmX1 nmX2 nmX3 nmX4 nmX5 nmX6 ci h
/-- the element types of the arrays, by kind -/
def aty : Nat → FieldType
  | 0 => .int
  | 1 => .boolean
  | 2 => .object RX4
  | 3 => .object RX3
  | _ => .object RX0
def tyA (cA : Nat → ClassId) : List (ClassId × FieldType) := [(cA 0, aty 0), (cA 1, aty 1), (cA 2, aty 2), (cA 3, aty 3), (cA 4, aty 4)]
theorem tyA_at (cA : Nat → ClassId) {t : Nat} (h : t < 5) : (tyA cA)[t]? = some (cA t, aty t) := by
  match t, h with
  | 0, _ => rfl
  | 1, _ => rfl
  | 2, _ => rfl
  | 3, _ => rfl
  | 4, _ => rfl
/-- what is known of the tables -/
def KK (D : va_G) (cA : Nat → ClassId) (U : State) : Prop := va_K D vwCl (tyA cA) U ∧ (∀ w ∈ NW, va_Nw w U) ∧ va_AO RX4 U ∧ va_AO RX3 U ∧ va_AO RX0 U
theorem NW_nest {w : Cond} (h : w ∈ NW) : isNest w = true := (List.mem_filter.mp h).2
theorem KK.warm {D : va_G} {cA : Nat → ClassId} {s U : State} (hW : s.WarmedH U.vm) (h : KK D cA s) : KK D cA U := by
  refine ⟨va_K.moved hW.alike h.1, fun w hw => ?_, h.2.2.1.moved hW.alike, h.2.2.2.1.moved hW.alike, h.2.2.2.2.moved hW.alike⟩
  have hn := NW_nest hw
  have h0 := h.2.1 w hw
  cases w <;> first | exact va_Nw.warmF hW h0 | exact va_Nw.warmM hW h0 | (simp [isNest] at hn; done)
theorem isNest_tables {w : Cond} (h : isNest w = true) : w.onTables = true := by
  cases w <;> first | rfl | (simp [isNest] at h; done)
theorem KK.same {D : va_G} {cA : Nat → ClassId} {s U : State} (e : s.vm = U.vm) (h : KK D cA s) : KK D cA U := by
  have ha : s.vm.Alike U.vm := by rw [e]; exact Vm.Alike.refl U.vm
  exact ⟨va_K.moved ha h.1, fun w hw => va_Nw.same (isNest_tables (NW_nest hw)) e (h.2.1 w hw), h.2.2.1.moved ha, h.2.2.2.1.moved ha, h.2.2.2.2.moved ha⟩
def cellOK (D : va_G) (cA : Nat → ClassId) (kd : Nat ⊕ Nat) (n : Nat) (f : Nat → Value) (a : Nat) (H : Heap) : Prop := match kd with
  | .inl ci => t_OB a (D.1 ci) (Nc ci) (D.2 ci) H f
  | .inr t => H[a]? = some (arrV (cA t) n f)
theorem cellOK.kept {D : va_G} {cA : Nat → ClassId} {kd : Nat ⊕ Nat} {n : Nat} {f : Nat → Value} {a : Nat} {H H1 : Heap} (h : cellOK D cA kd n f a H) (e : H1[a]? = H[a]?) : cellOK D cA kd n f a H1 := by
  rcases kd with ci | t
  · exact t_OB.kept h e
  · exact e.trans h
theorem cellOK.lt {D : va_G} {cA : Nat → ClassId} {kd : Nat ⊕ Nat} {n : Nat} {f : Nat → Value} {a : Nat} {H : Heap} (h : cellOK D cA kd n f a H) : a < H.size := by
  rcases kd with ci | t
  · obtain ⟨cell, h1, -⟩ := h
    exact (Array.getElem?_eq_some_iff.mp h1).1
  · exact (Array.getElem?_eq_some_iff.mp h).1
/-- the heap holds the live cells -/
def HP (D : va_G) (cA : Nat → ClassId) (A : Nat → Prop) (ad : Ad) (lv : Lw) (V : Vw) (sz : Nat) (H : Heap) : Prop :=
  H.size = sz ∧ (∀ σ i, lv σ i = true → A (ad σ i) ∧ cellOK D cA (Kd σ i) (Ln σ i) (fun k => rl ad (V σ i k)) (ad σ i) H) ∧ ∀ σ i τ j, lv σ i = true → lv τ j = true → ad σ i = ad τ j → σ = τ ∧ i = j
def s3 (V : Vw) (σ i k : Nat) (x : AV) : Vw := fun σ' i' k' => if σ' = σ ∧ i' = i ∧ k' = k then x else V σ' i' k'
theorem s3_self (V : Vw) (σ i k : Nat) (x : AV) : s3 V σ i k x σ i k = x := by simp [s3]
theorem s3_cell {V : Vw} {σ i τ j : Nat} (h : ¬ (τ = σ ∧ j = i)) (k : Nat) (x : AV) : s3 V σ i k x τ j = V τ j := by
  funext q
  simp only [s3]
  rw [if_neg]
  exact fun g => h ⟨g.1, g.2.1⟩
def sC (V : Vw) (σ i : Nat) (f : Nat → AV) : Vw := fun σ' i' k' => if σ' = σ ∧ i' = i then f k' else V σ' i' k'
theorem sC_cell {V : Vw} {σ i τ j : Nat} (h : ¬ (τ = σ ∧ j = i)) (f : Nat → AV) : sC V σ i f τ j = V τ j := by
  funext q
  simp only [sC]
  rw [if_neg h]
theorem sC_self (V : Vw) (σ i : Nat) (f : Nat → AV) : sC V σ i f σ i = f := by
  funext q
  simp [sC]
def l2 (lv : Lw) (σ i : Nat) : Lw := fun σ' i' => if σ' = σ ∧ i' = i then true else lv σ' i'
theorem HP.set {D : va_G} {cA : Nat → ClassId} {A : Nat → Prop} {ad : Ad} {lv : Lw} {V : Vw} {sz : Nat} {H H1 : Heap} (h : HP D cA A ad lv V sz H) {σ i k : Nat} {x : AV} (hl : lv σ i = true) (z : H1.size = H.size) (o : ∀ q, q ≠ ad σ i → H1[q]? = H[q]?) (he : cellOK D cA (Kd σ i) (Ln σ i) (updV (fun k => rl ad (V σ i k)) k (rl ad x)) (ad σ i) H1) : HP D cA A ad lv (s3 V σ i k x) sz H1 := by
  refine ⟨z.trans h.1, fun τ j hj => ⟨(h.2.1 τ j hj).1, ?_⟩, h.2.2⟩
  by_cases hc : τ = σ ∧ j = i
  · obtain ⟨rfl, rfl⟩ := hc
    have e : (fun q => rl ad (s3 V τ j k x τ j q)) = updV (fun k => rl ad (V τ j k)) k (rl ad x) := by
      funext q
      by_cases hq : q = k
      · subst hq; simp [s3, updV]
      · simp [s3, updV, hq]
    rw [e]; exact he
  · rw [s3_cell hc]
    exact (h.2.1 τ j hj).2.kept (o _ (fun e => hc (h.2.2 τ j σ i hj hl e)))
theorem HP.push {D : va_G} {cA : Nat → ClassId} {A : Nat → Prop} {ad : Ad} {lv : Lw} {V : Vw} {sz : Nat} {H H1 : Heap} (h : HP D cA A ad lv V sz H) {σ i : Nat} {f : Nat → AV} (had : ad σ i = sz) (hA : A sz) (z : H1.size = sz + 1) (o : ∀ q, q < sz → H1[q]? = H[q]?) (he : cellOK D cA (Kd σ i) (Ln σ i) (fun k => rl ad (f k)) sz H1) : HP D cA A ad (l2 lv σ i) (sC V σ i f) (sz + 1) H1 := by
  have key : ∀ τ j, l2 lv σ i τ j = true → (τ = σ ∧ j = i) ∨ (¬ (τ = σ ∧ j = i) ∧ lv τ j = true) := by
    intro τ j hj
    by_cases hc : τ = σ ∧ j = i
    · exact Or.inl hc
    · refine Or.inr ⟨hc, ?_⟩
      simp only [l2] at hj
      rwa [if_neg hc] at hj
  have lt : ∀ τ j, lv τ j = true → ad τ j < sz := fun τ j hj => by have := (h.2.1 τ j hj).2.lt; rw [h.1] at this; exact this
  refine ⟨z, fun τ j hj => ?_, fun τ j τ' j' hj hj' e => ?_⟩
  · rcases key τ j hj with ⟨rfl, rfl⟩ | ⟨hc, hj⟩
    · rw [sC_self, had]
      exact ⟨hA, he⟩
    · rw [sC_cell hc]
      exact ⟨(h.2.1 τ j hj).1, (h.2.1 τ j hj).2.kept (o _ (lt τ j hj))⟩
  · rcases key τ j hj with g1 | ⟨-, g1⟩
    · rcases key τ' j' hj' with g2 | ⟨-, g2⟩
      · exact ⟨g1.1.trans g2.1.symm, g1.2.trans g2.2.symm⟩
      · have := lt τ' j' g2
        rw [g1.1, g1.2, had] at e
        omega
    · rcases key τ' j' hj' with g2 | ⟨-, g2⟩
      · have := lt τ j g1
        rw [g2.1, g2.2, had] at e
        omega
      · exact h.2.2 τ j τ' j' g1 g2 e
def LV (ad : Ad) (nL : Nat) (L : List (Option AV)) (ls : Array Slot) : Prop := ls.size = nL ∧ lv_wf ls ∧ ∀ (i : Nat) (v : AV), L[i]? = some (some v) → ls[i]? = some (Slot.val (rl ad v))
def lvL (ad : Ad) (L : List (Option AV)) : List (Nat × Value) := (List.range L.length).filterMap (fun i => match L[i]? with
  | some (some v) => some (i, rl ad v)
  | _ => none)
theorem lvL_mem {ad : Ad} {L : List (Option AV)} {i : Nat} {v : AV} (h : L[i]? = some (some v)) : (i, rl ad v) ∈ lvL ad L := by
  refine List.mem_filterMap.mpr ⟨i, List.mem_range.mpr (List.getElem?_eq_some_iff.mp h).1, ?_⟩
  simp [h]
theorem LV.has {ad : Ad} {nL : Nat} {L : List (Option AV)} {ls : Array Slot} (h : LV ad nL L ls) : lv_has ls nL (lvL ad L) := by
  refine ⟨h.1, h.2.1, fun q hq => ?_⟩
  obtain ⟨i, hi, hm⟩ := List.mem_filterMap.mp hq
  cases hL : L[i]? with
  | none => simp [hL] at hm
  | some o =>
    cases o with
    | none => simp [hL] at hm
    | some v =>
      simp [hL] at hm
      subst hm
      exact h.2.2 i v hL
theorem LV.stored {ad : Ad} {nL : Nat} {L : List (Option AV)} {ls' : Array Slot} {i : Nat} {v : AV} (h : lv_has ls' nL ((i, rl ad v) :: (lvL ad L).filter (fun q => !(q.1 == i) && !(q.1 + 1 == i && q.2.category == 2)))) : LV ad nL (L.set i (some v)) ls' := by
  refine ⟨h.1, h.2.1, fun j u hj => ?_⟩
  by_cases hji : j = i
  · subst hji
    have hlt : j < L.length := by
      have := (List.getElem?_eq_some_iff.mp hj).1
      simpa using this
    rw [List.getElem?_set_self hlt] at hj
    cases hj
    exact h.2.2 (j, rl ad v) List.mem_cons_self
  · rw [List.getElem?_set_ne (Ne.symm hji)] at hj
    refine h.2.2 (j, rl ad u) (List.mem_cons_of_mem _ (List.mem_filter.mpr ⟨lvL_mem hj, ?_⟩))
    simp [hji, rl_cat]
theorem lv_args_mem (ad : Ad) : ∀ (av : List AV) (n i : Nat) (v : AV), av[i]? = some v → (n + i, rl ad v) ∈ lv_args n (av.map (rl ad))
  | [], _, i, v, h => by simp at h
  | a :: av, n, 0, v, h => by
    simp at h
    subst h
    simp [lv_args]
  | a :: av, n, i + 1, v, h => by
    have h2 := lv_args_mem ad av (n + 1) i v (by simpa using h)
    simp only [List.map_cons, lv_args, rl_cat]
    refine List.mem_cons_of_mem _ ?_
    rw [if_neg (by decide), show n + (i + 1) = n + 1 + i by omega]
    exact h2
theorem lg_sl_len (ad : Ad) (av : List AV) : (lg_sl (av.map (rl ad))).length = av.length := by
  induction av with
  | nil => rfl
  | cons a av ih =>
    have e : lg_sl ((a :: av).map (rl ad)) = Slot.val (rl ad a) :: lg_sl (av.map (rl ad)) := by simp [lg_sl, rl_cat]
    rw [e]
    simp [ih]
def CX (y : MethodName) (cc : ByteArray) (nL : Nat) (ret : Option FieldType) (D : va_G) (cA : Nat → ClassId) (p : Program) (s : State) (m : MethodId) (args : Array Value) (meth : Method) (c : Code) : Prop :=
  p.tables.exec = Jvm.exec ∧ c.code = cc ∧ c.maxLocals = nL ∧ meth.sig.returnType = ret ∧ meth.locks = false ∧ s.vm.findClass y.cls = some m.cls ∧ (∀ w ∈ TB, w.before args s = true) ∧ KK D cA s ∧ meth.name = y.name
def QC (D : va_G) (cA : Nat → ClassId) (A : Nat → Prop) (ad : Ad) (Post : Pst) : Array Value → State → Outcome → State → Prop := fun _ st o t => (∃ (r : Option AV) (lv : Lw) (V : Vw) (sz : Nat), o = .returned (r.map (rl ad)) ∧ Post r lv V sz ∧ HP D cA A ad lv V sz t.heap) ∧ va_F A st t
def AW (l : Launch) (D : va_G) (cA : Nat → ClassId) (A : Nat → Prop) (ad : Ad) (y : MethodName) (cc : ByteArray) (nL : Nat) (ret : Option FieldType) (R : Room) (Post : Pst) (cells slots : Nat) (lv : Lw) (V : Vw) (sz pc : Nat) (L : List (Option AV)) (st : List AV) : Prop :=
  ∀ (p : Program) (e : Env) (s : State) (m : MethodId) (args : Array Value) (below : List Frame) (meth : Method) (c : Code) (H : Heap) (locs : List Loc) (ls : Array Slot), CX y cc nL ret D cA p s m args meth c → (∀ q, s.heap.size ≤ q → A q) → HP D cA A ad lv V sz H → va_S A s.heap H locs → LV ad nL L ls → W p l e R s m args below meth c H locs cells slots (MQ below (QC D cA A ad Post) args s R.cells R.slots A) (F0 m pc ls (st.map (rl ad)))
def CT (l : Launch) (D : va_G) (cA : Nat → ClassId) (A : Nat → Prop) (ad : Ad) (y : MethodName) (cc : ByteArray) (nL : Nat) (ret : Option FieldType) (R : Room) (av : List AV) (lv : Lw) (V : Vw) (sz : Nat) (Post : Pst) : Prop :=
  Met l y (Cond.code y cc nL ret :: TB) R (fun v U => v = (av.map (rl ad)).toArray ∧ KK D cA U ∧ HP D cA A ad lv V sz U.heap ∧ ∀ q, sz ≤ q → A q) (QC D cA A ad Post) R.cells R.slots A
section ENG
variable {l : Launch} {D : va_G} {cA : Nat → ClassId} {A : Nat → Prop} {ad : Ad} {y : MethodName} {cc : ByteArray} {nL : Nat} {ret : Option FieldType} {R : Room} {Post : Pst} {cells slots : Nat} {lv : Lw} {V : Vw} {sz pc : Nat} {L : List (Option AV)} {st : List AV}
theorem CT.of {av : List AV} (hy : plainName y.cls = true) (hn : av.length ≤ nL) (h : AW l D cA A ad y cc nL ret R Post 0 0 lv V sz 0 (av.map some ++ List.replicate (nL - av.length) none) []) : CT l D cA A ad y cc nL ret R av lv V sz Post := by
  refine Met.ofW (cc := cc) (maxL := nL) (ret := ret) hy rfl ?_
  intro p e s m args below meth c s₁ B hml hv
  obtain ⟨rfl, hK, hH, hA⟩ := hv
  have hts := atoms_spec (ws := Cond.code y cc nL ret :: TB) B.pre
  have hl := lv_entry (av.map (rl ad)) (n := nL) (by rw [lg_sl_len]; exact hn)
  rw [lg_entry_eq]
  generalize (lg_sl (av.map (rl ad)) ++ List.replicate (nL - (lg_sl (av.map (rl ad))).length) Slot.unset).toArray = ls at hl ⊢
  refine h p e s m _ below meth c s.heap [] ls ⟨B.exec, B.bytes, hml, B.returns, B.notSynchronized, findClass_of_methodNamed B.named, fun w hw => hts w (List.mem_cons_of_mem _ hw), hK, (name_of_methodNamed B.named B.method).1⟩ (fun q hq => hA q (by rw [← hH.1]; exact hq)) hH va_S.rf ⟨hl.1, hl.2.1, fun i v hi => ?_⟩
  have hi2 : av[i]? = some v := by
    by_cases hlt : i < (av.map some).length
    · rw [List.getElem?_append_left hlt, List.getElem?_map] at hi
      cases ha : av[i]? with
      | none => rw [ha] at hi; cases hi
      | some u => rw [ha] at hi; simp at hi; rw [hi]
    · rw [List.getElem?_append_right (by omega)] at hi
      have := List.eq_of_mem_replicate (List.mem_of_getElem? hi)
      cases this
  have := lv_args_mem ad av 0 i v hi2
  rw [Nat.zero_add] at this
  exact hl.2.2 _ this
/-! straight rows -/
theorem aw_iconst {n : Int} (hd : decode cc pc = .ok (.iconst n, 1)) (k : AW l D cA A ad y cc nL ret R Post cells slots lv V sz (pc + 1) L (.inl n :: st)) : AW l D cA A ad y cc nL ret R Post cells slots lv V sz pc L st := by
  intro p e s m args below meth c H locs ls X hA hH hS hL
  exact lv_iconst X.1 X.2.1 hd rfl (k p e s m args below meth c H locs ls X hA hH hS hL)
theorem aw_bipush {n : Int} (hd : decode cc pc = .ok (.bipush n, 2)) (hv : (Int8.ofInt n).toInt32 = Int32.ofInt n) (k : AW l D cA A ad y cc nL ret R Post cells slots lv V sz (pc + 2) L (.inl n :: st)) : AW l D cA A ad y cc nL ret R Post cells slots lv V sz pc L st := by
  intro p e s m args below meth c H locs ls X hA hH hS hL
  exact lv_bipush X.1 X.2.1 hd hv (k p e s m args below meth c H locs ls X hA hH hS hL)
theorem aw_sipush {n : Int} (hd : decode cc pc = .ok (.sipush n, 3)) (hv : (Int16.ofInt n).toInt32 = Int32.ofInt n) (k : AW l D cA A ad y cc nL ret R Post cells slots lv V sz (pc + 3) L (.inl n :: st)) : AW l D cA A ad y cc nL ret R Post cells slots lv V sz pc L st := by
  intro p e s m args below meth c H locs ls X hA hH hS hL
  exact lv_sipush X.1 X.2.1 hd hv (k p e s m args below meth c H locs ls X hA hH hS hL)
theorem aw_ldc {idx : Nat} {v : Int32} {n : Int} (hd : decode cc pc = .ok (.ldc idx, 2)) (hc : Cond.constant y.cls idx v ∈ TB) (hv : Int32.ofInt n = v) (k : AW l D cA A ad y cc nL ret R Post cells slots lv V sz (pc + 2) L (.inl n :: st)) : AW l D cA A ad y cc nL ret R Post cells slots lv V sz pc L st := by
  intro p e s m args below meth c H locs ls X hA hH hS hL
  subst hv
  obtain ⟨hx, hb, hml, hr, hlk, hown, hts, hK, hnm⟩ := id X
  exact lv_ldc hx hb hown (hts _ hc) hd (k p e s m args below meth c H locs ls X hA hH hS hL)
theorem aw_null (hd : decode cc pc = .ok (.aconst_null, 1)) (k : AW l D cA A ad y cc nL ret R Post cells slots lv V sz (pc + 1) L (.inr none :: st)) : AW l D cA A ad y cc nL ret R Post cells slots lv V sz pc L st := by
  intro p e s m args below meth c H locs ls X hA hH hS hL
  exact lv_null X.1 X.2.1 hd (k p e s m args below meth c H locs ls X hA hH hS hL)
theorem aw_iload_n {k : Fin 4} {i : Nat} {x : Int} (hd : decode cc pc = .ok (.iload_n k, 1)) (hi : (k : Nat) = i) (hl : L[i]? = some (some (.inl x))) (kk : AW l D cA A ad y cc nL ret R Post cells slots lv V sz (pc + 1) L (.inl x :: st)) : AW l D cA A ad y cc nL ret R Post cells slots lv V sz pc L st := by
  intro p e s m args below meth c H locs ls X hA hH hS hL
  exact lv_iload_n X.1 X.2.1 hd hi (hL.2.2 _ _ hl) (kk p e s m args below meth c H locs ls X hA hH hS hL)
theorem aw_iload {i : Nat} {x : Int} (hd : decode cc pc = .ok (.iload i, 2)) (hl : L[i]? = some (some (.inl x))) (kk : AW l D cA A ad y cc nL ret R Post cells slots lv V sz (pc + 2) L (.inl x :: st)) : AW l D cA A ad y cc nL ret R Post cells slots lv V sz pc L st := by
  intro p e s m args below meth c H locs ls X hA hH hS hL
  exact lv_iload X.1 X.2.1 hd (hL.2.2 _ _ hl) (kk p e s m args below meth c H locs ls X hA hH hS hL)
theorem aw_aload_n {k : Fin 4} {i : Nat} {x : Option (Nat × Nat)} (hd : decode cc pc = .ok (.aload_n k, 1)) (hi : (k : Nat) = i) (hl : L[i]? = some (some (.inr x))) (kk : AW l D cA A ad y cc nL ret R Post cells slots lv V sz (pc + 1) L (.inr x :: st)) : AW l D cA A ad y cc nL ret R Post cells slots lv V sz pc L st := by
  intro p e s m args below meth c H locs ls X hA hH hS hL
  have h := hL.2.2 _ _ hl
  have k2 := kk p e s m args below meth c H locs ls X hA hH hS hL
  cases x with
  | none => exact lv_aload_nN X.1 X.2.1 hd hi h k2
  | some q => exact lv_aload_n X.1 X.2.1 hd hi h k2
theorem aw_aload {i : Nat} {x : Option (Nat × Nat)} (hd : decode cc pc = .ok (.aload i, 2)) (hl : L[i]? = some (some (.inr x))) (kk : AW l D cA A ad y cc nL ret R Post cells slots lv V sz (pc + 2) L (.inr x :: st)) : AW l D cA A ad y cc nL ret R Post cells slots lv V sz pc L st := by
  intro p e s m args below meth c H locs ls X hA hH hS hL
  have h := hL.2.2 _ _ hl
  have k2 := kk p e s m args below meth c H locs ls X hA hH hS hL
  cases x with
  | none => exact lv_aloadN X.1 X.2.1 hd h k2
  | some q => exact lv_aload X.1 X.2.1 hd h k2
theorem aw_istore_n {k : Fin 4} {i : Nat} {x : Int} (hd : decode cc pc = .ok (.istore_n k, 1)) (hi : (k : Nat) = i) (hn : i < nL) (kk : AW l D cA A ad y cc nL ret R Post cells slots lv V sz (pc + 1) (L.set i (some (.inl x))) st) : AW l D cA A ad y cc nL ret R Post cells slots lv V sz pc L (.inl x :: st) := by
  intro p e s m args below meth c H locs ls X hA hH hS hL
  exact lv_istore_n X.1 X.2.1 hd hi hL.has hn rfl (fun ls' h' => kk p e s m args below meth c H locs ls' X hA hH hS (LV.stored (v := .inl x) h'))
theorem aw_istore {i : Nat} {x : Int} (hd : decode cc pc = .ok (.istore i, 2)) (hn : i < nL) (kk : AW l D cA A ad y cc nL ret R Post cells slots lv V sz (pc + 2) (L.set i (some (.inl x))) st) : AW l D cA A ad y cc nL ret R Post cells slots lv V sz pc L (.inl x :: st) := by
  intro p e s m args below meth c H locs ls X hA hH hS hL
  exact lv_istore X.1 X.2.1 hd hL.has hn rfl (fun ls' h' => kk p e s m args below meth c H locs ls' X hA hH hS (LV.stored (v := .inl x) h'))
theorem aw_astore_n {k : Fin 4} {i : Nat} {x : Option (Nat × Nat)} (hd : decode cc pc = .ok (.astore_n k, 1)) (hi : (k : Nat) = i) (hn : i < nL) (kk : AW l D cA A ad y cc nL ret R Post cells slots lv V sz (pc + 1) (L.set i (some (.inr x))) st) : AW l D cA A ad y cc nL ret R Post cells slots lv V sz pc L (.inr x :: st) := by
  intro p e s m args below meth c H locs ls X hA hH hS hL
  cases x with
  | none => exact lv_astore_nN X.1 X.2.1 hd hi hL.has hn rfl (fun ls' h' => kk p e s m args below meth c H locs ls' X hA hH hS (LV.stored (v := .inr none) h'))
  | some q => exact lv_astore_n X.1 X.2.1 hd hi hL.has hn rfl (fun ls' h' => kk p e s m args below meth c H locs ls' X hA hH hS (LV.stored (v := .inr (some q)) h'))
theorem aw_astore {i : Nat} {x : Option (Nat × Nat)} (hd : decode cc pc = .ok (.astore i, 2)) (hn : i < nL) (kk : AW l D cA A ad y cc nL ret R Post cells slots lv V sz (pc + 2) (L.set i (some (.inr x))) st) : AW l D cA A ad y cc nL ret R Post cells slots lv V sz pc L (.inr x :: st) := by
  intro p e s m args below meth c H locs ls X hA hH hS hL
  cases x with
  | none => exact lv_astoreN X.1 X.2.1 hd hL.has hn rfl (fun ls' h' => kk p e s m args below meth c H locs ls' X hA hH hS (LV.stored (v := .inr none) h'))
  | some q => exact lv_astore X.1 X.2.1 hd hL.has hn rfl (fun ls' h' => kk p e s m args below meth c H locs ls' X hA hH hS (LV.stored (v := .inr (some q)) h'))
theorem aw_iinc {i : Nat} {n x : Int} (hd : decode cc pc = .ok (.iinc i n, 3)) (hl : L[i]? = some (some (.inl x))) (hn : i < nL) (kk : AW l D cA A ad y cc nL ret R Post cells slots lv V sz (pc + 3) (L.set i (some (.inl (x + n)))) st) : AW l D cA A ad y cc nL ret R Post cells slots lv V sz pc L st := by
  intro p e s m args below meth c H locs ls X hA hH hS hL
  obtain ⟨q, hq⟩ := List.getElem?_of_mem (lvL_mem (ad := ad) hl)
  exact lv_iinc (v := Int32.ofInt (x + n)) X.1 X.2.1 hd hL.has hq (Int32.ofInt_add x n).symm hn rfl (fun ls' h' => kk p e s m args below meth c H locs ls' X hA hH hS (LV.stored (v := .inl (x + n)) h'))
theorem aw_iadd {a b : Int} (hd : decode cc pc = .ok (.iadd, 1)) (k : AW l D cA A ad y cc nL ret R Post cells slots lv V sz (pc + 1) L (.inl (a + b) :: st)) : AW l D cA A ad y cc nL ret R Post cells slots lv V sz pc L (.inl b :: .inl a :: st) := by
  intro p e s m args below meth c H locs ls X hA hH hS hL
  refine lv_iadd X.1 X.2.1 hd ?_
  rw [← Int32.ofInt_add]
  exact k p e s m args below meth c H locs ls X hA hH hS hL
theorem aw_isub {a b : Int} (hd : decode cc pc = .ok (.isub, 1)) (k : AW l D cA A ad y cc nL ret R Post cells slots lv V sz (pc + 1) L (.inl (a - b) :: st)) : AW l D cA A ad y cc nL ret R Post cells slots lv V sz pc L (.inl b :: .inl a :: st) := by
  intro p e s m args below meth c H locs ls X hA hH hS hL
  refine lv_isub X.1 X.2.1 hd ?_
  rw [← Int32.ofInt_sub]
  exact k p e s m args below meth c H locs ls X hA hH hS hL
theorem aw_imul {a b : Int} (hd : decode cc pc = .ok (.imul, 1)) (k : AW l D cA A ad y cc nL ret R Post cells slots lv V sz (pc + 1) L (.inl (a * b) :: st)) : AW l D cA A ad y cc nL ret R Post cells slots lv V sz pc L (.inl b :: .inl a :: st) := by
  intro p e s m args below meth c H locs ls X hA hH hS hL
  refine lv_imul X.1 X.2.1 hd ?_
  rw [← Int32.ofInt_mul]
  exact k p e s m args below meth c H locs ls X hA hH hS hL
theorem rg_div {a b : Int} (h0 : 0 ≤ a) (ha : Rg a) (hb0 : 0 < b) (hb : Rg b) : Int32.ofInt a / Int32.ofInt b = Int32.ofInt (a / b) := by
  have e : a / b = a.tdiv b := (Int.tdiv_eq_ediv_of_nonneg h0).symm
  rw [e, Int32.ofInt_tdiv (show (-2147483648 : Int) ≤ a by omega) (show a ≤ (2147483647 : Int) by omega) (show (-2147483648 : Int) ≤ b by omega) (show b ≤ (2147483647 : Int) by omega)]
theorem aw_idiv {a b : Int} (hd : decode cc pc = .ok (.idiv, 1)) (h0 : 0 ≤ a) (ha : Rg a) (hb0 : 0 < b) (hb : Rg b) (k : AW l D cA A ad y cc nL ret R Post cells slots lv V sz (pc + 1) L (.inl (a / b) :: st)) : AW l D cA A ad y cc nL ret R Post cells slots lv V sz pc L (.inl b :: .inl a :: st) := by
  intro p e s m args below meth c H locs ls X hA hH hS hL
  refine lv_idiv X.1 X.2.1 hd (by rw [rg_0, rg_eq hb rg_z]; omega) ?_
  rw [rg_div h0 ha hb0 hb]
  exact k p e s m args below meth c H locs ls X hA hH hS hL
theorem aw_irem {a b : Int} (hd : decode cc pc = .ok (.irem, 1)) (h0 : 0 ≤ a) (ha : Rg a) (hb0 : 0 < b) (hb : Rg b) (k : AW l D cA A ad y cc nL ret R Post cells slots lv V sz (pc + 1) L (.inl (a % b) :: st)) : AW l D cA A ad y cc nL ret R Post cells slots lv V sz pc L (.inl b :: .inl a :: st) := by
  intro p e s m args below meth c H locs ls X hA hH hS hL
  refine lv_irem X.1 X.2.1 hd (by rw [rg_0, rg_eq hb rg_z]; omega) ?_
  rw [rg_div h0 ha hb0 hb, ← Int32.ofInt_mul, ← Int32.ofInt_sub, show a - a / b * b = a % b by rw [Int.emod_def, Int.mul_comm]]
  exact k p e s m args below meth c H locs ls X hA hH hS hL
theorem aw_dup {a : AV} (hd : decode cc pc = .ok (.dup, 1)) (k : AW l D cA A ad y cc nL ret R Post cells slots lv V sz (pc + 1) L (a :: a :: st)) : AW l D cA A ad y cc nL ret R Post cells slots lv V sz pc L (a :: st) := by
  intro p e s m args below meth c H locs ls X hA hH hS hL
  exact lv_dup X.1 X.2.1 hd (rl_cat ad a) (k p e s m args below meth c H locs ls X hA hH hS hL)
theorem aw_dup2 {a b : AV} (hd : decode cc pc = .ok (.dup2, 1)) (k : AW l D cA A ad y cc nL ret R Post cells slots lv V sz (pc + 1) L (a :: b :: a :: b :: st)) : AW l D cA A ad y cc nL ret R Post cells slots lv V sz pc L (a :: b :: st) := by
  intro p e s m args below meth c H locs ls X hA hH hS hL
  exact lv_dup2_11 X.1 X.2.1 hd (rl_cat ad a) (rl_cat ad b) (k p e s m args below meth c H locs ls X hA hH hS hL)
theorem aw_goto {off : Int} {tgt : Nat} (hd : decode cc pc = .ok (.goto off, 3)) (ht : (pc : Int) + off = (tgt : Int)) (k : AW l D cA A ad y cc nL ret R Post cells slots lv V sz tgt L st) : AW l D cA A ad y cc nL ret R Post cells slots lv V sz pc L st := by
  intro p e s m args below meth c H locs ls X hA hH hS hL
  exact lv_goto X.1 X.2.1 hd ht (k p e s m args below meth c H locs ls X hA hH hS hL)
theorem aw_icmp_eq {a b : Int} {off : Int} {tgt : Nat} (hd : decode cc pc = .ok (.if_icmp .eq off, 3)) (ht : (pc : Int) + off = (tgt : Int)) (ha : Rg a) (hb : Rg b) (kt : a = b → AW l D cA A ad y cc nL ret R Post cells slots lv V sz tgt L st) (kf : a ≠ b → AW l D cA A ad y cc nL ret R Post cells slots lv V sz (pc + 3) L st) : AW l D cA A ad y cc nL ret R Post cells slots lv V sz pc L (.inl b :: .inl a :: st) := by
  intro p e s m args below meth c H locs ls X hA hH hS hL
  exact lv_icmp_eq X.1 X.2.1 hd ht (fun h => (kt ((rg_eq ha hb).mp h) p e s m args below meth c H locs ls X hA hH hS hL)) (fun h => (kf (fun q => h ((rg_eq ha hb).mpr q)) p e s m args below meth c H locs ls X hA hH hS hL))
theorem aw_if_eq {a : Int} {off : Int} {tgt : Nat} (hd : decode cc pc = .ok (.ifCond .eq off, 3)) (ht : (pc : Int) + off = (tgt : Int)) (ha : Rg a) (kt : a = 0 → AW l D cA A ad y cc nL ret R Post cells slots lv V sz tgt L st) (kf : a ≠ 0 → AW l D cA A ad y cc nL ret R Post cells slots lv V sz (pc + 3) L st) : AW l D cA A ad y cc nL ret R Post cells slots lv V sz pc L (.inl a :: st) := by
  intro p e s m args below meth c H locs ls X hA hH hS hL
  have hb : Rg 0 := rg_z
  exact lv_if_eq X.1 X.2.1 hd ht (fun h => by rw [rg_0] at h; exact (kt ((rg_eq ha hb).mp h) p e s m args below meth c H locs ls X hA hH hS hL)) (fun h => by rw [rg_0] at h; exact (kf (fun q => h ((rg_eq ha hb).mpr q)) p e s m args below meth c H locs ls X hA hH hS hL))
theorem aw_icmp_ne {a b : Int} {off : Int} {tgt : Nat} (hd : decode cc pc = .ok (.if_icmp .ne off, 3)) (ht : (pc : Int) + off = (tgt : Int)) (ha : Rg a) (hb : Rg b) (kt : a ≠ b → AW l D cA A ad y cc nL ret R Post cells slots lv V sz tgt L st) (kf : a = b → AW l D cA A ad y cc nL ret R Post cells slots lv V sz (pc + 3) L st) : AW l D cA A ad y cc nL ret R Post cells slots lv V sz pc L (.inl b :: .inl a :: st) := by
  intro p e s m args below meth c H locs ls X hA hH hS hL
  exact lv_icmp_ne X.1 X.2.1 hd ht (fun h => (kt (fun q => h ((rg_eq ha hb).mpr q)) p e s m args below meth c H locs ls X hA hH hS hL)) (fun h => (kf ((rg_eq ha hb).mp h) p e s m args below meth c H locs ls X hA hH hS hL))
theorem aw_if_ne {a : Int} {off : Int} {tgt : Nat} (hd : decode cc pc = .ok (.ifCond .ne off, 3)) (ht : (pc : Int) + off = (tgt : Int)) (ha : Rg a) (kt : a ≠ 0 → AW l D cA A ad y cc nL ret R Post cells slots lv V sz tgt L st) (kf : a = 0 → AW l D cA A ad y cc nL ret R Post cells slots lv V sz (pc + 3) L st) : AW l D cA A ad y cc nL ret R Post cells slots lv V sz pc L (.inl a :: st) := by
  intro p e s m args below meth c H locs ls X hA hH hS hL
  have hb : Rg 0 := rg_z
  exact lv_if_ne X.1 X.2.1 hd ht (fun h => by rw [rg_0] at h; exact (kt (fun q => h ((rg_eq ha hb).mpr q)) p e s m args below meth c H locs ls X hA hH hS hL)) (fun h => by rw [rg_0] at h; exact (kf ((rg_eq ha hb).mp h) p e s m args below meth c H locs ls X hA hH hS hL))
theorem aw_icmp_lt {a b : Int} {off : Int} {tgt : Nat} (hd : decode cc pc = .ok (.if_icmp .lt off, 3)) (ht : (pc : Int) + off = (tgt : Int)) (ha : Rg a) (hb : Rg b) (kt : a < b → AW l D cA A ad y cc nL ret R Post cells slots lv V sz tgt L st) (kf : b ≤ a → AW l D cA A ad y cc nL ret R Post cells slots lv V sz (pc + 3) L st) : AW l D cA A ad y cc nL ret R Post cells slots lv V sz pc L (.inl b :: .inl a :: st) := by
  intro p e s m args below meth c H locs ls X hA hH hS hL
  exact lv_icmp_lt X.1 X.2.1 hd ht (fun h => (kt ((rg_lt ha hb).mp h) p e s m args below meth c H locs ls X hA hH hS hL)) (fun h => (kf (Int.not_lt.mp (fun q => h ((rg_lt ha hb).mpr q))) p e s m args below meth c H locs ls X hA hH hS hL))
theorem aw_if_lt {a : Int} {off : Int} {tgt : Nat} (hd : decode cc pc = .ok (.ifCond .lt off, 3)) (ht : (pc : Int) + off = (tgt : Int)) (ha : Rg a) (kt : a < 0 → AW l D cA A ad y cc nL ret R Post cells slots lv V sz tgt L st) (kf : 0 ≤ a → AW l D cA A ad y cc nL ret R Post cells slots lv V sz (pc + 3) L st) : AW l D cA A ad y cc nL ret R Post cells slots lv V sz pc L (.inl a :: st) := by
  intro p e s m args below meth c H locs ls X hA hH hS hL
  have hb : Rg 0 := rg_z
  exact lv_if_lt X.1 X.2.1 hd ht (fun h => by rw [rg_0] at h; exact (kt ((rg_lt ha hb).mp h) p e s m args below meth c H locs ls X hA hH hS hL)) (fun h => by rw [rg_0] at h; exact (kf (Int.not_lt.mp (fun q => h ((rg_lt ha hb).mpr q))) p e s m args below meth c H locs ls X hA hH hS hL))
theorem aw_icmp_ge {a b : Int} {off : Int} {tgt : Nat} (hd : decode cc pc = .ok (.if_icmp .ge off, 3)) (ht : (pc : Int) + off = (tgt : Int)) (ha : Rg a) (hb : Rg b) (kt : b ≤ a → AW l D cA A ad y cc nL ret R Post cells slots lv V sz tgt L st) (kf : a < b → AW l D cA A ad y cc nL ret R Post cells slots lv V sz (pc + 3) L st) : AW l D cA A ad y cc nL ret R Post cells slots lv V sz pc L (.inl b :: .inl a :: st) := by
  intro p e s m args below meth c H locs ls X hA hH hS hL
  exact lv_icmp_ge X.1 X.2.1 hd ht (fun h => (kt ((rg_le hb ha).mp h) p e s m args below meth c H locs ls X hA hH hS hL)) (fun h => (kf (Int.not_le.mp (fun q => h ((rg_le hb ha).mpr q))) p e s m args below meth c H locs ls X hA hH hS hL))
theorem aw_if_ge {a : Int} {off : Int} {tgt : Nat} (hd : decode cc pc = .ok (.ifCond .ge off, 3)) (ht : (pc : Int) + off = (tgt : Int)) (ha : Rg a) (kt : 0 ≤ a → AW l D cA A ad y cc nL ret R Post cells slots lv V sz tgt L st) (kf : a < 0 → AW l D cA A ad y cc nL ret R Post cells slots lv V sz (pc + 3) L st) : AW l D cA A ad y cc nL ret R Post cells slots lv V sz pc L (.inl a :: st) := by
  intro p e s m args below meth c H locs ls X hA hH hS hL
  have hb : Rg 0 := rg_z
  exact lv_if_ge X.1 X.2.1 hd ht (fun h => by rw [rg_0] at h; exact (kt ((rg_le hb ha).mp h) p e s m args below meth c H locs ls X hA hH hS hL)) (fun h => by rw [rg_0] at h; exact (kf (Int.not_le.mp (fun q => h ((rg_le hb ha).mpr q))) p e s m args below meth c H locs ls X hA hH hS hL))
theorem aw_icmp_gt {a b : Int} {off : Int} {tgt : Nat} (hd : decode cc pc = .ok (.if_icmp .gt off, 3)) (ht : (pc : Int) + off = (tgt : Int)) (ha : Rg a) (hb : Rg b) (kt : b < a → AW l D cA A ad y cc nL ret R Post cells slots lv V sz tgt L st) (kf : a ≤ b → AW l D cA A ad y cc nL ret R Post cells slots lv V sz (pc + 3) L st) : AW l D cA A ad y cc nL ret R Post cells slots lv V sz pc L (.inl b :: .inl a :: st) := by
  intro p e s m args below meth c H locs ls X hA hH hS hL
  exact lv_icmp_gt X.1 X.2.1 hd ht (fun h => (kt ((rg_lt hb ha).mp h) p e s m args below meth c H locs ls X hA hH hS hL)) (fun h => (kf (Int.not_lt.mp (fun q => h ((rg_lt hb ha).mpr q))) p e s m args below meth c H locs ls X hA hH hS hL))
theorem aw_if_gt {a : Int} {off : Int} {tgt : Nat} (hd : decode cc pc = .ok (.ifCond .gt off, 3)) (ht : (pc : Int) + off = (tgt : Int)) (ha : Rg a) (kt : 0 < a → AW l D cA A ad y cc nL ret R Post cells slots lv V sz tgt L st) (kf : a ≤ 0 → AW l D cA A ad y cc nL ret R Post cells slots lv V sz (pc + 3) L st) : AW l D cA A ad y cc nL ret R Post cells slots lv V sz pc L (.inl a :: st) := by
  intro p e s m args below meth c H locs ls X hA hH hS hL
  have hb : Rg 0 := rg_z
  exact lv_if_gt X.1 X.2.1 hd ht (fun h => by rw [rg_0] at h; exact (kt ((rg_lt hb ha).mp h) p e s m args below meth c H locs ls X hA hH hS hL)) (fun h => by rw [rg_0] at h; exact (kf (Int.not_lt.mp (fun q => h ((rg_lt hb ha).mpr q))) p e s m args below meth c H locs ls X hA hH hS hL))
theorem aw_icmp_le {a b : Int} {off : Int} {tgt : Nat} (hd : decode cc pc = .ok (.if_icmp .le off, 3)) (ht : (pc : Int) + off = (tgt : Int)) (ha : Rg a) (hb : Rg b) (kt : a ≤ b → AW l D cA A ad y cc nL ret R Post cells slots lv V sz tgt L st) (kf : b < a → AW l D cA A ad y cc nL ret R Post cells slots lv V sz (pc + 3) L st) : AW l D cA A ad y cc nL ret R Post cells slots lv V sz pc L (.inl b :: .inl a :: st) := by
  intro p e s m args below meth c H locs ls X hA hH hS hL
  exact lv_icmp_le X.1 X.2.1 hd ht (fun h => (kt ((rg_le ha hb).mp h) p e s m args below meth c H locs ls X hA hH hS hL)) (fun h => (kf (Int.not_le.mp (fun q => h ((rg_le ha hb).mpr q))) p e s m args below meth c H locs ls X hA hH hS hL))
theorem aw_if_le {a : Int} {off : Int} {tgt : Nat} (hd : decode cc pc = .ok (.ifCond .le off, 3)) (ht : (pc : Int) + off = (tgt : Int)) (ha : Rg a) (kt : a ≤ 0 → AW l D cA A ad y cc nL ret R Post cells slots lv V sz tgt L st) (kf : 0 < a → AW l D cA A ad y cc nL ret R Post cells slots lv V sz (pc + 3) L st) : AW l D cA A ad y cc nL ret R Post cells slots lv V sz pc L (.inl a :: st) := by
  intro p e s m args below meth c H locs ls X hA hH hS hL
  have hb : Rg 0 := rg_z
  exact lv_if_le X.1 X.2.1 hd ht (fun h => by rw [rg_0] at h; exact (kt ((rg_le ha hb).mp h) p e s m args below meth c H locs ls X hA hH hS hL)) (fun h => by rw [rg_0] at h; exact (kf (Int.not_le.mp (fun q => h ((rg_le ha hb).mpr q))) p e s m args below meth c H locs ls X hA hH hS hL))
end ENG
