section ENG3
variable {l : Launch} {D : va_G} {cA : Nat → ClassId} {A : Nat → Prop} {ad : Ad} {y : MethodName} {cc : ByteArray} {nL : Nat} {ret : Option FieldType} {R : Room} {Post : Pst} {cells slots : Nat} {lv : Lw} {V : Vw} {sz pc : Nat} {L : List (Option AV)} {st : List AV}
/-! null tests, switches -/
theorem aw_ifnull_N {off : Int} {tgt : Nat} (hd : decode cc pc = .ok (.ifnull off, 3)) (ht : (pc : Int) + off = (tgt : Int)) (k : AW l D cA A ad y cc nL ret R Post cells slots lv V sz tgt L st) : AW l D cA A ad y cc nL ret R Post cells slots lv V sz pc L (.inr none :: st) := by
  intro p e s m args below meth c H locs ls X hA hH hS hL
  exact lv_ifnullN X.1 X.2.1 hd ht (k p e s m args below meth c H locs ls X hA hH hS hL)
theorem aw_ifnull_S {off : Int} {q : Nat × Nat} (hd : decode cc pc = .ok (.ifnull off, 3)) (k : AW l D cA A ad y cc nL ret R Post cells slots lv V sz (pc + 3) L st) : AW l D cA A ad y cc nL ret R Post cells slots lv V sz pc L (.inr (some q) :: st) := by
  intro p e s m args below meth c H locs ls X hA hH hS hL
  exact lv_ifnull X.1 X.2.1 hd (k p e s m args below meth c H locs ls X hA hH hS hL)
theorem aw_ifnonnull_N {off : Int} (hd : decode cc pc = .ok (.ifnonnull off, 3)) (k : AW l D cA A ad y cc nL ret R Post cells slots lv V sz (pc + 3) L st) : AW l D cA A ad y cc nL ret R Post cells slots lv V sz pc L (.inr none :: st) := by
  intro p e s m args below meth c H locs ls X hA hH hS hL
  exact lv_ifnonnullN X.1 X.2.1 hd (k p e s m args below meth c H locs ls X hA hH hS hL)
theorem aw_ifnonnull_S {off : Int} {tgt : Nat} {q : Nat × Nat} (hd : decode cc pc = .ok (.ifnonnull off, 3)) (ht : (pc : Int) + off = (tgt : Int)) (k : AW l D cA A ad y cc nL ret R Post cells slots lv V sz tgt L st) : AW l D cA A ad y cc nL ret R Post cells slots lv V sz pc L (.inr (some q) :: st) := by
  intro p e s m args below meth c H locs ls X hA hH hS hL
  exact lv_ifnonnull X.1 X.2.1 hd ht (k p e s m args below meth c H locs ls X hA hH hS hL)
theorem aw_tableIn {dflt lo hi : Int} {offs : Array Int} {len : Nat} {x : Int} {off : Int} {tgt : Nat} (hd : decode cc pc = .ok (.tableswitch dflt lo hi offs, len)) (hx : Rg x) (h1 : lo ≤ x) (h2 : x ≤ hi) (ho : offs[(x - lo).toNat]? = some off) (ht : (pc : Int) + off = (tgt : Int)) (k : AW l D cA A ad y cc nL ret R Post cells slots lv V sz tgt L st) : AW l D cA A ad y cc nL ret R Post cells slots lv V sz pc L (.inl x :: st) := by
  intro p e s m args below meth c H locs ls X hA hH hS hL
  exact lv_tableIn X.1 X.2.1 hd (by rw [rg_toInt hx]; omega) (by rw [rg_toInt hx]; omega) (by rw [rg_toInt hx]; exact ho) ht (k p e s m args below meth c H locs ls X hA hH hS hL)
theorem aw_tableOut {dflt lo hi : Int} {offs : Array Int} {len : Nat} {x : Int} {tgt : Nat} (hd : decode cc pc = .ok (.tableswitch dflt lo hi offs, len)) (hx : Rg x) (h : x < lo ∨ hi < x) (ht : (pc : Int) + dflt = (tgt : Int)) (k : AW l D cA A ad y cc nL ret R Post cells slots lv V sz tgt L st) : AW l D cA A ad y cc nL ret R Post cells slots lv V sz pc L (.inl x :: st) := by
  intro p e s m args below meth c H locs ls X hA hH hS hL
  exact lv_tableOut X.1 X.2.1 hd (by rw [rg_toInt hx]; exact h) ht (k p e s m args below meth c H locs ls X hA hH hS hL)
/-! ends -/
theorem QC.intro {H : Heap} {s t : State} {args : Array Value} {locs : List Loc} {r : Option AV} (hH : HP D cA A ad lv V sz H) (hS : va_S A s.heap H locs) (ht : t.heap = H) (hp : Post r lv V sz) : QC D cA A ad Post args s (.returned (r.map (rl ad))) t := ⟨⟨r, lv, V, sz, rfl, hp, by rw [ht]; exact hH⟩, hS.F ht⟩
theorem aw_iret {x : Int} (hd : decode cc pc = .ok (.ireturn, 1)) (hr : ret = some .int) (hc : cells ≤ R.cells) (hs : slots ≤ R.slots) (hp : Post (some (.inl x)) lv V sz) : AW l D cA A ad y cc nL ret R Post cells slots lv V sz pc L [.inl x] := by
  intro p e s m args below meth c H locs ls X hA hH hS hL
  refine W.widen hc hs ?_
  exact W.iret X.1 X.2.1 (X.2.2.2.1.trans hr) (fun t ht _ => QC.intro (r := some (.inl x)) hH hS ht hp) hS.2.2 hd X.2.2.2.2.1
theorem aw_zret {x : Int} (hd : decode cc pc = .ok (.ireturn, 1)) (hr : ret = some .boolean) (hx : x = 0 ∨ x = 1) (hc : cells ≤ R.cells) (hs : slots ≤ R.slots) (hp : Post (some (.inl x)) lv V sz) : AW l D cA A ad y cc nL ret R Post cells slots lv V sz pc L [.inl x] := by
  intro p e s m args below meth c H locs ls X hA hH hS hL
  refine W.widen hc hs ?_
  exact W.zret X.1 X.2.1 (X.2.2.2.1.trans hr) (by rcases hx with rfl | rfl <;> first | exact nb0.1 | exact nb1.1) (fun t ht _ => QC.intro (r := some (.inl x)) hH hS ht hp) hS.2.2 hd X.2.2.2.2.1
theorem aw_vret (hd : decode cc pc = .ok (.return_, 1)) (hr : ret = none) (hc : cells ≤ R.cells) (hs : slots ≤ R.slots) (hp : Post none lv V sz) : AW l D cA A ad y cc nL ret R Post cells slots lv V sz pc L [] := by
  intro p e s m args below meth c H locs ls X hA hH hS hL
  refine W.widen hc hs ?_
  exact W.vret X.1 X.2.1 (X.2.2.2.1.trans hr) (fun t ht _ => QC.intro (r := none) hH hS ht hp) hS.2.2 hd X.2.2.2.2.1
theorem aw_aret {x : Option (Nat × Nat)} {nm : String} (hd : decode cc pc = .ok (.areturn, 1)) (hr : ret = some (.object nm)) (hc : cells ≤ R.cells) (hs : slots ≤ R.slots) (hp : Post (some (.inr x)) lv V sz) : AW l D cA A ad y cc nL ret R Post cells slots lv V sz pc L [.inr x] := by
  intro p e s m args below meth c H locs ls X hA hH hS hL
  refine W.widen hc hs ?_
  exact W.aret X.1 X.2.1 (X.2.2.2.1.trans hr) (Or.inl ⟨nm, rfl⟩) (by cases x with | none => exact Or.inl rfl | some q => exact Or.inr ⟨_, rfl⟩) (fun t ht _ => QC.intro (r := some (.inr x)) hH hS ht hp) hS.2.2 hd X.2.2.2.2.1
/-! new cells -/
def dfl : FieldType → AV
  | .object _ => .inr none
  | .array _ => .inr none
  | _ => .inl 0
theorem dfl_ok (ad : Ad) {ty : FieldType} (h : ty ≠ .long ∧ ty ≠ .float ∧ ty ≠ .double) : defaultValue ty = rl ad (dfl ty) := by
  cases ty <;> first | rfl | (simp at h; done) | (show Value.int 0 = Value.int (Int32.ofInt 0); rw [← rg_0])
theorem cl_plain {ci : Nat} (h : ci < 7) : ∀ k, k < Nc ci → (tyT ci k) ≠ .long ∧ (tyT ci k) ≠ .float ∧ (tyT ci k) ≠ .double := lt7 (P := fun ci => ∀ k, k < Nc ci → (tyT ci k) ≠ .long ∧ (tyT ci k) ≠ .float ∧ (tyT ci k) ≠ .double) (by decide +kernel) (by decide +kernel) (by decide +kernel) (by decide +kernel) (by decide +kernel) (by decide +kernel) (by decide +kernel) ci h
theorem va_S.push {H0 H H1 : Heap} {locs : List Loc} {n : Nat} (hS : va_S A H0 H locs) (hz : H.size = n) (z : H1.size = n + 1) (o : ∀ q, q < n → H1[q]? = H[q]?) : va_S A H0 H1 locs := ⟨Nat.le_trans hS.1 (by omega), fun q h1 h2 => (o q (by have := hS.1; omega)).trans (hS.2.1 q h1 h2), hS.2.2⟩
theorem aw_new {idx ci σ i : Nat} (hd : decode cc pc = .ok (.new idx, 3)) (hcl : Cond.classLink y.cls idx (RR ci) ∈ TB) (hci : Cond.instantiable (RR ci) (Nc ci) ∈ TB) (hin : Cond.initialized (RR ci) ∈ TB) (hc : ci < 7) (hk : Kd σ i = .inl ci) (had : ad σ i = sz) (hcells : cells + 1 ≤ R.cells) (hslots : slots + Nc ci ≤ R.slots) (kk : AW l D cA A ad y cc nL ret R Post (cells + 1) (slots + Nc ci) (l2 lv σ i) (sC V σ i (fun k => dfl (tyT ci k))) (sz + 1) (pc + 3) L (.inr (some (σ, i)) :: st)) : AW l D cA A ad y cc nL ret R Post cells slots lv V sz pc L st := by
  intro p e s m args below meth c H locs ls X hA hH hS hL
  obtain ⟨hx, hb, hml, hr, hlk, hown, hts, hK, hnm⟩ := id X
  have hKn := hK.1.1 ci _ (cl_at hc)
  refine W.newcK hx hb hown (hts _ hcl) (hts _ hci) (hts _ hin) rfl hd hcells hslots hKn.2.1 hH.1 fun H1 kC hkC e1 z1 o1 => ?_
  have hAs : A sz := hA sz (by have := hS.1; rw [hH.1] at this; exact this)
  have hob := (u_born (tyT ci) hts (cl_uw hc) hKn hkC e1 (cl_ty hc)).to (V' := fun k => rl ad (dfl (tyT ci k))) (fun k hk => dfl_ok ad (cl_plain hc k hk))
  have k2 := kk p e s m args below meth c H1 locs ls X hA (hH.push had hAs z1 o1 (by rw [hk]; exact hob)) (hS.push hH.1 z1 o1) hL
  simp only [List.map_cons, rl, had] at k2
  exact k2
theorem aw_newa {σ i t : Nat} {at_ : ArrayType} {x : Int} (hd : decode cc pc = .ok (.newarray at_, 2)) (hty : newarray.typeOf at_ = aty t) (hac : Cond.arrayClass (aty t) ∈ TB) (ht : t < 2) (hk : Kd σ i = .inr t) (hx : x = (Ln σ i : Nat)) (had : ad σ i = sz) (hcells : cells + 1 ≤ R.cells) (hslots : slots + Ln σ i ≤ R.slots) (kk : AW l D cA A ad y cc nL ret R Post (cells + 1) (slots + Ln σ i) (l2 lv σ i) (sC V σ i (fun _ => .inl 0)) (sz + 1) (pc + 2) L (.inr (some (σ, i)) :: st)) : AW l D cA A ad y cc nL ret R Post cells slots lv V sz pc L (.inl x :: st) := by
  intro p e s m args below meth c H locs ls X hA hH hS hL
  obtain ⟨hx', hb, hml, hr, hlk, hown, hts, hK, hnm⟩ := id X
  subst hx
  have hle := Ln_le σ i
  have hrg : Rg ((Ln σ i : Nat) : Int) := ⟨by omega, by omega⟩
  have hAs : A sz := hA sz (by have := hS.1; rw [hH.1] at this; exact this)
  refine va_newaK (N := Ln σ i) hx' hb (by rw [hty]; exact hts _ hac) rfl hd rfl (by rw [rg_0, rg_lt hrg rg_z]; omega) (by rw [rg_clamp hrg]; rfl) ?_ hcells hslots hH.1 fun H1 cB e1 z1 o1 hAr hNm => ?_
  · rw [hty]
    have : componentBytes (aty t) ≤ 4 := by
      match t, ht with
      | 0, _ => decide
      | 1, _ => decide
    have := Nat.mul_le_mul hle this
    omega
  · have hcB : cB = cA t := by
      have h1 := (hK.1.2 t _ (tyA_at cA (show t < 5 by omega))).2
      have h2 : s.vm.findClass ("[" ++ (aty t).toString) = some (cA t) := by
        match t, ht, h1 with
        | 0, _, h1 => exact h1
        | 1, _, h1 => exact h1
      rw [hty] at hNm
      exact Option.some.inj (hNm.symm.trans h2)
    subst hcB
    have hdv : defaultValue (newarray.typeOf at_) = rl ad (.inl 0) := by
      rw [hty]
      match t, ht with
      | 0, _ => exact dfl_ok ad (ty := .int) (by decide)
      | 1, _ => exact dfl_ok ad (ty := .boolean) (by decide)
    rw [hdv] at e1
    have k2 := kk p e s m args below meth c H1 locs ls X hA (hH.push had hAs z1 o1 (by rw [hk]; exact e1)) (hS.push hH.1 z1 o1) hL
    simp only [List.map_cons, rl, had] at k2
    exact k2
theorem aw_anewa {σ i t idx : Nat} {x : Int} (hd : decode cc pc = .ok (.anewarray idx, 3)) (hcl : Cond.classLink y.cls idx (RR (eCl t)) ∈ TB) (ht : t < 5) (h2 : 2 ≤ t) (hk : Kd σ i = .inr t) (hx : x = (Ln σ i : Nat)) (had : ad σ i = sz) (hcells : cells + 1 ≤ R.cells) (hslots : slots + Ln σ i ≤ R.slots) (kk : AW l D cA A ad y cc nL ret R Post (cells + 1) (slots + Ln σ i) (l2 lv σ i) (sC V σ i (fun _ => .inr none)) (sz + 1) (pc + 3) L (.inr (some (σ, i)) :: st)) : AW l D cA A ad y cc nL ret R Post cells slots lv V sz pc L (.inl x :: st) := by
  intro p e s m args below meth c H locs ls X hA hH hS hL
  obtain ⟨hx', hb, hml, hr, hlk, hown, hts, hK, hnm⟩ := id X
  subst hx
  have hle := Ln_le σ i
  have hrg : Rg ((Ln σ i : Nat) : Int) := ⟨by omega, by omega⟩
  have hAs : A sz := hA sz (by have := hS.1; rw [hH.1] at this; exact this)
  have hover : va_AO (RR (eCl t)) s := by
    match t, ht, h2 with
    | 2, _, _ => exact hK.2.2.1
    | 3, _, _ => exact hK.2.2.2.1
    | 4, _, _ => exact hK.2.2.2.2
  have hat : aty t = .object (RR (eCl t)) := by
    match t, ht, h2 with
    | 2, _, _ => rfl
    | 3, _, _ => rfl
    | 4, _, _ => rfl
  have hra := (hK.1.2 t _ (tyA_at cA ht)).2
  rw [hat] at hra
  obtain ⟨kA', comp', k1, k2', k3, k4⟩ := hra
  have hcl1 : (Int32.ofInt ((Ln σ i : Nat) : Int)).toNatClampNeg = Ln σ i := by rw [rg_clamp hrg]; rfl
  refine W.anew hx' hb hown (hts _ hcl) (va_AO.use hover) rfl hd rfl (by rw [rg_0, rg_lt hrg rg_z]; omega) (by rw [hcl1]; omega) hcells (by rw [hcl1]; exact hslots) fun cB kA comp f1 f2 f3 f4 => ?_
  have hcB : cB = cA t := Option.some.inj (f1.symm.trans k4)
  subst hcB
  rw [hcl1]
  generalize hH1 : H.push ({ cls := cA t, slots := Array.replicate (Ln σ i) .null, vm := .none } : Cell) = H1
  have z1 : H1.size = sz + 1 := by rw [← hH1, Array.size_push, hH.1]
  have e1 : H1[sz]? = some (arrV (cA t) (Ln σ i) (fun _ => .null)) := by rw [← hH1, ← hH.1, Array.getElem?_push_size, ← arrV_new]
  have o1 : ∀ q : Nat, q < sz → H1[q]? = H[q]? := fun q hq => by rw [← hH1, Array.getElem?_push, if_neg (by rw [hH.1]; exact Nat.ne_of_lt hq)]
  have k2 := kk p e s m args below meth c H1 locs ls X hA (hH.push had hAs z1 o1 (by rw [hk]; exact e1)) (hS.push hH.1 z1 o1) hL
  simp only [List.map_cons, rl, had] at k2
  rw [hH.1]
  exact k2
/-! calls of the library -/
theorem st_sum (ad : Ad) (st : List AV) : ((st.map (rl ad)).map fun v => v.category).sum = st.length := by
  induction st with
  | nil => rfl
  | cons a st ih => simp only [List.map_cons, List.sum_cons, List.length_cons, rl_cat] at ih ⊢; omega
theorem aw_objInit {idx σ i : Nat} (hd : decode cc pc = .ok (.invokespecial idx, 3)) (hl : Cond.methodLink y.cls idx Lib.objectInit ∈ TB) (hf : 1 ≤ R.frames) (hlo : st.length + 12 ≤ R.locals) (kk : AW l D cA A ad y cc nL ret R Post cells slots lv V sz (pc + 3) L st) : AW l D cA A ad y cc nL ret R Post cells slots lv V sz pc L (.inr (some (σ, i)) :: st) := by
  intro p e s m args below meth c H locs ls X hA hH hS hL
  obtain ⟨hx, hb, hml, hr, hlk, hown, hts, hK, hnm⟩ := id X
  refine W.objInit hx hb hown (hts _ hl) (hts _ mi_obj) (hts _ mc_obj) rfl (by rw [hml]; exact hL.1) rfl hd hf ?_ (kk p e s m args below meth c H locs ls X hA hH hS hL)
  show 2 * 0 + _ + 12 ≤ _
  rw [st_sum]
  omega
theorem aw_mmax {idx : Nat} {a b : Int} (hd : decode cc pc = .ok (.invokestatic idx, 3)) (hl : Cond.methodLink y.cls idx Lib.Math.max.name ∈ TB) (hf : 1 ≤ R.frames) (hlo : st.length + 13 ≤ R.locals) (hc : cells ≤ R.cells) (hs : slots ≤ R.slots) (ha : Rg a) (hb' : Rg b) (kk : AW l D cA A ad y cc nL ret R Post cells slots lv V sz (pc + 3) L (.inl (if a < b then b else a) :: st)) : AW l D cA A ad y cc nL ret R Post cells slots lv V sz pc L (.inl b :: .inl a :: st) := by
  intro p e s m args below meth c H locs ls X hA hH hS hL
  obtain ⟨hx, hb, hml, hr, hlk, hown, hts, hK, hnm⟩ := id X
  refine va_mmax hx hb (by rw [hml, hL.1]) hown (hts _ hl) (hts _ mt_math_max) (hts _ in_math) (hts _ mc_math_max) hf (by rw [st_sum]; exact hlo) hc hs hd ?_
  have k2 := kk p e s m args below meth c H locs ls X hA hH hS hL
  by_cases hab : a < b
  · rw [if_pos ((rg_lt ha hb').mpr hab)]
    rw [if_pos hab] at k2
    exact k2
  · rw [if_neg (fun q => hab ((rg_lt ha hb').mp q))]
    rw [if_neg hab] at k2
    exact k2
theorem aw_mmin {idx : Nat} {a b : Int} (hd : decode cc pc = .ok (.invokestatic idx, 3)) (hl : Cond.methodLink y.cls idx Lib.Math.min.name ∈ TB) (hf : 1 ≤ R.frames) (hlo : st.length + 13 ≤ R.locals) (hc : cells ≤ R.cells) (hs : slots ≤ R.slots) (ha : Rg a) (hb' : Rg b) (kk : AW l D cA A ad y cc nL ret R Post cells slots lv V sz (pc + 3) L (.inl (if b < a then b else a) :: st)) : AW l D cA A ad y cc nL ret R Post cells slots lv V sz pc L (.inl b :: .inl a :: st) := by
  intro p e s m args below meth c H locs ls X hA hH hS hL
  obtain ⟨hx, hb, hml, hr, hlk, hown, hts, hK, hnm⟩ := id X
  refine va_mmin hx hb (by rw [hml, hL.1]) hown (hts _ hl) (hts _ mt_math_min) (hts _ in_math) (hts _ mc_math_min) hf (by rw [st_sum]; exact hlo) hc hs hd ?_
  have k2 := kk p e s m args below meth c H locs ls X hA hH hS hL
  by_cases hab : b < a
  · rw [if_pos ((rg_lt hb' ha).mpr hab)]
    rw [if_pos hab] at k2
    exact k2
  · rw [if_neg (fun q => hab ((rg_lt hb' ha).mp q))]
    rw [if_neg hab] at k2
    exact k2
/-! calls of own methods by their contracts -/
/-- what a call needs of the tables, of the method called -/
def MO (y' : MethodName) (cc' : ByteArray) (nL' : Nat) (ret' : Option FieldType) (n : Nat) : Prop := Cond.code y' cc' nL' ret' ∈ TB ∧ Cond.initialized y'.cls ∈ TB ∧ y'.cls ≠ "java/lang/invoke/MethodHandle" ∧ y'.cls ≠ "java/lang/invoke/VarHandle" ∧ (parseMethodDescriptor y'.desc).map (fun d => d.parameters.length) = some n
def MV (y' : MethodName) (cc' : ByteArray) (nL' : Nat) (ret' : Option FieldType) (n ci : Nat) : Prop := MO y' cc' nL' ret' n ∧ Cond.instanceMethod y' ∈ TB ∧ Cond.selects y'.cls y' y' ∈ TB ∧ y'.cls = RR ci ∧ ci < 7
def MS (y' : MethodName) (cc' : ByteArray) (nL' : Nat) (ret' : Option FieldType) (n : Nat) : Prop := MO y' cc' nL' ret' n ∧ Cond.static y' ∈ TB
def MI (y' : MethodName) (cc' : ByteArray) (nL' : Nat) (n : Nat) : Prop := MO y' cc' nL' none n ∧ Cond.instanceMethod y' ∈ TB ∧ y'.name = "<init>"
abbrev Fits (R' R : Room) (nL' cells slots : Nat) : Prop := (R'.frames + 1 ≤ R.frames ∧ 8 + (nL' + 11) + R'.locals ≤ R.locals) ∧ cells + R'.cells ≤ R.cells ∧ slots + R'.slots ≤ R.slots
theorem TB_cons {w : Cond} (h : w ∈ TB) : GoodIn TB (w :: TB) := fun v hv => by
  rcases List.mem_cons.mp hv with rfl | hv
  · exact TB_good _ h
  · exact TB_good _ hv
theorem blind {av : List AV} {lv' : Lw} {V' : Vw} {sz' : Nat} : FrameBlind (fun v U => v = (av.map (rl ad)).toArray ∧ KK D cA U ∧ HP D cA A ad lv' V' sz' U.heap ∧ ∀ q, sz' ≤ q → A q) := fun a U g mk h => ⟨h.1, KK.same (s := U) (U := U.calling g mk a) rfl h.2.1, h.2.2.1, h.2.2.2⟩
theorem aw_ran {p : Program} {e : Env} {s : State} {m : MethodId} {args : Array Value} {below : List Frame} {meth : Method} {c : Code} {H : Heap} {locs : List Loc} {ls : Array Slot} {mc ms : Nat} {st0 rest : List Value} {a : Array Value} {Post' : Pst} (X : CX y cc nL ret D cA p s m args meth c) (hA : ∀ q, s.heap.size ≤ q → A q) (hS : va_S A s.heap H locs) (hL : LV ad nL L ls)
    (hr : va_Run p l e R s m args below meth c H locs cells slots mc ms (F0 m pc ls st0) rest (QC D cA A ad Post' a) A) (hrest : rest = st.map (rl ad)) (kk : ∀ (r : Option AV) (lv' : Lw) (V' : Vw) (sz' : Nat), Post' r lv' V' sz' → AW l D cA A ad y cc nL ret R Post (cells + mc) (slots + ms) lv' V' sz' (pc + 3) L (r.toList ++ st)) : W p l e R s m args below meth c H locs cells slots (MQ below (QC D cA A ad Post) args s R.cells R.slots A) (F0 m pc ls st0) := by
  intro T hT XX
  obtain ⟨v, st₀, t, T', L', h0, X', hL', e1, e2, ⟨⟨r, lv', V', sz', hv, hp, hH'⟩, hz, hk⟩, stp⟩ := hr T hT XX
  have hv' : v = r.map (rl ad) := by cases hv; rfl
  subst hv'
  rw [h0] at hz hk
  have hS' : va_S A s.heap T'.heap (locs ++ L') := ⟨Nat.le_trans hS.1 (by rw [e1]; exact hz), fun q h1 h2 => by rw [e1, hk q (Nat.lt_of_lt_of_le h1 hS.1) h2]; exact hS.2.1 q h1 h2, fun q hq => by
      rcases List.mem_append.mp hq with h | h
      · exact hS.2.2 q h
      · exact hL' q h⟩
  have k2 := kk r lv' V' sz' hp p e s m args below meth c T'.heap (locs ++ L') ls X hA (by rw [e1]; exact hH') hS' hL
  obtain ⟨t2, a1, b1⟩ := k2 T' rfl X'
  refine ⟨t2, stp t2 ?_, b1⟩
  have es : (r.map (rl ad)).toList ++ rest = (r.toList ++ st).map (rl ad) := by
    subst hrest
    cases r <;> rfl
  show Steps p.tables e below (T'.setTop (F0 m (pc + 3) ls ((r.map (rl ad)).toList ++ rest))) t2
  rw [es]
  exact a1
theorem lv_room' {m : MethodId} {ls : Array Slot} {g0 : List Value} (h : st.length ≤ 8) : 2 * (F0 m pc ls g0).monitorRoom + ((st.map (rl ad)).map fun v => v.category).sum ≤ 8 := lv_room (by rw [st_sum]; exact h)
theorem aw_callV {idx n ci σ i nL' : Nat} {y' : MethodName} {cc' : ByteArray} {ret' : Option FieldType} {R' : Room} {av stk : List AV} {Post' : Pst} (hM : CT l D cA A ad y' cc' nL' ret' R' (.inr (some (σ, i)) :: av) lv V sz Post') (hm : MV y' cc' nL' ret' n ci) (hl : Cond.methodLink y.cls idx y' ∈ TB) (hd : decode cc pc = .ok (.invokevirtual idx, 3)) (hk : Kd σ i = .inl ci) (hlv : lv σ i = true) (hF : Fits R' R nL' cells slots) (hn : av.length = n) (hst : st.length ≤ 8) (hstk : stk = av.reverse ++ .inr (some (σ, i)) :: st) (kk : ∀ (r : Option AV) (lv' : Lw) (V' : Vw) (sz' : Nat), Post' r lv' V' sz' → AW l D cA A ad y cc nL ret R Post (cells + R'.cells) (slots + R'.slots) lv' V' sz' (pc + 3) L (r.toList ++ st)) : AW l D cA A ad y cc nL ret R Post cells slots lv V sz pc L stk := by
  intro p e s m args below meth c H locs ls X hA hH hS hL
  obtain ⟨hx, hb, hml, hr, hlk, hown, hts, hK, hnm⟩ := id X
  obtain ⟨⟨m1, m2, m3, m4, m5⟩, m6, m7, m8, m9⟩ := hm
  obtain ⟨cell, q1, q2, q3, q4⟩ := hH.obj hk hlv
  subst hstk
  refine aw_ran (a := ((.inr (some (σ, i)) :: av).map (rl ad)).toArray) X hA hS hL (va_runV (C := y'.cls) (As := av.map (rl ad)) (b := ad σ i) (rest := st.map (rl ad)) ⟨hx, hb, hml, hown, hts⟩ hM ⟨callB_of n hts (TB_cons m1) rfl rfl rfl (hts _ m2) (hts _ hl) ⟨m3, m4, m5⟩ hF.1, hts _ m6, hts _ m7⟩ ⟨blind, ⟨cell, q1, by rw [q3]; rfl, ?_⟩, fun U hU hW => ⟨rfl, hK.warm hW, by rw [hU]; exact hH, fun q hq => hA q (by have := hS.1; rw [hH.1] at this; omega)⟩⟩ rfl (by rw [List.length_map]; exact hn) hL.1 ?_ (lv_room' hst) hd hF.2) rfl kk
  · rw [m8, q2]
    exact (hK.1.1 ci _ (cl_at m9)).2.1
  · show List.map (rl ad) (av.reverse ++ .inr (some (σ, i)) :: st) = _
    rw [List.map_append, List.map_reverse]
    rfl
theorem aw_callS {idx n nL' : Nat} {y' : MethodName} {cc' : ByteArray} {ret' : Option FieldType} {R' : Room} {av stk : List AV} {Post' : Pst} (hM : CT l D cA A ad y' cc' nL' ret' R' av lv V sz Post') (hm : MS y' cc' nL' ret' n) (hl : Cond.methodLink y.cls idx y' ∈ TB) (hd : decode cc pc = .ok (.invokestatic idx, 3)) (hF : Fits R' R nL' cells slots) (hn : av.length = n) (hst : st.length ≤ 8) (hstk : stk = av.reverse ++ st) (kk : ∀ (r : Option AV) (lv' : Lw) (V' : Vw) (sz' : Nat), Post' r lv' V' sz' → AW l D cA A ad y cc nL ret R Post (cells + R'.cells) (slots + R'.slots) lv' V' sz' (pc + 3) L (r.toList ++ st)) : AW l D cA A ad y cc nL ret R Post cells slots lv V sz pc L stk := by
  intro p e s m args below meth c H locs ls X hA hH hS hL
  obtain ⟨hx, hb, hml, hr, hlk, hown, hts, hK, hnm⟩ := id X
  obtain ⟨⟨m1, m2, m3, m4, m5⟩, m6⟩ := hm
  subst hstk
  refine aw_ran (a := (av.map (rl ad)).toArray) X hA hS hL (va_runS (As := av.map (rl ad)) (rest := st.map (rl ad)) ⟨hx, hb, hml, hown, hts⟩ hM ⟨callB_of n hts (TB_cons m1) rfl rfl rfl (hts _ m2) (hts _ hl) ⟨m3, m4, m5⟩ hF.1, hts _ m6⟩ ⟨blind, fun U hU hW => ⟨rfl, hK.warm hW, by rw [hU]; exact hH, fun q hq => hA q (by have := hS.1; rw [hH.1] at this; omega)⟩⟩ rfl (by rw [List.length_map]; exact hn) hL.1 ?_ (lv_room' hst) hd hF.2) rfl kk
  show List.map (rl ad) (av.reverse ++ st) = _
  rw [List.map_append, List.map_reverse]
theorem aw_callI {idx n σ i nL' : Nat} {y' : MethodName} {cc' : ByteArray} {R' : Room} {av stk : List AV} {Post' : Pst} (hM : CT l D cA A ad y' cc' nL' none R' (.inr (some (σ, i)) :: av) lv V sz Post') (hm : MI y' cc' nL' n) (hl : Cond.methodLink y.cls idx y' ∈ TB) (hd : decode cc pc = .ok (.invokespecial idx, 3)) (hF : Fits R' R nL' cells slots) (hn : av.length = n) (hst : st.length ≤ 8) (hstk : stk = av.reverse ++ .inr (some (σ, i)) :: st) (kk : ∀ (r : Option AV) (lv' : Lw) (V' : Vw) (sz' : Nat), Post' r lv' V' sz' → AW l D cA A ad y cc nL ret R Post (cells + R'.cells) (slots + R'.slots) lv' V' sz' (pc + 3) L (r.toList ++ st)) : AW l D cA A ad y cc nL ret R Post cells slots lv V sz pc L stk := by
  intro p e s m args below meth c H locs ls X hA hH hS hL
  obtain ⟨hx, hb, hml, hr, hlk, hown, hts, hK, hnm⟩ := id X
  obtain ⟨⟨m1, m2, m3, m4, m5⟩, m6, m7⟩ := hm
  subst hstk
  refine aw_ran (a := ((.inr (some (σ, i)) :: av).map (rl ad)).toArray) X hA hS hL (va_runI (As := av.map (rl ad)) (b := ad σ i) (rest := st.map (rl ad)) ⟨hx, hb, hml, hown, hts⟩ hM ⟨callB_of n hts (TB_cons m1) rfl rfl rfl (hts _ m2) (hts _ hl) ⟨m3, m4, m5⟩ hF.1, m7, hts _ m6⟩ ⟨blind, fun U hU hW => ⟨rfl, hK.warm hW, by rw [hU]; exact hH, fun q hq => hA q (by have := hS.1; rw [hH.1] at this; omega)⟩⟩ rfl (by rw [List.length_map]; exact hn) hL.1 ?_ (lv_room' hst) hd hF.2) rfl kk
  show List.map (rl ad) (av.reverse ++ .inr (some (σ, i)) :: st) = _
  rw [List.map_append, List.map_reverse]
  rfl
theorem aw_callIN {idx n σ i nL' : Nat} {y' : MethodName} {host : String} {cc' : ByteArray} {R' : Room} {av stk : List AV} {Post' : Pst} (hM : CT l D cA A ad y' cc' nL' none R' (.inr (some (σ, i)) :: av) lv V sz Post') (hm : MI y' cc' nL' n) (hl : Cond.methodLinkNest y.cls idx y' host ∈ NW) (hd : decode cc pc = .ok (.invokespecial idx, 3)) (hF : Fits R' R nL' cells slots) (hn : av.length = n) (hst : st.length ≤ 8) (hstk : stk = av.reverse ++ .inr (some (σ, i)) :: st) (kk : ∀ (r : Option AV) (lv' : Lw) (V' : Vw) (sz' : Nat), Post' r lv' V' sz' → AW l D cA A ad y cc nL ret R Post (cells + R'.cells) (slots + R'.slots) lv' V' sz' (pc + 3) L (r.toList ++ st)) : AW l D cA A ad y cc nL ret R Post cells slots lv V sz pc L stk := by
  intro p e s m args below meth c H locs ls X hA hH hS hL
  obtain ⟨hx, hb, hml, hr, hlk, hown, hts, hK, hnm⟩ := id X
  obtain ⟨⟨m1, m2, m3, m4, m5⟩, m6, m7⟩ := hm
  subst hstk
  refine aw_ran (a := ((.inr (some (σ, i)) :: av).map (rl ad)).toArray) X hA hS hL (va_runIN (As := av.map (rl ad)) (b := ad σ i) (rest := st.map (rl ad)) ⟨hx, hb, hml, hown, hts⟩ hM ⟨va_cnB n hts (TB_cons m1) rfl rfl rfl (hK.2.1 _ hl) (hts _ m2) ⟨m3, m4, m5⟩ hF.1, m7, hts _ m6⟩ ⟨blind, fun U hU hW => ⟨rfl, hK.warm hW, by rw [hU]; exact hH, fun q hq => hA q (by have := hS.1; rw [hH.1] at this; omega)⟩⟩ rfl (by rw [List.length_map]; exact hn) hL.1 ?_ (lv_room' hst) hd hF.2) rfl kk
  show List.map (rl ad) (av.reverse ++ .inr (some (σ, i)) :: st) = _
  rw [List.map_append, List.map_reverse]
  rfl
end ENG3
