/-! THE CLAIM OUT OF ONE WALK OF THE LAW'S BODY. Your part is whole_start (and what it stands on); all else here is the same for every law, but numbers. -/
def R_law : String := "ShipCutLaw"
def lw_P (b : Addr) (xs : List Int32) (args : Array Value) (s : State) : Prop := args = #[.ref b] ∧ s.IntsAt b xs ∧ xs.length ≤ 3584 ∧ (Jvm.Cond.and given_1 narrow_1).before args s = true
def lw_Q (_ : Array Value) (s : State) (o : Outcome) (t : State) : Prop := o = .returned (some (.int 1)) ∧ Framed s o t [] 600000 7302250
def lw_Z (below : List Frame) (a : Array Value) (s : State) : State → Prop := fun t => ∃ o, t.status = .running ∧ Ended t below o ∧ lw_Q a s o t
/-- the law's own end, with 1 on the stack, nothing written that was there before, its room as the claim has it -/
theorem lw_ret {p : Program} {l : Launch} {e : Env} {s : State} {m : MethodId} {below : List Frame} {meth : Method} {c : Code} {b : Nat} (hx : p.tables.exec = Jvm.exec) (hb : c.code = code) (hr : meth.sig.returnType = ret) (hlocks : meth.locks = false) {pc : Nat} {H : Heap} {ls : Array Slot} (hdg : decode code pc = .ok (.ireturn, 1)) : W p l e room_1 s m #[Value.ref b] below meth c H [] 600000 7302250 (lw_Z below #[Value.ref b] s) (F0 m pc ls [.int 1]) := by
  intro T hT X
  obtain ⟨fs, hret, hrun, hended, hW, hframe⟩ := X.leave (v := some (.int 1)) (hlocks := hlocks) (fun h => by rw [hr] at h; cases h)
  have hmeth' : T.vm.method? m = some meth := X.method'
  refine ⟨T.setFrames fs, ?_, .returned (some (.int 1)), hrun, hended, rfl, ⟨_, rfl⟩, hW, hframe⟩
  jvm_step X.here [X.here.top, hx, hb, hdg, hmeth', hr, ret, narrow_b1]
  (try refine ⟨rfl, ?_⟩); (try refine ⟨rfl, ?_⟩)
  first | (intro acts; rw [hret _ acts rfl rfl rfl]) | rw [hret _ _ rfl rfl rfl]
  exact Steps.refl _
/-- what holds at the law's entry: the machine, the code, the tables' words (any of lw_tbl by 'hts w (by decide +kernel)'), the script of L ints xs at the cell b, what the Statement gives of the start (any of its parts by flat_of_before) -/
def lw_At (p : Program) (s : State) (m : MethodId) (meth : Method) (c : Code) (b L : Nat) (xs : Nat → Int32) : Prop :=
  p.tables.exec = Jvm.exec ∧ c.code = code ∧ meth.sig.returnType = ret ∧ c.maxLocals = 4 ∧ s.vm.findClass R_law = some m.cls ∧ (∀ w ∈ lw_tbl, w.before #[Value.ref b] s = true) ∧ va_X b L xs s s.heap ∧ b < s.heap.size ∧ meth.locks = false ∧ (Jvm.Cond.and given_1 narrow_1).before #[Value.ref b] s = true
/-! ===== rows of the law ===== -/
section LAW2
variable {p : Program} {l : Launch} {e : Env} {s : State} {m : MethodId} {below : List Frame} {meth : Method} {c : Code} {b L : Nat} {xs : Nat → Int32} {D : va_G} {cA : Nat → ClassId} {H : Heap} {locs : List Loc} {cells slots pc : Nat} {ls : Array Slot} {rest : List Value} {Q : State → Prop}
abbrev Bs (s : State) : Nat → Prop := fun q => s.heap.size ≤ q
theorem lw_ran {A : Nat → Prop} {ad : Ad} {mc ms : Nat} {st0 : List Value} {a : Array Value} {Post' : Pst} (hA2 : ∀ q, A q → s.heap.size ≤ q) (hS : va_S (Bs s) s.heap H locs)
    (hr : va_Run p l e room_1 s m #[Value.ref b] below meth c H locs cells slots mc ms (F0 m pc ls st0) rest (QC D cA A ad Post' a) A)
    (kk : ∀ (r : Option AV) (lv' : Lw) (V' : Vw) (H' : Heap) (locs' : List Loc), Post' r lv' V' H'.size → HP D cA A ad lv' V' H'.size H' → H.size ≤ H'.size → (∀ q, q < H.size → ¬ A q → H'[q]? = H[q]?) → va_S (Bs s) s.heap H' locs' → W p l e room_1 s m #[Value.ref b] below meth c H' locs' (cells + mc) (slots + ms) Q (F0 m (pc + 3) ls ((r.map (rl ad)).toList ++ rest))) :
    W p l e room_1 s m #[Value.ref b] below meth c H locs cells slots Q (F0 m pc ls st0) := by
  intro T hT XX
  obtain ⟨v, st₀, t, T', L', h0, X', hL', e1, e2, ⟨⟨r, lv', V', sz', hv, hp, hH'⟩, hz, hk⟩, stp⟩ := hr T hT XX
  have hv' : v = r.map (rl ad) := by cases hv; rfl
  subst hv'
  rw [h0] at hz hk
  have hsz := hH'.1
  subst hsz
  have hS' : va_S (Bs s) s.heap t.heap (locs ++ L') := ⟨Nat.le_trans hS.1 hz, fun q h1 h2 => by rw [hk q (Nat.lt_of_lt_of_le h1 hS.1) (fun h => h2 (hA2 q h))]; exact hS.2.1 q h1 h2, fun q hq => by
      rcases List.mem_append.mp hq with h | h
      · exact hS.2.2 q h
      · exact hA2 _ (hL' q h)⟩
  obtain ⟨t2, a1, b1⟩ := kk r lv' V' t.heap (locs ++ L') hp hH' hz hk hS' T' e1 X'
  exact ⟨t2, stp t2 a1, b1⟩
theorem lw_callV {A : Nat → Prop} {ad : Ad} {lv : Lw} {V : Vw} {idx n ci σ i nL' : Nat} {y' : MethodName} {cc' : ByteArray} {ret' : Option FieldType} {R' : Room} {zs : List Int} {stk : List Value} {Post' : Pst} (C0 : lw_At p s m meth c b L xs) (hK : KK D cA s) (hH : HP D cA A ad lv V H.size H) (hA : ∀ q, H.size ≤ q → A q) (hA2 : ∀ q, A q → s.heap.size ≤ q) (hS : va_S (Bs s) s.heap H locs) (hM : CT l D cA A ad y' cc' nL' ret' R' (.inr (some (σ, i)) :: zs.map .inl) lv V H.size Post') (hm : MV y' cc' nL' ret' n ci) (hl : Cond.methodLink RL idx y' ∈ TB) (hd : decode code pc = .ok (.invokevirtual idx, 3)) (hk : Kd σ i = .inl ci) (hlv : lv σ i = true) (hF : Fits R' room_1 nL' cells slots) (hn : zs.length = n) (hls : ls.size = 4) (hst : (rest.map fun v => v.category).sum ≤ 8) (hstk : stk = (zs.reverse.map fun z => Value.int (Int32.ofInt z)) ++ .ref (ad σ i) :: rest)
    (kk : ∀ (r : Option AV) (lv' : Lw) (V' : Vw) (H' : Heap) (locs' : List Loc), Post' r lv' V' H'.size → HP D cA A ad lv' V' H'.size H' → H.size ≤ H'.size → (∀ q, q < H.size → ¬ A q → H'[q]? = H[q]?) → va_S (Bs s) s.heap H' locs' → W p l e room_1 s m #[Value.ref b] below meth c H' locs' (cells + R'.cells) (slots + R'.slots) Q (F0 m (pc + 3) ls ((r.map (rl ad)).toList ++ rest))) :
    W p l e room_1 s m #[Value.ref b] below meth c H locs cells slots Q (F0 m pc ls stk) := by
  obtain ⟨hx, hb, hr, hml, hown, hts0, hX, hbl, hlk, hgv⟩ := C0
  have hts : ∀ w ∈ TB, w.before #[Value.ref b] s = true := fun w hw => hts0 w (TB_sub hw)
  obtain ⟨⟨m1, m2, m3, m4, m5⟩, m6, m7, m8, m9⟩ := hm
  obtain ⟨cell, q1, q2, q3, q4⟩ := hH.obj hk hlv
  subst hstk
  refine lw_ran (a := (((.inr (some (σ, i)) : AV) :: zs.map .inl).map (rl ad)).toArray) hA2 hS (va_runV (C := y'.cls) (own := RL) (As := (zs.map .inl).map (rl ad)) (b := ad σ i) (rest := rest) ⟨hx, hb, hml, hown, hts⟩ hM ⟨callB_of n hts (TB_cons m1) rfl rfl rfl (hts _ m2) (hts _ hl) ⟨m3, m4, m5⟩ hF.1, hts _ m6, hts _ m7⟩ ⟨blind, ⟨cell, q1, by rw [q3]; rfl, ?_⟩, fun U hU hW => ⟨rfl, hK.warm hW, by rw [hU]; exact hH, hA⟩⟩ rfl (by rw [List.length_map, List.length_map]; exact hn) hls ?_ (lv_room hst) hd hF.2) kk
  · rw [m8, q2]
    exact (hK.1.1 ci _ (cl_at m9)).2.1
  · show (zs.reverse.map fun z => Value.int (Int32.ofInt z)) ++ .ref (ad σ i) :: rest = ((zs.map .inl).map (rl ad)).reverse ++ .ref (ad σ i) :: rest
    rw [List.map_map, ← List.map_reverse]
    rfl
theorem lw_callI {A : Nat → Prop} {ad : Ad} {lv : Lw} {V : Vw} {idx σ i nL' : Nat} {y' : MethodName} {cc' : ByteArray} {R' : Room} {Post' : Pst} (C0 : lw_At p s m meth c b L xs) (hK : KK D cA s) (hH : HP D cA A ad lv V H.size H) (hA : ∀ q, H.size ≤ q → A q) (hA2 : ∀ q, A q → s.heap.size ≤ q) (hS : va_S (Bs s) s.heap H locs) (hM : CT l D cA A ad y' cc' nL' none R' [.inr (some (σ, i))] lv V H.size Post') (hm : MI y' cc' nL' 0) (hl : Cond.methodLink RL idx y' ∈ TB) (hd : decode code pc = .ok (.invokespecial idx, 3)) (hF : Fits R' room_1 nL' cells slots) (hls : ls.size = 4) (hst : (rest.map fun v => v.category).sum ≤ 8)
    (kk : ∀ (r : Option AV) (lv' : Lw) (V' : Vw) (H' : Heap) (locs' : List Loc), Post' r lv' V' H'.size → HP D cA A ad lv' V' H'.size H' → H.size ≤ H'.size → (∀ q, q < H.size → ¬ A q → H'[q]? = H[q]?) → va_S (Bs s) s.heap H' locs' → W p l e room_1 s m #[Value.ref b] below meth c H' locs' (cells + R'.cells) (slots + R'.slots) Q (F0 m (pc + 3) ls ((r.map (rl ad)).toList ++ rest))) :
    W p l e room_1 s m #[Value.ref b] below meth c H locs cells slots Q (F0 m pc ls (.ref (ad σ i) :: rest)) := by
  obtain ⟨hx, hb, hr, hml, hown, hts0, hX, hbl, hlk, hgv⟩ := C0
  have hts : ∀ w ∈ TB, w.before #[Value.ref b] s = true := fun w hw => hts0 w (TB_sub hw)
  obtain ⟨⟨m1, m2, m3, m4, m5⟩, m6, m7⟩ := hm
  exact lw_ran (a := ([(.inr (some (σ, i)) : AV)].map (rl ad)).toArray) hA2 hS (va_runI (own := RL) (As := []) (b := ad σ i) (rest := rest) ⟨hx, hb, hml, hown, hts⟩ hM ⟨callB_of 0 hts (TB_cons m1) rfl rfl rfl (hts _ m2) (hts _ hl) ⟨m3, m4, m5⟩ hF.1, m7, hts _ m6⟩ ⟨blind, fun U hU hW => ⟨rfl, hK.warm hW, by rw [hU]; exact hH, hA⟩⟩ rfl rfl hls rfl (lv_room hst) hd hF.2) kk
/-- where new cells are wished -/
def fN (z : Nat) : Ad := fun σ _ => match σ with
  | 5 => z
  | 6 => z + 1
  | 7 => z
  | 33 => z + 1
  | 43 => z + 2
  | 34 => z + 3
  | _ => z + 4
def FA (ns nc : Int) (ad : Ad) (z : Nat) : Prop := (ad 5 ns.toNat = z ∧ ad 6 ns.toNat = z + 1) ∧ ad 7 nc.toNat = z ∧ ad 33 nc.toNat = z + 1 ∧ ad 43 nc.toNat = z + 1 + 1 ∧ ad 34 nc.toNat = z + 1 + 1 + 1 ∧ ad 44 nc.toNat = z + 1 + 1 + 1 + 1
theorem FA.of {ns nc : Int} (ad : Ad) (z : Nat) (h0 : 0 ≤ ns) (h1 : 0 ≤ nc) : FA ns nc (adN (lvC ns nc) ad (fN z)) z := by
  have a : ∀ {x : Int}, 0 ≤ x → decide ((x.toNat : Int) < x) = false := fun h => by rw [decide_eq_false_iff_not]; omega
  have t : ∀ σ j, σ ≠ 98 → lvC ns nc σ j = false → adN (lvC ns nc) ad (fN z) σ j = fN z σ j := fun σ j h1 h2 => by
    unfold adN
    rw [if_neg h1, if_neg (by rw [h2]; decide)]
  exact ⟨⟨t 5 _ (by decide) (a h0), t 6 _ (by decide) (a h0)⟩, t 7 _ (by decide) (a h1), t 33 _ (by decide) (a h1), t 43 _ (by decide) (a h1), t 34 _ (by decide) (a h1), t 44 _ (by decide) (a h1)⟩
/-- a call of the class -/
theorem lw_call1 {a1 a2 idx n nL' : Nat} {S S2 S' : SS} {r : Int} {y' : MethodName} {cc' : ByteArray} {ret' : Option FieldType} {R' : Room} {zs : List Int} {stk : List Value} (C0 : lw_At p s m meth c b L xs) (hK : KK D cA s) (hI : Inv S) (hW : WL D cA s.heap.size a1 a2 S S2 H) (hS : va_S (Bs s) s.heap H locs)
    (hM : ∀ (A : Nat → Prop) (ad : Ad) (V : Vw), RC (S 8 0) (S 24 0) S V → FA (S 8 0) (S 24 0) ad H.size → ∃ Post' : Pst, CT l D cA A ad y' cc' nL' ret' R' (.inr (some (0, 0)) :: zs.map .inl) (lvC (S 8 0) (S 24 0)) V H.size Post' ∧ ∀ r' lv' V' z, Post' r' lv' V' z → PU (some (.inl r)) S' r' lv' V' z)
    (hm : MV y' cc' nL' ret' n 5) (hl : Cond.methodLink RL idx y' ∈ TB) (hd : decode code pc = .ok (.invokevirtual idx, 3)) (hF : Fits R' room_1 nL' cells slots) (hn : zs.length = n) (hls : ls.size = 4) (hst : (rest.map fun v => v.category).sum ≤ 8) (hstk : stk = (zs.reverse.map fun z => Value.int (Int32.ofInt z)) ++ .ref a1 :: rest)
    (kk : ∀ (H' : Heap) (locs' : List Loc), WL D cA s.heap.size a1 a2 S' S2 H' → va_S (Bs s) s.heap H' locs' → W p l e room_1 s m #[Value.ref b] below meth c H' locs' (cells + R'.cells) (slots + R'.slots) Q (F0 m (pc + 3) ls (.int (Int32.ofInt r) :: rest))) :
    W p l e room_1 s m #[Value.ref b] below meth c H locs cells slots Q (F0 m pc ls stk) := by
  obtain ⟨ad1, V1, ad2, h1, h2, h3, rfl, rfl, h6⟩ := hW
  have hm0 := hI.1.m
  simp only [bsm] at hm0
  have k1 := h1.anew (fun _ => rfl) (fN H.size)
  have ea : ∀ σ i, lvC (S 8 0) (S 24 0) σ i = true → adN (lvC (S 8 0) (S 24 0)) ad1 (fN H.size) σ i = ad1 σ i := fun σ i hl => by
    have : σ ≠ 98 := fun e => by rw [e] at hl; cases hl
    unfold adN
    rw [if_neg this, if_pos hl]
  obtain ⟨Post', hCT, hPost⟩ := hM (Aof (adN (lvC (S 8 0) (S 24 0)) ad1 (fN H.size)) (lvC (S 8 0) (S 24 0)) H.size) _ _ (h2.anew (ad := ad1) hI) (FA.of ad1 H.size (by omega) (by omega))
  have hA2 : ∀ q, Aof (adN (lvC (S 8 0) (S 24 0)) ad1 (fN H.size)) (lvC (S 8 0) (S 24 0)) H.size q → s.heap.size ≤ q := by
    rintro q (⟨σ, i, hl, rfl⟩ | h)
    · rw [ea σ i hl]; exact (h1.2.1 σ i hl).1
    · exact Nat.le_trans hS.1 h
  refine lw_callV C0 hK k1.own (fun q hq => Or.inr hq) hA2 hS hCT hm hl hd rfl rfl hF hn hls hst (by rw [hstk, ea 0 0 rfl]) (fun r' lv' V' H' locs' hp hH' hz hk hS' => ?_)
  obtain ⟨rfl, rfl, p3⟩ := hPost r' lv' V' _ hp
  refine kk H' locs' ⟨_, V', ad2, hH'.base hA2, p3, h3.stay rfl (fun τ j hj => hk _ (h3.lt hj) ?_), ea 0 0 rfl, rfl, fun σ i τ j hl hj q => ?_⟩ hS'
  · rintro (⟨σ, i, hl, q⟩ | h)
    · rw [ea σ i hl] at q
      exact h6 σ i τ j hl hj q
    · have := h3.lt hj
      omega
  · have hA := (hH'.2.1 σ i hl).1
    rcases hA with ⟨σ2, i2, hl2, q2⟩ | h
    · rw [ea σ2 i2 hl2] at q2
      exact h6 σ2 i2 τ j hl2 hj (q2.trans q)
    · have := h3.lt hj
      rw [q] at h
      omega
/-- a call of the reference -/
theorem lw_call2 {a1 a2 idx n nL' : Nat} {S1 S S' : SS} {r : Int} {y' : MethodName} {cc' : ByteArray} {ret' : Option FieldType} {R' : Room} {zs : List Int} {stk : List Value} (C0 : lw_At p s m meth c b L xs) (hK : KK D cA s) (hW : WL D cA s.heap.size a1 a2 S1 S H) (hS : va_S (Bs s) s.heap H locs)
    (hM : ∀ (A : Nat → Prop) (ad : Ad), CT l D cA A ad y' cc' nL' ret' R' (.inr (some (50, 0)) :: zs.map .inl) lvR (VR S) H.size (PR (some (.inl r)) S' H.size))
    (hm : MV y' cc' nL' ret' n 6) (hl : Cond.methodLink RL idx y' ∈ TB) (hd : decode code pc = .ok (.invokevirtual idx, 3)) (hF : Fits R' room_1 nL' cells slots) (hn : zs.length = n) (hls : ls.size = 4) (hst : (rest.map fun v => v.category).sum ≤ 8) (hstk : stk = (zs.reverse.map fun z => Value.int (Int32.ofInt z)) ++ .ref a2 :: rest)
    (kk : ∀ (H' : Heap) (locs' : List Loc), WL D cA s.heap.size a1 a2 S1 S' H' → va_S (Bs s) s.heap H' locs' → W p l e room_1 s m #[Value.ref b] below meth c H' locs' (cells + R'.cells) (slots + R'.slots) Q (F0 m (pc + 3) ls (.int (Int32.ofInt r) :: rest))) :
    W p l e room_1 s m #[Value.ref b] below meth c H locs cells slots Q (F0 m pc ls stk) := by
  obtain ⟨ad1, V1, ad2, h1, h2, h3, rfl, rfl, h6⟩ := hW
  have hA2 : ∀ q, Aof ad2 lvR H.size q → s.heap.size ≤ q := by
    rintro q (⟨σ, i, hl, rfl⟩ | h)
    · exact (h3.2.1 σ i hl).1
    · exact Nat.le_trans hS.1 h
  refine lw_callV C0 hK h3.own (fun q hq => Or.inr hq) hA2 hS (hM _ _) hm hl hd rfl rfl hF hn hls hst hstk (fun r' lv' V' H' locs' hp hH' hz hk hS' => ?_)
  obtain ⟨rfl, rfl, rfl, p4⟩ := hp
  refine kk H' locs' ⟨ad1, V1, ad2, h1.stay rfl (fun τ j hj => hk _ (h1.lt hj) ?_), h2, hH'.base hA2, rfl, rfl, fun σ i τ j hl hj q => ?_⟩ hS'
  · rintro (⟨σ, i, hl, q⟩ | h)
    · exact h6 τ j σ i hj hl q.symm
    · have := h1.lt hj
      omega
  · exact h6 σ i τ j hl hj q
/-- a number of the script -/
theorem lw_ld {i k : Nat} {kn : Int} {vs : List (Nat × Value)} (C0 : lw_At p s m meth c b L xs) (hS : va_S (Bs s) s.heap H locs) (hl : lv_has ls 4 ((0, .ref b) :: (3, .int (Int32.ofInt (i : Int))) :: vs)) (hk : kn = k) (hlt : i + k < L) (hL : L ≤ 3584) (d0 : decode code pc = .ok (.aload_n 0, 1)) (d1 : decode code (pc + 1) = .ok (.iload_n 3, 1)) (d2 : decode code (pc + 2) = .ok (.iconst kn, 1)) (d3 : decode code (pc + 3) = .ok (.iadd, 1)) (d4 : decode code (pc + 4) = .ok (.iaload, 1))
    (kk : W p l e room_1 s m #[Value.ref b] below meth c H locs cells slots Q (F0 m (pc + 5) ls (.int (Int32.ofInt (xs (i + k)).toInt) :: rest))) : W p l e room_1 s m #[Value.ref b] below meth c H locs cells slots Q (F0 m pc ls rest) := by
  obtain ⟨hx, hb, hr, hml, hown, hts0, hX, hbl, hlk, hgv⟩ := C0
  have hbA : ¬ Bs s b := Nat.not_le.mpr hbl
  subst hk
  refine lv_aload_n hx hb d0 rfl (lv_at hl 0 rfl) ?_
  refine lv_iload_n hx hb d1 rfl (lv_at hl 1 rfl) ?_
  refine lv_iconst hx hb d2 rfl ?_
  refine lv_iadd hx hb d3 ?_
  rw [← Int32.ofInt_add]
  have hin : vp_in (Int32.ofInt ((i : Int) + (k : Int))) L := rg_in (by omega) (by omega) (by omega)
  refine va_sld hx hb hX hbl hbA hS hin d4 ?_
  rw [rg_clamp ⟨by omega, by omega⟩, show ((i : Int) + (k : Int)).toNat = i + k by omega]
  rw [Int32.ofInt_toInt] at kk
  exact kk
theorem lw_ld6 {i : Nat} {vs : List (Nat × Value)} (C0 : lw_At p s m meth c b L xs) (hS : va_S (Bs s) s.heap H locs) (hl : lv_has ls 4 ((0, .ref b) :: (3, .int (Int32.ofInt (i : Int))) :: vs)) (hlt : i + 6 < L) (hL : L ≤ 3584) (d0 : decode code pc = .ok (.aload_n 0, 1)) (d1 : decode code (pc + 1) = .ok (.iload_n 3, 1)) (d2 : decode code (pc + 2) = .ok (.bipush 6, 2)) (d3 : decode code (pc + 4) = .ok (.iadd, 1)) (d4 : decode code (pc + 5) = .ok (.iaload, 1))
    (kk : W p l e room_1 s m #[Value.ref b] below meth c H locs cells slots Q (F0 m (pc + 6) ls (.int (Int32.ofInt (xs (i + 6)).toInt) :: rest))) : W p l e room_1 s m #[Value.ref b] below meth c H locs cells slots Q (F0 m pc ls rest) := by
  obtain ⟨hx, hb, hr, hml, hown, hts0, hX, hbl, hlk, hgv⟩ := C0
  have hbA : ¬ Bs s b := Nat.not_le.mpr hbl
  refine lv_aload_n hx hb d0 rfl (lv_at hl 0 rfl) ?_
  refine lv_iload_n hx hb d1 rfl (lv_at hl 1 rfl) ?_
  refine lv_bipush (v := Int32.ofInt 6) hx hb d2 (by decide) ?_
  refine lv_iadd hx hb d3 ?_
  rw [← Int32.ofInt_add]
  have hin : vp_in (Int32.ofInt ((i : Int) + 6)) L := rg_in (by omega) (by omega) (by omega)
  refine va_sld hx hb hX hbl hbA hS hin d4 ?_
  rw [rg_clamp ⟨by omega, by omega⟩, show ((i : Int) + 6).toNat = i + 6 by omega]
  rw [Int32.ofInt_toInt] at kk
  exact kk
def bz (z : Int) : Int := if z = 0 then 0 else 1
theorem bz_01 (z : Int) : bz z = 0 ∨ bz z = 1 := by unfold bz; split <;> simp
theorem rg_int (x : Int32) : Rg x.toInt := ⟨Int32.le_toInt x, by have := Int32.toInt_lt x; omega⟩
theorem lw_bool {z : Int} (C0 : lw_At p s m meth c b L xs) (hz : Rg z) (d0 : decode code pc = .ok (.ifCond .eq 7, 3)) (d1 : decode code (pc + 3) = .ok (.iconst 1, 1)) (d2 : decode code (pc + 4) = .ok (.goto 4, 3)) (d3 : decode code (pc + 7) = .ok (.iconst 0, 1))
    (kk : W p l e room_1 s m #[Value.ref b] below meth c H locs cells slots Q (F0 m (pc + 8) ls (.int (Int32.ofInt (bz z)) :: rest))) : W p l e room_1 s m #[Value.ref b] below meth c H locs cells slots Q (F0 m pc ls (.int (Int32.ofInt z) :: rest)) := by
  obtain ⟨hx, hb, hr, hml, hown, hts0, hX, hbl, hlk, hgv⟩ := C0
  refine lv_if_eq (tgt := pc + 7) hx hb d0 (by omega) (fun h => ?_) (fun h => ?_)
  · rw [rg_0, rg_eq hz rg_z] at h
    unfold bz at kk
    rw [if_pos h] at kk
    exact lv_iconst hx hb d3 rfl kk
  · rw [rg_0, rg_eq hz rg_z] at h
    unfold bz at kk
    rw [if_neg h] at kk
    refine lv_iconst hx hb d1 rfl ?_
    exact lv_goto (tgt := pc + 8) hx hb d2 (by omega) kk
end LAW2
