/-! ===== the law's loop, its start, its end ===== -/
section LAW4
variable {p : Program} {l : Launch} {e : Env} {s : State} {m : MethodId} {below : List Frame} {meth : Method} {c : Code} {b L : Nat} {xs : Nat → Int32} {D : va_G} {cA : Nat → ClassId} {H : Heap} {locs : List Loc} {ls : Array Slot} {cells slots pc : Nat} {rest : List Value} {Q : State → Prop} {a1 a2 : Nat}
set_option maxRecDepth 100000 in
set_option maxHeartbeats 4000000 in
theorem law_head {i : Nat} (hL : L ≤ 3584) (C0 : lw_At p s m meth c b L xs) (hS : va_S (Bs s) s.heap H locs) (hl : lv_has ls 4 (lw_ls b a1 a2 i)) (hi : i ≤ 3584) (kk : i + 7 ≤ L → W p l e room_1 s m #[Value.ref b] below meth c H locs (200 + 10 * i) (5000 + 100 * i) (lw_Z below #[Value.ref b] s) (F0 m 27 ls [])) : W p l e room_1 s m #[Value.ref b] below meth c H locs (200 + 10 * i) (5000 + 100 * i) (lw_Z below #[Value.ref b] s) (F0 m 18 ls []) := by
  obtain ⟨hx, hb, hr, hml, hown, hts0, hX, hbl, hlk, hgv⟩ := C0
  have hbA : ¬ Bs s b := Nat.not_le.mpr hbl
  refine lv_iload_n hx hb dL_law_18 rfl (lv_at hl 1 rfl) ?_
  refine lv_aload_n hx hb dL_law_19 rfl (lv_at hl 0 rfl) ?_
  refine va_slen hx hb hX hbl hbA hS dL_law_20 ?_
  refine lv_bipush (v := Int32.ofInt 7) hx hb dL_law_21 (by decide) ?_
  refine lv_isub hx hb dL_law_23 ?_
  rw [← Int32.ofInt_eq_ofNat, ← Int32.ofInt_sub]
  refine lv_icmp_gt (tgt := 672) hx hb dL_law_24 (by decide) (fun h => ?_) (fun h => ?_)
  · refine lv_iconst (v := 1) hx hb dL_law_672 (by decide) ?_
    refine va_forget (fun q hq => hS.2.2 q hq) ?_
    refine W.widen (k := 600000) (n := 7302250) (by omega) (by omega) ?_
    exact lw_ret hx hb hr hlk dL_law_673
  · rw [rg_lt ⟨by omega, by omega⟩ ⟨by omega, by omega⟩] at h
    exact kk (by omega)
set_option maxRecDepth 100000 in
set_option maxHeartbeats 4000000 in
theorem law_loop (hL : L ≤ 3584) (C0 : lw_At p s m meth c b L xs) (hK : KK D cA s) : ∀ (n i : Nat) (S : SS) (H : Heap) (locs : List Loc) (ls : Array Slot), L ≤ i + n → i ≤ 3584 → Inv S → WL D cA s.heap.size a1 a2 S S H → va_S (Bs s) s.heap H locs → lv_has ls 4 (lw_ls b a1 a2 i) → W p l e room_1 s m #[Value.ref b] below meth c H locs (200 + 10 * i) (5000 + 100 * i) (lw_Z below #[Value.ref b] s) (F0 m 18 ls []) := by
  obtain ⟨hx, hb, hr, hml, hown, hts0, hX, hbl, hlk, hgv⟩ := id C0
  have hbA : ¬ Bs s b := Nat.not_le.mpr hbl
  intro n
  induction n with
  | zero => exact fun i S H locs ls h1 h2 hI hW hS hl => law_head hL C0 hS hl h2 (fun h => absurd h (by omega))
  | succ n ih =>
    intro i S H locs ls h1 h2 hI hW hS hl
    refine law_head hL C0 hS hl h2 (fun h7 => ?_)
    have nxt : ∀ (S' : SS) (H' : Heap) (locs' : List Loc), Inv S' → WL D cA s.heap.size a1 a2 S' S' H' → va_S (Bs s) s.heap H' locs' → W p l e room_1 s m #[Value.ref b] below meth c H' locs' (200 + 10 * i + 10) (5000 + 100 * i + 100) (lw_Z below #[Value.ref b] s) (F0 m 666 ls []) := by
      intro S' H' locs' hI' hW' hS'
      refine lv_iinc (v := Int32.ofInt ((i + 7 : Nat) : Int)) (lv' := [(3, .int (Int32.ofInt ((i + 7 : Nat) : Int))), (0, .ref b), (1, .ref a1), (2, .ref a2)]) hx hb dL_law_666 hl (k := 1) rfl ?_ (by decide) rfl (fun ls' hl' => ?_)
      · rw [← Int32.ofInt_add]
        rfl
      refine lv_goto (tgt := 18) hx hb dL_law_669 (by decide) ?_
      refine W.widen (k := 200 + 10 * (i + 7)) (n := 5000 + 100 * (i + 7)) (by omega) (by omega) ?_
      exact ih (i + 7) S' H' locs' ls' (by omega) (by omega) hI' hW' hS' (lv_sub hl' [1, 0, 2, 3] rfl)
    refine lv_aload_n hx hb dL_law_27 rfl (lv_at hl 0 rfl) ?_
    refine lv_iload_n hx hb dL_law_28 rfl (lv_at hl 1 rfl) ?_
    have hin : vp_in (Int32.ofInt (i : Int)) L := rg_in (by omega) (by omega) (by omega)
    refine va_sld hx hb hX hbl hbA hS hin dL_law_29 ?_
    refine lv_bipush (v := 15) hx hb dL_law_30 (by decide) ?_
    refine lv_iand hx hb dL_law_32 ?_
    generalize (xs (Int32.ofInt (i : Int)).toNatClampNeg &&& 15) = v
    by_cases hv : v.toInt < 0 ∨ 13 < v.toInt
    · refine lv_tableOut (tgt := 666) hx hb dL_law_33 hv (by decide) ?_
      exact W.widen (by omega) (by omega) (nxt S H locs hI hW hS)
    · have hc : v.toInt = 0 ∨ v.toInt = 1 ∨ v.toInt = 2 ∨ v.toInt = 3 ∨ v.toInt = 4 ∨ v.toInt = 5 ∨ v.toInt = 6 ∨ v.toInt = 7 ∨ v.toInt = 8 ∨ v.toInt = 9 ∨ v.toInt = 10 ∨ v.toInt = 11 ∨ v.toInt = 12 ∨ v.toInt = 13 := by omega
      have hv1 : ¬ v.toInt < 0 := by omega
      have hv2 : ¬ 13 < v.toInt := by omega
      rcases hc with h | h | h | h | h | h | h | h | h | h | h | h | h | h
      · exact lv_tableIn (off := 71) (tgt := 104) hx hb dL_law_33 hv1 hv2 (by rw [h]; rfl) (by decide) (lw_case0 C0 hK hI hW hS hl (by omega) hL nxt)
      · exact lv_tableIn (off := 140) (tgt := 173) hx hb dL_law_33 hv1 hv2 (by rw [h]; rfl) (by decide) (lw_case1 C0 hK hI hW hS hl (by omega) hL nxt)
      · exact lv_tableIn (off := 173) (tgt := 206) hx hb dL_law_33 hv1 hv2 (by rw [h]; rfl) (by decide) (lw_case2 C0 hK hI hW hS hl (by omega) hL nxt)
      · exact lv_tableIn (off := 206) (tgt := 239) hx hb dL_law_33 hv1 hv2 (by rw [h]; rfl) (by decide) (lw_case3 C0 hK hI hW hS hl (by omega) hL nxt)
      · exact lv_tableIn (off := 239) (tgt := 272) hx hb dL_law_33 hv1 hv2 (by rw [h]; rfl) (by decide) (lw_case4 C0 hK hI hW hS hl (by omega) hL nxt)
      · exact lv_tableIn (off := 346) (tgt := 379) hx hb dL_law_33 hv1 hv2 (by rw [h]; rfl) (by decide) (lw_case5 C0 hK hI hW hS hl (by omega) hL nxt)
      · exact lv_tableIn (off := 379) (tgt := 412) hx hb dL_law_33 hv1 hv2 (by rw [h]; rfl) (by decide) (lw_case6 C0 hK hI hW hS hl (by omega) hL nxt)
      · exact lv_tableIn (off := 412) (tgt := 445) hx hb dL_law_33 hv1 hv2 (by rw [h]; rfl) (by decide) (lw_case7 C0 hK hI hW hS hl (by omega) hL nxt)
      · exact lv_tableIn (off := 445) (tgt := 478) hx hb dL_law_33 hv1 hv2 (by rw [h]; rfl) (by decide) (lw_case8 C0 hK hI hW hS hl (by omega) hL nxt)
      · exact lv_tableIn (off := 468) (tgt := 501) hx hb dL_law_33 hv1 hv2 (by rw [h]; rfl) (by decide) (lw_case9 C0 hK hI hW hS hl (by omega) hL nxt)
      · exact lv_tableIn (off := 501) (tgt := 534) hx hb dL_law_33 hv1 hv2 (by rw [h]; rfl) (by decide) (lw_case10 C0 hK hI hW hS hl (by omega) hL nxt)
      · exact lv_tableIn (off := 534) (tgt := 567) hx hb dL_law_33 hv1 hv2 (by rw [h]; rfl) (by decide) (lw_case11 C0 hK hI hW hS hl (by omega) hL nxt)
      · exact lv_tableIn (off := 567) (tgt := 600) hx hb dL_law_33 hv1 hv2 (by rw [h]; rfl) (by decide) (lw_case12 C0 hK hI hW hS hl (by omega) hL nxt)
      · exact lv_tableIn (off := 610) (tgt := 643) hx hb dL_law_33 hv1 hv2 (by rw [h]; rfl) (by decide) (lw_case13 C0 hK hI hW hS hl (by omega) hL nxt)
/-- a new object, alone in a world of its own -/
theorem lw_new {A : Nat → Prop} {ad : Ad} {V : Vw} {idx ci σ i : Nat} (C0 : lw_At p s m meth c b L xs) (hK : KK D cA s) (hS : va_S (Bs s) s.heap H locs) (hd : decode code pc = .ok (.new idx, 3)) (hcl : Cond.classLink RL idx (RR ci) ∈ TB) (hci : Cond.instantiable (RR ci) (Nc ci) ∈ TB) (hin : Cond.initialized (RR ci) ∈ TB) (hc : ci < 7) (hk : Kd σ i = .inl ci) (had : ad σ i = H.size) (hA : A H.size) (hcells : cells + 1 ≤ room_1.cells) (hslots : slots + Nc ci ≤ room_1.slots)
    (kk : ∀ H1 : Heap, H1.size = H.size + 1 → (∀ q, q < H.size → H1[q]? = H[q]?) → HP D cA A ad (l2 (fun _ _ => false) σ i) (sC V σ i (fun k => dfl (tyT ci k))) H1.size H1 → va_S (Bs s) s.heap H1 locs → W p l e room_1 s m #[Value.ref b] below meth c H1 locs (cells + 1) (slots + Nc ci) Q (F0 m (pc + 3) ls (.ref H.size :: rest))) :
    W p l e room_1 s m #[Value.ref b] below meth c H locs cells slots Q (F0 m pc ls rest) := by
  obtain ⟨hx, hb, hr, hml, hown, hts0, hX, hbl, hlk, hgv⟩ := C0
  have hts : ∀ w ∈ TB, w.before #[Value.ref b] s = true := fun w hw => hts0 w (TB_sub hw)
  have hKn := hK.1.1 ci _ (cl_at hc)
  refine W.newcK (own := RL) hx hb hown (hts _ hcl) (hts _ hci) (hts _ hin) rfl hd hcells hslots hKn.2.1 rfl fun H1 kC hkC e1 z1 o1 => ?_
  have hob := (u_born (tyT ci) hts (cl_uw hc) hKn hkC e1 (cl_ty hc)).to (V' := fun k => rl ad (dfl (tyT ci k))) (fun k hk => dfl_ok ad (cl_plain hc k hk))
  have h0 : HP D cA A ad (fun _ _ => false) V H.size H := ⟨rfl, fun _ _ h => Bool.noConfusion h, fun _ _ _ _ h => Bool.noConfusion h⟩
  have h1 := h0.push had hA z1 o1 (by rw [hk]; exact hob)
  rw [← z1] at h1
  exact kk H1 z1 o1 h1 (hS.push rfl z1 o1)
theorem arr_K {args : Array Value} {t : FieldType} (h : (Cond.arrayClass t).before args s = true) (ht : t = .int ∨ t = .boolean) : ∃ cB : ClassId, ArrOfT s cB t ∧ va_RA s cB t := by
  obtain ⟨cB, kB, comp, h1, h2, h3⟩ := Cond.arrayClass_spec h
  refine ⟨cB, fun N z => ⟨(fun k h => by cases h), kB, h2, comp, h3⟩, ?_⟩
  rcases ht with rfl | rfl <;> exact h1
theorem arr_R {args : Array Value} {C : String} (h : (Cond.arrayOver (.object C)).before args s = true) : ∃ cB : ClassId, ArrOfT s cB (.object C) ∧ va_RA s cB (.object C) := by
  obtain ⟨comp, cB, kB, h1, h2, h3, h4, h5⟩ := Cond.arrayOver_spec h
  exact ⟨cB, fun N z => ⟨(fun k h => by cases h), kB, h3, comp, h4⟩, kB, comp, h3, h4, h1, h5⟩
theorem law_KK (C0 : lw_At p s m meth c b L xs) : ∃ (D : va_G) (cA : Nat → ClassId), KK D cA s := by
  obtain ⟨hx, hb, hr, hml, hown, hts0, hX, hbl, hlk, hgv⟩ := C0
  have hts : ∀ w ∈ TB, w.before #[Value.ref b] s = true := fun w hw => hts0 w (TB_sub hw)
  obtain ⟨c0, i0, k0⟩ := u_known (C := RX0) (T := TX0) (N := 4) (n := 4) hts uw_X0 (hts _ ci_X0)
  obtain ⟨c1, i1, k1⟩ := u_known (C := RX1) (T := TX1) (N := 2) (n := 2) hts uw_X1 (hts _ ci_X1)
  obtain ⟨c2, i2, k2⟩ := u_known (C := RX2) (T := TX2) (N := 2) (n := 2) hts uw_X2 (hts _ ci_X2)
  obtain ⟨c3, i3, k3⟩ := u_known (C := RX3) (T := TX3) (N := 6) (n := 6) hts uw_X3 (hts _ ci_X3)
  obtain ⟨c4, i4, k4⟩ := u_known (C := RX4) (T := TX4) (N := 16) (n := 16) hts uw_X4 (hts _ ci_X4)
  obtain ⟨c5, i5, k5⟩ := u_known (C := RX5) (T := TX5) (N := 11) (n := 11) hts uw_X5 (hts _ ci_X5)
  obtain ⟨c6, i6, k6⟩ := u_known (C := RX6) (T := TX6) (N := 36) (n := 36) hts uw_X6 (hts _ ci_X6)
  obtain ⟨d0, e0⟩ := arr_K (hts _ ac_int) (Or.inl rfl)
  obtain ⟨d1, e1⟩ := arr_K (hts _ ac_boolean) (Or.inr rfl)
  obtain ⟨d2, e2⟩ := arr_R (hts0 _ ao_X4)
  obtain ⟨d3, e3⟩ := arr_R (hts0 _ ao_X3)
  obtain ⟨d4, e4⟩ := arr_R (hts0 _ ao_X0)
  refine ⟨(fun k => match k with | 0 => c0 | 1 => c1 | 2 => c2 | 3 => c3 | 4 => c4 | 5 => c5 | _ => c6, fun k => match k with | 0 => i0 | 1 => i1 | 2 => i2 | 3 => i3 | 4 => i4 | 5 => i5 | _ => i6), fun k => match k with | 0 => d0 | 1 => d1 | 2 => d2 | 3 => d3 | _ => d4, ⟨fun k q hq => ?_, fun k q hq => ?_⟩, fun w hw => ?_, va_AO.of (hts0 _ ao_X4), va_AO.of (hts0 _ ao_X3), va_AO.of (hts0 _ ao_X0)⟩
  · match k, hq with
    | 0, hq => cases hq; exact k0
    | 1, hq => cases hq; exact k1
    | 2, hq => cases hq; exact k2
    | 3, hq => cases hq; exact k3
    | 4, hq => cases hq; exact k4
    | 5, hq => cases hq; exact k5
    | 6, hq => cases hq; exact k6
    | k + 7, hq => simp [vwCl] at hq
  · match k, hq with
    | 0, hq => cases hq; exact e0
    | 1, hq => cases hq; exact e1
    | 2, hq => cases hq; exact e2
    | 3, hq => cases hq; exact e3
    | 4, hq => cases hq; exact e4
    | k + 5, hq => simp [tyA] at hq
  · exact va_Nw.of (isNest_tables (NW_nest hw)) (hts0 w (List.mem_filter.mp hw).1)
/-- where the cells of a new object of the class lie -/
def adC (h : Nat) : Ad := fun σ i => match σ with
  | 0 => h
  | 8 => h + 1
  | 9 => h + 2
  | 10 => h + 3
  | 32 => h + 4
  | 42 => h + 5
  | 11 => h + 6
  | 31 => h + 7 + 2 * i
  | 41 => h + 8 + 2 * i
  | 1 => h + 11 + 7 * i
  | 2 => h + 12 + 7 * (i / 2) + 3 * (i % 2)
  | 30 => h + 13 + 7 * (i / 2) + 3 * (i % 2)
  | 40 => h + 14 + 7 * (i / 2) + 3 * (i % 2)
  | _ => 0
def lsR : List Nat := [3, 4, 5, 6, 7, 9, 10, 11, 12, 13, 14, 15, 16, 17, 18, 19, 20, 21, 22, 23, 25, 26, 27, 28, 29, 30, 31, 32, 33, 34, 35]
def adR (h : Nat) : Ad := fun σ i => if σ = 50 then h else h + 1 + lsR.idxOf i
theorem lsR_at : ∀ i, i < 31 → lsR.idxOf (lsR.getD i 0) = i := by decide
theorem adR_at (h : Nat) (i k : Nat) (hk : lsR[i]? = some k) : adR h 51 k = h + 1 + i := by
  have hi : i < 31 := (List.getElem?_eq_some_iff.mp hk).1
  have := lsR_at i hi
  rw [List.getD_eq_getElem?_getD, hk] at this
  show h + 1 + lsR.idxOf k = _
  simp only [Option.getD_some] at this
  rw [this]
end LAW4
