section CLS11
variable {l : Launch} {D : va_G} {cA : Nat → ClassId} {A : Nat → Prop} {ad : Ad} {ns nc : Int} {V : Vw} {sz : Nat} {S : SS}
theorem l2_iff {lv : Lw} {σ i τ j : Nat} : l2 lv σ i τ j = true ↔ (τ = σ ∧ j = i) ∨ lv τ j = true := by
  simp only [l2]
  split
  · rename_i h; exact ⟨fun _ => Or.inl h, fun _ => rfl⟩
  · rename_i h; exact ⟨Or.inr, fun q => q.resolve_left h⟩
theorem lw_ext {a b : Lw} (h : ∀ σ i, a σ i = true ↔ b σ i = true) : a = b := by
  funext σ i
  exact Bool.eq_iff_iff.mpr (h σ i)
theorem lvC_ship {n : Nat} {nc : Int} : l2 (l2 (lvC (n : Int) nc) 5 n) 6 n = lvC ((n : Int) + 1) nc := by
  refine lw_ext fun σ i => ?_
  rw [l2_iff, l2_iff]
  by_cases h5 : σ = 5
  · subst h5
    show (_ ∨ _ ∨ decide ((i : Int) < n) = true) ↔ decide ((i : Int) < n + 1) = true
    rw [decide_eq_true_iff, decide_eq_true_iff]; omega
  by_cases h6 : σ = 6
  · subst h6
    show (_ ∨ _ ∨ decide ((i : Int) < n) = true) ↔ decide ((i : Int) < n + 1) = true
    rw [decide_eq_true_iff, decide_eq_true_iff]; omega
  have e : lvC ((n : Int) + 1) nc σ i = lvC n nc σ i := by
    unfold lvC
    split <;> first | rfl | exact absurd rfl h5 | exact absurd rfl h6
  rw [e]
  exact ⟨fun h => h.elim (fun q => absurd q.1 h6) (fun h => h.elim (fun q => absurd q.1 h5) id), fun h => Or.inr (Or.inr h)⟩
theorem lvC_conv {n : Nat} {ns : Int} : l2 (l2 (l2 (l2 (l2 (lvC ns (n : Int)) 7 n) 33 n) 43 n) 34 n) 44 n = lvC ns ((n : Int) + 1) := by
  refine lw_ext fun σ i => ?_
  rw [l2_iff, l2_iff, l2_iff, l2_iff, l2_iff]
  by_cases h7 : σ = 7
  · subst h7
    show (_ ∨ _ ∨ _ ∨ _ ∨ _ ∨ decide ((i : Int) < n) = true) ↔ decide ((i : Int) < n + 1) = true
    rw [decide_eq_true_iff, decide_eq_true_iff]; omega
  by_cases h33 : σ = 33
  · subst h33
    show (_ ∨ _ ∨ _ ∨ _ ∨ _ ∨ decide ((i : Int) < n) = true) ↔ decide ((i : Int) < n + 1) = true
    rw [decide_eq_true_iff, decide_eq_true_iff]; omega
  by_cases h43 : σ = 43
  · subst h43
    show (_ ∨ _ ∨ _ ∨ _ ∨ _ ∨ decide ((i : Int) < n) = true) ↔ decide ((i : Int) < n + 1) = true
    rw [decide_eq_true_iff, decide_eq_true_iff]; omega
  by_cases h34 : σ = 34
  · subst h34
    show (_ ∨ _ ∨ _ ∨ _ ∨ _ ∨ decide ((i : Int) < n) = true) ↔ decide ((i : Int) < n + 1) = true
    rw [decide_eq_true_iff, decide_eq_true_iff]; omega
  by_cases h44 : σ = 44
  · subst h44
    show (_ ∨ _ ∨ _ ∨ _ ∨ _ ∨ decide ((i : Int) < n) = true) ↔ decide ((i : Int) < n + 1) = true
    rw [decide_eq_true_iff, decide_eq_true_iff]; omega
  have e : lvC ns ((n : Int) + 1) σ i = lvC ns n σ i := by
    unfold lvC
    split <;> first | rfl | exact absurd rfl h7 | exact absurd rfl h33 | exact absurd rfl h43 | exact absurd rfl h34 | exact absurd rfl h44
  rw [e]
  exact ⟨fun h => h.elim (fun q => absurd q.1 h44) (fun h => h.elim (fun q => absurd q.1 h34) (fun h => h.elim (fun q => absurd q.1 h43) (fun h => h.elim (fun q => absurd q.1 h33) (fun h => h.elim (fun q => absurd q.1 h7) id)))), fun h => Or.inr (Or.inr (Or.inr (Or.inr (Or.inr h))))⟩
/-- an end of any call of the class: an answer, a new state -/
def PU (r : Option AV) (S : SS) : Pst := fun r' lv' V' _ => r' = r ∧ lv' = lvC (S 8 0) (S 24 0) ∧ RC (S 8 0) (S 24 0) S V'
/-- the fields of a new ship -/
def shK (K : Nat) : Bool := K == 9 || K == 10 || K == 11 || K == 12 || K == 13 || K == 14 || K == 15 || K == 19 || K == 20 || K == 22
theorem RepC.addShip {S T : SS} {V V' : Vw} {n : Nat} (hR : RepC S V) (h8 : S 8 0 = n) (t8 : T 8 0 = n + 1) (hsame : ∀ (K : Nat) (x : Int), ¬ (K = 8 ∧ x = 0) → ¬ (x = n ∧ shK K = true) → T K x = S K x) (h5 : ∀ k, k < 16 → V' 5 n k = toC T 5 n k) (h6 : ∀ k, k < 7 → V' 6 n k = toC T 6 n k) (h42 : V' 42 0 n = .inr (some (5, n))) (h32 : V' 32 0 1 = .inl ((n : Int) + 1)) (hV : ∀ σ i k, ¬ (σ = 5 ∧ i = n) → ¬ (σ = 6 ∧ i = n) → ¬ (σ = 42 ∧ i = 0 ∧ k = n) → ¬ (σ = 32 ∧ i = 0 ∧ k = 1) → V' σ i k = V σ i k) : RepC T V' := by
  have e : ∀ (K : Nat) (x : Int), shK K = false → K ≠ 8 → T K x = S K x := fun K x h1 h2 => hsame K x (fun q => h2 q.1) (fun q => by rw [h1] at q; cases q.2)
  intro σ i k hd
  by_cases c1 : σ = 5 ∧ i = n
  · obtain ⟨rfl, rfl⟩ := c1
    exact h5 k hd.2
  by_cases c2 : σ = 6 ∧ i = n
  · obtain ⟨rfl, rfl⟩ := c2
    exact h6 k hd.2
  by_cases c3 : σ = 42 ∧ i = 0 ∧ k = n
  · obtain ⟨rfl, rfl, rfl⟩ := c3
    exact h42
  by_cases c4 : σ = 32 ∧ i = 0 ∧ k = 1
  · obtain ⟨rfl, rfl, rfl⟩ := c4
    rw [h32]
    simp only [toC, src, t8]
  have hd0 : okd S σ i k := by
    have := hd
    revert this
    unfold okd
    split
    all_goals try simp only [t8, h8, e 24 0 rfl (by decide), e 33 _ rfl (by decide), e 31 _ rfl (by decide), e 27 _ rfl (by decide), e 29 _ rfl (by decide)]
    all_goals first | exact id | (intro h; omega)
  rw [hV σ i k c1 c2 c3 c4, hR σ i k hd0]
  refine (toC_eq fun b K x hs => hsame K x (fun q => c4 ?_) (fun q => c1 ?_)).symm
  · have h1 := src_inv hd0 hs
    rw [q.1, q.2] at h1
    simp only [inv, Prod.mk.injEq] at h1
    exact ⟨h1.1.symm, h1.2.1.symm, h1.2.2.symm⟩
  · have h1 := src_inv hd0 hs
    obtain ⟨q1, q2⟩ := q
    simp only [shK, Bool.or_eq_true, beq_iff_eq] at q2
    rcases q2 with ((((((((q2 | q2) | q2) | q2) | q2) | q2) | q2) | q2) | q2) | q2 <;> (subst q2; simp only [inv, Prod.mk.injEq] at h1; exact ⟨h1.1.symm, by omega⟩)
theorem RepC.addConv {S T : SS} {V V' : Vw} {n : Nat} (hR : RepC S V) (h24 : S 24 0 = n) (t24 : T 24 0 = n + 1) (hsame : ∀ (K : Nat) (x : Int), ¬ (K = 24 ∧ x = 0) → ¬ (x = n ∧ (K = 25 ∨ K = 26)) → T K x = S K x) (h27 : S 27 n = 0) (h29 : S 29 n = 0) (h7 : ∀ k, k < 4 → V' 7 n k = toC T 7 n k) (h33 : ∀ k, k < 2 → V' 33 n k = toC T 33 n k) (h34 : ∀ k, k < 2 → V' 34 n k = toC T 34 n k) (h11 : V' 11 0 n = .inr (some (7, n))) (h0 : V' 0 0 5 = .inl ((n : Int) + 1)) (hV : ∀ σ i k, ¬ (σ = 7 ∧ i = n) → ¬ (σ = 33 ∧ i = n) → ¬ (σ = 43 ∧ i = n) → ¬ (σ = 34 ∧ i = n) → ¬ (σ = 44 ∧ i = n) → ¬ (σ = 11 ∧ i = 0 ∧ k = n) → ¬ (σ = 0 ∧ i = 0 ∧ k = 5) → V' σ i k = V σ i k) : RepC T V' := by
  have e : ∀ (K : Nat) (x : Int), K ≠ 25 → K ≠ 26 → K ≠ 24 → T K x = S K x := fun K x h1 h2 h3 => hsame K x (fun q => h3 q.1) (fun q => q.2.elim h1 h2)
  intro σ i k hd
  by_cases c1 : σ = 7 ∧ i = n
  · obtain ⟨rfl, rfl⟩ := c1
    exact h7 k hd.2
  by_cases c2 : σ = 33 ∧ i = n
  · obtain ⟨rfl, rfl⟩ := c2
    exact h33 k hd.2
  by_cases c3 : σ = 43 ∧ i = n
  · obtain ⟨rfl, rfl⟩ := c3
    have := hd.2
    rw [e 27 _ (by decide) (by decide) (by decide), h27] at this
    omega
  by_cases c4 : σ = 34 ∧ i = n
  · obtain ⟨rfl, rfl⟩ := c4
    exact h34 k hd.2
  by_cases c5 : σ = 44 ∧ i = n
  · obtain ⟨rfl, rfl⟩ := c5
    have := hd.2
    rw [e 29 _ (by decide) (by decide) (by decide), h29] at this
    omega
  by_cases c6 : σ = 11 ∧ i = 0 ∧ k = n
  · obtain ⟨rfl, rfl, rfl⟩ := c6
    exact h11
  by_cases c7 : σ = 0 ∧ i = 0 ∧ k = 5
  · obtain ⟨rfl, rfl, rfl⟩ := c7
    rw [h0]
    simp only [toC, src, t24]
  have hd0 : okd S σ i k := by
    have := hd
    revert this
    unfold okd
    split
    all_goals try simp only [t24, h24, e 8 0 (by decide) (by decide) (by decide), e 33 _ (by decide) (by decide) (by decide), e 31 _ (by decide) (by decide) (by decide), e 27 _ (by decide) (by decide) (by decide), e 29 _ (by decide) (by decide) (by decide)]
    all_goals first | exact id | (intro h; omega)
  rw [hV σ i k c1 c2 c3 c4 c5 c6 c7, hR σ i k hd0]
  refine (toC_eq fun b K x hs => hsame K x (fun q => c7 ?_) (fun q => c1 ?_)).symm
  · have h1 := src_inv hd0 hs
    rw [q.1, q.2] at h1
    simp only [inv, Prod.mk.injEq] at h1
    exact ⟨h1.1.symm, h1.2.1.symm, h1.2.2.symm⟩
  · have h1 := src_inv hd0 hs
    obtain ⟨q1, q2⟩ := q
    rcases q2 with q2 | q2 <;> (subst q2; simp only [inv, Prod.mk.injEq] at h1; exact ⟨h1.1.symm, by omega⟩)
theorem PC.toU {r : Option AV} {T : SS} {sz' : Nat} {r' : Option AV} {lv' : Lw} {V' : Vw} {z : Nat} (h : PC r ns nc T sz' r' lv' V' z) : PU r T r' lv' V' z := ⟨h.1, by rw [h.2.2.2.2.1, h.2.2.2.2.2]; exact h.2.1, by rw [h.2.2.2.2.1, h.2.2.2.2.2]; exact h.2.2.2⟩
set_option maxRecDepth 100000 in
set_option maxHeartbeats 4000000 in
theorem c_X5_ship {w m g d sl t : Int} (hB : BB S) (hC : RC ns nc S V) (hw : Rg w) (hm : Rg m) (hg : g = 0 ∨ g = 1) (hd : Rg d) (hsl : sl = 0 ∨ sl = 1) (ht : Rg t) (hz0 : ns < 30 → S 16 ns = 0 ∧ S 17 ns = 0 ∧ S 18 ns = 0 ∧ S 36 ns = 0 ∧ ∀ k : Nat, k < 7 → S 23 (7 * ns + k) = 0) (had : ns < 30 → ad 5 ns.toNat = sz ∧ ad 6 ns.toNat = sz + 1) : CT l D cA A ad yX5_ship cX5_ship 8 (some .int) rm_X5_ship [.inr (some (0, 0)), .inl w, .inl m, .inl g, .inl d, .inl sl, .inl t] (lvC ns nc) V sz (PU (some (.inl (opShip S w m g d sl t).1)) (opShip S w m g d sl t).2) := by
  refine CT.of2 [some (.inr (some (0, 0))), some (.inl w), some (.inl m), some (.inl g), some (.inl d), some (.inl sl), some (.inl t), none] (by decide) (Nat.le_of_ble_eq_true rfl) rfl ?_
  obtain ⟨hR, h8, h24⟩ := id hC
  have hb := hB.m
  simp only [bsm] at hb
  obtain ⟨n, rfl⟩ : ∃ n : Nat, ns = (n : Int) := ⟨ns.toNat, by omega⟩
  have hnn : ((n : Int)).toNat = n := by omega
  rw [hnn] at had
  refine aw_iload_n dX5_ship_0 rfl rfl ?_
  refine aw_callS (c_X5_isWay (by omega)) mv_X5_isWay mlX5_75 dX5_ship_1 (by decide) rfl (Nat.le_of_ble_eq_true rfl) rfl ?_
  rintro _ _ _ _ ⟨⟨rfl, h1⟩ | ⟨rfl, h1⟩, rfl, rfl, rfl⟩
  · refine aw_if_eq (tgt := 40) dX5_ship_4 (by decide) (by omega) (fun c_4 => absurd c_4 (by decide)) (fun _ => ?_)
    refine aw_iload_n dX5_ship_7 rfl rfl ?_
    refine aw_iconst dX5_ship_8 ?_
    refine aw_sipush dX5_ship_9 (by decide) ?_
    refine aw_callS (c_X5_within (by omega) (by omega) (by omega)) mv_X5_within mlX5_61 dX5_ship_12 (by decide) rfl (Nat.le_of_ble_eq_true rfl) rfl ?_
    rintro _ _ _ _ ⟨⟨rfl, h2⟩ | ⟨rfl, h2⟩, rfl, rfl, rfl⟩
    · refine aw_if_eq (tgt := 40) dX5_ship_15 (by decide) (by omega) (fun c_15 => absurd c_15 (by decide)) (fun _ => ?_)
      refine aw_iload dX5_ship_18 rfl ?_
      refine aw_iconst dX5_ship_20 ?_
      refine aw_bipush dX5_ship_21 (by decide) ?_
      refine aw_callS (c_X5_within (by omega) (by omega) (by omega)) mv_X5_within mlX5_61 dX5_ship_23 (by decide) rfl (Nat.le_of_ble_eq_true rfl) rfl ?_
      rintro _ _ _ _ ⟨⟨rfl, h3⟩ | ⟨rfl, h3⟩, rfl, rfl, rfl⟩
      · refine aw_if_eq (tgt := 40) dX5_ship_26 (by decide) (by omega) (fun c_26 => absurd c_26 (by decide)) (fun _ => ?_)
        refine aw_iload dX5_ship_29 rfl ?_
        refine aw_iconst dX5_ship_31 ?_
        refine aw_ldc (n := 200000) dX5_ship_32 ctX5_79 (by decide) ?_
        refine aw_callS (c_X5_within (by omega) (by omega) (by omega)) mv_X5_within mlX5_61 dX5_ship_34 (by decide) rfl (Nat.le_of_ble_eq_true rfl) rfl ?_
        rintro _ _ _ _ ⟨⟨rfl, h4⟩ | ⟨rfl, h4⟩, rfl, rfl, rfl⟩
        · refine aw_if_ne (tgt := 42) dX5_ship_37 (by decide) (by omega) (fun _ => ?_) (fun c_37 => absurd c_37 (by decide))
          refine aw_iload_n dX5_ship_42 rfl rfl ?_
          refine aw_aload_n dX5_ship_43 rfl rfl ?_
          refine aw_get dX5_ship_44 flX5_53 (by decide) (by decide) rfl rfl (rc_0_10 hR) ?_
          refine aw_icmp_ge (tgt := 53) dX5_ship_47 (by decide) (by omega) (by omega) (fun c_47 => ?_) (fun c_47 => ?_)
          · refine aw_aload_n dX5_ship_53 rfl rfl ?_
            refine aw_get dX5_ship_54 flX5_27 (by decide) (by decide) rfl rfl (rc_0_3 hR) ?_
            refine aw_callV (c_X2_isFull (hC.ships hB)) mv_X2_isFull mlX5_80 dX5_ship_57 rfl rfl (by decide) rfl (Nat.le_of_ble_eq_true rfl) rfl ?_
            rintro _ _ _ _ ⟨⟨rfl, hF⟩ | ⟨rfl, hF⟩, rfl, rfl, rfl⟩
            · have hF2 : S 8 0 = 30 := by
                have : ((30 : Nat) : Int) ≤ S 8 0 := hF
                omega
              refine aw_if_eq (tgt := 66) dX5_ship_60 (by decide) (by omega) (fun c_60 => absurd c_60 (by decide)) (fun _ => ?_)
              refine aw_bipush dX5_ship_63 (by decide) ?_
              refine aw_iret dX5_ship_65 rfl (by decide) (by decide) ?_
              have e : opShip S w m g d sl t = (-3, S) := by
                unfold opShip
                repeat (first | rw [if_pos (by omega)] | rw [if_neg (by omega)])
              rw [e]
              refine ⟨rfl, ?_, ?_⟩
              · show _ = lvC (S 8 0) (S 24 0); rw [h8, h24]
              · show RC (S 8 0) (S 24 0) S _; rw [h8, h24]; exact hC
            · have hF2 : (n : Int) < 30 := by
                have : ¬ ((30 : Nat) : Int) ≤ S 8 0 := hF
                omega
              have hA := had hF2
              have hz := hz0 hF2
              refine aw_if_eq (tgt := 66) dX5_ship_60 (by decide) (by omega) (fun _ => ?_) (fun c_60 => absurd c_60 (by decide))
              refine aw_aload_n dX5_ship_66 rfl rfl ?_
              refine aw_get dX5_ship_67 flX5_27 (by decide) (by decide) rfl rfl (rc_0_3 hR) ?_
              refine aw_getN dX5_ship_70 fnX5_84 (by decide) (by decide) rfl rfl ((rc_32_1 hR).trans (congrArg Sum.inl h8)) ?_
              refine aw_istore dX5_ship_73 (by decide) ?_
              refine aw_aload_n dX5_ship_75 rfl rfl ?_
              refine aw_get dX5_ship_76 flX5_27 (by decide) (by decide) rfl rfl (rc_0_3 hR) ?_
              refine aw_new (ci := 4) (σ := 5) (i := n) dX5_ship_79 clX5_87 ci_X4 in_X4 (by decide) rfl hA.1 (by decide) (by decide) ?_
              refine aw_dup dX5_ship_82 ?_
              refine aw_iload dX5_ship_83 rfl ?_
              refine aw_iload_n dX5_ship_85 rfl rfl ?_
              refine aw_iload_n dX5_ship_86 rfl rfl ?_
              refine aw_iload_n dX5_ship_87 rfl rfl ?_
              refine aw_iload dX5_ship_88 rfl ?_
              refine aw_iload dX5_ship_90 rfl ?_
              refine aw_iload dX5_ship_92 rfl ?_
              refine aw_callI (c_X4_init (i := n) (x := (n : Int)) l2_self hg hsl hA.2) mv_X4_init mlX5_89 dX5_ship_94 (by decide) rfl (Nat.le_of_ble_eq_true rfl) rfl ?_
              rintro _ _ V2 _ ⟨rfl, rfl, rfl, ⟨f0, f1, f2, f3, f4, f5, f6, f7, f8, f9, f10, f11, f12, f13, f14, f15⟩, f16, f17⟩
              have hships : RW (l2 (l2 (lvC (n : Int) nc) 5 n) 6 n) V2 32 0 42 0 (n : Int) := by
                obtain ⟨w1, w2, w3, w4, w5, w6, w7, w8⟩ := hC.ships hB
                rw [h8] at w6 w7 w8
                exact ⟨w1, l2_of (l2_of w2), (congrFun (f17 32 0 (fun q => by cases q.1) (fun q => by cases q.1)) _).trans ((congrFun (sC_cell (fun q => by cases q.1) _) _).trans w3), w4, l2_of (l2_of w5), (congrFun (f17 32 0 (fun q => by cases q.1) (fun q => by cases q.1)) _).trans ((congrFun (sC_cell (fun q => by cases q.1) _) _).trans w6), w7, w8⟩
              refine aw_callV (c_X2_add (s := n) hships (show (n : Int) < 30 by omega) (by decide) (l2_of l2_self)) mv_X2_add mlX5_92 dX5_ship_97 rfl (l2_of (l2_of rfl)) (by decide) rfl (Nat.le_of_ble_eq_true rfl) rfl ?_
              rintro _ _ _ _ ⟨rfl, rfl, rfl, rfl⟩
              refine aw_iload dX5_ship_100 rfl ?_
              refine aw_iret dX5_ship_102 rfl (by decide) (by decide) ?_
              have e : opShip S w m g d sl t = (S 8 0, u2 (u2 (u2 (u2 (u2 (u2 (u2 (u2 (u2 (u2 (u2 S 9 (S 8 0) w) 10 (S 8 0) m) 11 (S 8 0) g) 12 (S 8 0) d) 13 (S 8 0) sl) 14 (S 8 0) t) 15 (S 8 0) (-1)) 19 (S 8 0) (-4)) 20 (S 8 0) (-4)) 22 (S 8 0) (-4)) 8 0 (S 8 0 + 1)) := by
                unfold opShip
                repeat (first | rw [if_pos (by omega)] | rw [if_neg (by omega)])
              rw [e]
              have t8 : (u2 (u2 (u2 (u2 (u2 (u2 (u2 (u2 (u2 (u2 (u2 S 9 (S 8 0) w) 10 (S 8 0) m) 11 (S 8 0) g) 12 (S 8 0) d) 13 (S 8 0) sl) 14 (S 8 0) t) 15 (S 8 0) (-1)) 19 (S 8 0) (-4)) 20 (S 8 0) (-4)) 22 (S 8 0) (-4)) 8 0 (S 8 0 + 1)) 8 0 = (n : Int) + 1 := by rw [u2_self, h8]
              have t24 : (u2 (u2 (u2 (u2 (u2 (u2 (u2 (u2 (u2 (u2 (u2 S 9 (S 8 0) w) 10 (S 8 0) m) 11 (S 8 0) g) 12 (S 8 0) d) 13 (S 8 0) sl) 14 (S 8 0) t) 15 (S 8 0) (-1)) 19 (S 8 0) (-4)) 20 (S 8 0) (-4)) 22 (S 8 0) (-4)) 8 0 (S 8 0 + 1)) 24 0 = nc := by simp only [u2, Nat.reduceEqDiff, false_and, if_false]; exact h24
              refine ⟨by rw [h8], ?_, ?_⟩
              · show _ = lvC ((u2 (u2 (u2 (u2 (u2 (u2 (u2 (u2 (u2 (u2 (u2 S 9 (S 8 0) w) 10 (S 8 0) m) 11 (S 8 0) g) 12 (S 8 0) d) 13 (S 8 0) sl) 14 (S 8 0) t) 15 (S 8 0) (-1)) 19 (S 8 0) (-4)) 20 (S 8 0) (-4)) 22 (S 8 0) (-4)) 8 0 (S 8 0 + 1)) 8 0) ((u2 (u2 (u2 (u2 (u2 (u2 (u2 (u2 (u2 (u2 (u2 S 9 (S 8 0) w) 10 (S 8 0) m) 11 (S 8 0) g) 12 (S 8 0) d) 13 (S 8 0) sl) 14 (S 8 0) t) 15 (S 8 0) (-1)) 19 (S 8 0) (-4)) 20 (S 8 0) (-4)) 22 (S 8 0) (-4)) 8 0 (S 8 0 + 1)) 24 0)
                rw [t8, t24]; exact lvC_ship
              · show RC ((u2 (u2 (u2 (u2 (u2 (u2 (u2 (u2 (u2 (u2 (u2 S 9 (S 8 0) w) 10 (S 8 0) m) 11 (S 8 0) g) 12 (S 8 0) d) 13 (S 8 0) sl) 14 (S 8 0) t) 15 (S 8 0) (-1)) 19 (S 8 0) (-4)) 20 (S 8 0) (-4)) 22 (S 8 0) (-4)) 8 0 (S 8 0 + 1)) 8 0) ((u2 (u2 (u2 (u2 (u2 (u2 (u2 (u2 (u2 (u2 (u2 S 9 (S 8 0) w) 10 (S 8 0) m) 11 (S 8 0) g) 12 (S 8 0) d) 13 (S 8 0) sl) 14 (S 8 0) t) 15 (S 8 0) (-1)) 19 (S 8 0) (-4)) 20 (S 8 0) (-4)) 22 (S 8 0) (-4)) 8 0 (S 8 0 + 1)) 24 0) (u2 (u2 (u2 (u2 (u2 (u2 (u2 (u2 (u2 (u2 (u2 S 9 (S 8 0) w) 10 (S 8 0) m) 11 (S 8 0) g) 12 (S 8 0) d) 13 (S 8 0) sl) 14 (S 8 0) t) 15 (S 8 0) (-1)) 19 (S 8 0) (-4)) 20 (S 8 0) (-4)) 22 (S 8 0) (-4)) 8 0 (S 8 0 + 1)) _
                rw [t8, t24]
                refine ⟨?_, t8, t24⟩
                refine RepC.addShip (n := n) hR h8 t8 (fun K x q1 q2 => ?_) (fun k hk => ?_) (fun k hk => ?_) ?_ ?_ (fun σ i k q1 q2 q3 q4 => ?_)
                · simp only [u2, h8]
                  rw [if_neg q1]
                  have hh : ∀ K0, shK K0 = true → ¬ (K = K0 ∧ x = (n : Int)) := fun K0 hK0 q => q2 ⟨q.2, by rw [q.1]; exact hK0⟩
                  rw [if_neg (hh 22 rfl), if_neg (hh 20 rfl), if_neg (hh 19 rfl), if_neg (hh 15 rfl), if_neg (hh 14 rfl), if_neg (hh 13 rfl), if_neg (hh 12 rfl), if_neg (hh 11 rfl), if_neg (hh 10 rfl), if_neg (hh 9 rfl)]
                · rw [s3_cell (fun q => by cases q.1), s3_cell (fun q => by cases q.1)]
                  match k, hk with
                  | 0, _ => rw [f0]; simp [toC, src, cst, u2, h8]
                  | 1, _ => rw [f1]; simp [toC, src, cst, u2, h8]
                  | 2, _ => rw [f2]; simp [toC, src, cst, u2, h8]
                  | 3, _ => rw [f3]; simp [toC, src, cst, u2, h8]
                  | 4, _ => rw [f4]; simp [toC, src, cst, u2, h8]
                  | 5, _ => rw [f5]; simp [toC, src, cst, u2, h8]
                  | 6, _ => rw [f6]; simp [toC, src, cst, u2, h8]
                  | 7, _ => rw [f7]; simp [toC, src, cst, u2, h8]
                  | 8, _ => rw [f8]; simp [toC, src, cst, u2, h8]
                  | 9, _ => rw [f9]; simp [toC, src, cst, u2, h8, hz.1]
                  | 10, _ => rw [f10]; simp [toC, src, cst, u2, h8, hz.2.1]
                  | 11, _ => rw [f11]; simp [toC, src, cst, u2, h8, hz.2.2.1]
                  | 12, _ => rw [f12]; simp [toC, src, cst, u2, h8]
                  | 13, _ => rw [f13]; simp [toC, src, cst, u2, h8]
                  | 14, _ => rw [f14]; simp [toC, src, cst, u2, h8]
                  | 15, _ => rw [f15]; simp [toC, src, cst, u2, h8, hz.2.2.2.1]
                  | k + 16, h => exact absurd h (by omega)
                · rw [s3_cell (fun q => by cases q.1), s3_cell (fun q => by cases q.1), f16]
                  simp only [toC, src, u2, Nat.reduceEqDiff, false_and, if_false]
                  rw [hz.2.2.2.2 k (by omega)]
                · rw [s3_ne (fun q => by cases q.1)]
                  exact s3_self _ _ _ _ _
                · exact s3_self _ _ _ _ _
                · rw [s3_ne q4, s3_ne (by simpa using q3), f17 σ i q1 q2, sC_cell q1]
          · refine aw_bipush dX5_ship_50 (by decide) ?_
            refine aw_iret dX5_ship_52 rfl (by decide) (by decide) ?_
            have e : opShip S w m g d sl t = (-2, S) := by
              unfold opShip
              repeat (first | rw [if_pos (by omega)] | rw [if_neg (by omega)])
            rw [e]
            refine ⟨rfl, ?_, ?_⟩
            · show _ = lvC (S 8 0) (S 24 0); rw [h8, h24]
            · show RC (S 8 0) (S 24 0) S _; rw [h8, h24]; exact hC
        · refine aw_if_ne (tgt := 42) dX5_ship_37 (by decide) (by omega) (fun c_37 => absurd c_37 (by decide)) (fun _ => ?_)
          refine aw_iconst dX5_ship_40 ?_
          refine aw_iret dX5_ship_41 rfl (by decide) (by decide) ?_
          have e : opShip S w m g d sl t = (-1, S) := by
            unfold opShip
            repeat (first | rw [if_pos (by omega)] | rw [if_neg (by omega)])
          rw [e]
          refine ⟨rfl, ?_, ?_⟩
          · show _ = lvC (S 8 0) (S 24 0); rw [h8, h24]
          · show RC (S 8 0) (S 24 0) S _; rw [h8, h24]; exact hC
      · refine aw_if_eq (tgt := 40) dX5_ship_26 (by decide) (by omega) (fun _ => ?_) (fun c_26 => absurd c_26 (by decide))
        refine aw_iconst dX5_ship_40 ?_
        refine aw_iret dX5_ship_41 rfl (by decide) (by decide) ?_
        have e : opShip S w m g d sl t = (-1, S) := by
          unfold opShip
          repeat (first | rw [if_pos (by omega)] | rw [if_neg (by omega)])
        rw [e]
        refine ⟨rfl, ?_, ?_⟩
        · show _ = lvC (S 8 0) (S 24 0); rw [h8, h24]
        · show RC (S 8 0) (S 24 0) S _; rw [h8, h24]; exact hC
    · refine aw_if_eq (tgt := 40) dX5_ship_15 (by decide) (by omega) (fun _ => ?_) (fun c_15 => absurd c_15 (by decide))
      refine aw_iconst dX5_ship_40 ?_
      refine aw_iret dX5_ship_41 rfl (by decide) (by decide) ?_
      have e : opShip S w m g d sl t = (-1, S) := by
        unfold opShip
        repeat (first | rw [if_pos (by omega)] | rw [if_neg (by omega)])
      rw [e]
      refine ⟨rfl, ?_, ?_⟩
      · show _ = lvC (S 8 0) (S 24 0); rw [h8, h24]
      · show RC (S 8 0) (S 24 0) S _; rw [h8, h24]; exact hC
  · refine aw_if_eq (tgt := 40) dX5_ship_4 (by decide) (by omega) (fun _ => ?_) (fun c_4 => absurd c_4 (by decide))
    refine aw_iconst dX5_ship_40 ?_
    refine aw_iret dX5_ship_41 rfl (by decide) (by decide) ?_
    have e : opShip S w m g d sl t = (-1, S) := by
      unfold opShip
      repeat (first | rw [if_pos (by omega)] | rw [if_neg (by omega)])
    rw [e]
    refine ⟨rfl, ?_, ?_⟩
    · show _ = lvC (S 8 0) (S 24 0); rw [h8, h24]
    · show RC (S 8 0) (S 24 0) S _; rw [h8, h24]; exact hC
set_option maxRecDepth 100000 in
set_option maxHeartbeats 4000000 in
theorem c_X5_convoy {w f : Int} (hB : BB S) (hC : RC ns nc S V) (hw : Rg w) (hf : Rg f) (hz0 : nc < 12 → S 27 nc = 0 ∧ S 29 nc = 0) (had : nc < 12 → ad 7 nc.toNat = sz ∧ ad 33 nc.toNat = sz + 1 ∧ ad 43 nc.toNat = sz + 1 + 1 ∧ ad 34 nc.toNat = sz + 1 + 1 + 1 ∧ ad 44 nc.toNat = sz + 1 + 1 + 1 + 1) : CT l D cA A ad yX5_convoy cX5_convoy 3 (some .int) rm_X5_convoy [.inr (some (0, 0)), .inl w, .inl f] (lvC ns nc) V sz (PU (some (.inl (opConv S w f).1)) (opConv S w f).2) := by
  refine CT.of2 [some (.inr (some (0, 0))), some (.inl w), some (.inl f)] (by decide) (Nat.le_of_ble_eq_true rfl) rfl ?_
  obtain ⟨hR, h8, h24⟩ := id hC
  have hb := hB.m
  simp only [bsm] at hb
  obtain ⟨n, rfl⟩ : ∃ n : Nat, nc = (n : Int) := ⟨nc.toNat, by omega⟩
  have hnn : ((n : Int)).toNat = n := by omega
  rw [hnn] at had
  refine aw_iload_n dX5_convoy_0 rfl rfl ?_
  refine aw_callS (c_X5_isWay (by omega)) mv_X5_isWay mlX5_75 dX5_convoy_1 (by decide) rfl (Nat.le_of_ble_eq_true rfl) rfl ?_
  rintro _ _ _ _ ⟨⟨rfl, h1⟩ | ⟨rfl, h1⟩, rfl, rfl, rfl⟩
  · refine aw_if_eq (tgt := 18) dX5_convoy_4 (by decide) (by omega) (fun c_4 => absurd c_4 (by decide)) (fun _ => ?_)
    refine aw_iload_n dX5_convoy_7 rfl rfl ?_
    refine aw_iconst dX5_convoy_8 ?_
    refine aw_sipush dX5_convoy_9 (by decide) ?_
    refine aw_callS (c_X5_within (by omega) (by omega) (by omega)) mv_X5_within mlX5_61 dX5_convoy_12 (by decide) rfl (Nat.le_of_ble_eq_true rfl) rfl ?_
    rintro _ _ _ _ ⟨⟨rfl, h2⟩ | ⟨rfl, h2⟩, rfl, rfl, rfl⟩
    · refine aw_if_ne (tgt := 20) dX5_convoy_15 (by decide) (by omega) (fun _ => ?_) (fun c_15 => absurd c_15 (by decide))
      refine aw_iload_n dX5_convoy_20 rfl rfl ?_
      refine aw_aload_n dX5_convoy_21 rfl rfl ?_
      refine aw_get dX5_convoy_22 flX5_53 (by decide) (by decide) rfl rfl (rc_0_10 hR) ?_
      refine aw_icmp_gt (tgt := 31) dX5_convoy_25 (by decide) (by omega) (by omega) (fun c_25 => ?_) (fun c_25 => ?_)
      · refine aw_aload_n dX5_convoy_31 rfl rfl ?_
        refine aw_get dX5_convoy_32 flX5_37 (by decide) (by decide) rfl rfl (rc_0_5 hR) ?_
        refine aw_bipush dX5_convoy_35 (by decide) ?_
        refine aw_icmp_lt (tgt := 43) dX5_convoy_37 (by decide) (by omega) (by omega) (fun c_37 => ?_) (fun c_37 => ?_)
        · refine aw_aload_n dX5_convoy_43 rfl rfl ?_
          have hF2 : (n : Int) < 12 := by omega
          have hA := had hF2
          have hz := hz0 hF2
          refine aw_get dX5_convoy_44 flX5_33 (by decide) (by decide) rfl rfl (rc_0_4 hR) ?_
          refine aw_aload_n dX5_convoy_47 rfl rfl ?_
          refine aw_get dX5_convoy_48 flX5_37 (by decide) (by decide) rfl rfl ((rc_0_5 hR).trans (congrArg Sum.inl h24)) ?_
          refine aw_new (ci := 0) (σ := 7) (i := n) dX5_convoy_51 clX5_31 ci_X0 in_X0 (by decide) rfl hA.1 (by decide) (by decide) ?_
          refine aw_dup dX5_convoy_54 ?_
          refine aw_iload_n dX5_convoy_55 rfl rfl ?_
          refine aw_iload_n dX5_convoy_56 rfl rfl ?_
          refine aw_callI (c_X0_init (i := n) l2_self hA.2.1 hA.2.2.1 hA.2.2.2.1 hA.2.2.2.2) mv_X0_init mlX5_96 dX5_convoy_57 (by decide) rfl (Nat.le_of_ble_eq_true rfl) rfl ?_
          rintro _ _ V2 _ ⟨rfl, rfl, rfl, ⟨f0, f1, f2, f3, f4, f5, f6, f7⟩, f8⟩
          refine aw_aast dX5_convoy_60 rfl (by decide) (by decide) (l2_of (l2_of (l2_of (l2_of (l2_of rfl))))) (by omega) (show (n : Int) < 12 by omega) rfl (l2_of (l2_of (l2_of (l2_of l2_self)))) ?_
          refine aw_aload_n dX5_convoy_61 rfl rfl ?_
          refine aw_dup dX5_convoy_62 ?_
          refine aw_get dX5_convoy_63 flX5_37 (by decide) (by decide) rfl (l2_of (l2_of (l2_of (l2_of (l2_of rfl))))) ((s3_ne (fun q => by cases q.1)).trans ((congrFun (f8 0 0 (fun q => by cases q.1) (fun q => by cases q.1) (fun q => by cases q.1) (fun q => by cases q.1) (fun q => by cases q.1)) _).trans ((congrFun (sC_cell (fun q => by cases q.1) _) _).trans ((rc_0_5 hR).trans (congrArg Sum.inl h24))))) ?_
          refine aw_iconst dX5_convoy_66 ?_
          refine aw_iadd dX5_convoy_67 ?_
          refine aw_put dX5_convoy_68 flX5_37 (by decide) (by decide) rfl rfl (l2_of (l2_of (l2_of (l2_of (l2_of rfl))))) trivial ?_
          refine aw_aload_n dX5_convoy_71 rfl rfl ?_
          refine aw_get dX5_convoy_72 flX5_37 (by decide) (by decide) rfl (l2_of (l2_of (l2_of (l2_of (l2_of rfl))))) (s3_self _ _ _ _ _) ?_
          refine aw_iconst dX5_convoy_75 ?_
          refine aw_isub dX5_convoy_76 ?_
          refine aw_iret dX5_convoy_77 rfl (by decide) (by decide) ?_
          have e : opConv S w f = (S 24 0, u2 (u2 (u2 S 25 (S 24 0) w) 26 (S 24 0) f) 24 0 (S 24 0 + 1)) := by
            unfold opConv
            repeat (first | rw [if_pos (by omega)] | rw [if_neg (by omega)])
          rw [e]
          have t24 : (u2 (u2 (u2 S 25 (S 24 0) w) 26 (S 24 0) f) 24 0 (S 24 0 + 1)) 24 0 = (n : Int) + 1 := by rw [u2_self, h24]
          have t8 : (u2 (u2 (u2 S 25 (S 24 0) w) 26 (S 24 0) f) 24 0 (S 24 0 + 1)) 8 0 = ns := by simp only [u2, Nat.reduceEqDiff, false_and, if_false]; exact h8
          refine ⟨by rw [h24]; congr 2; omega, ?_, ?_⟩
          · show _ = lvC ((u2 (u2 (u2 S 25 (S 24 0) w) 26 (S 24 0) f) 24 0 (S 24 0 + 1)) 8 0) ((u2 (u2 (u2 S 25 (S 24 0) w) 26 (S 24 0) f) 24 0 (S 24 0 + 1)) 24 0)
            rw [t8, t24]; exact lvC_conv
          · show RC ((u2 (u2 (u2 S 25 (S 24 0) w) 26 (S 24 0) f) 24 0 (S 24 0 + 1)) 8 0) ((u2 (u2 (u2 S 25 (S 24 0) w) 26 (S 24 0) f) 24 0 (S 24 0 + 1)) 24 0) (u2 (u2 (u2 S 25 (S 24 0) w) 26 (S 24 0) f) 24 0 (S 24 0 + 1)) _
            rw [t8, t24]
            refine ⟨?_, t8, t24⟩
            refine RepC.addConv (n := n) hR h24 t24 (fun K x q1 q2 => ?_) hz.1 hz.2 (fun k hk => ?_) (fun k hk => ?_) (fun k hk => ?_) ?_ ?_ (fun σ i k q1 q2 q3 q4 q5 q6 q7 => ?_)
            · simp only [u2, h24]
              rw [if_neg q1, if_neg (fun q => q2 ⟨q.2, Or.inr q.1⟩), if_neg (fun q => q2 ⟨q.2, Or.inl q.1⟩)]
            · rw [s3_cell (fun q => by cases q.1), s3_cell (fun q => by cases q.1)]
              match k, hk with
              | 0, _ => rw [f0]; simp [toC, src, cst, u2, h24, hz.1, hz.2]
              | 1, _ => rw [f1]; simp [toC, src, cst, u2, h24, hz.1, hz.2]
              | 2, _ => rw [f2]; simp [toC, src, cst, u2, h24, hz.1, hz.2]
              | 3, _ => rw [f3]; simp [toC, src, cst, u2, h24, hz.1, hz.2]
            · rw [s3_cell (fun q => by cases q.1), s3_cell (fun q => by cases q.1)]
              match k, hk with
              | 0, _ => rw [f4]; simp [toC, src, cst, u2, h24, hz.1, hz.2]
              | 1, _ => rw [f5]; simp [toC, src, cst, u2, h24, hz.1, hz.2]
            · rw [s3_cell (fun q => by cases q.1), s3_cell (fun q => by cases q.1)]
              match k, hk with
              | 0, _ => rw [f6]; simp [toC, src, cst, u2, h24, hz.1, hz.2]
              | 1, _ => rw [f7]; simp [toC, src, cst, u2, h24, hz.1, hz.2]
            · rw [s3_ne (fun q => by cases q.1)]
              exact s3_self _ _ _ _ _
            · exact s3_self _ _ _ _ _
            · rw [s3_ne q7, s3_ne (by simpa using q6), f8 σ i q1 q2 q3 q4 q5, sC_cell q1]
        · refine aw_bipush dX5_convoy_40 (by decide) ?_
          refine aw_iret dX5_convoy_42 rfl (by decide) (by decide) ?_
          have e : opConv S w f = (-3, S) := by
            unfold opConv
            repeat (first | rw [if_pos (by omega)] | rw [if_neg (by omega)])
          rw [e]
          refine ⟨rfl, ?_, ?_⟩
          · show _ = lvC (S 8 0) (S 24 0); rw [h8, h24]
          · show RC (S 8 0) (S 24 0) S _; rw [h8, h24]; exact hC
      · refine aw_bipush dX5_convoy_28 (by decide) ?_
        refine aw_iret dX5_convoy_30 rfl (by decide) (by decide) ?_
        have e : opConv S w f = (-2, S) := by
          unfold opConv
          repeat (first | rw [if_pos (by omega)] | rw [if_neg (by omega)])
        rw [e]
        refine ⟨rfl, ?_, ?_⟩
        · show _ = lvC (S 8 0) (S 24 0); rw [h8, h24]
        · show RC (S 8 0) (S 24 0) S _; rw [h8, h24]; exact hC
    · refine aw_if_ne (tgt := 20) dX5_convoy_15 (by decide) (by omega) (fun c_15 => absurd c_15 (by decide)) (fun _ => ?_)
      refine aw_iconst dX5_convoy_18 ?_
      refine aw_iret dX5_convoy_19 rfl (by decide) (by decide) ?_
      have e : opConv S w f = (-1, S) := by
        unfold opConv
        repeat (first | rw [if_pos (by omega)] | rw [if_neg (by omega)])
      rw [e]
      refine ⟨rfl, ?_, ?_⟩
      · show _ = lvC (S 8 0) (S 24 0); rw [h8, h24]
      · show RC (S 8 0) (S 24 0) S _; rw [h8, h24]; exact hC
  · refine aw_if_eq (tgt := 18) dX5_convoy_4 (by decide) (by omega) (fun _ => ?_) (fun c_4 => absurd c_4 (by decide))
    refine aw_iconst dX5_convoy_18 ?_
    refine aw_iret dX5_convoy_19 rfl (by decide) (by decide) ?_
    have e : opConv S w f = (-1, S) := by
      unfold opConv
      repeat (first | rw [if_pos (by omega)] | rw [if_neg (by omega)])
    rw [e]
    refine ⟨rfl, ?_, ?_⟩
    · show _ = lvC (S 8 0) (S 24 0); rw [h8, h24]
    · show RC (S 8 0) (S 24 0) S _; rw [h8, h24]; exact hC
end CLS11
