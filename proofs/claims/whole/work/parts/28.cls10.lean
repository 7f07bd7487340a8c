section CLS10
variable {l : Launch} {D : va_G} {cA : Nat → ClassId} {A : Nat → Prop} {ad : Ad} {ns nc : Int} {lv : Lw} {V : Vw} {sz : Nat} {S : SS}
theorem l2_of {lv : Lw} {σ i τ j : Nat} (h : lv τ j = true) : l2 lv σ i τ j = true := by
  simp only [l2]
  split
  · rfl
  · exact h
theorem l2_self {lv : Lw} {σ i : Nat} : l2 lv σ i σ i = true := by simp [l2]
/-- a new row -/
def PRow (σ j τ i : Nat) (lv : Lw) (V : Vw) (sz : Nat) : Pst := fun r lv' V' sz' => r = none ∧ lv' = l2 lv τ i ∧ sz' = sz + 1 ∧ V' σ j 0 = .inr (some (τ, i)) ∧ V' σ j 1 = .inl 0 ∧ ∀ σ' i', ¬ (σ' = σ ∧ i' = j) → ¬ (σ' = τ ∧ i' = i) → V' σ' i' = V σ' i'
set_option maxRecDepth 100000 in
set_option maxHeartbeats 4000000 in
theorem c_X2_init {σ j τ i : Nat} (hk : Kd σ j = .inl 2) (hl : lv σ j = true) (hkt : Kd τ i = .inr 2) (hle : Ln τ i ≤ 30) (had : ad τ i = sz) (hne : σ ≠ τ) : CT l D cA A ad yX2_init cX2_init 2 none rm_X2_init [.inr (some (σ, j)), .inl (Ln τ i : Nat)] lv V sz (PRow σ j τ i lv V sz) := by
  refine CT.of2 [some (.inr (some (σ, j))), some (.inl (Ln τ i : Nat))] (by decide) (Nat.le_of_ble_eq_true rfl) rfl ?_
  refine aw_aload_n dX2_init_0 rfl rfl ?_
  refine aw_objInit dX2_init_1 mlX2_3 (by decide) (by decide) ?_
  refine aw_aload_n dX2_init_4 rfl rfl ?_
  refine aw_iconst dX2_init_5 ?_
  refine aw_put dX2_init_6 flX2_9 (by decide) (by decide) rfl hk hl trivial ?_
  refine aw_aload_n dX2_init_9 rfl rfl ?_
  refine aw_iload_n dX2_init_10 rfl rfl ?_
  refine aw_iconst dX2_init_11 ?_
  refine aw_mmax dX2_init_12 mlX2_15 (by decide) (Nat.le_of_ble_eq_true rfl) (by decide) (by decide) (by omega) (by omega) ?_
  refine aw_anewa (σ := τ) (i := i) (t := 2) dX2_init_15 clX2_21 (by decide) (by decide) hkt (by rw [if_neg (by omega)]) had (by decide) (show 0 + Ln τ i ≤ 30 by omega) ?_
  refine aw_putF dX2_init_18 flX2_23 (by decide) (by decide) rfl rfl rfl hk (l2_of hl) trivial ?_
  refine aw_vret dX2_init_21 rfl (by decide) (show 0 + Ln τ i ≤ 30 by omega) ?_
  refine ⟨rfl, rfl, rfl, s3_self _ _ _ _ _, ?_, fun σ' i' h1 h2 => ?_⟩
  · rw [s3_ne (fun q => by cases q.2.2), sC_cell (fun q => hne q.1)]
    exact s3_self _ _ _ _ _
  · rw [s3_cell h1, sC_cell h2, s3_cell h1]
def PLane (i : Nat) (lv : Lw) (V : Vw) (sz : Nat) : Pst := fun r lv' V' sz' => r = none ∧ lv' = l2 (l2 lv 30 i) 40 i ∧ sz' = sz + 2 ∧ (V' 2 i 0 = .inr (some (30, i)) ∧ V' 2 i 1 = .inl (-1000) ∧ V' 30 i 0 = .inr (some (40, i)) ∧ V' 30 i 1 = .inl 0) ∧ ∀ σ' i', ¬ (σ' = 2 ∧ i' = i) → ¬ (σ' = 30 ∧ i' = i) → ¬ (σ' = 40 ∧ i' = i) → V' σ' i' = V σ' i'
set_option maxRecDepth 100000 in
set_option maxHeartbeats 4000000 in
theorem c_X1_init {i : Nat} (hl : lv 2 i = true) (h30 : ad 30 i = sz) (h40 : ad 40 i = sz + 1) : CT l D cA A ad yX1_init cX1_init 1 none rm_X1_init [.inr (some (2, i))] lv V sz (PLane i lv V sz) := by
  refine CT.of2 [some (.inr (some (2, i)))] (by decide) (Nat.le_of_ble_eq_true rfl) rfl ?_
  refine aw_aload_n dX1_init_0 rfl rfl ?_
  refine aw_objInit dX1_init_1 mlX1_3 (by decide) (by decide) ?_
  refine aw_aload_n dX1_init_4 rfl rfl ?_
  refine aw_new (ci := 2) (σ := 30) (i := i) dX1_init_5 clX1_9 ci_X2 in_X2 (by decide) rfl h30 (by decide) (by decide) ?_
  refine aw_dup dX1_init_8 ?_
  refine aw_iconst dX1_init_9 ?_
  refine aw_callI (c_X2_init (σ := 30) (j := i) (τ := 40) (i := i) rfl l2_self rfl (Nat.le_of_ble_eq_true rfl) h40 (by decide)) mv_X2_init mlX1_11 dX1_init_10 (by decide) rfl (Nat.le_of_ble_eq_true rfl) rfl ?_
  rintro _ _ V2 _ ⟨rfl, rfl, rfl, a0, a1, a2⟩
  refine aw_putF dX1_init_13 flX1_14 (by decide) (by decide) rfl rfl rfl rfl (l2_of (l2_of hl)) trivial ?_
  refine aw_aload_n dX1_init_16 rfl rfl ?_
  refine aw_sipush dX1_init_17 (by decide) ?_
  refine aw_put dX1_init_20 flX1_20 (by decide) (by decide) rfl rfl (l2_of (l2_of hl)) trivial ?_
  refine aw_vret dX1_init_23 rfl (by decide) (by decide) ?_
  refine ⟨rfl, rfl, rfl, ⟨?_, s3_self _ _ _ _ _, ?_, ?_⟩, fun σ' i' g1 g2 g3 => ?_⟩
  · rw [s3_ne (fun q => by cases q.2.2), s3_self]
  · rw [s3_cell (fun q => by cases q.1), s3_cell (fun q => by cases q.1)]; exact a0
  · rw [s3_cell (fun q => by cases q.1), s3_cell (fun q => by cases q.1)]; exact a1
  · rw [s3_cell g1, s3_cell g1, a2 _ _ g2 g3, sC_cell g2]
def PSec (i : Nat) (lv : Lw) (V : Vw) (sz : Nat) : Pst := fun r lv' V' sz' => r = none ∧ lv' = l2 (l2 (l2 (l2 (l2 (l2 lv 2 (2 * i)) 30 (2 * i)) 40 (2 * i)) 2 (2 * i + 1)) 30 (2 * i + 1)) 40 (2 * i + 1) ∧ sz' = sz + 6 ∧ (V' 1 i 0 = .inl (i : Int) ∧ V' 1 i 1 = .inl 20 ∧ V' 1 i 2 = .inl 15 ∧ V' 1 i 3 = .inl 0 ∧ V' 1 i 4 = .inr (some (2, 2 * i)) ∧ V' 1 i 5 = .inr (some (2, 2 * i + 1))) ∧ (∀ j, j = 2 * i ∨ j = 2 * i + 1 → V' 2 j 0 = .inr (some (30, j)) ∧ V' 2 j 1 = .inl (-1000) ∧ V' 30 j 0 = .inr (some (40, j)) ∧ V' 30 j 1 = .inl 0) ∧ ∀ σ' i', ¬ (σ' = 1 ∧ i' = i) → ¬ (σ' = 2 ∧ (i' = 2 * i ∨ i' = 2 * i + 1)) → ¬ (σ' = 30 ∧ (i' = 2 * i ∨ i' = 2 * i + 1)) → ¬ (σ' = 40 ∧ (i' = 2 * i ∨ i' = 2 * i + 1)) → V' σ' i' = V σ' i'
set_option maxRecDepth 100000 in
set_option maxHeartbeats 4000000 in
theorem c_X3_init {i : Nat} (hl : lv 1 i = true) (h2 : ad 2 (2 * i) = sz) (h30 : ad 30 (2 * i) = sz + 1) (h40 : ad 40 (2 * i) = sz + 1 + 1) (h2b : ad 2 (2 * i + 1) = sz + 1 + 2) (h30b : ad 30 (2 * i + 1) = sz + 1 + 2 + 1) (h40b : ad 40 (2 * i + 1) = sz + 1 + 2 + 1 + 1) : CT l D cA A ad yX3_init cX3_init 2 none rm_X3_init [.inr (some (1, i)), .inl (i : Int)] lv V sz (PSec i lv V sz) := by
  refine CT.of2 [some (.inr (some (1, i))), some (.inl (i : Int))] (by decide) (Nat.le_of_ble_eq_true rfl) rfl ?_
  refine aw_aload_n dX3_init_0 rfl rfl ?_
  refine aw_objInit dX3_init_1 mlX3_3 (by decide) (by decide) ?_
  refine aw_aload_n dX3_init_4 rfl rfl ?_
  refine aw_bipush dX3_init_5 (by decide) ?_
  refine aw_put dX3_init_7 flX3_9 (by decide) (by decide) rfl rfl hl trivial ?_
  refine aw_aload_n dX3_init_10 rfl rfl ?_
  refine aw_bipush dX3_init_11 (by decide) ?_
  refine aw_put dX3_init_13 flX3_15 (by decide) (by decide) rfl rfl hl trivial ?_
  refine aw_aload_n dX3_init_16 rfl rfl ?_
  refine aw_iconst dX3_init_17 ?_
  refine aw_put dX3_init_18 flX3_18 (by decide) (by decide) rfl rfl hl (Or.inl rfl) ?_
  refine aw_aload_n dX3_init_21 rfl rfl ?_
  refine aw_new (ci := 1) (σ := 2) (i := 2 * i) dX3_init_22 clX3_22 ci_X1 in_X1 (by decide) rfl h2 (by decide) (by decide) ?_
  refine aw_dup dX3_init_25 ?_
  refine aw_callIN (c_X1_init (i := 2 * i) l2_self h30 h40) mv_X1_init mnX3_24 dX3_init_26 (by decide) rfl (Nat.le_of_ble_eq_true rfl) rfl ?_
  rintro _ _ V2 _ ⟨rfl, rfl, rfl, ⟨a0, a1, a2, a3⟩, a4⟩
  refine aw_putF dX3_init_29 flX3_25 (by decide) (by decide) rfl rfl rfl rfl (l2_of (l2_of (l2_of hl))) trivial ?_
  refine aw_aload_n dX3_init_32 rfl rfl ?_
  refine aw_new (ci := 1) (σ := 2) (i := 2 * i + 1) dX3_init_33 clX3_22 ci_X1 in_X1 (by decide) rfl h2b (by decide) (by decide) ?_
  refine aw_dup dX3_init_36 ?_
  refine aw_callIN (c_X1_init (i := 2 * i + 1) l2_self h30b h40b) mv_X1_init mnX3_24 dX3_init_37 (by decide) rfl (Nat.le_of_ble_eq_true rfl) rfl ?_
  rintro _ _ V3 _ ⟨rfl, rfl, rfl, ⟨b0, b1, b2, b3⟩, b4⟩
  refine aw_putF dX3_init_40 flX3_29 (by decide) (by decide) rfl rfl rfl rfl (l2_of (l2_of (l2_of (l2_of (l2_of (l2_of hl)))))) trivial ?_
  refine aw_aload_n dX3_init_43 rfl rfl ?_
  refine aw_iload_n dX3_init_44 rfl rfl ?_
  refine aw_putF dX3_init_45 flX3_32 (by decide) (by decide) rfl rfl rfl rfl (l2_of (l2_of (l2_of (l2_of (l2_of (l2_of hl)))))) trivial ?_
  refine aw_vret dX3_init_48 rfl (by decide) (by decide) ?_
  have e1 : ∀ k, k ≠ 0 → k ≠ 5 → k ≠ 4 → V3 1 i k = s3 (s3 (s3 V 1 i 1 (.inl 20)) 1 i 2 (.inl 15)) 1 i 3 (.inl 0) 1 i k := fun k k0 k5 k4 => by
    rw [b4 _ _ (fun q => by cases q.1) (fun q => by cases q.1) (fun q => by cases q.1), sC_cell (fun q => by cases q.1), s3_ne (fun q => k4 q.2.2), a4 _ _ (fun q => by cases q.1) (fun q => by cases q.1) (fun q => by cases q.1), sC_cell (fun q => by cases q.1)]
  refine ⟨rfl, rfl, rfl, ⟨s3_self _ _ _ _ _, ?_, ?_, ?_, ?_, ?_⟩, fun j hj => ?_, fun σ' i' g1 g2 g3 g4 => ?_⟩
  · rw [s3_ne (fun q => by cases q.2.2), s3_ne (fun q => by cases q.2.2), e1 _ (by decide) (by decide) (by decide), s3_ne (fun q => by cases q.2.2), s3_ne (fun q => by cases q.2.2), s3_self]
  · rw [s3_ne (fun q => by cases q.2.2), s3_ne (fun q => by cases q.2.2), e1 _ (by decide) (by decide) (by decide), s3_ne (fun q => by cases q.2.2), s3_self]
  · rw [s3_ne (fun q => by cases q.2.2), s3_ne (fun q => by cases q.2.2), e1 _ (by decide) (by decide) (by decide), s3_self]
  · rw [s3_ne (fun q => by cases q.2.2), s3_ne (fun q => by cases q.2.2), b4 _ _ (fun q => by cases q.1) (fun q => by cases q.1) (fun q => by cases q.1), sC_cell (fun q => by cases q.1), s3_self]
  · rw [s3_ne (fun q => by cases q.2.2), s3_self]
  · have hcell : ∀ τ, τ ≠ 1 → s3 (s3 V3 1 i 5 (.inr (some (2, 2 * i + 1)))) 1 i 0 (.inl (i : Int)) τ j = V3 τ j := fun τ hτ => by rw [s3_cell (fun q => hτ q.1), s3_cell (fun q => hτ q.1)]
    rw [hcell 2 (by decide), hcell 30 (by decide)]
    rcases hj with rfl | rfl
    · rw [b4 2 (2 * i) (fun q => by omega) (fun q => by cases q.1) (fun q => by cases q.1), b4 30 (2 * i) (fun q => by cases q.1) (fun q => by omega) (fun q => by cases q.1), sC_cell (fun q => by omega), sC_cell (fun q => by cases q.1), s3_cell (fun q => by cases q.1), s3_cell (fun q => by cases q.1)]
      exact ⟨a0, a1, a2, a3⟩
    · exact ⟨b0, b1, b2, b3⟩
  · rw [s3_cell g1, s3_cell g1, b4 _ _ (fun q => g2 ⟨q.1, Or.inr q.2⟩) (fun q => g3 ⟨q.1, Or.inr q.2⟩) (fun q => g4 ⟨q.1, Or.inr q.2⟩), sC_cell (fun q => g2 ⟨q.1, Or.inr q.2⟩), s3_cell g1, a4 _ _ (fun q => g2 ⟨q.1, Or.inl q.2⟩) (fun q => g3 ⟨q.1, Or.inl q.2⟩) (fun q => g4 ⟨q.1, Or.inl q.2⟩), sC_cell (fun q => g2 ⟨q.1, Or.inl q.2⟩), s3_cell g1, s3_cell g1, s3_cell g1]
def PCon (i : Nat) (w f : Int) (lv : Lw) (V : Vw) (sz : Nat) : Pst := fun r lv' V' sz' => r = none ∧ lv' = l2 (l2 (l2 (l2 lv 33 i) 43 i) 34 i) 44 i ∧ sz' = sz + 4 ∧ (V' 7 i 0 = .inl w ∧ V' 7 i 1 = .inl f ∧ V' 7 i 2 = .inr (some (33, i)) ∧ V' 7 i 3 = .inr (some (34, i)) ∧ V' 33 i 0 = .inr (some (43, i)) ∧ V' 33 i 1 = .inl 0 ∧ V' 34 i 0 = .inr (some (44, i)) ∧ V' 34 i 1 = .inl 0) ∧ ∀ σ' i', ¬ (σ' = 7 ∧ i' = i) → ¬ (σ' = 33 ∧ i' = i) → ¬ (σ' = 43 ∧ i' = i) → ¬ (σ' = 34 ∧ i' = i) → ¬ (σ' = 44 ∧ i' = i) → V' σ' i' = V σ' i'
set_option maxRecDepth 100000 in
set_option maxHeartbeats 4000000 in
theorem c_X0_init {i : Nat} {w f : Int} (hl : lv 7 i = true) (h33 : ad 33 i = sz) (h43 : ad 43 i = sz + 1) (h34 : ad 34 i = sz + 1 + 1) (h44 : ad 44 i = sz + 1 + 1 + 1) : CT l D cA A ad yX0_init cX0_init 3 none rm_X0_init [.inr (some (7, i)), .inl w, .inl f] lv V sz (PCon i w f lv V sz) := by
  refine CT.of2 [some (.inr (some (7, i))), some (.inl w), some (.inl f)] (by decide) (Nat.le_of_ble_eq_true rfl) rfl ?_
  refine aw_aload_n dX0_init_0 rfl rfl ?_
  refine aw_objInit dX0_init_1 mlX0_3 (by decide) (by decide) ?_
  refine aw_aload_n dX0_init_4 rfl rfl ?_
  refine aw_new (ci := 2) (σ := 33) (i := i) dX0_init_5 clX0_9 ci_X2 in_X2 (by decide) rfl h33 (by decide) (by decide) ?_
  refine aw_dup dX0_init_8 ?_
  refine aw_bipush dX0_init_9 (by decide) ?_
  refine aw_callI (c_X2_init (σ := 33) (j := i) (τ := 43) (i := i) rfl l2_self rfl (Nat.le_of_ble_eq_true rfl) h43 (by decide)) mv_X2_init mlX0_11 dX0_init_11 (by decide) rfl (Nat.le_of_ble_eq_true rfl) rfl ?_
  rintro _ _ V2 _ ⟨rfl, rfl, rfl, a0, a1, a2⟩
  refine aw_putF dX0_init_14 flX0_14 (by decide) (by decide) rfl rfl rfl rfl (l2_of (l2_of hl)) trivial ?_
  refine aw_aload_n dX0_init_17 rfl rfl ?_
  refine aw_new (ci := 2) (σ := 34) (i := i) dX0_init_18 clX0_9 ci_X2 in_X2 (by decide) rfl h34 (by decide) (by decide) ?_
  refine aw_dup dX0_init_21 ?_
  refine aw_bipush dX0_init_22 (by decide) ?_
  refine aw_callI (c_X2_init (σ := 34) (j := i) (τ := 44) (i := i) rfl l2_self rfl (Nat.le_of_ble_eq_true rfl) h44 (by decide)) mv_X2_init mlX0_11 dX0_init_24 (by decide) rfl (Nat.le_of_ble_eq_true rfl) rfl ?_
  rintro _ _ V3 _ ⟨rfl, rfl, rfl, b0, b1, b2⟩
  refine aw_putF dX0_init_27 flX0_20 (by decide) (by decide) rfl rfl rfl rfl (l2_of (l2_of (l2_of (l2_of hl)))) trivial ?_
  refine aw_aload_n dX0_init_30 rfl rfl ?_
  refine aw_iload_n dX0_init_31 rfl rfl ?_
  refine aw_putF dX0_init_32 flX0_23 (by decide) (by decide) rfl rfl rfl rfl (l2_of (l2_of (l2_of (l2_of hl)))) trivial ?_
  refine aw_aload_n dX0_init_35 rfl rfl ?_
  refine aw_iload_n dX0_init_36 rfl rfl ?_
  refine aw_putF dX0_init_37 flX0_27 (by decide) (by decide) rfl rfl rfl rfl (l2_of (l2_of (l2_of (l2_of hl)))) trivial ?_
  refine aw_vret dX0_init_40 rfl (by decide) (by decide) ?_
  refine ⟨rfl, rfl, rfl, ⟨?_, s3_self _ _ _ _ _, ?_, ?_, ?_, ?_, ?_, ?_⟩, fun σ' i' g1 g2 g3 g4 g5 => ?_⟩
  · rw [s3_ne (fun q => by cases q.2.2), s3_self]
  · rw [s3_ne (fun q => by cases q.2.2), s3_ne (fun q => by cases q.2.2), s3_ne (fun q => by cases q.2.2), b2 _ _ (fun q => by cases q.1) (fun q => by cases q.1), sC_cell (fun q => by cases q.1), s3_self]
  · rw [s3_ne (fun q => by cases q.2.2), s3_ne (fun q => by cases q.2.2), s3_self]
  · rw [s3_cell (fun q => by cases q.1), s3_cell (fun q => by cases q.1), s3_cell (fun q => by cases q.1), b2 _ _ (fun q => by cases q.1) (fun q => by cases q.1), sC_cell (fun q => by cases q.1), s3_cell (fun q => by cases q.1)]; exact a0
  · rw [s3_cell (fun q => by cases q.1), s3_cell (fun q => by cases q.1), s3_cell (fun q => by cases q.1), b2 _ _ (fun q => by cases q.1) (fun q => by cases q.1), sC_cell (fun q => by cases q.1), s3_cell (fun q => by cases q.1)]; exact a1
  · rw [s3_cell (fun q => by cases q.1), s3_cell (fun q => by cases q.1), s3_cell (fun q => by cases q.1)]; exact b0
  · rw [s3_cell (fun q => by cases q.1), s3_cell (fun q => by cases q.1), s3_cell (fun q => by cases q.1)]; exact b1
  · rw [s3_cell g1, s3_cell g1, s3_cell g1, b2 _ _ g4 g5, sC_cell g4, s3_cell g1, a2 _ _ g2 g3, sC_cell g2]
def PShp (i : Nat) (x w m g d sl t : Int) (lv : Lw) (V : Vw) (sz : Nat) : Pst := fun r lv' V' sz' => r = none ∧ lv' = l2 lv 6 i ∧ sz' = sz + 1 ∧ (V' 5 i 0 = .inl x ∧ V' 5 i 1 = .inl w ∧ V' 5 i 2 = .inl m ∧ V' 5 i 3 = .inl g ∧ V' 5 i 4 = .inl d ∧ V' 5 i 5 = .inl sl ∧ V' 5 i 6 = .inl t ∧ V' 5 i 7 = .inr (some (6, i)) ∧ V' 5 i 8 = .inl (-1) ∧ V' 5 i 9 = .inl 0 ∧ V' 5 i 10 = .inl 0 ∧ V' 5 i 11 = .inl 0 ∧ V' 5 i 12 = .inl (-4) ∧ V' 5 i 13 = .inl (-4) ∧ V' 5 i 14 = .inl (-4) ∧ V' 5 i 15 = .inl 0) ∧ (∀ k, V' 6 i k = .inl 0) ∧ ∀ σ' i', ¬ (σ' = 5 ∧ i' = i) → ¬ (σ' = 6 ∧ i' = i) → V' σ' i' = V σ' i'
set_option maxRecDepth 100000 in
set_option maxHeartbeats 4000000 in
theorem c_X4_init {i : Nat} {x w m g d sl t : Int} (hl : lv 5 i = true) (hg : g = 0 ∨ g = 1) (hsl : sl = 0 ∨ sl = 1) (h6 : ad 6 i = sz) : CT l D cA A ad yX4_init cX4_init 8 none rm_X4_init [.inr (some (5, i)), .inl x, .inl w, .inl m, .inl g, .inl d, .inl sl, .inl t] lv V sz (PShp i x w m g d sl t lv V sz) := by
  refine CT.of2 [some (.inr (some (5, i))), some (.inl x), some (.inl w), some (.inl m), some (.inl g), some (.inl d), some (.inl sl), some (.inl t)] (by decide) (Nat.le_of_ble_eq_true rfl) rfl ?_
  refine aw_aload_n dX4_init_0 rfl rfl ?_
  refine aw_objInit dX4_init_1 mlX4_3 (by decide) (by decide) ?_
  refine aw_aload_n dX4_init_4 rfl rfl ?_
  refine aw_bipush dX4_init_5 (by decide) ?_
  refine aw_newa (σ := 6) (i := i) (t := 0) dX4_init_7 rfl ac_int (by decide) rfl rfl h6 (by decide) (Nat.le_of_ble_eq_true rfl) ?_
  refine aw_putF dX4_init_9 flX4_9 (by decide) (by decide) rfl rfl rfl rfl (l2_of hl) trivial ?_
  refine aw_aload_n dX4_init_12 rfl rfl ?_
  refine aw_iconst dX4_init_13 ?_
  refine aw_put dX4_init_14 flX4_15 (by decide) (by decide) rfl rfl (l2_of hl) trivial ?_
  refine aw_aload_n dX4_init_17 rfl rfl ?_
  refine aw_iconst dX4_init_18 ?_
  refine aw_put dX4_init_19 flX4_19 (by decide) (by decide) rfl rfl (l2_of hl) trivial ?_
  refine aw_aload_n dX4_init_22 rfl rfl ?_
  refine aw_iconst dX4_init_23 ?_
  refine aw_put dX4_init_24 flX4_22 (by decide) (by decide) rfl rfl (l2_of hl) (Or.inl rfl) ?_
  refine aw_aload_n dX4_init_27 rfl rfl ?_
  refine aw_iconst dX4_init_28 ?_
  refine aw_put dX4_init_29 flX4_26 (by decide) (by decide) rfl rfl (l2_of hl) (Or.inl rfl) ?_
  refine aw_aload_n dX4_init_32 rfl rfl ?_
  refine aw_bipush dX4_init_33 (by decide) ?_
  refine aw_put dX4_init_35 flX4_29 (by decide) (by decide) rfl rfl (l2_of hl) trivial ?_
  refine aw_aload_n dX4_init_38 rfl rfl ?_
  refine aw_bipush dX4_init_39 (by decide) ?_
  refine aw_put dX4_init_41 flX4_32 (by decide) (by decide) rfl rfl (l2_of hl) trivial ?_
  refine aw_aload_n dX4_init_44 rfl rfl ?_
  refine aw_bipush dX4_init_45 (by decide) ?_
  refine aw_put dX4_init_47 flX4_35 (by decide) (by decide) rfl rfl (l2_of hl) trivial ?_
  refine aw_aload_n dX4_init_50 rfl rfl ?_
  refine aw_iconst dX4_init_51 ?_
  refine aw_put dX4_init_52 flX4_38 (by decide) (by decide) rfl rfl (l2_of hl) trivial ?_
  refine aw_aload_n dX4_init_55 rfl rfl ?_
  refine aw_iload_n dX4_init_56 rfl rfl ?_
  refine aw_putF dX4_init_57 flX4_41 (by decide) (by decide) rfl rfl rfl rfl (l2_of hl) trivial ?_
  refine aw_aload_n dX4_init_60 rfl rfl ?_
  refine aw_iload_n dX4_init_61 rfl rfl ?_
  refine aw_putF dX4_init_62 flX4_44 (by decide) (by decide) rfl rfl rfl rfl (l2_of hl) trivial ?_
  refine aw_aload_n dX4_init_65 rfl rfl ?_
  refine aw_iload_n dX4_init_66 rfl rfl ?_
  refine aw_putF dX4_init_67 flX4_47 (by decide) (by decide) rfl rfl rfl rfl (l2_of hl) trivial ?_
  refine aw_aload_n dX4_init_70 rfl rfl ?_
  refine aw_iload dX4_init_71 rfl ?_
  refine aw_putF dX4_init_73 flX4_50 (by decide) (by decide) rfl rfl rfl rfl (l2_of hl) hg ?_
  refine aw_aload_n dX4_init_76 rfl rfl ?_
  refine aw_iload dX4_init_77 rfl ?_
  refine aw_putF dX4_init_79 flX4_53 (by decide) (by decide) rfl rfl rfl rfl (l2_of hl) trivial ?_
  refine aw_aload_n dX4_init_82 rfl rfl ?_
  refine aw_iload dX4_init_83 rfl ?_
  refine aw_putF dX4_init_85 flX4_56 (by decide) (by decide) rfl rfl rfl rfl (l2_of hl) hsl ?_
  refine aw_aload_n dX4_init_88 rfl rfl ?_
  refine aw_iload dX4_init_89 rfl ?_
  refine aw_putF dX4_init_91 flX4_59 (by decide) (by decide) rfl rfl rfl rfl (l2_of hl) trivial ?_
  refine aw_vret dX4_init_94 rfl (by decide) (Nat.le_of_ble_eq_true rfl) ?_
  refine ⟨rfl, rfl, rfl, ⟨?_, ?_, ?_, ?_, ?_, ?_, ?_, ?_, ?_, ?_, ?_, ?_, ?_, ?_, ?_, ?_⟩, fun k => ?_, fun σ' i' g1 g2 => ?_⟩
  · rw [s3_ne (fun q => by cases q.2.2), s3_ne (fun q => by cases q.2.2), s3_ne (fun q => by cases q.2.2), s3_ne (fun q => by cases q.2.2), s3_ne (fun q => by cases q.2.2), s3_ne (fun q => by cases q.2.2)]; exact s3_self _ _ _ _ _
  · rw [s3_ne (fun q => by cases q.2.2), s3_ne (fun q => by cases q.2.2), s3_ne (fun q => by cases q.2.2), s3_ne (fun q => by cases q.2.2), s3_ne (fun q => by cases q.2.2)]; exact s3_self _ _ _ _ _
  · rw [s3_ne (fun q => by cases q.2.2), s3_ne (fun q => by cases q.2.2), s3_ne (fun q => by cases q.2.2), s3_ne (fun q => by cases q.2.2)]; exact s3_self _ _ _ _ _
  · rw [s3_ne (fun q => by cases q.2.2), s3_ne (fun q => by cases q.2.2), s3_ne (fun q => by cases q.2.2)]; exact s3_self _ _ _ _ _
  · rw [s3_ne (fun q => by cases q.2.2), s3_ne (fun q => by cases q.2.2)]; exact s3_self _ _ _ _ _
  · rw [s3_ne (fun q => by cases q.2.2)]; exact s3_self _ _ _ _ _
  · exact s3_self _ _ _ _ _
  · rw [s3_ne (fun q => by cases q.2.2), s3_ne (fun q => by cases q.2.2), s3_ne (fun q => by cases q.2.2), s3_ne (fun q => by cases q.2.2), s3_ne (fun q => by cases q.2.2), s3_ne (fun q => by cases q.2.2), s3_ne (fun q => by cases q.2.2), s3_ne (fun q => by cases q.2.2), s3_ne (fun q => by cases q.2.2), s3_ne (fun q => by cases q.2.2), s3_ne (fun q => by cases q.2.2), s3_ne (fun q => by cases q.2.2), s3_ne (fun q => by cases q.2.2), s3_ne (fun q => by cases q.2.2), s3_ne (fun q => by cases q.2.2)]; exact s3_self _ _ _ _ _
  · rw [s3_ne (fun q => by cases q.2.2), s3_ne (fun q => by cases q.2.2), s3_ne (fun q => by cases q.2.2), s3_ne (fun q => by cases q.2.2), s3_ne (fun q => by cases q.2.2), s3_ne (fun q => by cases q.2.2), s3_ne (fun q => by cases q.2.2), s3_ne (fun q => by cases q.2.2), s3_ne (fun q => by cases q.2.2), s3_ne (fun q => by cases q.2.2), s3_ne (fun q => by cases q.2.2), s3_ne (fun q => by cases q.2.2), s3_ne (fun q => by cases q.2.2), s3_ne (fun q => by cases q.2.2)]; exact s3_self _ _ _ _ _
  · rw [s3_ne (fun q => by cases q.2.2), s3_ne (fun q => by cases q.2.2), s3_ne (fun q => by cases q.2.2), s3_ne (fun q => by cases q.2.2), s3_ne (fun q => by cases q.2.2), s3_ne (fun q => by cases q.2.2), s3_ne (fun q => by cases q.2.2), s3_ne (fun q => by cases q.2.2), s3_ne (fun q => by cases q.2.2), s3_ne (fun q => by cases q.2.2), s3_ne (fun q => by cases q.2.2), s3_ne (fun q => by cases q.2.2), s3_ne (fun q => by cases q.2.2)]; exact s3_self _ _ _ _ _
  · rw [s3_ne (fun q => by cases q.2.2), s3_ne (fun q => by cases q.2.2), s3_ne (fun q => by cases q.2.2), s3_ne (fun q => by cases q.2.2), s3_ne (fun q => by cases q.2.2), s3_ne (fun q => by cases q.2.2), s3_ne (fun q => by cases q.2.2), s3_ne (fun q => by cases q.2.2), s3_ne (fun q => by cases q.2.2), s3_ne (fun q => by cases q.2.2), s3_ne (fun q => by cases q.2.2), s3_ne (fun q => by cases q.2.2)]; exact s3_self _ _ _ _ _
  · rw [s3_ne (fun q => by cases q.2.2), s3_ne (fun q => by cases q.2.2), s3_ne (fun q => by cases q.2.2), s3_ne (fun q => by cases q.2.2), s3_ne (fun q => by cases q.2.2), s3_ne (fun q => by cases q.2.2), s3_ne (fun q => by cases q.2.2), s3_ne (fun q => by cases q.2.2), s3_ne (fun q => by cases q.2.2), s3_ne (fun q => by cases q.2.2), s3_ne (fun q => by cases q.2.2)]; exact s3_self _ _ _ _ _
  · rw [s3_ne (fun q => by cases q.2.2), s3_ne (fun q => by cases q.2.2), s3_ne (fun q => by cases q.2.2), s3_ne (fun q => by cases q.2.2), s3_ne (fun q => by cases q.2.2), s3_ne (fun q => by cases q.2.2), s3_ne (fun q => by cases q.2.2), s3_ne (fun q => by cases q.2.2), s3_ne (fun q => by cases q.2.2), s3_ne (fun q => by cases q.2.2)]; exact s3_self _ _ _ _ _
  · rw [s3_ne (fun q => by cases q.2.2), s3_ne (fun q => by cases q.2.2), s3_ne (fun q => by cases q.2.2), s3_ne (fun q => by cases q.2.2), s3_ne (fun q => by cases q.2.2), s3_ne (fun q => by cases q.2.2), s3_ne (fun q => by cases q.2.2), s3_ne (fun q => by cases q.2.2), s3_ne (fun q => by cases q.2.2)]; exact s3_self _ _ _ _ _
  · rw [s3_ne (fun q => by cases q.2.2), s3_ne (fun q => by cases q.2.2), s3_ne (fun q => by cases q.2.2), s3_ne (fun q => by cases q.2.2), s3_ne (fun q => by cases q.2.2), s3_ne (fun q => by cases q.2.2), s3_ne (fun q => by cases q.2.2), s3_ne (fun q => by cases q.2.2)]; exact s3_self _ _ _ _ _
  · rw [s3_ne (fun q => by cases q.2.2), s3_ne (fun q => by cases q.2.2), s3_ne (fun q => by cases q.2.2), s3_ne (fun q => by cases q.2.2), s3_ne (fun q => by cases q.2.2), s3_ne (fun q => by cases q.2.2), s3_ne (fun q => by cases q.2.2)]; exact s3_self _ _ _ _ _
  · rw [s3_cell (fun q => by cases q.1), s3_cell (fun q => by cases q.1), s3_cell (fun q => by cases q.1), s3_cell (fun q => by cases q.1), s3_cell (fun q => by cases q.1), s3_cell (fun q => by cases q.1), s3_cell (fun q => by cases q.1), s3_cell (fun q => by cases q.1), s3_cell (fun q => by cases q.1), s3_cell (fun q => by cases q.1), s3_cell (fun q => by cases q.1), s3_cell (fun q => by cases q.1), s3_cell (fun q => by cases q.1), s3_cell (fun q => by cases q.1), s3_cell (fun q => by cases q.1), s3_cell (fun q => by cases q.1), sC_self]
  · rw [s3_cell g1, s3_cell g1, s3_cell g1, s3_cell g1, s3_cell g1, s3_cell g1, s3_cell g1, s3_cell g1, s3_cell g1, s3_cell g1, s3_cell g1, s3_cell g1, s3_cell g1, s3_cell g1, s3_cell g1, s3_cell g1, sC_cell g2]
end CLS10
