section CLS8
variable {l : Launch} {D : va_G} {cA : Nat → ClassId} {A : Nat → Prop} {ad : Ad} {ns nc : Int} {V : Vw} {sz : Nat} {S : SS}
theorem src_21 {S : SS} {σ i k : Nat} {b : Bool} {x : Int} (hd : okd S σ i k) : src σ i k ≠ some (b, 21, x) := fun h => by
  have h1 := src_inv hd h
  simp only [inv, Prod.mk.injEq] at h1
  obtain ⟨rfl, rfl, rfl⟩ := h1
  exact hd
theorem RC.no21 {T : SS} (hC : RC ns nc S V) (h : ∀ k, k ≠ 21 → ∀ x, T k x = S k x) : RC ns nc T V := by
  refine ⟨fun σ i k hd => ?_, by rw [h 8 (by decide)]; exact hC.2.1, by rw [h 24 (by decide)]; exact hC.2.2⟩
  rw [okd_congr (h 8 (by decide) 0) (h 24 (by decide) 0) (h 27 (by decide)) (h 29 (by decide)) (h 31 (by decide)) (h 33 (by decide))] at hd
  rw [hC.1 _ _ _ hd]
  exact (toC_eq (fun b K x hs => h K (fun e => src_21 (b := b) (x := x) hd (by subst e; exact hs)) x)).symm
/-- a minute is safe, for both -/
def okTC (S : SS) : Prop := BB S ∧ okS S ∧ okV S ∧ BB (mt1 S) ∧ okLs (mt1 S) ∧ (∀ n : Nat, (n : Int) < mt1 S 8 0 → lts (mt1 S) n 22 n < mt1 S 24 0) ∧ (∀ n : Nat, n < 8 → okMC (7 - n) 0 (mvN (mt2 S) n 33 (2 * ((7 - n : Nat) : Int) + 0)).toNat (mvN (mt2 S) n) 0 false) ∧ (∀ n : Nat, n < 8 → okMC n 1 (mvS (mt3 S) n 33 (2 * (n : Int) + 1)).toNat (mvS (mt3 S) n) 0 false) ∧ CI (mt4 S) ∧ (mt4 S 31 0 ≠ 0 → ∀ s : Nat, mt4 S 32 0 = s → mt4 S 9 s = 0) ∧ CI (mt5 S) ∧ (mt5 S 31 1 ≠ 0 → ∀ s : Nat, mt5 S 32 30 = s → mt5 S 9 s = 1) ∧ BB (mt6 S) ∧ (∀ x, mt6 S 0 x = S 0 x) ∧ ∀ x, mt6 S 8 x = S 8 x
theorem okTC.ok {S : SS} (h : okTC S) : okT S := by
  obtain ⟨a1, a2, a3, a4, a5, a6, a7, a8, a9, a10, a11, a12, a13, a14, a15⟩ := h
  exact ⟨a1, a2, a4, a5, fun n hn => (a7 n hn).ok, fun n hn => (a8 n hn).ok, a9.1, a11.1, a13, a14, a15⟩
set_option maxRecDepth 100000 in
set_option maxHeartbeats 4000000 in
theorem lp_X5_minutes {S9 : SS} {n : Int} (hn : 0 ≤ n ∧ n ≤ 300) (hok : ∀ j : Nat, j < n.toNat → okTC (mts S j)) (h9 : S9 = mts S n.toNat) : ∀ (f k : Nat) (V : Vw), k + f = n.toNat → RC ns nc (mts S k) V → AW l D cA A ad yX5_minutes cX5_minutes 3 (some .int) rm_X5_minutes (PC (some (.inl (S9 0 0))) ns nc S9 sz) 0 0 (lvC ns nc) V sz 30 [some (.inr (some (0, 0))), some (.inl n), some (.inl (k : Int))] [] := by
  intro f
  induction f with
  | zero =>
    intro k V hk hC
    have hR := hC.1
    refine aw_iload_n dX5_minutes_30 rfl rfl ?_
    refine aw_iload_n dX5_minutes_31 rfl rfl ?_
    refine aw_icmp_ge (tgt := 79) dX5_minutes_32 (by decide) (by omega) (by omega) (fun c_32 => ?_) (fun c_32 => absurd c_32 (by omega))
    refine aw_aload_n dX5_minutes_79 rfl rfl ?_
    refine aw_get dX5_minutes_80 flX5_53 (by decide) (by decide) rfl rfl (rc_0_10 hR) ?_
    refine aw_iret dX5_minutes_83 rfl (Nat.zero_le _) (Nat.zero_le _) ?_
    rw [h9, show n.toNat = k by omega]
    exact ⟨rfl, rfl, rfl, hC⟩
  | succ f ih =>
    intro k V hk hC
    have ih2 := fun V hC => ih (k + 1) V (by omega) hC
    have hokk := hok k (by omega)
    rw [show mts S (k + 1) = mt (mts S k) from rfl] at ih2
    generalize mts S k = T at hC hokk ih2
    obtain ⟨hB, o1, o2, hB1, o3, o4, o5, o6, c4, l4, c5, l5, b6, e0, e8⟩ := hokk
    obtain ⟨hR, h8, h24⟩ := id hC
    have hm := hB.m
    simp only [bsm] at hm
    have q1 : sts T nc.toNat = mt1 T := by rw [mt1, h24]
    have q2 : lts (mt1 T) ns.toNat = mt2 T := by rw [mt2, h8]
    refine aw_iload_n dX5_minutes_30 rfl rfl ?_
    refine aw_iload_n dX5_minutes_31 rfl rfl ?_
    refine aw_icmp_ge (tgt := 79) dX5_minutes_32 (by decide) (by omega) (by omega) (fun c_32 => absurd c_32 (by omega)) (fun c_32 => ?_)
    refine aw_aload_n dX5_minutes_35 rfl rfl ?_
    refine aw_callV (c_X5_startConvoys hB o1 o2 hC) mv_X5_startConvoys mlX5_132 dX5_minutes_36 rfl rfl (by decide) rfl (Nat.le_of_ble_eq_true rfl) rfl ?_
    rintro _ _ _ _ ⟨rfl, rfl, rfl, hC⟩
    rw [q1] at hC
    refine aw_aload_n dX5_minutes_39 rfl rfl ?_
    refine aw_callV (c_X5_findLateShips hB1 o3 o4 hC) mv_X5_findLateShips mlX5_135 dX5_minutes_40 rfl rfl (by decide) rfl (Nat.le_of_ble_eq_true rfl) rfl ?_
    rintro _ _ _ _ ⟨rfl, rfl, rfl, hC⟩
    rw [q2] at hC
    refine aw_aload_n dX5_minutes_43 rfl rfl ?_
    refine aw_iconst dX5_minutes_44 ?_
    refine aw_callV (c0_X5_moveShips o5 hC) mv_X5_moveShips mlX5_138 dX5_minutes_45 rfl rfl (by decide) rfl (Nat.le_of_ble_eq_true rfl) rfl ?_
    rintro _ _ _ _ ⟨rfl, rfl, rfl, hC⟩
    have hC : RC ns nc (mt3 T) _ := hC
    refine aw_aload_n dX5_minutes_48 rfl rfl ?_
    refine aw_iconst dX5_minutes_49 ?_
    refine aw_callV (c1_X5_moveShips o6 hC) mv_X5_moveShips mlX5_138 dX5_minutes_50 rfl rfl (by decide) rfl (Nat.le_of_ble_eq_true rfl) rfl ?_
    rintro _ _ _ _ ⟨rfl, rfl, rfl, hC⟩
    have hC : RC ns nc (mt4 T) _ := hC
    refine aw_aload_n dX5_minutes_53 rfl rfl ?_
    refine aw_iconst dX5_minutes_54 ?_
    refine aw_callV (c0_X5_letFirstIn c4 hC l4) mv_X5_letFirstIn mlX5_141 dX5_minutes_55 rfl rfl (by decide) rfl (Nat.le_of_ble_eq_true rfl) rfl ?_
    rintro _ _ _ _ ⟨rfl, rfl, rfl, hC⟩
    have hC : RC ns nc (mt5 T) _ := hC
    refine aw_aload_n dX5_minutes_58 rfl rfl ?_
    refine aw_iconst dX5_minutes_59 ?_
    refine aw_callV (c1_X5_letFirstIn c5 hC l5) mv_X5_letFirstIn mlX5_141 dX5_minutes_60 rfl rfl (by decide) rfl (Nat.le_of_ble_eq_true rfl) rfl ?_
    rintro _ _ _ _ ⟨rfl, rfl, rfl, hC⟩
    have hC : RC ns nc (mt6 T) _ := hC
    have hR := hC.1
    refine aw_aload_n dX5_minutes_63 rfl rfl ?_
    refine aw_dup dX5_minutes_64 ?_
    refine aw_get dX5_minutes_65 flX5_53 (by decide) (by decide) rfl rfl ((rc_0_10 hR).trans (congrArg Sum.inl (e0 0))) ?_
    refine aw_iconst dX5_minutes_68 ?_
    refine aw_iadd dX5_minutes_69 ?_
    refine aw_put dX5_minutes_70 flX5_53 (by decide) (by decide) rfl rfl rfl trivial ?_
    have hC : RC ns nc (mt T) _ := (hC.set (T 0 0 + 1) (show src 0 0 10 = some (false, 0, 0) from rfl) (by decide) (And.intro rfl (by decide))).no21 (T := mt T) (fun k hk x => by simp only [mt, u2]; rw [agd_ne hk])
    refine aw_iinc dX5_minutes_73 rfl (by decide) ?_
    refine aw_goto (tgt := 30) dX5_minutes_76 (by decide) ?_
    exact AW.lss (ih2 _ hC) (And.intro rfl (And.intro rfl (And.intro rfl trivial)))
set_option maxRecDepth 100000 in
set_option maxHeartbeats 4000000 in
theorem c_X5_minutes {n : Int} (hB : BB S) (hC : RC ns nc S V) (hn : Rg n) (hok : 1 ≤ n ∧ n ≤ 300 → S 0 0 + n ≤ 10000 → ∀ j : Nat, j < n.toNat → okTC (mts S j)) : CT l D cA A ad yX5_minutes cX5_minutes 3 (some .int) rm_X5_minutes [.inr (some (0, 0)), .inl n] (lvC ns nc) V sz (PC (some (.inl (opMin S n).1)) ns nc (opMin S n).2 sz) := by
  refine CT.of2 [some (.inr (some (0, 0))), some (.inl n), none] (by decide) (Nat.le_of_ble_eq_true rfl) rfl ?_
  obtain ⟨hR, h8, h24⟩ := id hC
  have hm := hB.m
  simp only [bsm] at hm
  refine aw_iload_n dX5_minutes_0 rfl rfl ?_
  refine aw_iconst dX5_minutes_1 ?_
  refine aw_sipush dX5_minutes_2 (by decide) ?_
  refine aw_callS (c_X5_within (by omega) (by omega) (by omega)) mv_X5_within mlX5_61 dX5_minutes_5 (by decide) rfl (Nat.le_of_ble_eq_true rfl) rfl ?_
  rintro _ _ _ _ ⟨⟨rfl, h1⟩ | ⟨rfl, h1⟩, rfl, rfl, rfl⟩
  · refine aw_if_ne (tgt := 13) dX5_minutes_8 (by decide) (by omega) (fun _ => ?_) (fun c_8 => absurd c_8 (by decide))
    refine aw_aload_n dX5_minutes_13 rfl rfl ?_
    refine aw_get dX5_minutes_14 flX5_53 (by decide) (by decide) rfl rfl (rc_0_10 hR) ?_
    refine aw_iload_n dX5_minutes_17 rfl rfl ?_
    refine aw_iadd dX5_minutes_18 ?_
    refine aw_sipush dX5_minutes_19 (by decide) ?_
    refine aw_icmp_le (tgt := 28) dX5_minutes_22 (by decide) (by omega) (by omega) (fun c_22 => ?_) (fun c_22 => ?_)
    · refine aw_iconst dX5_minutes_28 ?_
      refine aw_istore_n dX5_minutes_29 rfl (by decide) ?_
      have e : opMin S n = (mts S n.toNat 0 0, mts S n.toNat) := by
        unfold opMin
        rw [if_neg (by omega), if_neg (by omega)]
      rw [e]
      exact AW.lss (lp_X5_minutes (by omega) (hok (by omega) (by omega)) rfl n.toNat 0 _ (by omega) hC) (And.intro rfl (And.intro rfl (And.intro rfl trivial)))
    · refine aw_bipush dX5_minutes_25 (by decide) ?_
      refine aw_iret dX5_minutes_27 rfl (Nat.zero_le _) (Nat.zero_le _) ?_
      have e : opMin S n = (-3, S) := by
        unfold opMin
        repeat (first | rw [if_pos (by omega)] | rw [if_neg (by omega)])
      rw [e]
      exact ⟨rfl, rfl, rfl, hC⟩
  · refine aw_if_ne (tgt := 13) dX5_minutes_8 (by decide) (by omega) (fun c_8 => absurd c_8 (by decide)) (fun _ => ?_)
    refine aw_iconst dX5_minutes_11 ?_
    refine aw_iret dX5_minutes_12 rfl (Nat.zero_le _) (Nat.zero_le _) ?_
    have e : opMin S n = (-1, S) := by
      unfold opMin
      repeat (first | rw [if_pos (by omega)] | rw [if_neg (by omega)])
    rw [e]
    exact ⟨rfl, rfl, rfl, hC⟩
end CLS8
