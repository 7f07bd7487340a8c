section CLS9
variable {l : Launch} {D : va_G} {cA : Nat → ClassId} {A : Nat → Prop} {ad : Ad} {ns nc : Int} {V : Vw} {sz : Nat} {S : SS}
set_option maxRecDepth 100000 in
set_option maxHeartbeats 4000000 in
theorem c_X5_section {s ln d b : Int} (hB : BB S) (hC : RC ns nc S V) (hs : Rg s) (hl : Rg ln) (hd : Rg d) (hb : b = 0 ∨ b = 1) : CT l D cA A ad yX5_section cX5_section 6 (some .int) rm_X5_section [.inr (some (0, 0)), .inl s, .inl ln, .inl d, .inl b] (lvC ns nc) V sz (PC (some (.inl (opSec S s ln d b).1)) ns nc (opSec S s ln d b).2 sz) := by
  refine CT.of2 [some (.inr (some (0, 0))), some (.inl s), some (.inl ln), some (.inl d), some (.inl b), none] (by decide) (Nat.le_of_ble_eq_true rfl) rfl ?_
  obtain ⟨hR, h8, h24⟩ := id hC
  have hm := hB.m
  simp only [bsm] at hm
  by_cases hin : 0 ≤ s ∧ s ≤ 7
  · obtain ⟨i, rfl⟩ : ∃ i : Nat, s = (i : Int) := ⟨s.toNat, by omega⟩
    refine aw_aload_n dX5_section_0 rfl rfl ?_
    refine aw_iload_n dX5_section_1 rfl rfl ?_
    refine aw_callV (c_X5_sectionAt (sec := i) hC (by omega)) mv_X5_sectionAt mlX5_57 dX5_section_2 rfl rfl (by decide) rfl (Nat.le_of_ble_eq_true rfl) rfl ?_
    rintro _ _ _ _ ⟨rfl, rfl, rfl, rfl⟩
    refine aw_astore dX5_section_5 (by decide) ?_
    refine aw_aload dX5_section_7 rfl ?_
    refine aw_ifnull_S dX5_section_9 ?_
    refine aw_iload_n dX5_section_12 rfl rfl ?_
    refine aw_iconst dX5_section_13 ?_
    refine aw_bipush dX5_section_14 (by decide) ?_
    refine aw_callS (c_X5_within (by omega) (by omega) (by omega)) mv_X5_within mlX5_61 dX5_section_16 (by decide) rfl (Nat.le_of_ble_eq_true rfl) rfl ?_
    rintro _ _ _ _ ⟨⟨rfl, h2⟩ | ⟨rfl, h2⟩, rfl, rfl, rfl⟩
    · refine aw_if_eq (tgt := 32) dX5_section_19 (by decide) (by omega) (fun c_19 => absurd c_19 (by decide)) (fun _ => ?_)
      refine aw_iload_n dX5_section_22 rfl rfl ?_
      refine aw_iconst dX5_section_23 ?_
      refine aw_bipush dX5_section_24 (by decide) ?_
      refine aw_callS (c_X5_within (by omega) (by omega) (by omega)) mv_X5_within mlX5_61 dX5_section_26 (by decide) rfl (Nat.le_of_ble_eq_true rfl) rfl ?_
      rintro _ _ _ _ ⟨⟨rfl, h3⟩ | ⟨rfl, h3⟩, rfl, rfl, rfl⟩
      · refine aw_if_ne (tgt := 34) dX5_section_29 (by decide) (by omega) (fun _ => ?_) (fun c_29 => absurd c_29 (by decide))
        refine aw_aload_n dX5_section_34 rfl rfl ?_
        refine aw_get dX5_section_35 flX5_53 (by decide) (by decide) rfl rfl (rc_0_10 hR) ?_
        refine aw_if_le (tgt := 44) dX5_section_38 (by decide) (by omega) (fun c_38 => ?_) (fun c_38 => ?_)
        · refine aw_aload dX5_section_44 rfl ?_
          refine aw_iload_n dX5_section_46 rfl rfl ?_
          refine aw_putN dX5_section_47 fnX5_65 (by decide) (by decide) rfl rfl (decide_eq_true (show i < 8 by omega)) trivial ?_
          have hC : RC ns nc _ _ := hC.set (ln) (show src 1 i 1 = some (false, 3, (i : Int)) from rfl) (by decide) (And.intro (show i < 8 by omega) (by decide))
          refine aw_aload dX5_section_50 rfl ?_
          refine aw_iload_n dX5_section_52 rfl rfl ?_
          refine aw_putN dX5_section_53 fnX5_68 (by decide) (by decide) rfl rfl (decide_eq_true (show i < 8 by omega)) trivial ?_
          have hC : RC ns nc _ _ := hC.set (d) (show src 1 i 2 = some (false, 4, (i : Int)) from rfl) (by decide) (And.intro (show i < 8 by omega) (by decide))
          refine aw_aload dX5_section_56 rfl ?_
          refine aw_iload dX5_section_58 rfl ?_
          refine aw_putN dX5_section_60 fnX5_71 (by decide) (by decide) rfl rfl (decide_eq_true (show i < 8 by omega)) hb ?_
          have hC : RC ns nc _ _ := hC.set (b) (show src 1 i 3 = some (false, 5, (i : Int)) from rfl) (by decide) (And.intro (show i < 8 by omega) (by decide))
          refine aw_iconst dX5_section_63 ?_
          refine aw_iret dX5_section_64 rfl (Nat.zero_le _) (Nat.zero_le _) ?_
          have e : opSec S (i : Int) ln d b = (0, u2 (u2 (u2 S 3 i ln) 4 i d) 5 i b) := by
            unfold opSec
            repeat (first | rw [if_pos (by omega)] | rw [if_neg (by omega)])
          rw [e]
          exact ⟨rfl, rfl, rfl, hC⟩
        · refine aw_bipush dX5_section_41 (by decide) ?_
          refine aw_iret dX5_section_43 rfl (Nat.zero_le _) (Nat.zero_le _) ?_
          have e : opSec S (i : Int) ln d b = (-2, S) := by
            unfold opSec
            repeat (first | rw [if_pos (by omega)] | rw [if_neg (by omega)])
          rw [e]
          exact ⟨rfl, rfl, rfl, hC⟩
      · refine aw_if_ne (tgt := 34) dX5_section_29 (by decide) (by omega) (fun c_29 => absurd c_29 (by decide)) (fun _ => ?_)
        refine aw_iconst dX5_section_32 ?_
        refine aw_iret dX5_section_33 rfl (Nat.zero_le _) (Nat.zero_le _) ?_
        have e : opSec S (i : Int) ln d b = (-1, S) := by
          unfold opSec
          repeat (first | rw [if_pos (by omega)] | rw [if_neg (by omega)])
        rw [e]
        exact ⟨rfl, rfl, rfl, hC⟩
    · refine aw_if_eq (tgt := 32) dX5_section_19 (by decide) (by omega) (fun _ => ?_) (fun c_19 => absurd c_19 (by decide))
      refine aw_iconst dX5_section_32 ?_
      refine aw_iret dX5_section_33 rfl (Nat.zero_le _) (Nat.zero_le _) ?_
      have e : opSec S (i : Int) ln d b = (-1, S) := by
        unfold opSec
        repeat (first | rw [if_pos (by omega)] | rw [if_neg (by omega)])
      rw [e]
      exact ⟨rfl, rfl, rfl, hC⟩
  · refine aw_aload_n dX5_section_0 rfl rfl ?_
    refine aw_iload_n dX5_section_1 rfl rfl ?_
    refine aw_callV (c_X5_sectionAt_out hs (by omega)) mv_X5_sectionAt mlX5_57 dX5_section_2 rfl rfl (by decide) rfl (Nat.le_of_ble_eq_true rfl) rfl ?_
    rintro _ _ _ _ ⟨rfl, rfl, rfl, rfl⟩
    refine aw_astore dX5_section_5 (by decide) ?_
    refine aw_aload dX5_section_7 rfl ?_
    refine aw_ifnull_N (tgt := 32) dX5_section_9 (by decide) ?_
    refine aw_iconst dX5_section_32 ?_
    refine aw_iret dX5_section_33 rfl (Nat.zero_le _) (Nat.zero_le _) ?_
    have e : opSec S s ln d b = (-1, S) := by
      unfold opSec
      repeat (first | rw [if_pos (by omega)] | rw [if_neg (by omega)])
    rw [e]
    exact ⟨rfl, rfl, rfl, hC⟩
set_option maxRecDepth 100000 in
set_option maxHeartbeats 4000000 in
theorem c_X5_tide {h v : Int} (hB : BB S) (hC : RC ns nc S V) (hh : Rg h) (hv : Rg v) : CT l D cA A ad yX5_tide cX5_tide 4 (some .int) rm_X5_tide [.inr (some (0, 0)), .inl h, .inl v] (lvC ns nc) V sz (PC (some (.inl (opTide S h v).1)) ns nc (opTide S h v).2 sz) := by
  refine CT.of2 [some (.inr (some (0, 0))), some (.inl h), some (.inl v), none] (by decide) (Nat.le_of_ble_eq_true rfl) rfl ?_
  obtain ⟨hR, h8, h24⟩ := id hC
  have hm := hB.m
  simp only [bsm] at hm
  refine aw_iload_n dX5_tide_0 rfl rfl ?_
  refine aw_iconst dX5_tide_1 ?_
  refine aw_bipush dX5_tide_2 (by decide) ?_
  refine aw_callS (c_X5_within (by omega) (by omega) (by omega)) mv_X5_within mlX5_61 dX5_tide_4 (by decide) rfl (Nat.le_of_ble_eq_true rfl) rfl ?_
  rintro _ _ _ _ ⟨⟨rfl, h1⟩ | ⟨rfl, h1⟩, rfl, rfl, rfl⟩
  · refine aw_if_eq (tgt := 20) dX5_tide_7 (by decide) (by omega) (fun c_7 => absurd c_7 (by decide)) (fun _ => ?_)
    refine aw_iload_n dX5_tide_10 rfl rfl ?_
    refine aw_iconst dX5_tide_11 ?_
    refine aw_bipush dX5_tide_12 (by decide) ?_
    refine aw_callS (c_X5_within (by omega) (by omega) (by omega)) mv_X5_within mlX5_61 dX5_tide_14 (by decide) rfl (Nat.le_of_ble_eq_true rfl) rfl ?_
    rintro _ _ _ _ ⟨⟨rfl, h2⟩ | ⟨rfl, h2⟩, rfl, rfl, rfl⟩
    · refine aw_if_ne (tgt := 22) dX5_tide_17 (by decide) (by omega) (fun _ => ?_) (fun c_17 => absurd c_17 (by decide))
      refine aw_aload_n dX5_tide_22 rfl rfl ?_
      refine aw_get dX5_tide_23 flX5_15 (by decide) (by decide) rfl rfl (rc_0_1 hR) ?_
      refine aw_iload_n dX5_tide_26 rfl rfl ?_
      refine aw_iald dX5_tide_27 rfl rfl (by omega) (lnlt (n := 24) rfl (by omega)) (rcx_9 hR (by omega) (by omega)) ?_
      refine aw_istore_n dX5_tide_28 rfl (by decide) ?_
      refine aw_aload_n dX5_tide_29 rfl rfl ?_
      refine aw_get dX5_tide_30 flX5_15 (by decide) (by decide) rfl rfl (rc_0_1 hR) ?_
      refine aw_iload_n dX5_tide_33 rfl rfl ?_
      refine aw_iload_n dX5_tide_34 rfl rfl ?_
      refine aw_iast dX5_tide_35 rfl rfl (by omega) (lnlt (n := 24) rfl (by omega)) ?_
      have hC : RC ns nc (u2 S 6 h v) _ := hC.set v (show src 9 0 h.toNat = some (false, 6, h) from by simp only [src]; rw [Int.toNat_of_nonneg (by omega)]) (by decide) (And.intro rfl (by omega))
      refine aw_iload_n dX5_tide_36 rfl rfl ?_
      refine aw_iret dX5_tide_37 rfl (Nat.zero_le _) (Nat.zero_le _) ?_
      have e : opTide S h v = (S 6 h, u2 S 6 h v) := by
        unfold opTide
        repeat (first | rw [if_pos (by omega)] | rw [if_neg (by omega)])
      rw [e]
      exact ⟨rfl, rfl, rfl, hC⟩
    · refine aw_if_ne (tgt := 22) dX5_tide_17 (by decide) (by omega) (fun c_17 => absurd c_17 (by decide)) (fun _ => ?_)
      refine aw_iconst dX5_tide_20 ?_
      refine aw_iret dX5_tide_21 rfl (Nat.zero_le _) (Nat.zero_le _) ?_
      have e : opTide S h v = (-1, S) := by
        unfold opTide
        repeat (first | rw [if_pos (by omega)] | rw [if_neg (by omega)])
      rw [e]
      exact ⟨rfl, rfl, rfl, hC⟩
  · refine aw_if_eq (tgt := 20) dX5_tide_7 (by decide) (by omega) (fun _ => ?_) (fun c_7 => absurd c_7 (by decide))
    refine aw_iconst dX5_tide_20 ?_
    refine aw_iret dX5_tide_21 rfl (Nat.zero_le _) (Nat.zero_le _) ?_
    have e : opTide S h v = (-1, S) := by
      unfold opTide
      repeat (first | rw [if_pos (by omega)] | rw [if_neg (by omega)])
    rw [e]
    exact ⟨rfl, rfl, rfl, hC⟩
set_option maxRecDepth 100000 in
set_option maxHeartbeats 4000000 in
theorem c_X5_wind {h v : Int} (hB : BB S) (hC : RC ns nc S V) (hh : Rg h) (hv : Rg v) : CT l D cA A ad yX5_wind cX5_wind 4 (some .int) rm_X5_wind [.inr (some (0, 0)), .inl h, .inl v] (lvC ns nc) V sz (PC (some (.inl (opWind S h v).1)) ns nc (opWind S h v).2 sz) := by
  refine CT.of2 [some (.inr (some (0, 0))), some (.inl h), some (.inl v), none] (by decide) (Nat.le_of_ble_eq_true rfl) rfl ?_
  obtain ⟨hR, h8, h24⟩ := id hC
  have hm := hB.m
  simp only [bsm] at hm
  refine aw_iload_n dX5_wind_0 rfl rfl ?_
  refine aw_iconst dX5_wind_1 ?_
  refine aw_bipush dX5_wind_2 (by decide) ?_
  refine aw_callS (c_X5_within (by omega) (by omega) (by omega)) mv_X5_within mlX5_61 dX5_wind_4 (by decide) rfl (Nat.le_of_ble_eq_true rfl) rfl ?_
  rintro _ _ _ _ ⟨⟨rfl, h1⟩ | ⟨rfl, h1⟩, rfl, rfl, rfl⟩
  · refine aw_if_eq (tgt := 20) dX5_wind_7 (by decide) (by omega) (fun c_7 => absurd c_7 (by decide)) (fun _ => ?_)
    refine aw_iload_n dX5_wind_10 rfl rfl ?_
    refine aw_iconst dX5_wind_11 ?_
    refine aw_bipush dX5_wind_12 (by decide) ?_
    refine aw_callS (c_X5_within (by omega) (by omega) (by omega)) mv_X5_within mlX5_61 dX5_wind_14 (by decide) rfl (Nat.le_of_ble_eq_true rfl) rfl ?_
    rintro _ _ _ _ ⟨⟨rfl, h2⟩ | ⟨rfl, h2⟩, rfl, rfl, rfl⟩
    · refine aw_if_ne (tgt := 23) dX5_wind_17 (by decide) (by omega) (fun _ => ?_) (fun c_17 => absurd c_17 (by decide))
      refine aw_aload_n dX5_wind_23 rfl rfl ?_
      refine aw_get dX5_wind_24 flX5_19 (by decide) (by decide) rfl rfl (rc_0_2 hR) ?_
      refine aw_iload_n dX5_wind_27 rfl rfl ?_
      refine aw_iald dX5_wind_28 rfl rfl (by omega) (lnlt (n := 24) rfl (by omega)) (rcx_10 hR (by omega) (by omega)) ?_
      refine aw_istore_n dX5_wind_29 rfl (by decide) ?_
      refine aw_aload_n dX5_wind_30 rfl rfl ?_
      refine aw_get dX5_wind_31 flX5_19 (by decide) (by decide) rfl rfl (rc_0_2 hR) ?_
      refine aw_iload_n dX5_wind_34 rfl rfl ?_
      refine aw_iload_n dX5_wind_35 rfl rfl ?_
      refine aw_iast dX5_wind_36 rfl rfl (by omega) (lnlt (n := 24) rfl (by omega)) ?_
      have hC : RC ns nc (u2 S 7 h v) _ := hC.set v (show src 10 0 h.toNat = some (false, 7, h) from by simp only [src]; rw [Int.toNat_of_nonneg (by omega)]) (by decide) (And.intro rfl (by omega))
      refine aw_iload_n dX5_wind_37 rfl rfl ?_
      refine aw_iret dX5_wind_38 rfl (Nat.zero_le _) (Nat.zero_le _) ?_
      have e : opWind S h v = (S 7 h, u2 S 7 h v) := by
        unfold opWind
        repeat (first | rw [if_pos (by omega)] | rw [if_neg (by omega)])
      rw [e]
      exact ⟨rfl, rfl, rfl, hC⟩
    · refine aw_if_ne (tgt := 23) dX5_wind_17 (by decide) (by omega) (fun c_17 => absurd c_17 (by decide)) (fun _ => ?_)
      refine aw_bipush dX5_wind_20 (by decide) ?_
      refine aw_iret dX5_wind_22 rfl (Nat.zero_le _) (Nat.zero_le _) ?_
      have e : opWind S h v = (-9, S) := by
        unfold opWind
        repeat (first | rw [if_pos (by omega)] | rw [if_neg (by omega)])
      rw [e]
      exact ⟨rfl, rfl, rfl, hC⟩
  · refine aw_if_eq (tgt := 20) dX5_wind_7 (by decide) (by omega) (fun _ => ?_) (fun c_7 => absurd c_7 (by decide))
    refine aw_bipush dX5_wind_20 (by decide) ?_
    refine aw_iret dX5_wind_22 rfl (Nat.zero_le _) (Nat.zero_le _) ?_
    have e : opWind S h v = (-9, S) := by
      unfold opWind
      repeat (first | rw [if_pos (by omega)] | rw [if_neg (by omega)])
    rw [e]
    exact ⟨rfl, rfl, rfl, hC⟩
set_option maxRecDepth 100000 in
set_option maxHeartbeats 4000000 in
theorem c_X5_rule {w v : Int} (hB : BB S) (hC : RC ns nc S V) (hw : Rg w) (hv : Rg v) : CT l D cA A ad yX5_rule cX5_rule 4 (some .int) rm_X5_rule [.inr (some (0, 0)), .inl w, .inl v] (lvC ns nc) V sz (PC (some (.inl (opRule S w v).1)) ns nc (opRule S w v).2 sz) := by
  refine CT.of2 [some (.inr (some (0, 0))), some (.inl w), some (.inl v), none] (by decide) (Nat.le_of_ble_eq_true rfl) rfl ?_
  obtain ⟨hR, h8, h24⟩ := id hC
  have hm := hB.m
  simp only [bsm] at hm
  refine aw_iload_n dX5_rule_0 rfl rfl ?_
  refine aw_if_ne (tgt := 26) dX5_rule_1 (by decide) (by omega) (fun c_1 => ?_) (fun c_1 => ?_)
  · refine aw_iload_n dX5_rule_26 rfl rfl ?_
    refine aw_iconst dX5_rule_27 ?_
    refine aw_icmp_ne (tgt := 52) dX5_rule_28 (by decide) (by omega) (by omega) (fun c_28 => ?_) (fun c_28 => ?_)
    · refine aw_iconst dX5_rule_52 ?_
      refine aw_iret dX5_rule_53 rfl (Nat.zero_le _) (Nat.zero_le _) ?_
      first
      | (exfalso; omega)
      | (have e : opRule S w v = (-1, S) := by
           unfold opRule
           repeat (first | rw [if_pos (by omega)] | rw [if_neg (by omega)])
         rw [e]
         exact ⟨rfl, rfl, rfl, hC⟩)
    · refine aw_iload_n dX5_rule_31 rfl rfl ?_
      refine aw_iconst dX5_rule_32 ?_
      refine aw_iconst dX5_rule_33 ?_
      refine aw_callS (c_X5_within (by omega) (by omega) (by omega)) mv_X5_within mlX5_61 dX5_rule_34 (by decide) rfl (Nat.le_of_ble_eq_true rfl) rfl ?_
      rintro _ _ _ _ ⟨⟨rfl, h2⟩ | ⟨rfl, h2⟩, rfl, rfl, rfl⟩
      · refine aw_if_eq (tgt := 52) dX5_rule_37 (by decide) (by omega) (fun c_37 => absurd c_37 (by decide)) (fun _ => ?_)
        refine aw_aload_n dX5_rule_40 rfl rfl ?_
        refine aw_get dX5_rule_41 flX5_50 (by decide) (by decide) rfl rfl (rc_0_9 hR) ?_
        refine aw_istore_n dX5_rule_44 rfl (by decide) ?_
        refine aw_aload_n dX5_rule_45 rfl rfl ?_
        refine aw_iload_n dX5_rule_46 rfl rfl ?_
        refine aw_put dX5_rule_47 flX5_50 (by decide) (by decide) rfl rfl rfl trivial ?_
        have hC : RC ns nc (u2 S 2 0 v) _ := hC.set v (show src 0 0 9 = some (false, 2, 0) from rfl) (by decide) (And.intro rfl (by decide))
        refine aw_iload_n dX5_rule_50 rfl rfl ?_
        refine aw_iret dX5_rule_51 rfl (Nat.zero_le _) (Nat.zero_le _) ?_
        first
        | (exfalso; omega)
        | (have e : opRule S w v = (S 2 0, u2 S 2 0 v) := by
             unfold opRule
             repeat (first | rw [if_pos (by omega)] | rw [if_neg (by omega)])
           rw [e]
           exact ⟨rfl, rfl, rfl, hC⟩)
      · refine aw_if_eq (tgt := 52) dX5_rule_37 (by decide) (by omega) (fun _ => ?_) (fun c_37 => absurd c_37 (by decide))
        refine aw_iconst dX5_rule_52 ?_
        refine aw_iret dX5_rule_53 rfl (Nat.zero_le _) (Nat.zero_le _) ?_
        first
        | (exfalso; omega)
        | (have e : opRule S w v = (-1, S) := by
             unfold opRule
             repeat (first | rw [if_pos (by omega)] | rw [if_neg (by omega)])
           rw [e]
           exact ⟨rfl, rfl, rfl, hC⟩)
  · refine aw_iload_n dX5_rule_4 rfl rfl ?_
    refine aw_iconst dX5_rule_5 ?_
    refine aw_bipush dX5_rule_6 (by decide) ?_
    refine aw_callS (c_X5_within (by omega) (by omega) (by omega)) mv_X5_within mlX5_61 dX5_rule_8 (by decide) rfl (Nat.le_of_ble_eq_true rfl) rfl ?_
    rintro _ _ _ _ ⟨⟨rfl, h1⟩ | ⟨rfl, h1⟩, rfl, rfl, rfl⟩
    · refine aw_if_eq (tgt := 26) dX5_rule_11 (by decide) (by omega) (fun c_11 => absurd c_11 (by decide)) (fun _ => ?_)
      refine aw_aload_n dX5_rule_14 rfl rfl ?_
      refine aw_get dX5_rule_15 flX5_47 (by decide) (by decide) rfl rfl (rc_0_8 hR) ?_
      refine aw_istore_n dX5_rule_18 rfl (by decide) ?_
      refine aw_aload_n dX5_rule_19 rfl rfl ?_
      refine aw_iload_n dX5_rule_20 rfl rfl ?_
      refine aw_put dX5_rule_21 flX5_47 (by decide) (by decide) rfl rfl rfl trivial ?_
      have hC : RC ns nc (u2 S 1 0 v) _ := hC.set v (show src 0 0 8 = some (false, 1, 0) from rfl) (by decide) (And.intro rfl (by decide))
      refine aw_iload_n dX5_rule_24 rfl rfl ?_
      refine aw_iret dX5_rule_25 rfl (Nat.zero_le _) (Nat.zero_le _) ?_
      first
      | (exfalso; omega)
      | (have e : opRule S w v = (S 1 0, u2 S 1 0 v) := by
           unfold opRule
           repeat (first | rw [if_pos (by omega)] | rw [if_neg (by omega)])
         rw [e]
         exact ⟨rfl, rfl, rfl, hC⟩)
    · refine aw_if_eq (tgt := 26) dX5_rule_11 (by decide) (by omega) (fun _ => ?_) (fun c_11 => absurd c_11 (by decide))
      refine aw_iload_n dX5_rule_26 rfl rfl ?_
      refine aw_iconst dX5_rule_27 ?_
      refine aw_icmp_ne (tgt := 52) dX5_rule_28 (by decide) (by omega) (by omega) (fun c_28 => ?_) (fun c_28 => ?_)
      · refine aw_iconst dX5_rule_52 ?_
        refine aw_iret dX5_rule_53 rfl (Nat.zero_le _) (Nat.zero_le _) ?_
        first
        | (exfalso; omega)
        | (have e : opRule S w v = (-1, S) := by
             unfold opRule
             repeat (first | rw [if_pos (by omega)] | rw [if_neg (by omega)])
           rw [e]
           exact ⟨rfl, rfl, rfl, hC⟩)
      · refine aw_iload_n dX5_rule_31 rfl rfl ?_
        refine aw_iconst dX5_rule_32 ?_
        refine aw_iconst dX5_rule_33 ?_
        refine aw_callS (c_X5_within (by omega) (by omega) (by omega)) mv_X5_within mlX5_61 dX5_rule_34 (by decide) rfl (Nat.le_of_ble_eq_true rfl) rfl ?_
        rintro _ _ _ _ ⟨⟨rfl, h2⟩ | ⟨rfl, h2⟩, rfl, rfl, rfl⟩
        · refine aw_if_eq (tgt := 52) dX5_rule_37 (by decide) (by omega) (fun c_37 => absurd c_37 (by decide)) (fun _ => ?_)
          refine aw_aload_n dX5_rule_40 rfl rfl ?_
          refine aw_get dX5_rule_41 flX5_50 (by decide) (by decide) rfl rfl (rc_0_9 hR) ?_
          refine aw_istore_n dX5_rule_44 rfl (by decide) ?_
          refine aw_aload_n dX5_rule_45 rfl rfl ?_
          refine aw_iload_n dX5_rule_46 rfl rfl ?_
          refine aw_put dX5_rule_47 flX5_50 (by decide) (by decide) rfl rfl rfl trivial ?_
          have hC : RC ns nc (u2 S 2 0 v) _ := hC.set v (show src 0 0 9 = some (false, 2, 0) from rfl) (by decide) (And.intro rfl (by decide))
          refine aw_iload_n dX5_rule_50 rfl rfl ?_
          refine aw_iret dX5_rule_51 rfl (Nat.zero_le _) (Nat.zero_le _) ?_
          first
          | (exfalso; omega)
          | (have e : opRule S w v = (S 2 0, u2 S 2 0 v) := by
               unfold opRule
               repeat (first | rw [if_pos (by omega)] | rw [if_neg (by omega)])
             rw [e]
             exact ⟨rfl, rfl, rfl, hC⟩)
        · refine aw_if_eq (tgt := 52) dX5_rule_37 (by decide) (by omega) (fun _ => ?_) (fun c_37 => absurd c_37 (by decide))
          refine aw_iconst dX5_rule_52 ?_
          refine aw_iret dX5_rule_53 rfl (Nat.zero_le _) (Nat.zero_le _) ?_
          first
          | (exfalso; omega)
          | (have e : opRule S w v = (-1, S) := by
               unfold opRule
               repeat (first | rw [if_pos (by omega)] | rw [if_neg (by omega)])
             rw [e]
             exact ⟨rfl, rfl, rfl, hC⟩)
set_option maxRecDepth 100000 in
set_option maxHeartbeats 4000000 in
theorem c_X5_book {c s : Int} (hB : BB S) (hC : RC ns nc S V) (hc0 : Rg c) (hs0 : Rg s) (hlf : ∀ x : Int, 0 ≤ x → x < ns → S 18 x ≠ 0 → S 22 x ≠ -4) : CT l D cA A ad yX5_book cX5_book 5 (some .int) rm_X5_book [.inr (some (0, 0)), .inl c, .inl s] (lvC ns nc) V sz (PC (some (.inl (opBook S c s).1)) ns nc (opBook S c s).2 sz) := by
  refine CT.of2 [some (.inr (some (0, 0))), some (.inl c), some (.inl s), none, none] (by decide) (Nat.le_of_ble_eq_true rfl) rfl ?_
  obtain ⟨hR, h8, h24⟩ := id hC
  have hm := hB.m
  simp only [bsm] at hm
  have hships := hC.ships hB
  by_cases hcin : 0 ≤ c ∧ c < nc
  · obtain ⟨q, rfl⟩ : ∃ q : Nat, c = (q : Int) := ⟨c.toNat, by omega⟩
    have hcv := hB.cv (c := (q : Int)) (by omega) (by omega)
    simp only [bcv] at hcv
    by_cases hin : 0 ≤ s ∧ s < ns
    · obtain ⟨i, rfl⟩ : ∃ i : Nat, s = (i : Int) := ⟨s.toNat, by omega⟩
      have e42 : V 42 0 ((i : Int)).toNat = .inr (some (5, i)) := rc_42 hR (by omega) (by omega)
      have hs : (i : Int) < ns := by omega
      have hsh := hB.sh (s := (i : Int)) (by omega) (by omega)
      simp only [bsh] at hsh
      have hlf2 := hlf (i : Int) (by omega) (by omega)
      refine aw_aload_n dX5_book_0 rfl rfl ?_
      refine aw_iload_n dX5_book_1 rfl rfl ?_
      refine aw_callV (c_X5_convoyAt (c := q) hB hC (by omega)) mv_X5_convoyAt mlX5_99 dX5_book_2 rfl rfl (by decide) rfl (Nat.le_of_ble_eq_true rfl) rfl ?_
      rintro _ _ _ _ ⟨rfl, rfl, rfl, rfl⟩
      refine aw_astore_n dX5_book_5 rfl (by decide) ?_
      refine aw_aload_n dX5_book_6 rfl rfl ?_
      refine aw_get dX5_book_7 flX5_27 (by decide) (by decide) rfl rfl (rc_0_3 hR) ?_
      refine aw_iload_n dX5_book_10 rfl rfl ?_
      refine aw_callV (c_X2_at (x := (i : Int)) hships (by omega) (by omega) e42) mv_X2_at mlX5_103 dX5_book_11 rfl rfl (by decide) rfl (Nat.le_of_ble_eq_true rfl) rfl ?_
      rintro _ _ _ _ ⟨rfl, rfl, rfl, rfl⟩
      refine aw_astore dX5_book_14 (by decide) ?_
      refine aw_aload_n dX5_book_16 rfl rfl ?_
      refine aw_ifnull_S dX5_book_17 ?_
      refine aw_aload dX5_book_20 rfl ?_
      refine aw_ifnonnull_S (tgt := 27) dX5_book_22 (by decide) ?_
      refine aw_aload_n dX5_book_27 rfl rfl ?_
      refine aw_getN dX5_book_28 fnX5_107 (by decide) (by decide) rfl (decide_eq_true (by omega)) (rc_7_0 hR (by omega)) ?_
      refine aw_aload dX5_book_31 rfl ?_
      refine aw_getN dX5_book_33 fnX5_110 (by decide) (by decide) rfl (decide_eq_true (by omega)) (rc_5_1 hR (by omega)) ?_
      refine aw_icmp_ne (tgt := 72) dX5_book_36 (by decide) (by omega) (by omega) (fun c_36 => ?_) (fun c_36 => ?_)
      · refine aw_bipush dX5_book_72 (by decide) ?_
        refine aw_iret dX5_book_74 rfl (Nat.zero_le _) (Nat.zero_le _) ?_
        have e : opBook S (q : Int) (i : Int) = (-2, S) := by
          unfold opBook
          repeat (first | rw [if_pos (by omega)] | rw [if_neg (by omega)])
        rw [e]
        exact ⟨rfl, rfl, rfl, hC⟩
      · refine aw_aload dX5_book_39 rfl ?_
        refine aw_getN dX5_book_41 fnX5_111 (by decide) (by decide) rfl (decide_eq_true (by omega)) (rc_5_14 hR (by omega)) ?_
        refine aw_bipush dX5_book_44 (by decide) ?_
        refine aw_icmp_ne (tgt := 72) dX5_book_46 (by decide) (by omega) (by omega) (fun c_46 => ?_) (fun c_46 => ?_)
        · refine aw_bipush dX5_book_72 (by decide) ?_
          refine aw_iret dX5_book_74 rfl (Nat.zero_le _) (Nat.zero_le _) ?_
          have e : opBook S (q : Int) (i : Int) = (-2, S) := by
            unfold opBook
            repeat (first | rw [if_pos (by omega)] | rw [if_neg (by omega)])
          rw [e]
          exact ⟨rfl, rfl, rfl, hC⟩
        · refine aw_aload_n dX5_book_49 rfl rfl ?_
          refine aw_getN dX5_book_50 fnX5_114 (by decide) (by decide) rfl (decide_eq_true (by omega)) (rc_7_1 hR (by omega)) ?_
          refine aw_aload_n dX5_book_53 rfl rfl ?_
          refine aw_get dX5_book_54 flX5_53 (by decide) (by decide) rfl rfl (rc_0_10 hR) ?_
          refine aw_icmp_le (tgt := 72) dX5_book_57 (by decide) (by omega) (by omega) (fun c_57 => ?_) (fun c_57 => ?_)
          · refine aw_bipush dX5_book_72 (by decide) ?_
            refine aw_iret dX5_book_74 rfl (Nat.zero_le _) (Nat.zero_le _) ?_
            have e : opBook S (q : Int) (i : Int) = (-2, S) := by
              unfold opBook
              repeat (first | rw [if_pos (by omega)] | rw [if_neg (by omega)])
            rw [e]
            exact ⟨rfl, rfl, rfl, hC⟩
          · refine aw_aload dX5_book_60 rfl ?_
            refine aw_getN dX5_book_62 fnX5_117 (by decide) (by decide) rfl (decide_eq_true (by omega)) (rc_5_2 hR (by omega)) ?_
            refine aw_aload_n dX5_book_65 rfl rfl ?_
            refine aw_get dX5_book_66 flX5_53 (by decide) (by decide) rfl rfl (rc_0_10 hR) ?_
            refine aw_icmp_ge (tgt := 75) dX5_book_69 (by decide) (by omega) (by omega) (fun c_69 => ?_) (fun c_69 => ?_)
            · refine aw_aload_n dX5_book_75 rfl rfl ?_
              refine aw_getN dX5_book_76 fnX5_120 (by decide) (by decide) rfl (decide_eq_true (by omega)) (rc_7_2 hR (by omega)) ?_
              refine aw_callV (c_X2_isFull (hC.book hB (j := q) (by omega))) mv_X2_isFull mlX5_80 dX5_book_79 rfl (decide_eq_true (show (q : Int) < nc by omega)) (by decide) rfl (Nat.le_of_ble_eq_true rfl) rfl ?_
              rintro _ _ _ _ ⟨⟨rfl, hF⟩ | ⟨rfl, hF⟩, rfl, rfl, rfl⟩
              · have hF2 : S 27 q = 8 := by
                  have : ((8 : Nat) : Int) ≤ S 27 q := hF
                  omega
                refine aw_if_eq (tgt := 88) dX5_book_82 (by decide) (by omega) (fun c_82 => absurd c_82 (by decide)) (fun _ => ?_)
                refine aw_bipush dX5_book_85 (by decide) ?_
                refine aw_iret dX5_book_87 rfl (Nat.zero_le _) (Nat.zero_le _) ?_
                have e : opBook S (q : Int) (i : Int) = (-3, S) := by
                  unfold opBook
                  repeat (first | rw [if_pos (by omega)] | rw [if_neg (by omega)])
                rw [e]
                exact ⟨rfl, rfl, rfl, hC⟩
              · have hF2 : S 27 q ≠ 8 := fun e => hF (show ((8 : Nat) : Int) ≤ S 27 q by omega)
                refine aw_if_eq (tgt := 88) dX5_book_82 (by decide) (by omega) (fun _ => ?_) (fun c_82 => absurd c_82 (by decide))
                refine aw_aload_n dX5_book_88 rfl rfl ?_
                refine aw_getN dX5_book_89 fnX5_120 (by decide) (by decide) rfl (decide_eq_true (by omega)) (rc_7_2 hR (by omega)) ?_
                refine aw_aload dX5_book_92 rfl ?_
                refine aw_callV (c_X2_add (s := i) (hC.book hB (j := q) (by omega)) (show S 27 q < 8 by omega) (by decide) (decide_eq_true hs)) mv_X2_add mlX5_92 dX5_book_94 rfl (decide_eq_true (show (q : Int) < nc by omega)) (by decide) rfl (Nat.le_of_ble_eq_true rfl) rfl ?_
                rintro _ _ _ _ ⟨rfl, rfl, rfl, rfl⟩
                have hC : RC ns nc (u2 (u2 S 28 (8 * (q : Int) + S 27 q) i) 27 q (S 27 q + 1)) _ := RC.mk2 (S := S) (hR.pushBook (i := q) (show (q : Int) < S 24 0 by omega) (by omega) (i : Int)) h8 h24
                have hR := hC.1
                refine aw_aload dX5_book_97 rfl ?_
                refine aw_iload_n dX5_book_99 rfl rfl ?_
                refine aw_putN dX5_book_100 fnX5_111 (by decide) (by decide) rfl rfl (decide_eq_true hs) trivial ?_
                have hC : RC ns nc (u2 (u2 (u2 S 28 (8 * (q : Int) + S 27 q) i) 27 q (S 27 q + 1)) 22 i q) _ := hC.set (q : Int) (show src 5 i 14 = some (false, 22, (i : Int)) from rfl) (by decide) (And.intro (show (i : Int) < S 8 0 by omega) (by decide))
                have hR := hC.1
                refine aw_aload_n dX5_book_103 rfl rfl ?_
                refine aw_getN dX5_book_104 fnX5_120 (by decide) (by decide) rfl (decide_eq_true (show (q : Int) < nc by omega)) (rc_7_2 hR (show (q : Int) < S 24 0 by omega)) ?_
                refine aw_getN dX5_book_107 fnX5_84 (by decide) (by decide) rfl (decide_eq_true (show (q : Int) < nc by omega)) ((rc_33_1 hR (show (q : Int) < S 24 0 by omega)).trans (congrArg Sum.inl (show u2 (u2 (u2 S 28 (8 * (q : Int) + S 27 q) i) 27 q (S 27 q + 1)) 22 i q 27 q = S 27 q + 1 by rw [u2_ne (by decide), u2_self]))) ?_
                refine aw_iret dX5_book_110 rfl (Nat.zero_le _) (Nat.zero_le _) ?_
                have e : opBook S (q : Int) (i : Int) = (S 27 q + 1, u2 (u2 (u2 S 28 (8 * (q : Int) + S 27 q) i) 27 q (S 27 q + 1)) 22 i q) := by
                  unfold opBook
                  repeat (first | rw [if_pos (by omega)] | rw [if_neg (by omega)])
                rw [e]
                exact ⟨rfl, rfl, rfl, hC⟩
            · refine aw_bipush dX5_book_72 (by decide) ?_
              refine aw_iret dX5_book_74 rfl (Nat.zero_le _) (Nat.zero_le _) ?_
              have e : opBook S (q : Int) (i : Int) = (-2, S) := by
                unfold opBook
                repeat (first | rw [if_pos (by omega)] | rw [if_neg (by omega)])
              rw [e]
              exact ⟨rfl, rfl, rfl, hC⟩
    · refine aw_aload_n dX5_book_0 rfl rfl ?_
      refine aw_iload_n dX5_book_1 rfl rfl ?_
      refine aw_callV (c_X5_convoyAt (c := q) hB hC (by omega)) mv_X5_convoyAt mlX5_99 dX5_book_2 rfl rfl (by decide) rfl (Nat.le_of_ble_eq_true rfl) rfl ?_
      rintro _ _ _ _ ⟨rfl, rfl, rfl, rfl⟩
      refine aw_astore_n dX5_book_5 rfl (by decide) ?_
      refine aw_aload_n dX5_book_6 rfl rfl ?_
      refine aw_get dX5_book_7 flX5_27 (by decide) (by decide) rfl rfl (rc_0_3 hR) ?_
      refine aw_iload_n dX5_book_10 rfl rfl ?_
      refine aw_callV (c_X2_at_out hships hs0 (by omega)) mv_X2_at mlX5_103 dX5_book_11 rfl rfl (by decide) rfl (Nat.le_of_ble_eq_true rfl) rfl ?_
      rintro _ _ _ _ ⟨rfl, rfl, rfl, rfl⟩
      refine aw_astore dX5_book_14 (by decide) ?_
      refine aw_aload_n dX5_book_16 rfl rfl ?_
      refine aw_ifnull_S dX5_book_17 ?_
      refine aw_aload dX5_book_20 rfl ?_
      refine aw_ifnonnull_N dX5_book_22 ?_
      refine aw_iconst dX5_book_25 ?_
      refine aw_iret dX5_book_26 rfl (Nat.zero_le _) (Nat.zero_le _) ?_
      have e : opBook S (q : Int) s = (-1, S) := by
        unfold opBook
        repeat (first | rw [if_pos (by omega)] | rw [if_neg (by omega)])
      rw [e]
      exact ⟨rfl, rfl, rfl, hC⟩
  · by_cases hin : 0 ≤ s ∧ s < ns
    · obtain ⟨i, rfl⟩ : ∃ i : Nat, s = (i : Int) := ⟨s.toNat, by omega⟩
      have e42 : V 42 0 ((i : Int)).toNat = .inr (some (5, i)) := rc_42 hR (by omega) (by omega)
      have hs : (i : Int) < ns := by omega
      have hsh := hB.sh (s := (i : Int)) (by omega) (by omega)
      simp only [bsh] at hsh
      refine aw_aload_n dX5_book_0 rfl rfl ?_
      refine aw_iload_n dX5_book_1 rfl rfl ?_
      refine aw_callV (c_X5_convoyAt_out hB hC hc0 (by omega)) mv_X5_convoyAt mlX5_99 dX5_book_2 rfl rfl (by decide) rfl (Nat.le_of_ble_eq_true rfl) rfl ?_
      rintro _ _ _ _ ⟨rfl, rfl, rfl, rfl⟩
      refine aw_astore_n dX5_book_5 rfl (by decide) ?_
      refine aw_aload_n dX5_book_6 rfl rfl ?_
      refine aw_get dX5_book_7 flX5_27 (by decide) (by decide) rfl rfl (rc_0_3 hR) ?_
      refine aw_iload_n dX5_book_10 rfl rfl ?_
      refine aw_callV (c_X2_at (x := (i : Int)) hships (by omega) (by omega) e42) mv_X2_at mlX5_103 dX5_book_11 rfl rfl (by decide) rfl (Nat.le_of_ble_eq_true rfl) rfl ?_
      rintro _ _ _ _ ⟨rfl, rfl, rfl, rfl⟩
      refine aw_astore dX5_book_14 (by decide) ?_
      refine aw_aload_n dX5_book_16 rfl rfl ?_
      refine aw_ifnull_N (tgt := 25) dX5_book_17 (by decide) ?_
      refine aw_iconst dX5_book_25 ?_
      refine aw_iret dX5_book_26 rfl (Nat.zero_le _) (Nat.zero_le _) ?_
      have e : opBook S c (i : Int) = (-1, S) := by
        unfold opBook
        repeat (first | rw [if_pos (by omega)] | rw [if_neg (by omega)])
      rw [e]
      exact ⟨rfl, rfl, rfl, hC⟩
    · refine aw_aload_n dX5_book_0 rfl rfl ?_
      refine aw_iload_n dX5_book_1 rfl rfl ?_
      refine aw_callV (c_X5_convoyAt_out hB hC hc0 (by omega)) mv_X5_convoyAt mlX5_99 dX5_book_2 rfl rfl (by decide) rfl (Nat.le_of_ble_eq_true rfl) rfl ?_
      rintro _ _ _ _ ⟨rfl, rfl, rfl, rfl⟩
      refine aw_astore_n dX5_book_5 rfl (by decide) ?_
      refine aw_aload_n dX5_book_6 rfl rfl ?_
      refine aw_get dX5_book_7 flX5_27 (by decide) (by decide) rfl rfl (rc_0_3 hR) ?_
      refine aw_iload_n dX5_book_10 rfl rfl ?_
      refine aw_callV (c_X2_at_out hships hs0 (by omega)) mv_X2_at mlX5_103 dX5_book_11 rfl rfl (by decide) rfl (Nat.le_of_ble_eq_true rfl) rfl ?_
      rintro _ _ _ _ ⟨rfl, rfl, rfl, rfl⟩
      refine aw_astore dX5_book_14 (by decide) ?_
      refine aw_aload_n dX5_book_16 rfl rfl ?_
      refine aw_ifnull_N (tgt := 25) dX5_book_17 (by decide) ?_
      refine aw_iconst dX5_book_25 ?_
      refine aw_iret dX5_book_26 rfl (Nat.zero_le _) (Nat.zero_le _) ?_
      have e : opBook S c s = (-1, S) := by
        unfold opBook
        repeat (first | rw [if_pos (by omega)] | rw [if_neg (by omega)])
      rw [e]
      exact ⟨rfl, rfl, rfl, hC⟩
def opGrdC (S : SS) (s n : Int) : Int × SS := if ¬ ((0 ≤ s ∧ s ≤ S 8 0 - 1) ∧ (1 ≤ n ∧ n ≤ 500)) then (-1, S) else if ¬ (0 ≤ S 15 s ∧ S 15 s ≤ 7) ∨ 0 < S 21 s then (-2, S) else (1, u2 (u2 S 21 s n) 36 s (S 0 0 + n))
set_option maxRecDepth 100000 in
set_option maxHeartbeats 4000000 in
theorem c_X5_ground {s n : Int} (hB : BB S) (hU : UN S) (hC : RC ns nc S V) (hs0 : Rg s) (hn : Rg n) : CT l D cA A ad yX5_ground cX5_ground 4 (some .int) rm_X5_ground [.inr (some (0, 0)), .inl s, .inl n] (lvC ns nc) V sz (PC (some (.inl (opGrdC S s n).1)) ns nc (opGrdC S s n).2 sz) := by
  refine CT.of2 [some (.inr (some (0, 0))), some (.inl s), some (.inl n), none] (by decide) (Nat.le_of_ble_eq_true rfl) rfl ?_
  obtain ⟨hR, h8, h24⟩ := id hC
  have hm := hB.m
  simp only [bsm] at hm
  have hships := hC.ships hB
  by_cases hin : 0 ≤ s ∧ s < ns
  · obtain ⟨i, rfl⟩ : ∃ i : Nat, s = (i : Int) := ⟨s.toNat, by omega⟩
    have e42 : V 42 0 ((i : Int)).toNat = .inr (some (5, i)) := rc_42 hR (by omega) (by omega)
    have hs : (i : Int) < ns := by omega
    have hsh := hB.sh (s := (i : Int)) (by omega) (by omega)
    simp only [bsh] at hsh
    have hun := hU (i : Int) (by omega) (by omega)
    refine aw_aload_n dX5_ground_0 rfl rfl ?_
    refine aw_get dX5_ground_1 flX5_27 (by decide) (by decide) rfl rfl (rc_0_3 hR) ?_
    refine aw_iload_n dX5_ground_4 rfl rfl ?_
    refine aw_callV (c_X2_at (x := (i : Int)) hships (by omega) (by omega) e42) mv_X2_at mlX5_103 dX5_ground_5 rfl rfl (by decide) rfl (Nat.le_of_ble_eq_true rfl) rfl ?_
    rintro _ _ _ _ ⟨rfl, rfl, rfl, rfl⟩
    refine aw_astore_n dX5_ground_8 rfl (by decide) ?_
    refine aw_aload_n dX5_ground_9 rfl rfl ?_
    refine aw_ifnull_S dX5_ground_10 ?_
    refine aw_iload_n dX5_ground_13 rfl rfl ?_
    refine aw_iconst dX5_ground_14 ?_
    refine aw_sipush dX5_ground_15 (by decide) ?_
    refine aw_callS (c_X5_within (by omega) (by omega) (by omega)) mv_X5_within mlX5_61 dX5_ground_18 (by decide) rfl (Nat.le_of_ble_eq_true rfl) rfl ?_
    rintro _ _ _ _ ⟨⟨rfl, h2⟩ | ⟨rfl, h2⟩, rfl, rfl, rfl⟩
    · refine aw_if_ne (tgt := 26) dX5_ground_21 (by decide) (by omega) (fun _ => ?_) (fun c_21 => absurd c_21 (by decide))
      refine aw_aload_n dX5_ground_26 rfl rfl ?_
      refine aw_callV (c_X4_isInSection (decide_eq_true hs) (rc_5_8 hR (by omega)) (by omega)) mv_X4_isInSection mlX5_123 dX5_ground_27 rfl (decide_eq_true hs) (by decide) rfl (Nat.le_of_ble_eq_true rfl) rfl ?_
      rintro _ _ _ _ ⟨⟨rfl, h3⟩ | ⟨rfl, h3⟩, rfl, rfl, rfl⟩
      · refine aw_if_eq (tgt := 44) dX5_ground_30 (by decide) (by omega) (fun c_30 => absurd c_30 (by decide)) (fun _ => ?_)
        refine aw_aload_n dX5_ground_33 rfl rfl ?_
        refine aw_aload_n dX5_ground_34 rfl rfl ?_
        refine aw_get dX5_ground_35 flX5_53 (by decide) (by decide) rfl rfl (rc_0_10 hR) ?_
        refine aw_callV (c_X4_isAground (decide_eq_true hs) (rc_5_15 hR (by omega)) (by omega) (by omega)) mv_X4_isAground mlX5_126 dX5_ground_38 rfl (decide_eq_true hs) (by decide) rfl (Nat.le_of_ble_eq_true rfl) rfl ?_
        rintro _ _ _ _ ⟨⟨rfl, h4⟩ | ⟨rfl, h4⟩, rfl, rfl, rfl⟩
        · refine aw_if_eq (tgt := 47) dX5_ground_41 (by decide) (by omega) (fun c_41 => absurd c_41 (by decide)) (fun _ => ?_)
          refine aw_bipush dX5_ground_44 (by decide) ?_
          refine aw_iret dX5_ground_46 rfl (Nat.zero_le _) (Nat.zero_le _) ?_
          have h21 : S 21 i = if S 0 0 < S 36 i then S 36 i - S 0 0 else 0 := hun.2
          have e : opGrdC S (i : Int) n = (-2, S) := by
            unfold opGrdC
            rw [if_neg (by omega), if_pos]
            first | (left; omega) | (right; rw [h21, if_pos h4]; omega)
          rw [e]
          exact ⟨rfl, rfl, rfl, hC⟩
        · refine aw_if_eq (tgt := 47) dX5_ground_41 (by decide) (by omega) (fun _ => ?_) (fun c_41 => absurd c_41 (by decide))
          refine aw_aload_n dX5_ground_47 rfl rfl ?_
          refine aw_aload_n dX5_ground_48 rfl rfl ?_
          refine aw_get dX5_ground_49 flX5_53 (by decide) (by decide) rfl rfl (rc_0_10 hR) ?_
          refine aw_iload_n dX5_ground_52 rfl rfl ?_
          refine aw_iadd dX5_ground_53 ?_
          refine aw_putN dX5_ground_54 fnX5_129 (by decide) (by decide) rfl rfl (decide_eq_true hs) trivial ?_
          have hC : RC ns nc (u2 S 36 i (S 0 0 + n)) _ := hC.set (S 0 0 + n) (show src 5 i 15 = some (false, 36, (i : Int)) from rfl) (by decide) (And.intro (show (i : Int) < S 8 0 by omega) (by decide))
          refine aw_iconst dX5_ground_57 ?_
          refine aw_iret dX5_ground_58 rfl (Nat.zero_le _) (Nat.zero_le _) ?_
          have h21 : S 21 i = if S 0 0 < S 36 i then S 36 i - S 0 0 else 0 := hun.2
          have e : opGrdC S (i : Int) n = (1, u2 (u2 S 21 i n) 36 i (S 0 0 + n)) := by
            unfold opGrdC
            rw [if_neg (by omega), if_neg]
            rw [h21, if_neg h4]
            omega
          rw [e]
          refine ⟨rfl, rfl, rfl, hC.no21 (fun k hk x => ?_)⟩
          show u2 (u2 S 21 i n) 36 i (S 0 0 + n) k x = u2 S 36 i (S 0 0 + n) k x
          simp only [u2]
          rw [if_neg (c := k = 21 ∧ x = (i : Int)) (fun q => hk q.1)]
      · refine aw_if_eq (tgt := 44) dX5_ground_30 (by decide) (by omega) (fun _ => ?_) (fun c_30 => absurd c_30 (by decide))
        refine aw_bipush dX5_ground_44 (by decide) ?_
        refine aw_iret dX5_ground_46 rfl (Nat.zero_le _) (Nat.zero_le _) ?_
        have h21 : S 21 i = if S 0 0 < S 36 i then S 36 i - S 0 0 else 0 := hun.2
        have e : opGrdC S (i : Int) n = (-2, S) := by
          unfold opGrdC
          rw [if_neg (by omega), if_pos]
          first | (left; omega) | (right; rw [h21, if_pos h4]; omega)
        rw [e]
        exact ⟨rfl, rfl, rfl, hC⟩
    · refine aw_if_ne (tgt := 26) dX5_ground_21 (by decide) (by omega) (fun c_21 => absurd c_21 (by decide)) (fun _ => ?_)
      refine aw_iconst dX5_ground_24 ?_
      refine aw_iret dX5_ground_25 rfl (Nat.zero_le _) (Nat.zero_le _) ?_
      have e : opGrdC S (i : Int) n = (-1, S) := by
        unfold opGrdC
        repeat (first | rw [if_pos (by omega)] | rw [if_neg (by omega)])
      rw [e]
      exact ⟨rfl, rfl, rfl, hC⟩
  · refine aw_aload_n dX5_ground_0 rfl rfl ?_
    refine aw_get dX5_ground_1 flX5_27 (by decide) (by decide) rfl rfl (rc_0_3 hR) ?_
    refine aw_iload_n dX5_ground_4 rfl rfl ?_
    refine aw_callV (c_X2_at_out hships hs0 (by omega)) mv_X2_at mlX5_103 dX5_ground_5 rfl rfl (by decide) rfl (Nat.le_of_ble_eq_true rfl) rfl ?_
    rintro _ _ _ _ ⟨rfl, rfl, rfl, rfl⟩
    refine aw_astore_n dX5_ground_8 rfl (by decide) ?_
    refine aw_aload_n dX5_ground_9 rfl rfl ?_
    refine aw_ifnull_N (tgt := 24) dX5_ground_10 (by decide) ?_
    refine aw_iconst dX5_ground_24 ?_
    refine aw_iret dX5_ground_25 rfl (Nat.zero_le _) (Nat.zero_le _) ?_
    have e : opGrdC S s n = (-1, S) := by
      unfold opGrdC
      repeat (first | rw [if_pos (by omega)] | rw [if_neg (by omega)])
    rw [e]
    exact ⟨rfl, rfl, rfl, hC⟩
set_option maxRecDepth 100000 in
set_option maxHeartbeats 4000000 in
theorem c_X5_told {s w : Int} (hB : BB S) (hU : UN S) (hT : ∀ x : Int, 0 ≤ x → x < ns → ¬ (0 ≤ S 15 x ∧ S 15 x ≤ 7) → S 16 x = 0) (hC : RC ns nc S V) (hs0 : Rg s) (hw : Rg w) : CT l D cA A ad yX5_told cX5_told 4 (some .int) rm_X5_told [.inr (some (0, 0)), .inl s, .inl w] (lvC ns nc) V sz (PC (some (.inl (opTold S s w))) ns nc S sz) := by
  refine CT.of2 [some (.inr (some (0, 0))), some (.inl s), some (.inl w), none] (by decide) (Nat.le_of_ble_eq_true rfl) rfl ?_
  obtain ⟨hR, h8, h24⟩ := id hC
  have hm := hB.m
  simp only [bsm] at hm
  have hships := hC.ships hB
  by_cases hin : 0 ≤ s ∧ s < ns
  · obtain ⟨i, rfl⟩ : ∃ i : Nat, s = (i : Int) := ⟨s.toNat, by omega⟩
    have e42 : V 42 0 ((i : Int)).toNat = .inr (some (5, i)) := rc_42 hR (by omega) (by omega)
    have hs : (i : Int) < ns := by omega
    have hsh := hB.sh (s := (i : Int)) (by omega) (by omega)
    simp only [bsh] at hsh
    have hun := hU (i : Int) (by omega) (by omega)
    have htg := hT (i : Int) (by omega) (by omega)
    rcases (show w = 0 ∨ w = 1 ∨ w = 2 ∨ w = 3 ∨ w = 4 ∨ w = 5 ∨ w = 6 ∨ w = 7 ∨ w = 8 ∨ (w < 0 ∨ 8 < w) by omega) with rfl | rfl | rfl | rfl | rfl | rfl | rfl | rfl | rfl | hw2
    · refine aw_aload_n dX5_told_0 rfl rfl ?_
      refine aw_get dX5_told_1 flX5_27 (by decide) (by decide) rfl rfl (rc_0_3 hR) ?_
      refine aw_iload_n dX5_told_4 rfl rfl ?_
      refine aw_callV (c_X2_at (x := (i : Int)) hships (by omega) (by omega) e42) mv_X2_at mlX5_103 dX5_told_5 rfl rfl (by decide) rfl (Nat.le_of_ble_eq_true rfl) rfl ?_
      rintro _ _ _ _ ⟨rfl, rfl, rfl, rfl⟩
      refine aw_astore_n dX5_told_8 rfl (by decide) ?_
      refine aw_aload_n dX5_told_9 rfl rfl ?_
      refine aw_ifnonnull_S (tgt := 16) dX5_told_10 (by decide) ?_
      refine aw_iload_n dX5_told_16 rfl rfl ?_
      refine aw_tableIn (off := 51) (tgt := 68) dX5_told_17 (by decide) (by decide) (by decide) rfl (by decide) ?_
      refine aw_aload_n dX5_told_68 rfl rfl ?_
      refine aw_getN dX5_told_69 fnX5_199 (by decide) (by decide) rfl (decide_eq_true (by omega)) (rc_5_8 hR (by omega)) ?_
      refine aw_iret dX5_told_72 rfl (Nat.zero_le _) (Nat.zero_le _) ?_
      unfold opTold
      rw [if_neg (by omega)]
      rw [if_pos rfl]
      exact ⟨rfl, rfl, rfl, hC⟩
    · refine aw_aload_n dX5_told_0 rfl rfl ?_
      refine aw_get dX5_told_1 flX5_27 (by decide) (by decide) rfl rfl (rc_0_3 hR) ?_
      refine aw_iload_n dX5_told_4 rfl rfl ?_
      refine aw_callV (c_X2_at (x := (i : Int)) hships (by omega) (by omega) e42) mv_X2_at mlX5_103 dX5_told_5 rfl rfl (by decide) rfl (Nat.le_of_ble_eq_true rfl) rfl ?_
      rintro _ _ _ _ ⟨rfl, rfl, rfl, rfl⟩
      refine aw_astore_n dX5_told_8 rfl (by decide) ?_
      refine aw_aload_n dX5_told_9 rfl rfl ?_
      refine aw_ifnonnull_S (tgt := 16) dX5_told_10 (by decide) ?_
      refine aw_iload_n dX5_told_16 rfl rfl ?_
      refine aw_tableIn (off := 56) (tgt := 73) dX5_told_17 (by decide) (by decide) (by decide) rfl (by decide) ?_
      refine aw_aload_n dX5_told_73 rfl rfl ?_
      refine aw_getN dX5_told_74 fnX5_193 (by decide) (by decide) rfl (decide_eq_true (by omega)) (rc_5_9 hR (by omega)) ?_
      refine aw_iret dX5_told_77 rfl (Nat.zero_le _) (Nat.zero_le _) ?_
      unfold opTold
      rw [if_neg (by omega)]
      rw [if_neg (by decide)]
      rw [if_pos rfl]
      have e1 : (if 0 ≤ S 15 i ∧ S 15 i ≤ 7 then S 16 i else 0) = S 16 i := by
        split
        · rfl
        · rename_i h; exact (htg h).symm
      rw [e1]
      exact ⟨rfl, rfl, rfl, hC⟩
    · refine aw_aload_n dX5_told_0 rfl rfl ?_
      refine aw_get dX5_told_1 flX5_27 (by decide) (by decide) rfl rfl (rc_0_3 hR) ?_
      refine aw_iload_n dX5_told_4 rfl rfl ?_
      refine aw_callV (c_X2_at (x := (i : Int)) hships (by omega) (by omega) e42) mv_X2_at mlX5_103 dX5_told_5 rfl rfl (by decide) rfl (Nat.le_of_ble_eq_true rfl) rfl ?_
      rintro _ _ _ _ ⟨rfl, rfl, rfl, rfl⟩
      refine aw_astore_n dX5_told_8 rfl (by decide) ?_
      refine aw_aload_n dX5_told_9 rfl rfl ?_
      refine aw_ifnonnull_S (tgt := 16) dX5_told_10 (by decide) ?_
      refine aw_iload_n dX5_told_16 rfl rfl ?_
      refine aw_tableIn (off := 61) (tgt := 78) dX5_told_17 (by decide) (by decide) (by decide) rfl (by decide) ?_
      refine aw_aload_n dX5_told_78 rfl rfl ?_
      refine aw_getN dX5_told_79 fnX5_162 (by decide) (by decide) rfl (decide_eq_true (by omega)) (rc_5_10 hR (by omega)) ?_
      refine aw_if_eq (tgt := 89) dX5_told_82 (by decide) (by omega) (fun c_82 => ?_) (fun c_82 => ?_)
      · refine aw_iconst dX5_told_89 ?_
        refine aw_iret dX5_told_90 rfl (Nat.zero_le _) (Nat.zero_le _) ?_
        unfold opTold
        rw [if_neg (by omega)]
        rw [if_neg (by decide)]
        rw [if_neg (by decide)]
        rw [if_pos rfl]
        first | rw [if_pos (by omega)] | rw [if_neg (by omega)]
        exact ⟨rfl, rfl, rfl, hC⟩
      · refine aw_iconst dX5_told_85 ?_
        refine aw_goto (tgt := 90) dX5_told_86 (by decide) ?_
        refine aw_iret dX5_told_90 rfl (Nat.zero_le _) (Nat.zero_le _) ?_
        unfold opTold
        rw [if_neg (by omega)]
        rw [if_neg (by decide)]
        rw [if_neg (by decide)]
        rw [if_pos rfl]
        first | rw [if_pos (by omega)] | rw [if_neg (by omega)]
        exact ⟨rfl, rfl, rfl, hC⟩
    · refine aw_aload_n dX5_told_0 rfl rfl ?_
      refine aw_get dX5_told_1 flX5_27 (by decide) (by decide) rfl rfl (rc_0_3 hR) ?_
      refine aw_iload_n dX5_told_4 rfl rfl ?_
      refine aw_callV (c_X2_at (x := (i : Int)) hships (by omega) (by omega) e42) mv_X2_at mlX5_103 dX5_told_5 rfl rfl (by decide) rfl (Nat.le_of_ble_eq_true rfl) rfl ?_
      rintro _ _ _ _ ⟨rfl, rfl, rfl, rfl⟩
      refine aw_astore_n dX5_told_8 rfl (by decide) ?_
      refine aw_aload_n dX5_told_9 rfl rfl ?_
      refine aw_ifnonnull_S (tgt := 16) dX5_told_10 (by decide) ?_
      refine aw_iload_n dX5_told_16 rfl rfl ?_
      refine aw_tableIn (off := 74) (tgt := 91) dX5_told_17 (by decide) (by decide) (by decide) rfl (by decide) ?_
      refine aw_aload_n dX5_told_91 rfl rfl ?_
      refine aw_getN dX5_told_92 fnX5_169 (by decide) (by decide) rfl (decide_eq_true (by omega)) (rc_5_11 hR (by omega)) ?_
      refine aw_if_eq (tgt := 102) dX5_told_95 (by decide) (by omega) (fun c_95 => ?_) (fun c_95 => ?_)
      · refine aw_iconst dX5_told_102 ?_
        refine aw_iret dX5_told_103 rfl (Nat.zero_le _) (Nat.zero_le _) ?_
        unfold opTold
        rw [if_neg (by omega)]
        rw [if_neg (by decide)]
        rw [if_neg (by decide)]
        rw [if_neg (by decide)]
        rw [if_pos rfl]
        first | rw [if_pos (by omega)] | rw [if_neg (by omega)]
        exact ⟨rfl, rfl, rfl, hC⟩
      · refine aw_iconst dX5_told_98 ?_
        refine aw_goto (tgt := 103) dX5_told_99 (by decide) ?_
        refine aw_iret dX5_told_103 rfl (Nat.zero_le _) (Nat.zero_le _) ?_
        unfold opTold
        rw [if_neg (by omega)]
        rw [if_neg (by decide)]
        rw [if_neg (by decide)]
        rw [if_neg (by decide)]
        rw [if_pos rfl]
        first | rw [if_pos (by omega)] | rw [if_neg (by omega)]
        exact ⟨rfl, rfl, rfl, hC⟩
    · refine aw_aload_n dX5_told_0 rfl rfl ?_
      refine aw_get dX5_told_1 flX5_27 (by decide) (by decide) rfl rfl (rc_0_3 hR) ?_
      refine aw_iload_n dX5_told_4 rfl rfl ?_
      refine aw_callV (c_X2_at (x := (i : Int)) hships (by omega) (by omega) e42) mv_X2_at mlX5_103 dX5_told_5 rfl rfl (by decide) rfl (Nat.le_of_ble_eq_true rfl) rfl ?_
      rintro _ _ _ _ ⟨rfl, rfl, rfl, rfl⟩
      refine aw_astore_n dX5_told_8 rfl (by decide) ?_
      refine aw_aload_n dX5_told_9 rfl rfl ?_
      refine aw_ifnonnull_S (tgt := 16) dX5_told_10 (by decide) ?_
      refine aw_iload_n dX5_told_16 rfl rfl ?_
      refine aw_tableIn (off := 87) (tgt := 104) dX5_told_17 (by decide) (by decide) (by decide) rfl (by decide) ?_
      refine aw_aload_n dX5_told_104 rfl rfl ?_
      refine aw_getN dX5_told_105 fnX5_213 (by decide) (by decide) rfl (decide_eq_true (by omega)) (rc_5_12 hR (by omega)) ?_
      refine aw_iret dX5_told_108 rfl (Nat.zero_le _) (Nat.zero_le _) ?_
      unfold opTold
      rw [if_neg (by omega)]
      rw [if_neg (by decide)]
      rw [if_neg (by decide)]
      rw [if_neg (by decide)]
      rw [if_neg (by decide)]
      rw [if_pos rfl]
      exact ⟨rfl, rfl, rfl, hC⟩
    · refine aw_aload_n dX5_told_0 rfl rfl ?_
      refine aw_get dX5_told_1 flX5_27 (by decide) (by decide) rfl rfl (rc_0_3 hR) ?_
      refine aw_iload_n dX5_told_4 rfl rfl ?_
      refine aw_callV (c_X2_at (x := (i : Int)) hships (by omega) (by omega) e42) mv_X2_at mlX5_103 dX5_told_5 rfl rfl (by decide) rfl (Nat.le_of_ble_eq_true rfl) rfl ?_
      rintro _ _ _ _ ⟨rfl, rfl, rfl, rfl⟩
      refine aw_astore_n dX5_told_8 rfl (by decide) ?_
      refine aw_aload_n dX5_told_9 rfl rfl ?_
      refine aw_ifnonnull_S (tgt := 16) dX5_told_10 (by decide) ?_
      refine aw_iload_n dX5_told_16 rfl rfl ?_
      refine aw_tableIn (off := 92) (tgt := 109) dX5_told_17 (by decide) (by decide) (by decide) rfl (by decide) ?_
      refine aw_aload_n dX5_told_109 rfl rfl ?_
      refine aw_getN dX5_told_110 fnX5_202 (by decide) (by decide) rfl (decide_eq_true (by omega)) (rc_5_13 hR (by omega)) ?_
      refine aw_iret dX5_told_113 rfl (Nat.zero_le _) (Nat.zero_le _) ?_
      unfold opTold
      rw [if_neg (by omega)]
      rw [if_neg (by decide)]
      rw [if_neg (by decide)]
      rw [if_neg (by decide)]
      rw [if_neg (by decide)]
      rw [if_neg (by decide)]
      rw [if_pos rfl]
      exact ⟨rfl, rfl, rfl, hC⟩
    · refine aw_aload_n dX5_told_0 rfl rfl ?_
      refine aw_get dX5_told_1 flX5_27 (by decide) (by decide) rfl rfl (rc_0_3 hR) ?_
      refine aw_iload_n dX5_told_4 rfl rfl ?_
      refine aw_callV (c_X2_at (x := (i : Int)) hships (by omega) (by omega) e42) mv_X2_at mlX5_103 dX5_told_5 rfl rfl (by decide) rfl (Nat.le_of_ble_eq_true rfl) rfl ?_
      rintro _ _ _ _ ⟨rfl, rfl, rfl, rfl⟩
      refine aw_astore_n dX5_told_8 rfl (by decide) ?_
      refine aw_aload_n dX5_told_9 rfl rfl ?_
      refine aw_ifnonnull_S (tgt := 16) dX5_told_10 (by decide) ?_
      refine aw_iload_n dX5_told_16 rfl rfl ?_
      refine aw_tableIn (off := 97) (tgt := 114) dX5_told_17 (by decide) (by decide) (by decide) rfl (by decide) ?_
      refine aw_aload_n dX5_told_114 rfl rfl ?_
      refine aw_callV (c_X4_dues hB hC hs) mv_X4_dues mlX5_252 dX5_told_115 rfl (decide_eq_true (by omega)) (by decide) rfl (Nat.le_of_ble_eq_true rfl) rfl ?_
      rintro _ _ _ _ ⟨rfl, rfl, rfl, rfl⟩
      refine aw_iret dX5_told_118 rfl (Nat.zero_le _) (Nat.zero_le _) ?_
      unfold opTold
      rw [if_neg (by omega)]
      rw [if_neg (by decide)]
      rw [if_neg (by decide)]
      rw [if_neg (by decide)]
      rw [if_neg (by decide)]
      rw [if_neg (by decide)]
      rw [if_neg (by decide)]
      rw [if_pos rfl]
      exact ⟨rfl, rfl, rfl, hC⟩
    · refine aw_aload_n dX5_told_0 rfl rfl ?_
      refine aw_get dX5_told_1 flX5_27 (by decide) (by decide) rfl rfl (rc_0_3 hR) ?_
      refine aw_iload_n dX5_told_4 rfl rfl ?_
      refine aw_callV (c_X2_at (x := (i : Int)) hships (by omega) (by omega) e42) mv_X2_at mlX5_103 dX5_told_5 rfl rfl (by decide) rfl (Nat.le_of_ble_eq_true rfl) rfl ?_
      rintro _ _ _ _ ⟨rfl, rfl, rfl, rfl⟩
      refine aw_astore_n dX5_told_8 rfl (by decide) ?_
      refine aw_aload_n dX5_told_9 rfl rfl ?_
      refine aw_ifnonnull_S (tgt := 16) dX5_told_10 (by decide) ?_
      refine aw_iload_n dX5_told_16 rfl rfl ?_
      refine aw_tableIn (off := 102) (tgt := 119) dX5_told_17 (by decide) (by decide) (by decide) rfl (by decide) ?_
      refine aw_aload_n dX5_told_119 rfl rfl ?_
      refine aw_aload_n dX5_told_120 rfl rfl ?_
      refine aw_get dX5_told_121 flX5_53 (by decide) (by decide) rfl rfl (rc_0_10 hR) ?_
      refine aw_callV (c_X4_isAground (decide_eq_true hs) (rc_5_15 hR (by omega)) (by omega) (by omega)) mv_X4_isAground mlX5_126 dX5_told_124 rfl (decide_eq_true hs) (by decide) rfl (Nat.le_of_ble_eq_true rfl) rfl ?_
      rintro _ _ _ _ ⟨⟨rfl, h4⟩ | ⟨rfl, h4⟩, rfl, rfl, rfl⟩
      · refine aw_if_eq (tgt := 142) dX5_told_127 (by decide) (by omega) (fun c_127 => absurd c_127 (by decide)) (fun _ => ?_)
        refine aw_aload_n dX5_told_130 rfl rfl ?_
        refine aw_getN dX5_told_131 fnX5_129 (by decide) (by decide) rfl (decide_eq_true (by omega)) (rc_5_15 hR (by omega)) ?_
        refine aw_aload_n dX5_told_134 rfl rfl ?_
        refine aw_get dX5_told_135 flX5_53 (by decide) (by decide) rfl rfl (rc_0_10 hR) ?_
        refine aw_isub dX5_told_138 ?_
        refine aw_goto (tgt := 143) dX5_told_139 (by decide) ?_
        refine aw_iret dX5_told_143 rfl (Nat.zero_le _) (Nat.zero_le _) ?_
        unfold opTold
        rw [if_neg (by omega)]
        rw [if_neg (by decide)]
        rw [if_neg (by decide)]
        rw [if_neg (by decide)]
        rw [if_neg (by decide)]
        rw [if_neg (by decide)]
        rw [if_neg (by decide)]
        rw [if_neg (by decide)]
        rw [if_pos rfl]
        rw [hun.2]
        first | rw [if_pos h4] | rw [if_neg h4]
        exact ⟨rfl, rfl, rfl, hC⟩
      · refine aw_if_eq (tgt := 142) dX5_told_127 (by decide) (by omega) (fun _ => ?_) (fun c_127 => absurd c_127 (by decide))
        refine aw_iconst dX5_told_142 ?_
        refine aw_iret dX5_told_143 rfl (Nat.zero_le _) (Nat.zero_le _) ?_
        unfold opTold
        rw [if_neg (by omega)]
        rw [if_neg (by decide)]
        rw [if_neg (by decide)]
        rw [if_neg (by decide)]
        rw [if_neg (by decide)]
        rw [if_neg (by decide)]
        rw [if_neg (by decide)]
        rw [if_neg (by decide)]
        rw [if_pos rfl]
        rw [hun.2]
        first | rw [if_pos h4] | rw [if_neg h4]
        exact ⟨rfl, rfl, rfl, hC⟩
    · refine aw_aload_n dX5_told_0 rfl rfl ?_
      refine aw_get dX5_told_1 flX5_27 (by decide) (by decide) rfl rfl (rc_0_3 hR) ?_
      refine aw_iload_n dX5_told_4 rfl rfl ?_
      refine aw_callV (c_X2_at (x := (i : Int)) hships (by omega) (by omega) e42) mv_X2_at mlX5_103 dX5_told_5 rfl rfl (by decide) rfl (Nat.le_of_ble_eq_true rfl) rfl ?_
      rintro _ _ _ _ ⟨rfl, rfl, rfl, rfl⟩
      refine aw_astore_n dX5_told_8 rfl (by decide) ?_
      refine aw_aload_n dX5_told_9 rfl rfl ?_
      refine aw_ifnonnull_S (tgt := 16) dX5_told_10 (by decide) ?_
      refine aw_iload_n dX5_told_16 rfl rfl ?_
      refine aw_tableIn (off := 127) (tgt := 144) dX5_told_17 (by decide) (by decide) (by decide) rfl (by decide) ?_
      refine aw_aload_n dX5_told_144 rfl rfl ?_
      refine aw_getN dX5_told_145 fnX5_111 (by decide) (by decide) rfl (decide_eq_true (by omega)) (rc_5_14 hR (by omega)) ?_
      refine aw_iret dX5_told_148 rfl (Nat.zero_le _) (Nat.zero_le _) ?_
      unfold opTold
      rw [if_neg (by omega)]
      rw [if_neg (by decide)]
      rw [if_neg (by decide)]
      rw [if_neg (by decide)]
      rw [if_neg (by decide)]
      rw [if_neg (by decide)]
      rw [if_neg (by decide)]
      rw [if_neg (by decide)]
      rw [if_neg (by decide)]
      exact ⟨rfl, rfl, rfl, hC⟩
    · refine aw_aload_n dX5_told_0 rfl rfl ?_
      refine aw_get dX5_told_1 flX5_27 (by decide) (by decide) rfl rfl (rc_0_3 hR) ?_
      refine aw_iload_n dX5_told_4 rfl rfl ?_
      refine aw_callV (c_X2_at (x := (i : Int)) hships (by omega) (by omega) e42) mv_X2_at mlX5_103 dX5_told_5 rfl rfl (by decide) rfl (Nat.le_of_ble_eq_true rfl) rfl ?_
      rintro _ _ _ _ ⟨rfl, rfl, rfl, rfl⟩
      refine aw_astore_n dX5_told_8 rfl (by decide) ?_
      refine aw_aload_n dX5_told_9 rfl rfl ?_
      refine aw_ifnonnull_S (tgt := 16) dX5_told_10 (by decide) ?_
      refine aw_iload_n dX5_told_16 rfl rfl ?_
      refine aw_tableOut (tgt := 149) dX5_told_17 (by omega) (by omega) (by decide) ?_
      refine aw_bipush dX5_told_149 (by decide) ?_
      refine aw_iret dX5_told_151 rfl (Nat.zero_le _) (Nat.zero_le _) ?_
      unfold opTold
      rw [if_pos (by omega)]
      exact ⟨rfl, rfl, rfl, hC⟩
  · refine aw_aload_n dX5_told_0 rfl rfl ?_
    refine aw_get dX5_told_1 flX5_27 (by decide) (by decide) rfl rfl (rc_0_3 hR) ?_
    refine aw_iload_n dX5_told_4 rfl rfl ?_
    refine aw_callV (c_X2_at_out hships hs0 (by omega)) mv_X2_at mlX5_103 dX5_told_5 rfl rfl (by decide) rfl (Nat.le_of_ble_eq_true rfl) rfl ?_
    rintro _ _ _ _ ⟨rfl, rfl, rfl, rfl⟩
    refine aw_astore_n dX5_told_8 rfl (by decide) ?_
    refine aw_aload_n dX5_told_9 rfl rfl ?_
    refine aw_ifnonnull_N dX5_told_10 ?_
    refine aw_bipush dX5_told_13 (by decide) ?_
    refine aw_iret dX5_told_15 rfl (Nat.zero_le _) (Nat.zero_le _) ?_
    unfold opTold
    rw [if_pos (by omega)]
    exact ⟨rfl, rfl, rfl, hC⟩
theorem wsum_one (S : SS) (s : Int) {c : Nat} (hc : c < 7) : wsum S s c 7 = S 23 (7 * s + c) := by
  have key : ∀ n : Nat, wsum S s c n = if c < n then S 23 (7 * s + c) else 0 := by
    intro n
    induction n with
    | zero => simp [wsum]
    | succ n ih =>
      rw [wsum, ih]
      by_cases h : c = n
      · subst h
        rw [if_neg (by omega), if_pos (Or.inr rfl), if_pos (by omega)]
        omega
      · rw [if_neg (c := (c : Int) < 0 ∨ (c : Int) = n) (by omega)]
        by_cases h2 : c < n
        · rw [if_pos h2, if_pos (by omega)]; omega
        · rw [if_neg h2, if_neg (by omega)]; omega
  rw [key, if_pos hc]
set_option maxRecDepth 100000 in
set_option maxHeartbeats 4000000 in
theorem c_X5_waited {s c : Int} (hB : BB S) (hC : RC ns nc S V) (hs0 : Rg s) (hc : Rg c) : CT l D cA A ad yX5_waited cX5_waited 4 (some .int) rm_X5_waited [.inr (some (0, 0)), .inl s, .inl c] (lvC ns nc) V sz (PC (some (.inl (opWaited S s c))) ns nc S sz) := by
  refine CT.of2 [some (.inr (some (0, 0))), some (.inl s), some (.inl c), none] (by decide) (Nat.le_of_ble_eq_true rfl) rfl ?_
  obtain ⟨hR, h8, h24⟩ := id hC
  have hm := hB.m
  simp only [bsm] at hm
  have hships := hC.ships hB
  by_cases hin : 0 ≤ s ∧ s < ns
  · obtain ⟨i, rfl⟩ : ∃ i : Nat, s = (i : Int) := ⟨s.toNat, by omega⟩
    have e42 : V 42 0 ((i : Int)).toNat = .inr (some (5, i)) := rc_42 hR (by omega) (by omega)
    have hs : (i : Int) < ns := by omega
    have hsh := hB.sh (s := (i : Int)) (by omega) (by omega)
    simp only [bsh] at hsh
    refine aw_aload_n dX5_waited_0 rfl rfl ?_
    refine aw_get dX5_waited_1 flX5_27 (by decide) (by decide) rfl rfl (rc_0_3 hR) ?_
    refine aw_iload_n dX5_waited_4 rfl rfl ?_
    refine aw_callV (c_X2_at (x := (i : Int)) hships (by omega) (by omega) e42) mv_X2_at mlX5_103 dX5_waited_5 rfl rfl (by decide) rfl (Nat.le_of_ble_eq_true rfl) rfl ?_
    rintro _ _ _ _ ⟨rfl, rfl, rfl, rfl⟩
    refine aw_astore_n dX5_waited_8 rfl (by decide) ?_
    refine aw_aload_n dX5_waited_9 rfl rfl ?_
    refine aw_ifnull_S dX5_waited_10 ?_
    refine aw_iload_n dX5_waited_13 rfl rfl ?_
    refine aw_iconst dX5_waited_14 ?_
    refine aw_bipush dX5_waited_15 (by decide) ?_
    refine aw_callS (c_X5_within (by omega) (by omega) (by omega)) mv_X5_within mlX5_61 dX5_waited_17 (by decide) rfl (Nat.le_of_ble_eq_true rfl) rfl ?_
    rintro _ _ _ _ ⟨⟨rfl, h2⟩ | ⟨rfl, h2⟩, rfl, rfl, rfl⟩
    · refine aw_if_ne (tgt := 25) dX5_waited_20 (by decide) (by omega) (fun _ => ?_) (fun c_20 => absurd c_20 (by decide))
      refine aw_iload_n dX5_waited_25 rfl rfl ?_
      refine aw_iconst dX5_waited_26 ?_
      refine aw_icmp_ne (tgt := 37) dX5_waited_27 (by decide) (by omega) (by omega) (fun c_27 => ?_) (fun c_27 => ?_)
      · refine aw_aload_n dX5_waited_37 rfl rfl ?_
        refine aw_getN dX5_waited_38 fnX5_259 (by decide) (by decide) rfl (decide_eq_true (by omega)) (rc_5_7 hR (by omega)) ?_
        refine aw_iload_n dX5_waited_41 rfl rfl ?_
        refine aw_iald dX5_waited_42 rfl (decide_eq_true (by omega)) (by omega) (lnlt (n := 7) rfl (by omega)) (rcx_6 hR (by omega) (by omega) (by omega)) ?_
        refine aw_iret dX5_waited_43 rfl (Nat.zero_le _) (Nat.zero_le _) ?_
        unfold opWaited
        rw [if_neg (by omega)]
        first
        | (rw [show c = -1 by omega]; exact ⟨rfl, rfl, rfl, hC⟩)
        | (have hw1 := wsum_one S (i : Int) (c := c.toNat) (by omega)
           rw [Int.toNat_of_nonneg (by omega)] at hw1
           rw [hw1]; exact ⟨rfl, rfl, rfl, hC⟩)
      · refine aw_aload_n dX5_waited_30 rfl rfl ?_
        refine aw_callV (c_X4_waitedInAll hC hs) mv_X4_waitedInAll mlX5_256 dX5_waited_31 rfl (decide_eq_true (by omega)) (by decide) rfl (Nat.le_of_ble_eq_true rfl) rfl ?_
        rintro _ _ _ _ ⟨rfl, rfl, rfl, rfl⟩
        refine aw_goto (tgt := 43) dX5_waited_34 (by decide) ?_
        refine aw_iret dX5_waited_43 rfl (Nat.zero_le _) (Nat.zero_le _) ?_
        unfold opWaited
        rw [if_neg (by omega)]
        first
        | (rw [show c = -1 by omega]; exact ⟨rfl, rfl, rfl, hC⟩)
        | (have hw1 := wsum_one S (i : Int) (c := c.toNat) (by omega)
           rw [Int.toNat_of_nonneg (by omega)] at hw1
           rw [hw1]; exact ⟨rfl, rfl, rfl, hC⟩)
    · refine aw_if_ne (tgt := 25) dX5_waited_20 (by decide) (by omega) (fun c_20 => absurd c_20 (by decide)) (fun _ => ?_)
      refine aw_iconst dX5_waited_23 ?_
      refine aw_iret dX5_waited_24 rfl (Nat.zero_le _) (Nat.zero_le _) ?_
      unfold opWaited
      rw [if_pos (by omega)]
      exact ⟨rfl, rfl, rfl, hC⟩
  · refine aw_aload_n dX5_waited_0 rfl rfl ?_
    refine aw_get dX5_waited_1 flX5_27 (by decide) (by decide) rfl rfl (rc_0_3 hR) ?_
    refine aw_iload_n dX5_waited_4 rfl rfl ?_
    refine aw_callV (c_X2_at_out hships hs0 (by omega)) mv_X2_at mlX5_103 dX5_waited_5 rfl rfl (by decide) rfl (Nat.le_of_ble_eq_true rfl) rfl ?_
    rintro _ _ _ _ ⟨rfl, rfl, rfl, rfl⟩
    refine aw_astore_n dX5_waited_8 rfl (by decide) ?_
    refine aw_aload_n dX5_waited_9 rfl rfl ?_
    refine aw_ifnull_N (tgt := 23) dX5_waited_10 (by decide) ?_
    refine aw_iconst dX5_waited_23 ?_
    refine aw_iret dX5_waited_24 rfl (Nat.zero_le _) (Nat.zero_le _) ?_
    unfold opWaited
    rw [if_pos (by omega)]
    exact ⟨rfl, rfl, rfl, hC⟩
set_option maxRecDepth 100000 in
set_option maxHeartbeats 4000000 in
theorem c_X5_line {w i : Int} (hI : CI S) (hC : RC ns nc S V) (hw : Rg w) (hi : Rg i) : CT l D cA A ad yX5_line cX5_line 3 (some .int) rm_X5_line [.inr (some (0, 0)), .inl w, .inl i] (lvC ns nc) V sz (PC (some (.inl (opLine S w i))) ns nc S sz) := by
  refine CT.of2 [some (.inr (some (0, 0))), some (.inl w), some (.inl i)] (by decide) (Nat.le_of_ble_eq_true rfl) rfl ?_
  obtain ⟨hR, h8, h24⟩ := id hC
  obtain ⟨hB, hV, -, -⟩ := hI
  by_cases hw1 : w = 0 ∨ w = 1
  · have hln := hB.ln (w := w) (by omega) (by omega)
    have hline := hC.line hB (j := w.toNat) (by omega)
    rw [show ((w.toNat : Nat) : Int) = w by omega] at hline
    by_cases hi0 : 0 ≤ i ∧ i < S 31 w
    · have hv := hV.2.1 w.toNat i.toNat (by omega) (by rw [show ((w.toNat : Nat) : Int) = w by omega]; omega)
      rw [show ((w.toNat : Nat) : Int) = w by omega, show ((i.toNat : Nat) : Int) = i by omega] at hv
      have hli := hB.li (x := 30 * w + i) (by omega) (by omega)
      have e41 : V 41 w.toNat i.toNat = .inr (some (5, (S 32 (30 * w + i)).toNat)) := by
        have := rc_41 (i := w.toNat) (k := i.toNat) hR (by omega) (by omega) (by rw [show ((w.toNat : Nat) : Int) = w by omega]; omega)
        rw [show ((w.toNat : Nat) : Int) = w by omega, show ((i.toNat : Nat) : Int) = i by omega] at this
        exact this
      have e50 : V 5 (S 32 (30 * w + i)).toNat 0 = .inl (S 32 (30 * w + i)) := by
        have := rc_5_0 (i := (S 32 (30 * w + i)).toNat) hR (by omega)
        rw [Int.toNat_of_nonneg hli.1] at this
        exact this
      refine aw_iload_n dX5_line_0 rfl rfl ?_
      refine aw_callS (c_X5_isWay (by omega)) mv_X5_isWay mlX5_75 dX5_line_1 (by decide) rfl (Nat.le_of_ble_eq_true rfl) rfl ?_
      rintro _ _ _ _ ⟨⟨rfl, hx⟩ | ⟨rfl, hx⟩, rfl, rfl, rfl⟩
      · refine aw_if_eq (tgt := 11) dX5_line_4 (by decide) (by omega) (fun c_4 => absurd c_4 (by decide)) (fun _ => ?_)
        refine aw_iload_n dX5_line_7 rfl rfl ?_
        refine aw_if_ge (tgt := 13) dX5_line_8 (by decide) (by omega) (fun c_8 => ?_) (fun c_8 => ?_)
        · refine aw_aload_n dX5_line_13 rfl rfl ?_
          refine aw_iload_n dX5_line_14 rfl rfl ?_
          refine aw_callV (c_X5_lineOf hC hw1) mv_X5_lineOf mlX5_151 dX5_line_15 rfl rfl (by decide) rfl (Nat.le_of_ble_eq_true rfl) rfl ?_
          rintro _ _ _ _ ⟨rfl, rfl, rfl, rfl⟩
          refine aw_iload_n dX5_line_18 rfl rfl ?_
          refine aw_callV (c_X2_numberAt hline hi0.1 hi0.2 e41 (decide_eq_true (by omega)) e50) mv_X2_numberAt mlX5_262 dX5_line_19 rfl (decide_eq_true (show w.toNat < 2 by omega)) (by decide) rfl (Nat.le_of_ble_eq_true rfl) rfl ?_
          rintro _ _ _ _ ⟨rfl, rfl, rfl, rfl⟩
          refine aw_iret dX5_line_22 rfl (Nat.zero_le _) (Nat.zero_le _) ?_
          unfold opLine
          rw [if_neg (by omega), if_pos (by omega)]
          exact ⟨rfl, rfl, rfl, hC⟩
        · refine aw_iconst dX5_line_11 ?_
          refine aw_iret dX5_line_12 rfl (Nat.zero_le _) (Nat.zero_le _) ?_
          unfold opLine
          rw [if_pos (by omega)]
          exact ⟨rfl, rfl, rfl, hC⟩
      · refine aw_if_eq (tgt := 11) dX5_line_4 (by decide) (by omega) (fun _ => ?_) (fun c_4 => absurd c_4 (by decide))
        refine aw_iconst dX5_line_11 ?_
        refine aw_iret dX5_line_12 rfl (Nat.zero_le _) (Nat.zero_le _) ?_
        unfold opLine
        rw [if_pos (by omega)]
        exact ⟨rfl, rfl, rfl, hC⟩
    · refine aw_iload_n dX5_line_0 rfl rfl ?_
      refine aw_callS (c_X5_isWay (by omega)) mv_X5_isWay mlX5_75 dX5_line_1 (by decide) rfl (Nat.le_of_ble_eq_true rfl) rfl ?_
      rintro _ _ _ _ ⟨⟨rfl, hx⟩ | ⟨rfl, hx⟩, rfl, rfl, rfl⟩
      · refine aw_if_eq (tgt := 11) dX5_line_4 (by decide) (by omega) (fun c_4 => absurd c_4 (by decide)) (fun _ => ?_)
        refine aw_iload_n dX5_line_7 rfl rfl ?_
        refine aw_if_ge (tgt := 13) dX5_line_8 (by decide) (by omega) (fun c_8 => ?_) (fun c_8 => ?_)
        · refine aw_aload_n dX5_line_13 rfl rfl ?_
          refine aw_iload_n dX5_line_14 rfl rfl ?_
          refine aw_callV (c_X5_lineOf hC hw1) mv_X5_lineOf mlX5_151 dX5_line_15 rfl rfl (by decide) rfl (Nat.le_of_ble_eq_true rfl) rfl ?_
          rintro _ _ _ _ ⟨rfl, rfl, rfl, rfl⟩
          refine aw_iload_n dX5_line_18 rfl rfl ?_
          refine aw_callV (c_X2_numberAt_out hline hi (by omega)) mv_X2_numberAt mlX5_262 dX5_line_19 rfl (decide_eq_true (show w.toNat < 2 by omega)) (by decide) rfl (Nat.le_of_ble_eq_true rfl) rfl ?_
          rintro _ _ _ _ ⟨rfl, rfl, rfl, rfl⟩
          refine aw_iret dX5_line_22 rfl (Nat.zero_le _) (Nat.zero_le _) ?_
          unfold opLine
          rw [if_neg (by omega), if_neg (by omega)]
          exact ⟨rfl, rfl, rfl, hC⟩
        · refine aw_iconst dX5_line_11 ?_
          refine aw_iret dX5_line_12 rfl (Nat.zero_le _) (Nat.zero_le _) ?_
          unfold opLine
          rw [if_pos (by omega)]
          exact ⟨rfl, rfl, rfl, hC⟩
      · refine aw_if_eq (tgt := 11) dX5_line_4 (by decide) (by omega) (fun _ => ?_) (fun c_4 => absurd c_4 (by decide))
        refine aw_iconst dX5_line_11 ?_
        refine aw_iret dX5_line_12 rfl (Nat.zero_le _) (Nat.zero_le _) ?_
        unfold opLine
        rw [if_pos (by omega)]
        exact ⟨rfl, rfl, rfl, hC⟩
  · refine aw_iload_n dX5_line_0 rfl rfl ?_
    refine aw_callS (c_X5_isWay (by omega)) mv_X5_isWay mlX5_75 dX5_line_1 (by decide) rfl (Nat.le_of_ble_eq_true rfl) rfl ?_
    rintro _ _ _ _ ⟨⟨rfl, hx⟩ | ⟨rfl, hx⟩, rfl, rfl, rfl⟩
    · refine aw_if_eq (tgt := 11) dX5_line_4 (by decide) (by omega) (fun c_4 => absurd c_4 (by decide)) (fun _ => ?_)
      refine aw_iload_n dX5_line_7 rfl rfl ?_
      refine aw_if_ge (tgt := 13) dX5_line_8 (by decide) (by omega) (fun c_8 => ?_) (fun c_8 => ?_)
      · exfalso
        omega
      · refine aw_iconst dX5_line_11 ?_
        refine aw_iret dX5_line_12 rfl (Nat.zero_le _) (Nat.zero_le _) ?_
        unfold opLine
        rw [if_pos (by omega)]
        exact ⟨rfl, rfl, rfl, hC⟩
    · refine aw_if_eq (tgt := 11) dX5_line_4 (by decide) (by omega) (fun _ => ?_) (fun c_4 => absurd c_4 (by decide))
      refine aw_iconst dX5_line_11 ?_
      refine aw_iret dX5_line_12 rfl (Nat.zero_le _) (Nat.zero_le _) ?_
      unfold opLine
      rw [if_pos (by omega)]
      exact ⟨rfl, rfl, rfl, hC⟩
set_option maxRecDepth 100000 in
set_option maxHeartbeats 4000000 in
theorem c_X5_in {s w i : Int} (hI : CI S) (hC : RC ns nc S V) (hs : Rg s) (hw : Rg w) (hi : Rg i) : CT l D cA A ad yX5_in cX5_in 5 (some .int) rm_X5_in [.inr (some (0, 0)), .inl s, .inl w, .inl i] (lvC ns nc) V sz (PC (some (.inl (opIn S s w i))) ns nc S sz) := by
  refine CT.of2 [some (.inr (some (0, 0))), some (.inl s), some (.inl w), some (.inl i), none] (by decide) (Nat.le_of_ble_eq_true rfl) rfl ?_
  obtain ⟨hR, h8, h24⟩ := id hC
  obtain ⟨hB, hV, -, -⟩ := hI
  by_cases hin : 0 ≤ s ∧ s ≤ 7
  · obtain ⟨q, rfl⟩ : ∃ q : Nat, s = (q : Int) := ⟨s.toNat, by omega⟩
    by_cases hw1 : w = 0 ∨ w = 1
    · have hat : ((2 * q + w.toNat : Nat) : Int) = 2 * (q : Int) + w := by omega
      have hiM := hB.iM (a := 2 * (q : Int) + w) (by omega) (by omega)
      have hlane := hC.lane hB (j := 2 * q + w.toNat) (by omega)
      rw [hat] at hlane
      by_cases hi0 : 0 ≤ i ∧ i < S 33 (2 * (q : Int) + w)
      · have hv := hV.1 (2 * q + w.toNat) i.toNat (by omega) (by rw [hat]; omega)
        rw [hat, show ((i.toNat : Nat) : Int) = i by omega] at hv
        have hli := hB.ins (x := 30 * (2 * (q : Int) + w) + i) (by omega) (by omega)
        have e41 : V 40 (2 * q + w.toNat) i.toNat = .inr (some (5, (S 34 (30 * (2 * (q : Int) + w) + i)).toNat)) := by
          have := rc_40 (i := 2 * q + w.toNat) (k := i.toNat) hR (by omega) (by omega) (by rw [hat]; omega)
          rw [hat, show ((i.toNat : Nat) : Int) = i by omega] at this
          exact this
        have e50 : V 5 (S 34 (30 * (2 * (q : Int) + w) + i)).toNat 0 = .inl (S 34 (30 * (2 * (q : Int) + w) + i)) := by
          have := rc_5_0 (i := (S 34 (30 * (2 * (q : Int) + w) + i)).toNat) hR (by omega)
          rw [Int.toNat_of_nonneg hli.1] at this
          exact this
        refine aw_aload_n dX5_in_0 rfl rfl ?_
        refine aw_iload_n dX5_in_1 rfl rfl ?_
        refine aw_callV (c_X5_sectionAt (sec := q) hC (by omega)) mv_X5_sectionAt mlX5_57 dX5_in_2 rfl rfl (by decide) rfl (Nat.le_of_ble_eq_true rfl) rfl ?_
        rintro _ _ _ _ ⟨rfl, rfl, rfl, rfl⟩
        refine aw_astore dX5_in_5 (by decide) ?_
        refine aw_aload dX5_in_7 rfl ?_
        refine aw_ifnull_S dX5_in_9 ?_
        refine aw_iload_n dX5_in_12 rfl rfl ?_
        refine aw_callS (c_X5_isWay (by omega)) mv_X5_isWay mlX5_75 dX5_in_13 (by decide) rfl (Nat.le_of_ble_eq_true rfl) rfl ?_
        rintro _ _ _ _ ⟨⟨rfl, hx⟩ | ⟨rfl, hx⟩, rfl, rfl, rfl⟩
        · refine aw_if_eq (tgt := 23) dX5_in_16 (by decide) (by omega) (fun c_16 => absurd c_16 (by decide)) (fun _ => ?_)
          refine aw_iload_n dX5_in_19 rfl rfl ?_
          refine aw_if_ge (tgt := 25) dX5_in_20 (by decide) (by omega) (fun c_20 => ?_) (fun c_20 => ?_)
          · refine aw_aload dX5_in_25 rfl ?_
            refine aw_iload_n dX5_in_27 rfl rfl ?_
            refine aw_callV (c_X3_lane (sec := q) hC (by omega) hw1) mv_X3_lane mlX5_172 dX5_in_28 rfl (decide_eq_true (by omega)) (by decide) rfl (Nat.le_of_ble_eq_true rfl) rfl ?_
            rintro _ _ _ _ ⟨rfl, rfl, rfl, rfl⟩
            refine aw_getN dX5_in_31 fnX5_176 (by decide) (by decide) rfl (decide_eq_true (show 2 * q + w.toNat < 16 by omega)) (rc_2_0 hR (show 2 * q + w.toNat < 16 by omega)) ?_
            refine aw_iload_n dX5_in_34 rfl rfl ?_
            refine aw_callV (c_X2_numberAt hlane hi0.1 hi0.2 e41 (decide_eq_true (by omega)) e50) mv_X2_numberAt mlX5_262 dX5_in_35 rfl (decide_eq_true (show 2 * q + w.toNat < 16 by omega)) (by decide) rfl (Nat.le_of_ble_eq_true rfl) rfl ?_
            rintro _ _ _ _ ⟨rfl, rfl, rfl, rfl⟩
            refine aw_iret dX5_in_38 rfl (Nat.zero_le _) (Nat.zero_le _) ?_
            unfold opIn
            rw [if_neg (by omega), if_pos (by omega)]
            exact ⟨rfl, rfl, rfl, hC⟩
          · refine aw_iconst dX5_in_23 ?_
            refine aw_iret dX5_in_24 rfl (Nat.zero_le _) (Nat.zero_le _) ?_
            unfold opIn
            rw [if_pos (by omega)]
            exact ⟨rfl, rfl, rfl, hC⟩
        · refine aw_if_eq (tgt := 23) dX5_in_16 (by decide) (by omega) (fun _ => ?_) (fun c_16 => absurd c_16 (by decide))
          refine aw_iconst dX5_in_23 ?_
          refine aw_iret dX5_in_24 rfl (Nat.zero_le _) (Nat.zero_le _) ?_
          unfold opIn
          rw [if_pos (by omega)]
          exact ⟨rfl, rfl, rfl, hC⟩
      · refine aw_aload_n dX5_in_0 rfl rfl ?_
        refine aw_iload_n dX5_in_1 rfl rfl ?_
        refine aw_callV (c_X5_sectionAt (sec := q) hC (by omega)) mv_X5_sectionAt mlX5_57 dX5_in_2 rfl rfl (by decide) rfl (Nat.le_of_ble_eq_true rfl) rfl ?_
        rintro _ _ _ _ ⟨rfl, rfl, rfl, rfl⟩
        refine aw_astore dX5_in_5 (by decide) ?_
        refine aw_aload dX5_in_7 rfl ?_
        refine aw_ifnull_S dX5_in_9 ?_
        refine aw_iload_n dX5_in_12 rfl rfl ?_
        refine aw_callS (c_X5_isWay (by omega)) mv_X5_isWay mlX5_75 dX5_in_13 (by decide) rfl (Nat.le_of_ble_eq_true rfl) rfl ?_
        rintro _ _ _ _ ⟨⟨rfl, hx⟩ | ⟨rfl, hx⟩, rfl, rfl, rfl⟩
        · refine aw_if_eq (tgt := 23) dX5_in_16 (by decide) (by omega) (fun c_16 => absurd c_16 (by decide)) (fun _ => ?_)
          refine aw_iload_n dX5_in_19 rfl rfl ?_
          refine aw_if_ge (tgt := 25) dX5_in_20 (by decide) (by omega) (fun c_20 => ?_) (fun c_20 => ?_)
          · refine aw_aload dX5_in_25 rfl ?_
            refine aw_iload_n dX5_in_27 rfl rfl ?_
            refine aw_callV (c_X3_lane (sec := q) hC (by omega) hw1) mv_X3_lane mlX5_172 dX5_in_28 rfl (decide_eq_true (by omega)) (by decide) rfl (Nat.le_of_ble_eq_true rfl) rfl ?_
            rintro _ _ _ _ ⟨rfl, rfl, rfl, rfl⟩
            refine aw_getN dX5_in_31 fnX5_176 (by decide) (by decide) rfl (decide_eq_true (show 2 * q + w.toNat < 16 by omega)) (rc_2_0 hR (show 2 * q + w.toNat < 16 by omega)) ?_
            refine aw_iload_n dX5_in_34 rfl rfl ?_
            refine aw_callV (c_X2_numberAt_out hlane hi (by omega)) mv_X2_numberAt mlX5_262 dX5_in_35 rfl (decide_eq_true (show 2 * q + w.toNat < 16 by omega)) (by decide) rfl (Nat.le_of_ble_eq_true rfl) rfl ?_
            rintro _ _ _ _ ⟨rfl, rfl, rfl, rfl⟩
            refine aw_iret dX5_in_38 rfl (Nat.zero_le _) (Nat.zero_le _) ?_
            unfold opIn
            rw [if_neg (by omega), if_neg (by omega)]
            exact ⟨rfl, rfl, rfl, hC⟩
          · refine aw_iconst dX5_in_23 ?_
            refine aw_iret dX5_in_24 rfl (Nat.zero_le _) (Nat.zero_le _) ?_
            unfold opIn
            rw [if_pos (by omega)]
            exact ⟨rfl, rfl, rfl, hC⟩
        · refine aw_if_eq (tgt := 23) dX5_in_16 (by decide) (by omega) (fun _ => ?_) (fun c_16 => absurd c_16 (by decide))
          refine aw_iconst dX5_in_23 ?_
          refine aw_iret dX5_in_24 rfl (Nat.zero_le _) (Nat.zero_le _) ?_
          unfold opIn
          rw [if_pos (by omega)]
          exact ⟨rfl, rfl, rfl, hC⟩
    · refine aw_aload_n dX5_in_0 rfl rfl ?_
      refine aw_iload_n dX5_in_1 rfl rfl ?_
      refine aw_callV (c_X5_sectionAt (sec := q) hC (by omega)) mv_X5_sectionAt mlX5_57 dX5_in_2 rfl rfl (by decide) rfl (Nat.le_of_ble_eq_true rfl) rfl ?_
      rintro _ _ _ _ ⟨rfl, rfl, rfl, rfl⟩
      refine aw_astore dX5_in_5 (by decide) ?_
      refine aw_aload dX5_in_7 rfl ?_
      refine aw_ifnull_S dX5_in_9 ?_
      refine aw_iload_n dX5_in_12 rfl rfl ?_
      refine aw_callS (c_X5_isWay (by omega)) mv_X5_isWay mlX5_75 dX5_in_13 (by decide) rfl (Nat.le_of_ble_eq_true rfl) rfl ?_
      rintro _ _ _ _ ⟨⟨rfl, hx⟩ | ⟨rfl, hx⟩, rfl, rfl, rfl⟩
      · refine aw_if_eq (tgt := 23) dX5_in_16 (by decide) (by omega) (fun c_16 => absurd c_16 (by decide)) (fun _ => ?_)
        refine aw_iload_n dX5_in_19 rfl rfl ?_
        refine aw_if_ge (tgt := 25) dX5_in_20 (by decide) (by omega) (fun c_20 => ?_) (fun c_20 => ?_)
        · exfalso
          omega
        · refine aw_iconst dX5_in_23 ?_
          refine aw_iret dX5_in_24 rfl (Nat.zero_le _) (Nat.zero_le _) ?_
          unfold opIn
          rw [if_pos (by omega)]
          exact ⟨rfl, rfl, rfl, hC⟩
      · refine aw_if_eq (tgt := 23) dX5_in_16 (by decide) (by omega) (fun _ => ?_) (fun c_16 => absurd c_16 (by decide))
        refine aw_iconst dX5_in_23 ?_
        refine aw_iret dX5_in_24 rfl (Nat.zero_le _) (Nat.zero_le _) ?_
        unfold opIn
        rw [if_pos (by omega)]
        exact ⟨rfl, rfl, rfl, hC⟩
  · refine aw_aload_n dX5_in_0 rfl rfl ?_
    refine aw_iload_n dX5_in_1 rfl rfl ?_
    refine aw_callV (c_X5_sectionAt_out hs (by omega)) mv_X5_sectionAt mlX5_57 dX5_in_2 rfl rfl (by decide) rfl (Nat.le_of_ble_eq_true rfl) rfl ?_
    rintro _ _ _ _ ⟨rfl, rfl, rfl, rfl⟩
    refine aw_astore dX5_in_5 (by decide) ?_
    refine aw_aload dX5_in_7 rfl ?_
    refine aw_ifnull_N (tgt := 23) dX5_in_9 (by decide) ?_
    refine aw_iconst dX5_in_23 ?_
    refine aw_iret dX5_in_24 rfl (Nat.zero_le _) (Nat.zero_le _) ?_
    unfold opIn
    rw [if_pos (by omega)]
    exact ⟨rfl, rfl, rfl, hC⟩
set_option maxRecDepth 100000 in
set_option maxHeartbeats 4000000 in
theorem lp3_X5_shipsThat (hB : BB S) (hC : RC ns nc S V) : ∀ (f n : Nat), n + f = ns.toNat → AW l D cA A ad yX5_shipsThat cX5_shipsThat 5 (some .int) rm_X5_shipsThat (PP (some (.inl (cnt (pOut S) ns.toNat))) (lvC ns nc) V sz) 0 0 (lvC ns nc) V sz 4 [some (.inr (some (0, 0))), some (.inl 3), some (.inl (cnt (pOut S) n)), some (.inl (n : Int)), none] [] := by
  obtain ⟨hR, h8, h24⟩ := id hC
  have hm := hB.m
  simp only [bsm] at hm
  have hships := hC.ships hB
  intro f
  induction f with
  | zero =>
    intro n hn
    refine aw_iload_n dX5_shipsThat_4 rfl rfl ?_
    refine aw_aload_n dX5_shipsThat_5 rfl rfl ?_
    refine aw_get dX5_shipsThat_6 flX5_27 (by decide) (by decide) rfl rfl (rc_0_3 hR) ?_
    refine aw_getN dX5_shipsThat_9 fnX5_84 (by decide) (by decide) rfl rfl (rc_32_1 hR) ?_
    refine aw_icmp_ge (tgt := 48) dX5_shipsThat_12 (by decide) (by omega) (by omega) (fun c_12 => ?_) (fun c_12 => absurd c_12 (by omega))
    refine aw_iload_n dX5_shipsThat_48 rfl rfl ?_
    refine aw_iret dX5_shipsThat_49 rfl (Nat.zero_le _) (Nat.zero_le _) ?_
    rw [show ns.toNat = n by omega]
    exact ⟨rfl, rfl, rfl, rfl⟩
  | succ f ih =>
    intro n hn
    have e42 : V 42 0 ((n : Int)).toNat = .inr (some (5, n)) := rc_42 hR (by omega) (by omega)
    refine aw_iload_n dX5_shipsThat_4 rfl rfl ?_
    refine aw_aload_n dX5_shipsThat_5 rfl rfl ?_
    refine aw_get dX5_shipsThat_6 flX5_27 (by decide) (by decide) rfl rfl (rc_0_3 hR) ?_
    refine aw_getN dX5_shipsThat_9 fnX5_84 (by decide) (by decide) rfl rfl (rc_32_1 hR) ?_
    refine aw_icmp_ge (tgt := 48) dX5_shipsThat_12 (by decide) (by omega) (by omega) (fun c_12 => absurd c_12 (by omega)) (fun c_12 => ?_)
    refine aw_aload_n dX5_shipsThat_15 rfl rfl ?_
    refine aw_get dX5_shipsThat_16 flX5_27 (by decide) (by decide) rfl rfl (rc_0_3 hR) ?_
    refine aw_iload_n dX5_shipsThat_19 rfl rfl ?_
    refine aw_callV (c_X2_at (x := (n : Int)) hships (by omega) (by omega) e42) mv_X2_at mlX5_103 dX5_shipsThat_20 rfl rfl (by decide) rfl (Nat.le_of_ble_eq_true rfl) rfl ?_
    rintro _ _ _ _ ⟨rfl, rfl, rfl, rfl⟩
    refine aw_astore dX5_shipsThat_23 (by decide) ?_
    refine aw_aload dX5_shipsThat_25 rfl ?_
    refine aw_ifnull_S dX5_shipsThat_27 ?_
    refine aw_aload dX5_shipsThat_30 rfl ?_
    refine aw_iload_n dX5_shipsThat_32 rfl rfl ?_
    refine aw_callV (c3_X4_counts hB hC (by omega)) mv_X4_counts mlX5_271 dX5_shipsThat_33 rfl (decide_eq_true (by omega)) (by decide) rfl (Nat.le_of_ble_eq_true rfl) rfl ?_
    rintro _ _ _ _ ⟨⟨rfl, hq⟩ | ⟨rfl, hq⟩, rfl, rfl, rfl⟩
    · refine aw_if_eq (tgt := 42) dX5_shipsThat_36 (by decide) (by omega) (fun c_36 => absurd c_36 (by decide)) (fun _ => ?_)
      refine aw_iinc dX5_shipsThat_39 rfl (by decide) ?_
      refine aw_iinc dX5_shipsThat_42 rfl (by decide) ?_
      refine aw_goto (tgt := 4) dX5_shipsThat_45 (by decide) ?_
      first
      | (exact AW.lss (ih (n + 1) (by omega)) (And.intro rfl (And.intro rfl (And.intro (congrArg Sum.inl (show cnt (pOut S) (n + 1) = cnt (pOut S) n + 1 by rw [cnt, hq]; rfl)) (And.intro rfl trivial)))))
      | (exact AW.lss (ih (n + 1) (by omega)) (And.intro rfl (And.intro rfl (And.intro (congrArg Sum.inl (show cnt (pOut S) (n + 1) = cnt (pOut S) n by rw [cnt, show pOut S n = false from by simpa using hq, b2i_f, Int.add_zero])) (And.intro rfl trivial)))))
    · refine aw_if_eq (tgt := 42) dX5_shipsThat_36 (by decide) (by omega) (fun _ => ?_) (fun c_36 => absurd c_36 (by decide))
      refine aw_iinc dX5_shipsThat_42 rfl (by decide) ?_
      refine aw_goto (tgt := 4) dX5_shipsThat_45 (by decide) ?_
      first
      | (exact AW.lss (ih (n + 1) (by omega)) (And.intro rfl (And.intro rfl (And.intro (congrArg Sum.inl (show cnt (pOut S) (n + 1) = cnt (pOut S) n + 1 by rw [cnt, hq]; rfl)) (And.intro rfl trivial)))))
      | (exact AW.lss (ih (n + 1) (by omega)) (And.intro rfl (And.intro rfl (And.intro (congrArg Sum.inl (show cnt (pOut S) (n + 1) = cnt (pOut S) n by rw [cnt, show pOut S n = false from by simpa using hq, b2i_f, Int.add_zero])) (And.intro rfl trivial)))))
set_option maxRecDepth 100000 in
set_option maxHeartbeats 4000000 in
theorem c3_X5_shipsThat (hB : BB S) (hC : RC ns nc S V) : CT l D cA A ad yX5_shipsThat cX5_shipsThat 5 (some .int) rm_X5_shipsThat [.inr (some (0, 0)), .inl 3] (lvC ns nc) V sz (PP (some (.inl (cnt (pOut S) ns.toNat))) (lvC ns nc) V sz) := by
  refine CT.of2 [some (.inr (some (0, 0))), some (.inl 3), none, none, none] (by decide) (Nat.le_of_ble_eq_true rfl) rfl ?_
  refine aw_iconst dX5_shipsThat_0 ?_
  refine aw_istore_n dX5_shipsThat_1 rfl (by decide) ?_
  refine aw_iconst dX5_shipsThat_2 ?_
  refine aw_istore_n dX5_shipsThat_3 rfl (by decide) ?_
  exact AW.lss (lp3_X5_shipsThat hB hC ns.toNat 0 (by omega)) (And.intro rfl (And.intro rfl (And.intro rfl (And.intro rfl trivial))))
set_option maxRecDepth 100000 in
set_option maxHeartbeats 4000000 in
theorem lp4_X5_shipsThat (hB : BB S) (hC : RC ns nc S V) : ∀ (f n : Nat), n + f = ns.toNat → AW l D cA A ad yX5_shipsThat cX5_shipsThat 5 (some .int) rm_X5_shipsThat (PP (some (.inl (cnt (pLeft S) ns.toNat))) (lvC ns nc) V sz) 0 0 (lvC ns nc) V sz 4 [some (.inr (some (0, 0))), some (.inl 4), some (.inl (cnt (pLeft S) n)), some (.inl (n : Int)), none] [] := by
  obtain ⟨hR, h8, h24⟩ := id hC
  have hm := hB.m
  simp only [bsm] at hm
  have hships := hC.ships hB
  intro f
  induction f with
  | zero =>
    intro n hn
    refine aw_iload_n dX5_shipsThat_4 rfl rfl ?_
    refine aw_aload_n dX5_shipsThat_5 rfl rfl ?_
    refine aw_get dX5_shipsThat_6 flX5_27 (by decide) (by decide) rfl rfl (rc_0_3 hR) ?_
    refine aw_getN dX5_shipsThat_9 fnX5_84 (by decide) (by decide) rfl rfl (rc_32_1 hR) ?_
    refine aw_icmp_ge (tgt := 48) dX5_shipsThat_12 (by decide) (by omega) (by omega) (fun c_12 => ?_) (fun c_12 => absurd c_12 (by omega))
    refine aw_iload_n dX5_shipsThat_48 rfl rfl ?_
    refine aw_iret dX5_shipsThat_49 rfl (Nat.zero_le _) (Nat.zero_le _) ?_
    rw [show ns.toNat = n by omega]
    exact ⟨rfl, rfl, rfl, rfl⟩
  | succ f ih =>
    intro n hn
    have e42 : V 42 0 ((n : Int)).toNat = .inr (some (5, n)) := rc_42 hR (by omega) (by omega)
    refine aw_iload_n dX5_shipsThat_4 rfl rfl ?_
    refine aw_aload_n dX5_shipsThat_5 rfl rfl ?_
    refine aw_get dX5_shipsThat_6 flX5_27 (by decide) (by decide) rfl rfl (rc_0_3 hR) ?_
    refine aw_getN dX5_shipsThat_9 fnX5_84 (by decide) (by decide) rfl rfl (rc_32_1 hR) ?_
    refine aw_icmp_ge (tgt := 48) dX5_shipsThat_12 (by decide) (by omega) (by omega) (fun c_12 => absurd c_12 (by omega)) (fun c_12 => ?_)
    refine aw_aload_n dX5_shipsThat_15 rfl rfl ?_
    refine aw_get dX5_shipsThat_16 flX5_27 (by decide) (by decide) rfl rfl (rc_0_3 hR) ?_
    refine aw_iload_n dX5_shipsThat_19 rfl rfl ?_
    refine aw_callV (c_X2_at (x := (n : Int)) hships (by omega) (by omega) e42) mv_X2_at mlX5_103 dX5_shipsThat_20 rfl rfl (by decide) rfl (Nat.le_of_ble_eq_true rfl) rfl ?_
    rintro _ _ _ _ ⟨rfl, rfl, rfl, rfl⟩
    refine aw_astore dX5_shipsThat_23 (by decide) ?_
    refine aw_aload dX5_shipsThat_25 rfl ?_
    refine aw_ifnull_S dX5_shipsThat_27 ?_
    refine aw_aload dX5_shipsThat_30 rfl ?_
    refine aw_iload_n dX5_shipsThat_32 rfl rfl ?_
    refine aw_callV (c4_X4_counts hB hC (by omega)) mv_X4_counts mlX5_271 dX5_shipsThat_33 rfl (decide_eq_true (by omega)) (by decide) rfl (Nat.le_of_ble_eq_true rfl) rfl ?_
    rintro _ _ _ _ ⟨⟨rfl, hq⟩ | ⟨rfl, hq⟩, rfl, rfl, rfl⟩
    · refine aw_if_eq (tgt := 42) dX5_shipsThat_36 (by decide) (by omega) (fun c_36 => absurd c_36 (by decide)) (fun _ => ?_)
      refine aw_iinc dX5_shipsThat_39 rfl (by decide) ?_
      refine aw_iinc dX5_shipsThat_42 rfl (by decide) ?_
      refine aw_goto (tgt := 4) dX5_shipsThat_45 (by decide) ?_
      first
      | (exact AW.lss (ih (n + 1) (by omega)) (And.intro rfl (And.intro rfl (And.intro (congrArg Sum.inl (show cnt (pLeft S) (n + 1) = cnt (pLeft S) n + 1 by rw [cnt, hq]; rfl)) (And.intro rfl trivial)))))
      | (exact AW.lss (ih (n + 1) (by omega)) (And.intro rfl (And.intro rfl (And.intro (congrArg Sum.inl (show cnt (pLeft S) (n + 1) = cnt (pLeft S) n by rw [cnt, show pLeft S n = false from by simpa using hq, b2i_f, Int.add_zero])) (And.intro rfl trivial)))))
    · refine aw_if_eq (tgt := 42) dX5_shipsThat_36 (by decide) (by omega) (fun _ => ?_) (fun c_36 => absurd c_36 (by decide))
      refine aw_iinc dX5_shipsThat_42 rfl (by decide) ?_
      refine aw_goto (tgt := 4) dX5_shipsThat_45 (by decide) ?_
      first
      | (exact AW.lss (ih (n + 1) (by omega)) (And.intro rfl (And.intro rfl (And.intro (congrArg Sum.inl (show cnt (pLeft S) (n + 1) = cnt (pLeft S) n + 1 by rw [cnt, hq]; rfl)) (And.intro rfl trivial)))))
      | (exact AW.lss (ih (n + 1) (by omega)) (And.intro rfl (And.intro rfl (And.intro (congrArg Sum.inl (show cnt (pLeft S) (n + 1) = cnt (pLeft S) n by rw [cnt, show pLeft S n = false from by simpa using hq, b2i_f, Int.add_zero])) (And.intro rfl trivial)))))
set_option maxRecDepth 100000 in
set_option maxHeartbeats 4000000 in
theorem c4_X5_shipsThat (hB : BB S) (hC : RC ns nc S V) : CT l D cA A ad yX5_shipsThat cX5_shipsThat 5 (some .int) rm_X5_shipsThat [.inr (some (0, 0)), .inl 4] (lvC ns nc) V sz (PP (some (.inl (cnt (pLeft S) ns.toNat))) (lvC ns nc) V sz) := by
  refine CT.of2 [some (.inr (some (0, 0))), some (.inl 4), none, none, none] (by decide) (Nat.le_of_ble_eq_true rfl) rfl ?_
  refine aw_iconst dX5_shipsThat_0 ?_
  refine aw_istore_n dX5_shipsThat_1 rfl (by decide) ?_
  refine aw_iconst dX5_shipsThat_2 ?_
  refine aw_istore_n dX5_shipsThat_3 rfl (by decide) ?_
  exact AW.lss (lp4_X5_shipsThat hB hC ns.toNat 0 (by omega)) (And.intro rfl (And.intro rfl (And.intro rfl (And.intro rfl trivial))))
set_option maxRecDepth 100000 in
set_option maxHeartbeats 4000000 in
theorem lp5_X5_shipsThat (hB : BB S) (hC : RC ns nc S V) : ∀ (f n : Nat), n + f = ns.toNat → AW l D cA A ad yX5_shipsThat cX5_shipsThat 5 (some .int) rm_X5_shipsThat (PP (some (.inl (cnt (pLate S) ns.toNat))) (lvC ns nc) V sz) 0 0 (lvC ns nc) V sz 4 [some (.inr (some (0, 0))), some (.inl 5), some (.inl (cnt (pLate S) n)), some (.inl (n : Int)), none] [] := by
  obtain ⟨hR, h8, h24⟩ := id hC
  have hm := hB.m
  simp only [bsm] at hm
  have hships := hC.ships hB
  intro f
  induction f with
  | zero =>
    intro n hn
    refine aw_iload_n dX5_shipsThat_4 rfl rfl ?_
    refine aw_aload_n dX5_shipsThat_5 rfl rfl ?_
    refine aw_get dX5_shipsThat_6 flX5_27 (by decide) (by decide) rfl rfl (rc_0_3 hR) ?_
    refine aw_getN dX5_shipsThat_9 fnX5_84 (by decide) (by decide) rfl rfl (rc_32_1 hR) ?_
    refine aw_icmp_ge (tgt := 48) dX5_shipsThat_12 (by decide) (by omega) (by omega) (fun c_12 => ?_) (fun c_12 => absurd c_12 (by omega))
    refine aw_iload_n dX5_shipsThat_48 rfl rfl ?_
    refine aw_iret dX5_shipsThat_49 rfl (Nat.zero_le _) (Nat.zero_le _) ?_
    rw [show ns.toNat = n by omega]
    exact ⟨rfl, rfl, rfl, rfl⟩
  | succ f ih =>
    intro n hn
    have e42 : V 42 0 ((n : Int)).toNat = .inr (some (5, n)) := rc_42 hR (by omega) (by omega)
    refine aw_iload_n dX5_shipsThat_4 rfl rfl ?_
    refine aw_aload_n dX5_shipsThat_5 rfl rfl ?_
    refine aw_get dX5_shipsThat_6 flX5_27 (by decide) (by decide) rfl rfl (rc_0_3 hR) ?_
    refine aw_getN dX5_shipsThat_9 fnX5_84 (by decide) (by decide) rfl rfl (rc_32_1 hR) ?_
    refine aw_icmp_ge (tgt := 48) dX5_shipsThat_12 (by decide) (by omega) (by omega) (fun c_12 => absurd c_12 (by omega)) (fun c_12 => ?_)
    refine aw_aload_n dX5_shipsThat_15 rfl rfl ?_
    refine aw_get dX5_shipsThat_16 flX5_27 (by decide) (by decide) rfl rfl (rc_0_3 hR) ?_
    refine aw_iload_n dX5_shipsThat_19 rfl rfl ?_
    refine aw_callV (c_X2_at (x := (n : Int)) hships (by omega) (by omega) e42) mv_X2_at mlX5_103 dX5_shipsThat_20 rfl rfl (by decide) rfl (Nat.le_of_ble_eq_true rfl) rfl ?_
    rintro _ _ _ _ ⟨rfl, rfl, rfl, rfl⟩
    refine aw_astore dX5_shipsThat_23 (by decide) ?_
    refine aw_aload dX5_shipsThat_25 rfl ?_
    refine aw_ifnull_S dX5_shipsThat_27 ?_
    refine aw_aload dX5_shipsThat_30 rfl ?_
    refine aw_iload_n dX5_shipsThat_32 rfl rfl ?_
    refine aw_callV (c5_X4_counts hB hC (by omega)) mv_X4_counts mlX5_271 dX5_shipsThat_33 rfl (decide_eq_true (by omega)) (by decide) rfl (Nat.le_of_ble_eq_true rfl) rfl ?_
    rintro _ _ _ _ ⟨⟨rfl, hq⟩ | ⟨rfl, hq⟩, rfl, rfl, rfl⟩
    · refine aw_if_eq (tgt := 42) dX5_shipsThat_36 (by decide) (by omega) (fun c_36 => absurd c_36 (by decide)) (fun _ => ?_)
      refine aw_iinc dX5_shipsThat_39 rfl (by decide) ?_
      refine aw_iinc dX5_shipsThat_42 rfl (by decide) ?_
      refine aw_goto (tgt := 4) dX5_shipsThat_45 (by decide) ?_
      first
      | (exact AW.lss (ih (n + 1) (by omega)) (And.intro rfl (And.intro rfl (And.intro (congrArg Sum.inl (show cnt (pLate S) (n + 1) = cnt (pLate S) n + 1 by rw [cnt, hq]; rfl)) (And.intro rfl trivial)))))
      | (exact AW.lss (ih (n + 1) (by omega)) (And.intro rfl (And.intro rfl (And.intro (congrArg Sum.inl (show cnt (pLate S) (n + 1) = cnt (pLate S) n by rw [cnt, show pLate S n = false from by simpa using hq, b2i_f, Int.add_zero])) (And.intro rfl trivial)))))
    · refine aw_if_eq (tgt := 42) dX5_shipsThat_36 (by decide) (by omega) (fun _ => ?_) (fun c_36 => absurd c_36 (by decide))
      refine aw_iinc dX5_shipsThat_42 rfl (by decide) ?_
      refine aw_goto (tgt := 4) dX5_shipsThat_45 (by decide) ?_
      first
      | (exact AW.lss (ih (n + 1) (by omega)) (And.intro rfl (And.intro rfl (And.intro (congrArg Sum.inl (show cnt (pLate S) (n + 1) = cnt (pLate S) n + 1 by rw [cnt, hq]; rfl)) (And.intro rfl trivial)))))
      | (exact AW.lss (ih (n + 1) (by omega)) (And.intro rfl (And.intro rfl (And.intro (congrArg Sum.inl (show cnt (pLate S) (n + 1) = cnt (pLate S) n by rw [cnt, show pLate S n = false from by simpa using hq, b2i_f, Int.add_zero])) (And.intro rfl trivial)))))
set_option maxRecDepth 100000 in
set_option maxHeartbeats 4000000 in
theorem c5_X5_shipsThat (hB : BB S) (hC : RC ns nc S V) : CT l D cA A ad yX5_shipsThat cX5_shipsThat 5 (some .int) rm_X5_shipsThat [.inr (some (0, 0)), .inl 5] (lvC ns nc) V sz (PP (some (.inl (cnt (pLate S) ns.toNat))) (lvC ns nc) V sz) := by
  refine CT.of2 [some (.inr (some (0, 0))), some (.inl 5), none, none, none] (by decide) (Nat.le_of_ble_eq_true rfl) rfl ?_
  refine aw_iconst dX5_shipsThat_0 ?_
  refine aw_istore_n dX5_shipsThat_1 rfl (by decide) ?_
  refine aw_iconst dX5_shipsThat_2 ?_
  refine aw_istore_n dX5_shipsThat_3 rfl (by decide) ?_
  exact AW.lss (lp5_X5_shipsThat hB hC ns.toNat 0 (by omega)) (And.intro rfl (And.intro rfl (And.intro rfl (And.intro rfl trivial))))
set_option maxRecDepth 100000 in
set_option maxHeartbeats 4000000 in
theorem lp6_X5_shipsThat (hB : BB S) (hC : RC ns nc S V) : ∀ (f n : Nat), n + f = ns.toNat → AW l D cA A ad yX5_shipsThat cX5_shipsThat 5 (some .int) rm_X5_shipsThat (PP (some (.inl (cnt (pIn S) ns.toNat))) (lvC ns nc) V sz) 0 0 (lvC ns nc) V sz 4 [some (.inr (some (0, 0))), some (.inl 6), some (.inl (cnt (pIn S) n)), some (.inl (n : Int)), none] [] := by
  obtain ⟨hR, h8, h24⟩ := id hC
  have hm := hB.m
  simp only [bsm] at hm
  have hships := hC.ships hB
  intro f
  induction f with
  | zero =>
    intro n hn
    refine aw_iload_n dX5_shipsThat_4 rfl rfl ?_
    refine aw_aload_n dX5_shipsThat_5 rfl rfl ?_
    refine aw_get dX5_shipsThat_6 flX5_27 (by decide) (by decide) rfl rfl (rc_0_3 hR) ?_
    refine aw_getN dX5_shipsThat_9 fnX5_84 (by decide) (by decide) rfl rfl (rc_32_1 hR) ?_
    refine aw_icmp_ge (tgt := 48) dX5_shipsThat_12 (by decide) (by omega) (by omega) (fun c_12 => ?_) (fun c_12 => absurd c_12 (by omega))
    refine aw_iload_n dX5_shipsThat_48 rfl rfl ?_
    refine aw_iret dX5_shipsThat_49 rfl (Nat.zero_le _) (Nat.zero_le _) ?_
    rw [show ns.toNat = n by omega]
    exact ⟨rfl, rfl, rfl, rfl⟩
  | succ f ih =>
    intro n hn
    have e42 : V 42 0 ((n : Int)).toNat = .inr (some (5, n)) := rc_42 hR (by omega) (by omega)
    refine aw_iload_n dX5_shipsThat_4 rfl rfl ?_
    refine aw_aload_n dX5_shipsThat_5 rfl rfl ?_
    refine aw_get dX5_shipsThat_6 flX5_27 (by decide) (by decide) rfl rfl (rc_0_3 hR) ?_
    refine aw_getN dX5_shipsThat_9 fnX5_84 (by decide) (by decide) rfl rfl (rc_32_1 hR) ?_
    refine aw_icmp_ge (tgt := 48) dX5_shipsThat_12 (by decide) (by omega) (by omega) (fun c_12 => absurd c_12 (by omega)) (fun c_12 => ?_)
    refine aw_aload_n dX5_shipsThat_15 rfl rfl ?_
    refine aw_get dX5_shipsThat_16 flX5_27 (by decide) (by decide) rfl rfl (rc_0_3 hR) ?_
    refine aw_iload_n dX5_shipsThat_19 rfl rfl ?_
    refine aw_callV (c_X2_at (x := (n : Int)) hships (by omega) (by omega) e42) mv_X2_at mlX5_103 dX5_shipsThat_20 rfl rfl (by decide) rfl (Nat.le_of_ble_eq_true rfl) rfl ?_
    rintro _ _ _ _ ⟨rfl, rfl, rfl, rfl⟩
    refine aw_astore dX5_shipsThat_23 (by decide) ?_
    refine aw_aload dX5_shipsThat_25 rfl ?_
    refine aw_ifnull_S dX5_shipsThat_27 ?_
    refine aw_aload dX5_shipsThat_30 rfl ?_
    refine aw_iload_n dX5_shipsThat_32 rfl rfl ?_
    refine aw_callV (c6_X4_counts hB hC (by omega)) mv_X4_counts mlX5_271 dX5_shipsThat_33 rfl (decide_eq_true (by omega)) (by decide) rfl (Nat.le_of_ble_eq_true rfl) rfl ?_
    rintro _ _ _ _ ⟨⟨rfl, hq⟩ | ⟨rfl, hq⟩, rfl, rfl, rfl⟩
    · refine aw_if_eq (tgt := 42) dX5_shipsThat_36 (by decide) (by omega) (fun c_36 => absurd c_36 (by decide)) (fun _ => ?_)
      refine aw_iinc dX5_shipsThat_39 rfl (by decide) ?_
      refine aw_iinc dX5_shipsThat_42 rfl (by decide) ?_
      refine aw_goto (tgt := 4) dX5_shipsThat_45 (by decide) ?_
      first
      | (exact AW.lss (ih (n + 1) (by omega)) (And.intro rfl (And.intro rfl (And.intro (congrArg Sum.inl (show cnt (pIn S) (n + 1) = cnt (pIn S) n + 1 by rw [cnt, hq]; rfl)) (And.intro rfl trivial)))))
      | (exact AW.lss (ih (n + 1) (by omega)) (And.intro rfl (And.intro rfl (And.intro (congrArg Sum.inl (show cnt (pIn S) (n + 1) = cnt (pIn S) n by rw [cnt, show pIn S n = false from by simpa using hq, b2i_f, Int.add_zero])) (And.intro rfl trivial)))))
    · refine aw_if_eq (tgt := 42) dX5_shipsThat_36 (by decide) (by omega) (fun _ => ?_) (fun c_36 => absurd c_36 (by decide))
      refine aw_iinc dX5_shipsThat_42 rfl (by decide) ?_
      refine aw_goto (tgt := 4) dX5_shipsThat_45 (by decide) ?_
      first
      | (exact AW.lss (ih (n + 1) (by omega)) (And.intro rfl (And.intro rfl (And.intro (congrArg Sum.inl (show cnt (pIn S) (n + 1) = cnt (pIn S) n + 1 by rw [cnt, hq]; rfl)) (And.intro rfl trivial)))))
      | (exact AW.lss (ih (n + 1) (by omega)) (And.intro rfl (And.intro rfl (And.intro (congrArg Sum.inl (show cnt (pIn S) (n + 1) = cnt (pIn S) n by rw [cnt, show pIn S n = false from by simpa using hq, b2i_f, Int.add_zero])) (And.intro rfl trivial)))))
set_option maxRecDepth 100000 in
set_option maxHeartbeats 4000000 in
theorem c6_X5_shipsThat (hB : BB S) (hC : RC ns nc S V) : CT l D cA A ad yX5_shipsThat cX5_shipsThat 5 (some .int) rm_X5_shipsThat [.inr (some (0, 0)), .inl 6] (lvC ns nc) V sz (PP (some (.inl (cnt (pIn S) ns.toNat))) (lvC ns nc) V sz) := by
  refine CT.of2 [some (.inr (some (0, 0))), some (.inl 6), none, none, none] (by decide) (Nat.le_of_ble_eq_true rfl) rfl ?_
  refine aw_iconst dX5_shipsThat_0 ?_
  refine aw_istore_n dX5_shipsThat_1 rfl (by decide) ?_
  refine aw_iconst dX5_shipsThat_2 ?_
  refine aw_istore_n dX5_shipsThat_3 rfl (by decide) ?_
  exact AW.lss (lp6_X5_shipsThat hB hC ns.toNat 0 (by omega)) (And.intro rfl (And.intro rfl (And.intro rfl (And.intro rfl trivial))))
set_option maxRecDepth 100000 in
set_option maxHeartbeats 4000000 in
theorem lp_X5_mostWaysInOneSection (hB : BB S) (hC : RC ns nc S V) : ∀ (f n : Nat), n + f = 8 → AW l D cA A ad yX5_mostWaysInOneSection cX5_mostWaysInOneSection 4 (some .int) rm_X5_mostWaysInOneSection (PP (some (.inl (sev S 8))) (lvC ns nc) V sz) 0 0 (lvC ns nc) V sz 4 [some (.inr (some (0, 0))), some (.inl (sev S n)), some (.inl (n : Int)), none] [] := by
  obtain ⟨hR, h8, h24⟩ := id hC
  intro f
  induction f with
  | zero =>
    intro n hn
    refine aw_iload_n dX5_mostWaysInOneSection_4 rfl rfl ?_
    refine aw_bipush dX5_mostWaysInOneSection_5 (by decide) ?_
    refine aw_icmp_ge (tgt := 42) dX5_mostWaysInOneSection_7 (by decide) (by omega) (by omega) (fun c_7 => ?_) (fun c_7 => absurd c_7 (by omega))
    refine aw_iload_n dX5_mostWaysInOneSection_42 rfl rfl ?_
    refine aw_iret dX5_mostWaysInOneSection_43 rfl (Nat.zero_le _) (Nat.zero_le _) ?_
    rw [show n = 8 by omega]
    exact ⟨rfl, rfl, rfl, rfl⟩
  | succ f ih =>
    intro n hn
    have hb := sev_bd S n
    have hb1 := sev1_bd S n
    have hsc := hB.sc (i := (n : Int)) (by omega) (by omega)
    simp only [bsc] at hsc
    refine aw_iload_n dX5_mostWaysInOneSection_4 rfl rfl ?_
    refine aw_bipush dX5_mostWaysInOneSection_5 (by decide) ?_
    refine aw_icmp_ge (tgt := 42) dX5_mostWaysInOneSection_7 (by decide) (by omega) (by omega) (fun c_7 => absurd c_7 (by omega)) (fun c_7 => ?_)
    refine aw_aload_n dX5_mostWaysInOneSection_10 rfl rfl ?_
    refine aw_iload_n dX5_mostWaysInOneSection_11 rfl rfl ?_
    refine aw_callV (c_X5_sectionAt (sec := n) hC (by omega)) mv_X5_sectionAt mlX5_57 dX5_mostWaysInOneSection_12 rfl rfl (by decide) rfl (Nat.le_of_ble_eq_true rfl) rfl ?_
    rintro _ _ _ _ ⟨rfl, rfl, rfl, rfl⟩
    refine aw_astore_n dX5_mostWaysInOneSection_15 rfl (by decide) ?_
    refine aw_aload_n dX5_mostWaysInOneSection_16 rfl rfl ?_
    refine aw_ifnull_S dX5_mostWaysInOneSection_17 ?_
    refine aw_aload_n dX5_mostWaysInOneSection_20 rfl rfl ?_
    refine aw_getN dX5_mostWaysInOneSection_21 fnX5_71 (by decide) (by decide) rfl (decide_eq_true (by omega)) (rc_1_3 hR (by omega)) ?_
    refine aw_if_ne (tgt := 36) dX5_mostWaysInOneSection_24 (by decide) (by omega) (fun c_24 => ?_) (fun c_24 => ?_)
    · refine aw_iinc dX5_mostWaysInOneSection_36 rfl (by decide) ?_
      refine aw_goto (tgt := 4) dX5_mostWaysInOneSection_39 (by decide) ?_
      refine AW.lss (ih (n + 1) (by omega)) (And.intro rfl (And.intro (congrArg Sum.inl ?_) (And.intro rfl trivial)))
      rw [sev]
      first
      | (rw [if_neg (by omega)]; done)
      | (split <;> split <;> omega)
    · refine aw_iload_n dX5_mostWaysInOneSection_27 rfl rfl ?_
      refine aw_aload_n dX5_mostWaysInOneSection_28 rfl rfl ?_
      refine aw_callV (c_X3_waysInside hB hC (by omega)) mv_X3_waysInside mlX5_274 dX5_mostWaysInOneSection_29 rfl (decide_eq_true (by omega)) (by decide) rfl (Nat.le_of_ble_eq_true rfl) rfl ?_
      rintro _ _ _ _ ⟨rfl, rfl, rfl, rfl⟩
      refine aw_mmax dX5_mostWaysInOneSection_32 mlX5_277 (by decide) (by decide) (Nat.zero_le _) (Nat.zero_le _) (by omega) (by omega) ?_
      refine aw_istore_n dX5_mostWaysInOneSection_35 rfl (by decide) ?_
      refine aw_iinc dX5_mostWaysInOneSection_36 rfl (by decide) ?_
      refine aw_goto (tgt := 4) dX5_mostWaysInOneSection_39 (by decide) ?_
      refine AW.lss (ih (n + 1) (by omega)) (And.intro rfl (And.intro (congrArg Sum.inl ?_) (And.intro rfl trivial)))
      rw [sev]
      first
      | (rw [if_neg (by omega)]; done)
      | (split <;> split <;> omega)
set_option maxRecDepth 100000 in
set_option maxHeartbeats 4000000 in
theorem c_X5_mostWaysInOneSection (hB : BB S) (hC : RC ns nc S V) : CT l D cA A ad yX5_mostWaysInOneSection cX5_mostWaysInOneSection 4 (some .int) rm_X5_mostWaysInOneSection [.inr (some (0, 0))] (lvC ns nc) V sz (PP (some (.inl (sev S 8))) (lvC ns nc) V sz) := by
  refine CT.of2 [some (.inr (some (0, 0))), none, none, none] (by decide) (Nat.le_of_ble_eq_true rfl) rfl ?_
  refine aw_iconst dX5_mostWaysInOneSection_0 ?_
  refine aw_istore_n dX5_mostWaysInOneSection_1 rfl (by decide) ?_
  refine aw_iconst dX5_mostWaysInOneSection_2 ?_
  refine aw_istore_n dX5_mostWaysInOneSection_3 rfl (by decide) ?_
  exact AW.lss (lp_X5_mostWaysInOneSection hB hC 8 0 (by omega)) (And.intro rfl (And.intro rfl (And.intro rfl trivial)))
set_option maxRecDepth 100000 in
set_option maxHeartbeats 4000000 in
theorem c_X5_count {w : Int} (hB : BB S) (hC : RC ns nc S V) (hw : Rg w) : CT l D cA A ad yX5_count cX5_count 2 (some .int) rm_X5_count [.inr (some (0, 0)), .inl w] (lvC ns nc) V sz (PC (some (.inl (opCnt S w))) ns nc S sz) := by
  refine CT.of2 [some (.inr (some (0, 0))), some (.inl w)] (by decide) (Nat.le_of_ble_eq_true rfl) rfl ?_
  obtain ⟨hR, h8, h24⟩ := id hC
  have hm := hB.m
  simp only [bsm] at hm
  rcases (show w = 0 ∨ w = 1 ∨ w = 2 ∨ w = 3 ∨ w = 4 ∨ w = 5 ∨ w = 6 ∨ w = 7 ∨ (w < 0 ∨ 7 < w) by omega) with rfl | rfl | rfl | rfl | rfl | rfl | rfl | rfl | hw2
  · refine aw_iload_n dX5_count_0 rfl rfl ?_
    refine aw_tableIn (off := 47) (tgt := 48) dX5_count_1 (by decide) (by decide) (by decide) rfl (by decide) ?_
    refine aw_aload_n dX5_count_48 rfl rfl ?_
    refine aw_get dX5_count_49 flX5_27 (by decide) (by decide) rfl rfl (rc_0_3 hR) ?_
    refine aw_getN dX5_count_52 fnX5_84 (by decide) (by decide) rfl rfl (rc_32_1 hR) ?_
    refine aw_iret dX5_count_55 rfl (Nat.zero_le _) (Nat.zero_le _) ?_
    unfold opCnt
    rw [if_pos rfl]
    exact ⟨rfl, rfl, rfl, hC⟩
  · refine aw_iload_n dX5_count_0 rfl rfl ?_
    refine aw_tableIn (off := 55) (tgt := 56) dX5_count_1 (by decide) (by decide) (by decide) rfl (by decide) ?_
    refine aw_aload_n dX5_count_56 rfl rfl ?_
    refine aw_get dX5_count_57 flX5_37 (by decide) (by decide) rfl rfl (rc_0_5 hR) ?_
    refine aw_iret dX5_count_60 rfl (Nat.zero_le _) (Nat.zero_le _) ?_
    unfold opCnt
    rw [if_neg (by decide)]
    rw [if_pos rfl]
    exact ⟨rfl, rfl, rfl, hC⟩
  · refine aw_iload_n dX5_count_0 rfl rfl ?_
    refine aw_tableIn (off := 60) (tgt := 61) dX5_count_1 (by decide) (by decide) (by decide) rfl (by decide) ?_
    refine aw_aload_n dX5_count_61 rfl rfl ?_
    refine aw_get dX5_count_62 flX5_53 (by decide) (by decide) rfl rfl (rc_0_10 hR) ?_
    refine aw_iret dX5_count_65 rfl (Nat.zero_le _) (Nat.zero_le _) ?_
    unfold opCnt
    rw [if_neg (by decide)]
    rw [if_neg (by decide)]
    rw [if_pos rfl]
    exact ⟨rfl, rfl, rfl, hC⟩
  · refine aw_iload_n dX5_count_0 rfl rfl ?_
    refine aw_tableIn (off := 65) (tgt := 66) dX5_count_1 (by decide) (by decide) (by decide) rfl (by decide) ?_
    refine aw_aload_n dX5_count_66 rfl rfl ?_
    refine aw_iload_n dX5_count_67 rfl rfl ?_
    refine aw_callV (c3_X5_shipsThat hB hC) mv_X5_shipsThat mlX5_265 dX5_count_68 rfl rfl (by decide) rfl (Nat.le_of_ble_eq_true rfl) rfl ?_
    rintro _ _ _ _ ⟨rfl, rfl, rfl, rfl⟩
    refine aw_iret dX5_count_71 rfl (Nat.zero_le _) (Nat.zero_le _) ?_
    unfold opCnt
    rw [if_neg (by decide)]
    rw [if_neg (by decide)]
    rw [if_neg (by decide)]
    rw [if_pos rfl]
    rw [h8]
    exact ⟨rfl, rfl, rfl, hC⟩
  · refine aw_iload_n dX5_count_0 rfl rfl ?_
    refine aw_tableIn (off := 65) (tgt := 66) dX5_count_1 (by decide) (by decide) (by decide) rfl (by decide) ?_
    refine aw_aload_n dX5_count_66 rfl rfl ?_
    refine aw_iload_n dX5_count_67 rfl rfl ?_
    refine aw_callV (c4_X5_shipsThat hB hC) mv_X5_shipsThat mlX5_265 dX5_count_68 rfl rfl (by decide) rfl (Nat.le_of_ble_eq_true rfl) rfl ?_
    rintro _ _ _ _ ⟨rfl, rfl, rfl, rfl⟩
    refine aw_iret dX5_count_71 rfl (Nat.zero_le _) (Nat.zero_le _) ?_
    unfold opCnt
    rw [if_neg (by decide)]
    rw [if_neg (by decide)]
    rw [if_neg (by decide)]
    rw [if_neg (by decide)]
    rw [if_pos rfl]
    rw [h8]
    exact ⟨rfl, rfl, rfl, hC⟩
  · refine aw_iload_n dX5_count_0 rfl rfl ?_
    refine aw_tableIn (off := 65) (tgt := 66) dX5_count_1 (by decide) (by decide) (by decide) rfl (by decide) ?_
    refine aw_aload_n dX5_count_66 rfl rfl ?_
    refine aw_iload_n dX5_count_67 rfl rfl ?_
    refine aw_callV (c5_X5_shipsThat hB hC) mv_X5_shipsThat mlX5_265 dX5_count_68 rfl rfl (by decide) rfl (Nat.le_of_ble_eq_true rfl) rfl ?_
    rintro _ _ _ _ ⟨rfl, rfl, rfl, rfl⟩
    refine aw_iret dX5_count_71 rfl (Nat.zero_le _) (Nat.zero_le _) ?_
    unfold opCnt
    rw [if_neg (by decide)]
    rw [if_neg (by decide)]
    rw [if_neg (by decide)]
    rw [if_neg (by decide)]
    rw [if_neg (by decide)]
    rw [if_pos rfl]
    rw [h8]
    exact ⟨rfl, rfl, rfl, hC⟩
  · refine aw_iload_n dX5_count_0 rfl rfl ?_
    refine aw_tableIn (off := 65) (tgt := 66) dX5_count_1 (by decide) (by decide) (by decide) rfl (by decide) ?_
    refine aw_aload_n dX5_count_66 rfl rfl ?_
    refine aw_iload_n dX5_count_67 rfl rfl ?_
    refine aw_callV (c6_X5_shipsThat hB hC) mv_X5_shipsThat mlX5_265 dX5_count_68 rfl rfl (by decide) rfl (Nat.le_of_ble_eq_true rfl) rfl ?_
    rintro _ _ _ _ ⟨rfl, rfl, rfl, rfl⟩
    refine aw_iret dX5_count_71 rfl (Nat.zero_le _) (Nat.zero_le _) ?_
    unfold opCnt
    rw [if_neg (by decide)]
    rw [if_neg (by decide)]
    rw [if_neg (by decide)]
    rw [if_neg (by decide)]
    rw [if_neg (by decide)]
    rw [if_neg (by decide)]
    rw [if_pos rfl]
    rw [h8]
    exact ⟨rfl, rfl, rfl, hC⟩
  · refine aw_iload_n dX5_count_0 rfl rfl ?_
    refine aw_tableIn (off := 71) (tgt := 72) dX5_count_1 (by decide) (by decide) (by decide) rfl (by decide) ?_
    refine aw_aload_n dX5_count_72 rfl rfl ?_
    refine aw_callV (c_X5_mostWaysInOneSection hB hC) mv_X5_mostWaysInOneSection mlX5_268 dX5_count_73 rfl rfl (by decide) rfl (Nat.le_of_ble_eq_true rfl) rfl ?_
    rintro _ _ _ _ ⟨rfl, rfl, rfl, rfl⟩
    refine aw_iret dX5_count_76 rfl (Nat.zero_le _) (Nat.zero_le _) ?_
    unfold opCnt
    rw [if_neg (by decide)]
    rw [if_neg (by decide)]
    rw [if_neg (by decide)]
    rw [if_neg (by decide)]
    rw [if_neg (by decide)]
    rw [if_neg (by decide)]
    rw [if_neg (by decide)]
    rw [if_pos rfl]
    exact ⟨rfl, rfl, rfl, hC⟩
  · refine aw_iload_n dX5_count_0 rfl rfl ?_
    refine aw_tableOut (tgt := 77) dX5_count_1 (by omega) (by omega) (by decide) ?_
    refine aw_iconst dX5_count_77 ?_
    refine aw_iret dX5_count_78 rfl (Nat.zero_le _) (Nat.zero_le _) ?_
    unfold opCnt
    rw [if_neg (by omega)]
    rw [if_neg (by omega)]
    rw [if_neg (by omega)]
    rw [if_neg (by omega)]
    rw [if_neg (by omega)]
    rw [if_neg (by omega)]
    rw [if_neg (by omega)]
    rw [if_neg (by omega)]
    exact ⟨rfl, rfl, rfl, hC⟩
end CLS9
