section REF1
variable {l : Launch} {D : va_G} {cA : Nat → ClassId} {A : Nat → Prop} {ad : Ad} {lv : Lw} {V : Vw} {sz : Nat} {S : SS}
/-- an answer 1 or 0 by a condition, nothing changed -/
def PB (P : Prop) (lv : Lw) (V : Vw) (sz : Nat) : Pst := fun r lv' V' sz' => ((r = some (.inl 1) ∧ P) ∨ (r = some (.inl 0) ∧ ¬ P)) ∧ lv' = lv ∧ V' = V ∧ sz' = sz
theorem c_X6_isIn {v a b : Int} (hv : Rg v) (ha : Rg a) (hb : Rg b) : CT l D cA A ad yX6_isIn cX6_isIn 3 (some .boolean) rm_X6_isIn [.inl v, .inl a, .inl b] lv V sz (PB (a ≤ v ∧ v ≤ b) lv V sz) := by
  refine CT.of2 [some (.inl v), some (.inl a), some (.inl b)] (by decide) (Nat.le_of_ble_eq_true rfl) rfl ?_
  refine aw_iload_n dX6_isIn_0 rfl rfl ?_
  refine aw_iload_n dX6_isIn_1 rfl rfl ?_
  refine aw_icmp_lt (tgt := 14) dX6_isIn_2 (by decide) (by omega) (by omega) (fun c_2 => ?_) (fun c_2 => ?_)
  · refine aw_iconst dX6_isIn_14 ?_
    refine aw_zret dX6_isIn_15 rfl (by decide) (Nat.zero_le _) (Nat.zero_le _) ?_
    first | exact ⟨Or.inl ⟨rfl, by omega⟩, rfl, rfl, rfl⟩ | exact ⟨Or.inr ⟨rfl, by omega⟩, rfl, rfl, rfl⟩
  · refine aw_iload_n dX6_isIn_5 rfl rfl ?_
    refine aw_iload_n dX6_isIn_6 rfl rfl ?_
    refine aw_icmp_gt (tgt := 14) dX6_isIn_7 (by decide) (by omega) (by omega) (fun c_7 => ?_) (fun c_7 => ?_)
    · refine aw_iconst dX6_isIn_14 ?_
      refine aw_zret dX6_isIn_15 rfl (by decide) (Nat.zero_le _) (Nat.zero_le _) ?_
      first | exact ⟨Or.inl ⟨rfl, by omega⟩, rfl, rfl, rfl⟩ | exact ⟨Or.inr ⟨rfl, by omega⟩, rfl, rfl, rfl⟩
    · refine aw_iconst dX6_isIn_10 ?_
      refine aw_goto (tgt := 15) dX6_isIn_11 (by decide) ?_
      refine aw_zret dX6_isIn_15 rfl (by decide) (Nat.zero_le _) (Nat.zero_le _) ?_
      first | exact ⟨Or.inl ⟨rfl, by omega⟩, rfl, rfl, rfl⟩ | exact ⟨Or.inr ⟨rfl, by omega⟩, rfl, rfl, rfl⟩
def opSec (S : SS) (s ln d b : Int) : Int × SS := if ¬ ((0 ≤ s ∧ s ≤ 7) ∧ (1 ≤ ln ∧ ln ≤ 60) ∧ (1 ≤ d ∧ d ≤ 40)) then (-1, S) else if 0 < S 0 0 then (-2, S) else (0, u2 (u2 (u2 S 3 s ln) 4 s d) 5 s b)
def opTide (S : SS) (h v : Int) : Int × SS := if ¬ ((0 ≤ h ∧ h ≤ 23) ∧ (0 ≤ v ∧ v ≤ 9)) then (-1, S) else (S 6 h, u2 S 6 h v)
def opWind (S : SS) (h v : Int) : Int × SS := if ¬ ((0 ≤ h ∧ h ≤ 23) ∧ (-1 ≤ v ∧ v ≤ 12)) then (-9, S) else (S 7 h, u2 S 7 h v)
def opRule (S : SS) (w v : Int) : Int × SS := if w = 0 ∧ 0 ≤ v ∧ v ≤ 60 then (S 1 0, u2 S 1 0 v) else if w = 1 ∧ 0 ≤ v ∧ v ≤ 1 then (S 2 0, u2 S 2 0 v) else (-1, S)
def opShip (S : SS) (w m g d sl t : Int) : Int × SS := if ¬ ((0 ≤ w ∧ w ≤ 1) ∧ (0 ≤ m ∧ m ≤ 9999) ∧ (1 ≤ d ∧ d ≤ 45) ∧ (1 ≤ t ∧ t ≤ 200000)) then (-1, S) else if m < S 0 0 then (-2, S) else if S 8 0 = 30 then (-3, S) else (S 8 0, u2 (u2 (u2 (u2 (u2 (u2 (u2 (u2 (u2 (u2 (u2 S 9 (S 8 0) w) 10 (S 8 0) m) 11 (S 8 0) g) 12 (S 8 0) d) 13 (S 8 0) sl) 14 (S 8 0) t) 15 (S 8 0) (-1)) 19 (S 8 0) (-4)) 20 (S 8 0) (-4)) 22 (S 8 0) (-4)) 8 0 (S 8 0 + 1))
def opConv (S : SS) (w f : Int) : Int × SS := if ¬ ((0 ≤ w ∧ w ≤ 1) ∧ (0 ≤ f ∧ f ≤ 9999)) then (-1, S) else if f ≤ S 0 0 then (-2, S) else if S 24 0 = 12 then (-3, S) else (S 24 0, u2 (u2 (u2 S 25 (S 24 0) w) 26 (S 24 0) f) 24 0 (S 24 0 + 1))
def opBook (S : SS) (c s : Int) : Int × SS := if ¬ ((0 ≤ c ∧ c ≤ S 24 0 - 1) ∧ (0 ≤ s ∧ s ≤ S 8 0 - 1)) then (-1, S) else if S 9 s ≠ S 25 c ∨ S 22 s ≠ -4 ∨ S 18 s ≠ 0 ∨ S 26 c ≤ S 0 0 ∨ S 10 s < S 0 0 then (-2, S) else if S 27 c = 8 then (-3, S) else (S 27 c + 1, u2 (u2 (u2 S 28 (8 * c + S 27 c) s) 27 c (S 27 c + 1)) 22 s c)
def opGrd (S : SS) (s n : Int) : Int × SS := if ¬ ((0 ≤ s ∧ s ≤ S 8 0 - 1) ∧ (1 ≤ n ∧ n ≤ 500)) then (-1, S) else if ¬ (0 ≤ S 15 s ∧ S 15 s ≤ 7) ∨ 0 < S 21 s then (-2, S) else (1, u2 S 21 s n)
set_option maxRecDepth 100000 in
set_option maxHeartbeats 4000000 in
theorem c_X6_section {s ln d b : Int} (hB : BB S) (hs : Rg s) (hl : Rg ln) (hd : Rg d) (hb : b = 0 ∨ b = 1) : CT l D cA A ad yX6_section cX6_section 5 (some .int) rm_X6_section [.inr (some (50, 0)), .inl s, .inl ln, .inl d, .inl b] lvR (VR S) sz (PR (some (.inl (opSec S s ln d b).1)) ((opSec S s ln d b).2) sz) := by
  refine CT.of2 [some (.inr (some (50, 0))), some (.inl s), some (.inl ln), some (.inl d), some (.inl b)] (by decide) (Nat.le_of_ble_eq_true rfl) rfl ?_
  have hm := hB.m
  simp only [bsm] at hm
  refine aw_iload_n dX6_section_0 rfl rfl ?_
  refine aw_iconst dX6_section_1 ?_
  refine aw_bipush dX6_section_2 (by decide) ?_
  refine aw_callS (c_X6_isIn (by omega) (by omega) (by omega)) mv_X6_isIn mlX6_108 dX6_section_4 (by decide) rfl (Nat.le_of_ble_eq_true rfl) rfl ?_
  rintro _ _ _ _ ⟨⟨rfl, h1⟩ | ⟨rfl, h1⟩, rfl, rfl, rfl⟩
  · refine aw_if_eq (tgt := 30) dX6_section_7 (by decide) (by omega) (fun c_7 => absurd c_7 (by decide)) (fun _ => ?_)
    refine aw_iload_n dX6_section_10 rfl rfl ?_
    refine aw_iconst dX6_section_11 ?_
    refine aw_bipush dX6_section_12 (by decide) ?_
    refine aw_callS (c_X6_isIn (by omega) (by omega) (by omega)) mv_X6_isIn mlX6_108 dX6_section_14 (by decide) rfl (Nat.le_of_ble_eq_true rfl) rfl ?_
    rintro _ _ _ _ ⟨⟨rfl, h2⟩ | ⟨rfl, h2⟩, rfl, rfl, rfl⟩
    · refine aw_if_eq (tgt := 30) dX6_section_17 (by decide) (by omega) (fun c_17 => absurd c_17 (by decide)) (fun _ => ?_)
      refine aw_iload_n dX6_section_20 rfl rfl ?_
      refine aw_iconst dX6_section_21 ?_
      refine aw_bipush dX6_section_22 (by decide) ?_
      refine aw_callS (c_X6_isIn (by omega) (by omega) (by omega)) mv_X6_isIn mlX6_108 dX6_section_24 (by decide) rfl (Nat.le_of_ble_eq_true rfl) rfl ?_
      rintro _ _ _ _ ⟨⟨rfl, h3⟩ | ⟨rfl, h3⟩, rfl, rfl, rfl⟩
      · refine aw_if_ne (tgt := 32) dX6_section_27 (by decide) (by omega) (fun _ => ?_) (fun c_27 => absurd c_27 (by decide))
        refine aw_aload_n dX6_section_32 rfl rfl ?_
        refine rr_getS dX6_section_33 flX6_112 rfl (by decide) (fun _ => rfl) ?_
        refine aw_if_le (tgt := 42) dX6_section_36 (by decide) (by omega) (fun c_36 => ?_) (fun c_36 => ?_)
        · refine aw_aload_n dX6_section_42 rfl rfl ?_
          refine rr_getA dX6_section_43 flX6_13 rfl (by decide) ?_
          refine aw_iload_n dX6_section_46 rfl rfl ?_
          refine aw_iload_n dX6_section_47 rfl rfl ?_
          refine rr_iast (n := 8) dX6_section_48 rfl rfl rfl (by omega) (by omega) ?_
          refine aw_aload_n dX6_section_49 rfl rfl ?_
          refine rr_getA dX6_section_50 flX6_17 rfl (by decide) ?_
          refine aw_iload_n dX6_section_53 rfl rfl ?_
          refine aw_iload_n dX6_section_54 rfl rfl ?_
          refine rr_iast (n := 8) dX6_section_55 rfl rfl rfl (by omega) (by omega) ?_
          refine aw_aload_n dX6_section_56 rfl rfl ?_
          refine rr_getA dX6_section_57 flX6_20 rfl (by decide) ?_
          refine aw_iload_n dX6_section_60 rfl rfl ?_
          refine aw_iload dX6_section_61 rfl ?_
          refine rr_zast (n := 8) dX6_section_63 rfl rfl rfl (by omega) (by omega) (by omega) ?_
          refine aw_iconst dX6_section_64 ?_
          refine aw_iret dX6_section_65 rfl (Nat.zero_le _) (Nat.zero_le _) ?_
          have e : opSec S s ln d b = (0, u2 (u2 (u2 S 3 s ln) 4 s d) 5 s b) := by
            unfold opSec
            repeat (first | rw [if_pos (by omega)] | rw [if_neg (by omega)])
          rw [e]
          exact ⟨rfl, rfl, rfl, rfl⟩
        · refine aw_bipush dX6_section_39 (by decide) ?_
          refine aw_iret dX6_section_41 rfl (Nat.zero_le _) (Nat.zero_le _) ?_
          have e : opSec S s ln d b = (-2, S) := by
            unfold opSec
            repeat (first | rw [if_pos (by omega)] | rw [if_neg (by omega)])
          rw [e]
          exact ⟨rfl, rfl, rfl, rfl⟩
      · refine aw_if_ne (tgt := 32) dX6_section_27 (by decide) (by omega) (fun c_27 => absurd c_27 (by decide)) (fun _ => ?_)
        refine aw_iconst dX6_section_30 ?_
        refine aw_iret dX6_section_31 rfl (Nat.zero_le _) (Nat.zero_le _) ?_
        have e : opSec S s ln d b = (-1, S) := by
          unfold opSec
          repeat (first | rw [if_pos (by omega)] | rw [if_neg (by omega)])
        rw [e]
        exact ⟨rfl, rfl, rfl, rfl⟩
    · refine aw_if_eq (tgt := 30) dX6_section_17 (by decide) (by omega) (fun _ => ?_) (fun c_17 => absurd c_17 (by decide))
      refine aw_iconst dX6_section_30 ?_
      refine aw_iret dX6_section_31 rfl (Nat.zero_le _) (Nat.zero_le _) ?_
      have e : opSec S s ln d b = (-1, S) := by
        unfold opSec
        repeat (first | rw [if_pos (by omega)] | rw [if_neg (by omega)])
      rw [e]
      exact ⟨rfl, rfl, rfl, rfl⟩
  · refine aw_if_eq (tgt := 30) dX6_section_7 (by decide) (by omega) (fun _ => ?_) (fun c_7 => absurd c_7 (by decide))
    refine aw_iconst dX6_section_30 ?_
    refine aw_iret dX6_section_31 rfl (Nat.zero_le _) (Nat.zero_le _) ?_
    have e : opSec S s ln d b = (-1, S) := by
      unfold opSec
      repeat (first | rw [if_pos (by omega)] | rw [if_neg (by omega)])
    rw [e]
    exact ⟨rfl, rfl, rfl, rfl⟩
set_option maxRecDepth 100000 in
set_option maxHeartbeats 4000000 in
theorem c_X6_tide {h v : Int} (hh : Rg h) (hv : Rg v) : CT l D cA A ad yX6_tide cX6_tide 4 (some .int) rm_X6_tide [.inr (some (50, 0)), .inl h, .inl v] lvR (VR S) sz (PR (some (.inl (opTide S h v).1)) ((opTide S h v).2) sz) := by
  refine CT.of2 [some (.inr (some (50, 0))), some (.inl h), some (.inl v), none] (by decide) (Nat.le_of_ble_eq_true rfl) rfl ?_
  refine aw_iload_n dX6_tide_0 rfl rfl ?_
  refine aw_iconst dX6_tide_1 ?_
  refine aw_bipush dX6_tide_2 (by decide) ?_
  refine aw_callS (c_X6_isIn (by omega) (by omega) (by omega)) mv_X6_isIn mlX6_108 dX6_tide_4 (by decide) rfl (Nat.le_of_ble_eq_true rfl) rfl ?_
  rintro _ _ _ _ ⟨⟨rfl, h1⟩ | ⟨rfl, h1⟩, rfl, rfl, rfl⟩
  · refine aw_if_eq (tgt := 20) dX6_tide_7 (by decide) (by omega) (fun c_7 => absurd c_7 (by decide)) (fun _ => ?_)
    refine aw_iload_n dX6_tide_10 rfl rfl ?_
    refine aw_iconst dX6_tide_11 ?_
    refine aw_bipush dX6_tide_12 (by decide) ?_
    refine aw_callS (c_X6_isIn (by omega) (by omega) (by omega)) mv_X6_isIn mlX6_108 dX6_tide_14 (by decide) rfl (Nat.le_of_ble_eq_true rfl) rfl ?_
    rintro _ _ _ _ ⟨⟨rfl, h2⟩ | ⟨rfl, h2⟩, rfl, rfl, rfl⟩
    · refine aw_if_ne (tgt := 22) dX6_tide_17 (by decide) (by omega) (fun _ => ?_) (fun c_17 => absurd c_17 (by decide))
      refine aw_aload_n dX6_tide_22 rfl rfl ?_
      refine rr_getA dX6_tide_23 flX6_24 rfl (by decide) ?_
      refine aw_iload_n dX6_tide_26 rfl rfl ?_
      refine rr_iald (n := 24) dX6_tide_27 rfl rfl rfl (by omega) (by omega) (fun _ => rfl) ?_
      refine aw_istore_n dX6_tide_28 rfl (by decide) ?_
      refine aw_aload_n dX6_tide_29 rfl rfl ?_
      refine rr_getA dX6_tide_30 flX6_24 rfl (by decide) ?_
      refine aw_iload_n dX6_tide_33 rfl rfl ?_
      refine aw_iload_n dX6_tide_34 rfl rfl ?_
      refine rr_iast (n := 24) dX6_tide_35 rfl rfl rfl (by omega) (by omega) ?_
      refine aw_iload_n dX6_tide_36 rfl rfl ?_
      refine aw_iret dX6_tide_37 rfl (Nat.zero_le _) (Nat.zero_le _) ?_
      have e : opTide S h v = (S 6 h, u2 S 6 h v) := by
        unfold opTide
        repeat (first | rw [if_pos (by omega)] | rw [if_neg (by omega)])
      rw [e]
      exact ⟨rfl, rfl, rfl, rfl⟩
    · refine aw_if_ne (tgt := 22) dX6_tide_17 (by decide) (by omega) (fun c_17 => absurd c_17 (by decide)) (fun _ => ?_)
      refine aw_iconst dX6_tide_20 ?_
      refine aw_iret dX6_tide_21 rfl (Nat.zero_le _) (Nat.zero_le _) ?_
      have e : opTide S h v = (-1, S) := by
        unfold opTide
        repeat (first | rw [if_pos (by omega)] | rw [if_neg (by omega)])
      rw [e]
      exact ⟨rfl, rfl, rfl, rfl⟩
  · refine aw_if_eq (tgt := 20) dX6_tide_7 (by decide) (by omega) (fun _ => ?_) (fun c_7 => absurd c_7 (by decide))
    refine aw_iconst dX6_tide_20 ?_
    refine aw_iret dX6_tide_21 rfl (Nat.zero_le _) (Nat.zero_le _) ?_
    have e : opTide S h v = (-1, S) := by
      unfold opTide
      repeat (first | rw [if_pos (by omega)] | rw [if_neg (by omega)])
    rw [e]
    exact ⟨rfl, rfl, rfl, rfl⟩
set_option maxRecDepth 100000 in
set_option maxHeartbeats 4000000 in
theorem c_X6_wind {h v : Int} (hh : Rg h) (hv : Rg v) : CT l D cA A ad yX6_wind cX6_wind 4 (some .int) rm_X6_wind [.inr (some (50, 0)), .inl h, .inl v] lvR (VR S) sz (PR (some (.inl (opWind S h v).1)) ((opWind S h v).2) sz) := by
  refine CT.of2 [some (.inr (some (50, 0))), some (.inl h), some (.inl v), none] (by decide) (Nat.le_of_ble_eq_true rfl) rfl ?_
  refine aw_iload_n dX6_wind_0 rfl rfl ?_
  refine aw_iconst dX6_wind_1 ?_
  refine aw_bipush dX6_wind_2 (by decide) ?_
  refine aw_callS (c_X6_isIn (by omega) (by omega) (by omega)) mv_X6_isIn mlX6_108 dX6_wind_4 (by decide) rfl (Nat.le_of_ble_eq_true rfl) rfl ?_
  rintro _ _ _ _ ⟨⟨rfl, h1⟩ | ⟨rfl, h1⟩, rfl, rfl, rfl⟩
  · refine aw_if_eq (tgt := 20) dX6_wind_7 (by decide) (by omega) (fun c_7 => absurd c_7 (by decide)) (fun _ => ?_)
    refine aw_iload_n dX6_wind_10 rfl rfl ?_
    refine aw_iconst dX6_wind_11 ?_
    refine aw_bipush dX6_wind_12 (by decide) ?_
    refine aw_callS (c_X6_isIn (by omega) (by omega) (by omega)) mv_X6_isIn mlX6_108 dX6_wind_14 (by decide) rfl (Nat.le_of_ble_eq_true rfl) rfl ?_
    rintro _ _ _ _ ⟨⟨rfl, h2⟩ | ⟨rfl, h2⟩, rfl, rfl, rfl⟩
    · refine aw_if_ne (tgt := 23) dX6_wind_17 (by decide) (by omega) (fun _ => ?_) (fun c_17 => absurd c_17 (by decide))
      refine aw_aload_n dX6_wind_23 rfl rfl ?_
      refine rr_getA dX6_wind_24 flX6_27 rfl (by decide) ?_
      refine aw_iload_n dX6_wind_27 rfl rfl ?_
      refine rr_iald (n := 24) dX6_wind_28 rfl rfl rfl (by omega) (by omega) (fun _ => rfl) ?_
      refine aw_istore_n dX6_wind_29 rfl (by decide) ?_
      refine aw_aload_n dX6_wind_30 rfl rfl ?_
      refine rr_getA dX6_wind_31 flX6_27 rfl (by decide) ?_
      refine aw_iload_n dX6_wind_34 rfl rfl ?_
      refine aw_iload_n dX6_wind_35 rfl rfl ?_
      refine rr_iast (n := 24) dX6_wind_36 rfl rfl rfl (by omega) (by omega) ?_
      refine aw_iload_n dX6_wind_37 rfl rfl ?_
      refine aw_iret dX6_wind_38 rfl (Nat.zero_le _) (Nat.zero_le _) ?_
      have e : opWind S h v = (S 7 h, u2 S 7 h v) := by
        unfold opWind
        repeat (first | rw [if_pos (by omega)] | rw [if_neg (by omega)])
      rw [e]
      exact ⟨rfl, rfl, rfl, rfl⟩
    · refine aw_if_ne (tgt := 23) dX6_wind_17 (by decide) (by omega) (fun c_17 => absurd c_17 (by decide)) (fun _ => ?_)
      refine aw_bipush dX6_wind_20 (by decide) ?_
      refine aw_iret dX6_wind_22 rfl (Nat.zero_le _) (Nat.zero_le _) ?_
      have e : opWind S h v = (-9, S) := by
        unfold opWind
        repeat (first | rw [if_pos (by omega)] | rw [if_neg (by omega)])
      rw [e]
      exact ⟨rfl, rfl, rfl, rfl⟩
  · refine aw_if_eq (tgt := 20) dX6_wind_7 (by decide) (by omega) (fun _ => ?_) (fun c_7 => absurd c_7 (by decide))
    refine aw_bipush dX6_wind_20 (by decide) ?_
    refine aw_iret dX6_wind_22 rfl (Nat.zero_le _) (Nat.zero_le _) ?_
    have e : opWind S h v = (-9, S) := by
      unfold opWind
      repeat (first | rw [if_pos (by omega)] | rw [if_neg (by omega)])
    rw [e]
    exact ⟨rfl, rfl, rfl, rfl⟩
set_option maxRecDepth 100000 in
set_option maxHeartbeats 4000000 in
theorem c_X6_rule {w v : Int} (hw : Rg w) (hv : Rg v) : CT l D cA A ad yX6_rule cX6_rule 4 (some .int) rm_X6_rule [.inr (some (50, 0)), .inl w, .inl v] lvR (VR S) sz (PR (some (.inl (opRule S w v).1)) ((opRule S w v).2) sz) := by
  refine CT.of2 [some (.inr (some (50, 0))), some (.inl w), some (.inl v), none] (by decide) (Nat.le_of_ble_eq_true rfl) rfl ?_
  refine aw_iload_n dX6_rule_0 rfl rfl ?_
  refine aw_iconst dX6_rule_1 ?_
  refine aw_iconst dX6_rule_2 ?_
  refine aw_callS (c_X6_isIn (by omega) (by omega) (by omega)) mv_X6_isIn mlX6_108 dX6_rule_3 (by decide) rfl (Nat.le_of_ble_eq_true rfl) rfl ?_
  rintro _ _ _ _ ⟨⟨rfl, h1⟩ | ⟨rfl, h1⟩, rfl, rfl, rfl⟩
  · refine aw_if_eq (tgt := 27) dX6_rule_6 (by decide) (by omega) (fun c_6 => absurd c_6 (by decide)) (fun _ => ?_)
    refine aw_iload_n dX6_rule_9 rfl rfl ?_
    refine aw_iconst dX6_rule_10 ?_
    refine aw_iload_n dX6_rule_11 rfl rfl ?_
    refine aw_if_ne (tgt := 20) dX6_rule_12 (by decide) (by omega) (fun c_12 => ?_) (fun c_12 => ?_)
    · refine aw_iconst dX6_rule_20 ?_
      refine aw_callS (c_X6_isIn (by omega) (by omega) (by omega)) mv_X6_isIn mlX6_108 dX6_rule_21 (by decide) rfl (Nat.le_of_ble_eq_true rfl) rfl ?_
      rintro _ _ _ _ ⟨⟨rfl, h2⟩ | ⟨rfl, h2⟩, rfl, rfl, rfl⟩
      · refine aw_if_ne (tgt := 29) dX6_rule_24 (by decide) (by omega) (fun _ => ?_) (fun c_24 => absurd c_24 (by decide))
        refine aw_iload_n dX6_rule_29 rfl rfl ?_
        refine aw_if_ne (tgt := 40) dX6_rule_30 (by decide) (by omega) (fun c_30 => ?_) (fun c_30 => ?_)
        · refine aw_aload_n dX6_rule_40 rfl rfl ?_
          refine rr_getS dX6_rule_41 flX6_115 rfl (by decide) (fun _ => rfl) ?_
          refine aw_istore_n dX6_rule_44 rfl (by decide) ?_
          refine aw_aload_n dX6_rule_45 rfl rfl ?_
          refine aw_iload_n dX6_rule_46 rfl rfl ?_
          refine aw_if_ne (tgt := 54) dX6_rule_47 (by decide) (by omega) (fun c_47 => ?_) (fun c_47 => ?_)
          · refine aw_aload_n dX6_rule_54 rfl rfl ?_
            refine rr_getS dX6_rule_55 flX6_7 rfl (by decide) (fun _ => rfl) ?_
            refine rr_put dX6_rule_58 flX6_7 rfl (by decide) rfl trivial ?_
            refine aw_aload_n dX6_rule_61 rfl rfl ?_
            refine aw_iload_n dX6_rule_62 rfl rfl ?_
            refine aw_iconst dX6_rule_63 ?_
            refine aw_icmp_ne (tgt := 71) dX6_rule_64 (by decide) (by omega) (by omega) (fun c_64 => ?_) (fun c_64 => ?_)
            · refine aw_aload_n dX6_rule_71 rfl rfl ?_
              refine rr_getS (S0 := S) dX6_rule_72 flX6_115 rfl (by decide) (fun _ => rfl) ?_
              refine rr_put dX6_rule_75 flX6_115 rfl (by decide) rfl trivial ?_
              refine aw_iload_n dX6_rule_78 rfl rfl ?_
              refine aw_iret dX6_rule_79 rfl (Nat.zero_le _) (Nat.zero_le _) ?_
              rcases (show w = 0 ∨ w = 1 by omega) with rfl | rfl
              · first
                | exact absurd rfl c_12
                | exact absurd rfl c_30
                | exact absurd rfl c_47
                | exact absurd c_64 (by decide)
                | (have e : opRule S 0 v = (S 1 0, u2 S 1 0 v) := by
                     unfold opRule
                     rw [if_pos (by omega)]
                   rw [e]
                   refine ⟨rfl, rfl, ?_, rfl⟩
                   congr 1
                   funext k x
                   simp only [u2]
                   by_cases hk : k = 2 <;> by_cases hx : x = 0 <;> simp [hk, hx])
              · first
                | exact absurd c_12 (by decide)
                | exact absurd c_30 (by decide)
                | exact absurd c_47 (by decide)
                | exact absurd rfl c_64
                | (have e : opRule S 1 v = (S 2 0, u2 S 2 0 v) := by
                     unfold opRule
                     rw [if_neg (by omega), if_pos (by omega)]
                   rw [e]
                   refine ⟨rfl, rfl, ?_, rfl⟩
                   congr 1
                   funext k x
                   simp only [u2]
                   by_cases hk : k = 1 <;> by_cases hx : x = 0 <;> simp [hk, hx])
            · refine aw_iload_n dX6_rule_67 rfl rfl ?_
              refine aw_goto (tgt := 75) dX6_rule_68 (by decide) ?_
              refine rr_put dX6_rule_75 flX6_115 rfl (by decide) rfl trivial ?_
              refine aw_iload_n dX6_rule_78 rfl rfl ?_
              refine aw_iret dX6_rule_79 rfl (Nat.zero_le _) (Nat.zero_le _) ?_
              rcases (show w = 0 ∨ w = 1 by omega) with rfl | rfl
              · first
                | exact absurd rfl c_12
                | exact absurd rfl c_30
                | exact absurd rfl c_47
                | exact absurd c_64 (by decide)
                | (have e : opRule S 0 v = (S 1 0, u2 S 1 0 v) := by
                     unfold opRule
                     rw [if_pos (by omega)]
                   rw [e]
                   refine ⟨rfl, rfl, ?_, rfl⟩
                   congr 1
                   funext k x
                   simp only [u2]
                   by_cases hk : k = 2 <;> by_cases hx : x = 0 <;> simp [hk, hx])
              · first
                | exact absurd c_12 (by decide)
                | exact absurd c_30 (by decide)
                | exact absurd c_47 (by decide)
                | exact absurd rfl c_64
                | (have e : opRule S 1 v = (S 2 0, u2 S 2 0 v) := by
                     unfold opRule
                     rw [if_neg (by omega), if_pos (by omega)]
                   rw [e]
                   refine ⟨rfl, rfl, ?_, rfl⟩
                   congr 1
                   funext k x
                   simp only [u2]
                   by_cases hk : k = 1 <;> by_cases hx : x = 0 <;> simp [hk, hx])
          · refine aw_iload_n dX6_rule_50 rfl rfl ?_
            refine aw_goto (tgt := 58) dX6_rule_51 (by decide) ?_
            refine rr_put dX6_rule_58 flX6_7 rfl (by decide) rfl trivial ?_
            refine aw_aload_n dX6_rule_61 rfl rfl ?_
            refine aw_iload_n dX6_rule_62 rfl rfl ?_
            refine aw_iconst dX6_rule_63 ?_
            refine aw_icmp_ne (tgt := 71) dX6_rule_64 (by decide) (by omega) (by omega) (fun c_64 => ?_) (fun c_64 => ?_)
            · refine aw_aload_n dX6_rule_71 rfl rfl ?_
              refine rr_getS (S0 := S) dX6_rule_72 flX6_115 rfl (by decide) (fun _ => rfl) ?_
              refine rr_put dX6_rule_75 flX6_115 rfl (by decide) rfl trivial ?_
              refine aw_iload_n dX6_rule_78 rfl rfl ?_
              refine aw_iret dX6_rule_79 rfl (Nat.zero_le _) (Nat.zero_le _) ?_
              rcases (show w = 0 ∨ w = 1 by omega) with rfl | rfl
              · first
                | exact absurd rfl c_12
                | exact absurd rfl c_30
                | exact absurd rfl c_47
                | exact absurd c_64 (by decide)
                | (have e : opRule S 0 v = (S 1 0, u2 S 1 0 v) := by
                     unfold opRule
                     rw [if_pos (by omega)]
                   rw [e]
                   refine ⟨rfl, rfl, ?_, rfl⟩
                   congr 1
                   funext k x
                   simp only [u2]
                   by_cases hk : k = 2 <;> by_cases hx : x = 0 <;> simp [hk, hx])
              · first
                | exact absurd c_12 (by decide)
                | exact absurd c_30 (by decide)
                | exact absurd c_47 (by decide)
                | exact absurd rfl c_64
                | (have e : opRule S 1 v = (S 2 0, u2 S 2 0 v) := by
                     unfold opRule
                     rw [if_neg (by omega), if_pos (by omega)]
                   rw [e]
                   refine ⟨rfl, rfl, ?_, rfl⟩
                   congr 1
                   funext k x
                   simp only [u2]
                   by_cases hk : k = 1 <;> by_cases hx : x = 0 <;> simp [hk, hx])
            · refine aw_iload_n dX6_rule_67 rfl rfl ?_
              refine aw_goto (tgt := 75) dX6_rule_68 (by decide) ?_
              refine rr_put dX6_rule_75 flX6_115 rfl (by decide) rfl trivial ?_
              refine aw_iload_n dX6_rule_78 rfl rfl ?_
              refine aw_iret dX6_rule_79 rfl (Nat.zero_le _) (Nat.zero_le _) ?_
              rcases (show w = 0 ∨ w = 1 by omega) with rfl | rfl
              · first
                | exact absurd rfl c_12
                | exact absurd rfl c_30
                | exact absurd rfl c_47
                | exact absurd c_64 (by decide)
                | (have e : opRule S 0 v = (S 1 0, u2 S 1 0 v) := by
                     unfold opRule
                     rw [if_pos (by omega)]
                   rw [e]
                   refine ⟨rfl, rfl, ?_, rfl⟩
                   congr 1
                   funext k x
                   simp only [u2]
                   by_cases hk : k = 2 <;> by_cases hx : x = 0 <;> simp [hk, hx])
              · first
                | exact absurd c_12 (by decide)
                | exact absurd c_30 (by decide)
                | exact absurd c_47 (by decide)
                | exact absurd rfl c_64
                | (have e : opRule S 1 v = (S 2 0, u2 S 2 0 v) := by
                     unfold opRule
                     rw [if_neg (by omega), if_pos (by omega)]
                   rw [e]
                   refine ⟨rfl, rfl, ?_, rfl⟩
                   congr 1
                   funext k x
                   simp only [u2]
                   by_cases hk : k = 1 <;> by_cases hx : x = 0 <;> simp [hk, hx])
        · refine aw_aload_n dX6_rule_33 rfl rfl ?_
          refine rr_getS dX6_rule_34 flX6_7 rfl (by decide) (fun _ => rfl) ?_
          refine aw_goto (tgt := 44) dX6_rule_37 (by decide) ?_
          refine aw_istore_n dX6_rule_44 rfl (by decide) ?_
          refine aw_aload_n dX6_rule_45 rfl rfl ?_
          refine aw_iload_n dX6_rule_46 rfl rfl ?_
          refine aw_if_ne (tgt := 54) dX6_rule_47 (by decide) (by omega) (fun c_47 => ?_) (fun c_47 => ?_)
          · refine aw_aload_n dX6_rule_54 rfl rfl ?_
            refine rr_getS dX6_rule_55 flX6_7 rfl (by decide) (fun _ => rfl) ?_
            refine rr_put dX6_rule_58 flX6_7 rfl (by decide) rfl trivial ?_
            refine aw_aload_n dX6_rule_61 rfl rfl ?_
            refine aw_iload_n dX6_rule_62 rfl rfl ?_
            refine aw_iconst dX6_rule_63 ?_
            refine aw_icmp_ne (tgt := 71) dX6_rule_64 (by decide) (by omega) (by omega) (fun c_64 => ?_) (fun c_64 => ?_)
            · refine aw_aload_n dX6_rule_71 rfl rfl ?_
              refine rr_getS (S0 := S) dX6_rule_72 flX6_115 rfl (by decide) (fun _ => rfl) ?_
              refine rr_put dX6_rule_75 flX6_115 rfl (by decide) rfl trivial ?_
              refine aw_iload_n dX6_rule_78 rfl rfl ?_
              refine aw_iret dX6_rule_79 rfl (Nat.zero_le _) (Nat.zero_le _) ?_
              rcases (show w = 0 ∨ w = 1 by omega) with rfl | rfl
              · first
                | exact absurd rfl c_12
                | exact absurd rfl c_30
                | exact absurd rfl c_47
                | exact absurd c_64 (by decide)
                | (have e : opRule S 0 v = (S 1 0, u2 S 1 0 v) := by
                     unfold opRule
                     rw [if_pos (by omega)]
                   rw [e]
                   refine ⟨rfl, rfl, ?_, rfl⟩
                   congr 1
                   funext k x
                   simp only [u2]
                   by_cases hk : k = 2 <;> by_cases hx : x = 0 <;> simp [hk, hx])
              · first
                | exact absurd c_12 (by decide)
                | exact absurd c_30 (by decide)
                | exact absurd c_47 (by decide)
                | exact absurd rfl c_64
                | (have e : opRule S 1 v = (S 2 0, u2 S 2 0 v) := by
                     unfold opRule
                     rw [if_neg (by omega), if_pos (by omega)]
                   rw [e]
                   refine ⟨rfl, rfl, ?_, rfl⟩
                   congr 1
                   funext k x
                   simp only [u2]
                   by_cases hk : k = 1 <;> by_cases hx : x = 0 <;> simp [hk, hx])
            · refine aw_iload_n dX6_rule_67 rfl rfl ?_
              refine aw_goto (tgt := 75) dX6_rule_68 (by decide) ?_
              refine rr_put dX6_rule_75 flX6_115 rfl (by decide) rfl trivial ?_
              refine aw_iload_n dX6_rule_78 rfl rfl ?_
              refine aw_iret dX6_rule_79 rfl (Nat.zero_le _) (Nat.zero_le _) ?_
              rcases (show w = 0 ∨ w = 1 by omega) with rfl | rfl
              · first
                | exact absurd rfl c_12
                | exact absurd rfl c_30
                | exact absurd rfl c_47
                | exact absurd c_64 (by decide)
                | (have e : opRule S 0 v = (S 1 0, u2 S 1 0 v) := by
                     unfold opRule
                     rw [if_pos (by omega)]
                   rw [e]
                   refine ⟨rfl, rfl, ?_, rfl⟩
                   congr 1
                   funext k x
                   simp only [u2]
                   by_cases hk : k = 2 <;> by_cases hx : x = 0 <;> simp [hk, hx])
              · first
                | exact absurd c_12 (by decide)
                | exact absurd c_30 (by decide)
                | exact absurd c_47 (by decide)
                | exact absurd rfl c_64
                | (have e : opRule S 1 v = (S 2 0, u2 S 2 0 v) := by
                     unfold opRule
                     rw [if_neg (by omega), if_pos (by omega)]
                   rw [e]
                   refine ⟨rfl, rfl, ?_, rfl⟩
                   congr 1
                   funext k x
                   simp only [u2]
                   by_cases hk : k = 1 <;> by_cases hx : x = 0 <;> simp [hk, hx])
          · refine aw_iload_n dX6_rule_50 rfl rfl ?_
            refine aw_goto (tgt := 58) dX6_rule_51 (by decide) ?_
            refine rr_put dX6_rule_58 flX6_7 rfl (by decide) rfl trivial ?_
            refine aw_aload_n dX6_rule_61 rfl rfl ?_
            refine aw_iload_n dX6_rule_62 rfl rfl ?_
            refine aw_iconst dX6_rule_63 ?_
            refine aw_icmp_ne (tgt := 71) dX6_rule_64 (by decide) (by omega) (by omega) (fun c_64 => ?_) (fun c_64 => ?_)
            · refine aw_aload_n dX6_rule_71 rfl rfl ?_
              refine rr_getS (S0 := S) dX6_rule_72 flX6_115 rfl (by decide) (fun _ => rfl) ?_
              refine rr_put dX6_rule_75 flX6_115 rfl (by decide) rfl trivial ?_
              refine aw_iload_n dX6_rule_78 rfl rfl ?_
              refine aw_iret dX6_rule_79 rfl (Nat.zero_le _) (Nat.zero_le _) ?_
              rcases (show w = 0 ∨ w = 1 by omega) with rfl | rfl
              · first
                | exact absurd rfl c_12
                | exact absurd rfl c_30
                | exact absurd rfl c_47
                | exact absurd c_64 (by decide)
                | (have e : opRule S 0 v = (S 1 0, u2 S 1 0 v) := by
                     unfold opRule
                     rw [if_pos (by omega)]
                   rw [e]
                   refine ⟨rfl, rfl, ?_, rfl⟩
                   congr 1
                   funext k x
                   simp only [u2]
                   by_cases hk : k = 2 <;> by_cases hx : x = 0 <;> simp [hk, hx])
              · first
                | exact absurd c_12 (by decide)
                | exact absurd c_30 (by decide)
                | exact absurd c_47 (by decide)
                | exact absurd rfl c_64
                | (have e : opRule S 1 v = (S 2 0, u2 S 2 0 v) := by
                     unfold opRule
                     rw [if_neg (by omega), if_pos (by omega)]
                   rw [e]
                   refine ⟨rfl, rfl, ?_, rfl⟩
                   congr 1
                   funext k x
                   simp only [u2]
                   by_cases hk : k = 1 <;> by_cases hx : x = 0 <;> simp [hk, hx])
            · refine aw_iload_n dX6_rule_67 rfl rfl ?_
              refine aw_goto (tgt := 75) dX6_rule_68 (by decide) ?_
              refine rr_put dX6_rule_75 flX6_115 rfl (by decide) rfl trivial ?_
              refine aw_iload_n dX6_rule_78 rfl rfl ?_
              refine aw_iret dX6_rule_79 rfl (Nat.zero_le _) (Nat.zero_le _) ?_
              rcases (show w = 0 ∨ w = 1 by omega) with rfl | rfl
              · first
                | exact absurd rfl c_12
                | exact absurd rfl c_30
                | exact absurd rfl c_47
                | exact absurd c_64 (by decide)
                | (have e : opRule S 0 v = (S 1 0, u2 S 1 0 v) := by
                     unfold opRule
                     rw [if_pos (by omega)]
                   rw [e]
                   refine ⟨rfl, rfl, ?_, rfl⟩
                   congr 1
                   funext k x
                   simp only [u2]
                   by_cases hk : k = 2 <;> by_cases hx : x = 0 <;> simp [hk, hx])
              · first
                | exact absurd c_12 (by decide)
                | exact absurd c_30 (by decide)
                | exact absurd c_47 (by decide)
                | exact absurd rfl c_64
                | (have e : opRule S 1 v = (S 2 0, u2 S 2 0 v) := by
                     unfold opRule
                     rw [if_neg (by omega), if_pos (by omega)]
                   rw [e]
                   refine ⟨rfl, rfl, ?_, rfl⟩
                   congr 1
                   funext k x
                   simp only [u2]
                   by_cases hk : k = 1 <;> by_cases hx : x = 0 <;> simp [hk, hx])
      · refine aw_if_ne (tgt := 29) dX6_rule_24 (by decide) (by omega) (fun c_24 => absurd c_24 (by decide)) (fun _ => ?_)
        refine aw_iconst dX6_rule_27 ?_
        refine aw_iret dX6_rule_28 rfl (Nat.zero_le _) (Nat.zero_le _) ?_
        have e : opRule S w v = (-1, S) := by
          unfold opRule
          repeat (first | rw [if_pos (by omega)] | rw [if_neg (by omega)])
        rw [e]
        exact ⟨rfl, rfl, rfl, rfl⟩
    · refine aw_bipush dX6_rule_15 (by decide) ?_
      refine aw_goto (tgt := 21) dX6_rule_17 (by decide) ?_
      refine aw_callS (c_X6_isIn (by omega) (by omega) (by omega)) mv_X6_isIn mlX6_108 dX6_rule_21 (by decide) rfl (Nat.le_of_ble_eq_true rfl) rfl ?_
      rintro _ _ _ _ ⟨⟨rfl, h2⟩ | ⟨rfl, h2⟩, rfl, rfl, rfl⟩
      · refine aw_if_ne (tgt := 29) dX6_rule_24 (by decide) (by omega) (fun _ => ?_) (fun c_24 => absurd c_24 (by decide))
        refine aw_iload_n dX6_rule_29 rfl rfl ?_
        refine aw_if_ne (tgt := 40) dX6_rule_30 (by decide) (by omega) (fun c_30 => ?_) (fun c_30 => ?_)
        · refine aw_aload_n dX6_rule_40 rfl rfl ?_
          refine rr_getS dX6_rule_41 flX6_115 rfl (by decide) (fun _ => rfl) ?_
          refine aw_istore_n dX6_rule_44 rfl (by decide) ?_
          refine aw_aload_n dX6_rule_45 rfl rfl ?_
          refine aw_iload_n dX6_rule_46 rfl rfl ?_
          refine aw_if_ne (tgt := 54) dX6_rule_47 (by decide) (by omega) (fun c_47 => ?_) (fun c_47 => ?_)
          · refine aw_aload_n dX6_rule_54 rfl rfl ?_
            refine rr_getS dX6_rule_55 flX6_7 rfl (by decide) (fun _ => rfl) ?_
            refine rr_put dX6_rule_58 flX6_7 rfl (by decide) rfl trivial ?_
            refine aw_aload_n dX6_rule_61 rfl rfl ?_
            refine aw_iload_n dX6_rule_62 rfl rfl ?_
            refine aw_iconst dX6_rule_63 ?_
            refine aw_icmp_ne (tgt := 71) dX6_rule_64 (by decide) (by omega) (by omega) (fun c_64 => ?_) (fun c_64 => ?_)
            · refine aw_aload_n dX6_rule_71 rfl rfl ?_
              refine rr_getS (S0 := S) dX6_rule_72 flX6_115 rfl (by decide) (fun _ => rfl) ?_
              refine rr_put dX6_rule_75 flX6_115 rfl (by decide) rfl trivial ?_
              refine aw_iload_n dX6_rule_78 rfl rfl ?_
              refine aw_iret dX6_rule_79 rfl (Nat.zero_le _) (Nat.zero_le _) ?_
              rcases (show w = 0 ∨ w = 1 by omega) with rfl | rfl
              · first
                | exact absurd rfl c_12
                | exact absurd rfl c_30
                | exact absurd rfl c_47
                | exact absurd c_64 (by decide)
                | (have e : opRule S 0 v = (S 1 0, u2 S 1 0 v) := by
                     unfold opRule
                     rw [if_pos (by omega)]
                   rw [e]
                   refine ⟨rfl, rfl, ?_, rfl⟩
                   congr 1
                   funext k x
                   simp only [u2]
                   by_cases hk : k = 2 <;> by_cases hx : x = 0 <;> simp [hk, hx])
              · first
                | exact absurd c_12 (by decide)
                | exact absurd c_30 (by decide)
                | exact absurd c_47 (by decide)
                | exact absurd rfl c_64
                | (have e : opRule S 1 v = (S 2 0, u2 S 2 0 v) := by
                     unfold opRule
                     rw [if_neg (by omega), if_pos (by omega)]
                   rw [e]
                   refine ⟨rfl, rfl, ?_, rfl⟩
                   congr 1
                   funext k x
                   simp only [u2]
                   by_cases hk : k = 1 <;> by_cases hx : x = 0 <;> simp [hk, hx])
            · refine aw_iload_n dX6_rule_67 rfl rfl ?_
              refine aw_goto (tgt := 75) dX6_rule_68 (by decide) ?_
              refine rr_put dX6_rule_75 flX6_115 rfl (by decide) rfl trivial ?_
              refine aw_iload_n dX6_rule_78 rfl rfl ?_
              refine aw_iret dX6_rule_79 rfl (Nat.zero_le _) (Nat.zero_le _) ?_
              rcases (show w = 0 ∨ w = 1 by omega) with rfl | rfl
              · first
                | exact absurd rfl c_12
                | exact absurd rfl c_30
                | exact absurd rfl c_47
                | exact absurd c_64 (by decide)
                | (have e : opRule S 0 v = (S 1 0, u2 S 1 0 v) := by
                     unfold opRule
                     rw [if_pos (by omega)]
                   rw [e]
                   refine ⟨rfl, rfl, ?_, rfl⟩
                   congr 1
                   funext k x
                   simp only [u2]
                   by_cases hk : k = 2 <;> by_cases hx : x = 0 <;> simp [hk, hx])
              · first
                | exact absurd c_12 (by decide)
                | exact absurd c_30 (by decide)
                | exact absurd c_47 (by decide)
                | exact absurd rfl c_64
                | (have e : opRule S 1 v = (S 2 0, u2 S 2 0 v) := by
                     unfold opRule
                     rw [if_neg (by omega), if_pos (by omega)]
                   rw [e]
                   refine ⟨rfl, rfl, ?_, rfl⟩
                   congr 1
                   funext k x
                   simp only [u2]
                   by_cases hk : k = 1 <;> by_cases hx : x = 0 <;> simp [hk, hx])
          · refine aw_iload_n dX6_rule_50 rfl rfl ?_
            refine aw_goto (tgt := 58) dX6_rule_51 (by decide) ?_
            refine rr_put dX6_rule_58 flX6_7 rfl (by decide) rfl trivial ?_
            refine aw_aload_n dX6_rule_61 rfl rfl ?_
            refine aw_iload_n dX6_rule_62 rfl rfl ?_
            refine aw_iconst dX6_rule_63 ?_
            refine aw_icmp_ne (tgt := 71) dX6_rule_64 (by decide) (by omega) (by omega) (fun c_64 => ?_) (fun c_64 => ?_)
            · refine aw_aload_n dX6_rule_71 rfl rfl ?_
              refine rr_getS (S0 := S) dX6_rule_72 flX6_115 rfl (by decide) (fun _ => rfl) ?_
              refine rr_put dX6_rule_75 flX6_115 rfl (by decide) rfl trivial ?_
              refine aw_iload_n dX6_rule_78 rfl rfl ?_
              refine aw_iret dX6_rule_79 rfl (Nat.zero_le _) (Nat.zero_le _) ?_
              rcases (show w = 0 ∨ w = 1 by omega) with rfl | rfl
              · first
                | exact absurd rfl c_12
                | exact absurd rfl c_30
                | exact absurd rfl c_47
                | exact absurd c_64 (by decide)
                | (have e : opRule S 0 v = (S 1 0, u2 S 1 0 v) := by
                     unfold opRule
                     rw [if_pos (by omega)]
                   rw [e]
                   refine ⟨rfl, rfl, ?_, rfl⟩
                   congr 1
                   funext k x
                   simp only [u2]
                   by_cases hk : k = 2 <;> by_cases hx : x = 0 <;> simp [hk, hx])
              · first
                | exact absurd c_12 (by decide)
                | exact absurd c_30 (by decide)
                | exact absurd c_47 (by decide)
                | exact absurd rfl c_64
                | (have e : opRule S 1 v = (S 2 0, u2 S 2 0 v) := by
                     unfold opRule
                     rw [if_neg (by omega), if_pos (by omega)]
                   rw [e]
                   refine ⟨rfl, rfl, ?_, rfl⟩
                   congr 1
                   funext k x
                   simp only [u2]
                   by_cases hk : k = 1 <;> by_cases hx : x = 0 <;> simp [hk, hx])
            · refine aw_iload_n dX6_rule_67 rfl rfl ?_
              refine aw_goto (tgt := 75) dX6_rule_68 (by decide) ?_
              refine rr_put dX6_rule_75 flX6_115 rfl (by decide) rfl trivial ?_
              refine aw_iload_n dX6_rule_78 rfl rfl ?_
              refine aw_iret dX6_rule_79 rfl (Nat.zero_le _) (Nat.zero_le _) ?_
              rcases (show w = 0 ∨ w = 1 by omega) with rfl | rfl
              · first
                | exact absurd rfl c_12
                | exact absurd rfl c_30
                | exact absurd rfl c_47
                | exact absurd c_64 (by decide)
                | (have e : opRule S 0 v = (S 1 0, u2 S 1 0 v) := by
                     unfold opRule
                     rw [if_pos (by omega)]
                   rw [e]
                   refine ⟨rfl, rfl, ?_, rfl⟩
                   congr 1
                   funext k x
                   simp only [u2]
                   by_cases hk : k = 2 <;> by_cases hx : x = 0 <;> simp [hk, hx])
              · first
                | exact absurd c_12 (by decide)
                | exact absurd c_30 (by decide)
                | exact absurd c_47 (by decide)
                | exact absurd rfl c_64
                | (have e : opRule S 1 v = (S 2 0, u2 S 2 0 v) := by
                     unfold opRule
                     rw [if_neg (by omega), if_pos (by omega)]
                   rw [e]
                   refine ⟨rfl, rfl, ?_, rfl⟩
                   congr 1
                   funext k x
                   simp only [u2]
                   by_cases hk : k = 1 <;> by_cases hx : x = 0 <;> simp [hk, hx])
        · refine aw_aload_n dX6_rule_33 rfl rfl ?_
          refine rr_getS dX6_rule_34 flX6_7 rfl (by decide) (fun _ => rfl) ?_
          refine aw_goto (tgt := 44) dX6_rule_37 (by decide) ?_
          refine aw_istore_n dX6_rule_44 rfl (by decide) ?_
          refine aw_aload_n dX6_rule_45 rfl rfl ?_
          refine aw_iload_n dX6_rule_46 rfl rfl ?_
          refine aw_if_ne (tgt := 54) dX6_rule_47 (by decide) (by omega) (fun c_47 => ?_) (fun c_47 => ?_)
          · refine aw_aload_n dX6_rule_54 rfl rfl ?_
            refine rr_getS dX6_rule_55 flX6_7 rfl (by decide) (fun _ => rfl) ?_
            refine rr_put dX6_rule_58 flX6_7 rfl (by decide) rfl trivial ?_
            refine aw_aload_n dX6_rule_61 rfl rfl ?_
            refine aw_iload_n dX6_rule_62 rfl rfl ?_
            refine aw_iconst dX6_rule_63 ?_
            refine aw_icmp_ne (tgt := 71) dX6_rule_64 (by decide) (by omega) (by omega) (fun c_64 => ?_) (fun c_64 => ?_)
            · refine aw_aload_n dX6_rule_71 rfl rfl ?_
              refine rr_getS (S0 := S) dX6_rule_72 flX6_115 rfl (by decide) (fun _ => rfl) ?_
              refine rr_put dX6_rule_75 flX6_115 rfl (by decide) rfl trivial ?_
              refine aw_iload_n dX6_rule_78 rfl rfl ?_
              refine aw_iret dX6_rule_79 rfl (Nat.zero_le _) (Nat.zero_le _) ?_
              rcases (show w = 0 ∨ w = 1 by omega) with rfl | rfl
              · first
                | exact absurd rfl c_12
                | exact absurd rfl c_30
                | exact absurd rfl c_47
                | exact absurd c_64 (by decide)
                | (have e : opRule S 0 v = (S 1 0, u2 S 1 0 v) := by
                     unfold opRule
                     rw [if_pos (by omega)]
                   rw [e]
                   refine ⟨rfl, rfl, ?_, rfl⟩
                   congr 1
                   funext k x
                   simp only [u2]
                   by_cases hk : k = 2 <;> by_cases hx : x = 0 <;> simp [hk, hx])
              · first
                | exact absurd c_12 (by decide)
                | exact absurd c_30 (by decide)
                | exact absurd c_47 (by decide)
                | exact absurd rfl c_64
                | (have e : opRule S 1 v = (S 2 0, u2 S 2 0 v) := by
                     unfold opRule
                     rw [if_neg (by omega), if_pos (by omega)]
                   rw [e]
                   refine ⟨rfl, rfl, ?_, rfl⟩
                   congr 1
                   funext k x
                   simp only [u2]
                   by_cases hk : k = 1 <;> by_cases hx : x = 0 <;> simp [hk, hx])
            · refine aw_iload_n dX6_rule_67 rfl rfl ?_
              refine aw_goto (tgt := 75) dX6_rule_68 (by decide) ?_
              refine rr_put dX6_rule_75 flX6_115 rfl (by decide) rfl trivial ?_
              refine aw_iload_n dX6_rule_78 rfl rfl ?_
              refine aw_iret dX6_rule_79 rfl (Nat.zero_le _) (Nat.zero_le _) ?_
              rcases (show w = 0 ∨ w = 1 by omega) with rfl | rfl
              · first
                | exact absurd rfl c_12
                | exact absurd rfl c_30
                | exact absurd rfl c_47
                | exact absurd c_64 (by decide)
                | (have e : opRule S 0 v = (S 1 0, u2 S 1 0 v) := by
                     unfold opRule
                     rw [if_pos (by omega)]
                   rw [e]
                   refine ⟨rfl, rfl, ?_, rfl⟩
                   congr 1
                   funext k x
                   simp only [u2]
                   by_cases hk : k = 2 <;> by_cases hx : x = 0 <;> simp [hk, hx])
              · first
                | exact absurd c_12 (by decide)
                | exact absurd c_30 (by decide)
                | exact absurd c_47 (by decide)
                | exact absurd rfl c_64
                | (have e : opRule S 1 v = (S 2 0, u2 S 2 0 v) := by
                     unfold opRule
                     rw [if_neg (by omega), if_pos (by omega)]
                   rw [e]
                   refine ⟨rfl, rfl, ?_, rfl⟩
                   congr 1
                   funext k x
                   simp only [u2]
                   by_cases hk : k = 1 <;> by_cases hx : x = 0 <;> simp [hk, hx])
          · refine aw_iload_n dX6_rule_50 rfl rfl ?_
            refine aw_goto (tgt := 58) dX6_rule_51 (by decide) ?_
            refine rr_put dX6_rule_58 flX6_7 rfl (by decide) rfl trivial ?_
            refine aw_aload_n dX6_rule_61 rfl rfl ?_
            refine aw_iload_n dX6_rule_62 rfl rfl ?_
            refine aw_iconst dX6_rule_63 ?_
            refine aw_icmp_ne (tgt := 71) dX6_rule_64 (by decide) (by omega) (by omega) (fun c_64 => ?_) (fun c_64 => ?_)
            · refine aw_aload_n dX6_rule_71 rfl rfl ?_
              refine rr_getS (S0 := S) dX6_rule_72 flX6_115 rfl (by decide) (fun _ => rfl) ?_
              refine rr_put dX6_rule_75 flX6_115 rfl (by decide) rfl trivial ?_
              refine aw_iload_n dX6_rule_78 rfl rfl ?_
              refine aw_iret dX6_rule_79 rfl (Nat.zero_le _) (Nat.zero_le _) ?_
              rcases (show w = 0 ∨ w = 1 by omega) with rfl | rfl
              · first
                | exact absurd rfl c_12
                | exact absurd rfl c_30
                | exact absurd rfl c_47
                | exact absurd c_64 (by decide)
                | (have e : opRule S 0 v = (S 1 0, u2 S 1 0 v) := by
                     unfold opRule
                     rw [if_pos (by omega)]
                   rw [e]
                   refine ⟨rfl, rfl, ?_, rfl⟩
                   congr 1
                   funext k x
                   simp only [u2]
                   by_cases hk : k = 2 <;> by_cases hx : x = 0 <;> simp [hk, hx])
              · first
                | exact absurd c_12 (by decide)
                | exact absurd c_30 (by decide)
                | exact absurd c_47 (by decide)
                | exact absurd rfl c_64
                | (have e : opRule S 1 v = (S 2 0, u2 S 2 0 v) := by
                     unfold opRule
                     rw [if_neg (by omega), if_pos (by omega)]
                   rw [e]
                   refine ⟨rfl, rfl, ?_, rfl⟩
                   congr 1
                   funext k x
                   simp only [u2]
                   by_cases hk : k = 1 <;> by_cases hx : x = 0 <;> simp [hk, hx])
            · refine aw_iload_n dX6_rule_67 rfl rfl ?_
              refine aw_goto (tgt := 75) dX6_rule_68 (by decide) ?_
              refine rr_put dX6_rule_75 flX6_115 rfl (by decide) rfl trivial ?_
              refine aw_iload_n dX6_rule_78 rfl rfl ?_
              refine aw_iret dX6_rule_79 rfl (Nat.zero_le _) (Nat.zero_le _) ?_
              rcases (show w = 0 ∨ w = 1 by omega) with rfl | rfl
              · first
                | exact absurd rfl c_12
                | exact absurd rfl c_30
                | exact absurd rfl c_47
                | exact absurd c_64 (by decide)
                | (have e : opRule S 0 v = (S 1 0, u2 S 1 0 v) := by
                     unfold opRule
                     rw [if_pos (by omega)]
                   rw [e]
                   refine ⟨rfl, rfl, ?_, rfl⟩
                   congr 1
                   funext k x
                   simp only [u2]
                   by_cases hk : k = 2 <;> by_cases hx : x = 0 <;> simp [hk, hx])
              · first
                | exact absurd c_12 (by decide)
                | exact absurd c_30 (by decide)
                | exact absurd c_47 (by decide)
                | exact absurd rfl c_64
                | (have e : opRule S 1 v = (S 2 0, u2 S 2 0 v) := by
                     unfold opRule
                     rw [if_neg (by omega), if_pos (by omega)]
                   rw [e]
                   refine ⟨rfl, rfl, ?_, rfl⟩
                   congr 1
                   funext k x
                   simp only [u2]
                   by_cases hk : k = 1 <;> by_cases hx : x = 0 <;> simp [hk, hx])
      · refine aw_if_ne (tgt := 29) dX6_rule_24 (by decide) (by omega) (fun c_24 => absurd c_24 (by decide)) (fun _ => ?_)
        refine aw_iconst dX6_rule_27 ?_
        refine aw_iret dX6_rule_28 rfl (Nat.zero_le _) (Nat.zero_le _) ?_
        have e : opRule S w v = (-1, S) := by
          unfold opRule
          repeat (first | rw [if_pos (by omega)] | rw [if_neg (by omega)])
        rw [e]
        exact ⟨rfl, rfl, rfl, rfl⟩
  · refine aw_if_eq (tgt := 27) dX6_rule_6 (by decide) (by omega) (fun _ => ?_) (fun c_6 => absurd c_6 (by decide))
    refine aw_iconst dX6_rule_27 ?_
    refine aw_iret dX6_rule_28 rfl (Nat.zero_le _) (Nat.zero_le _) ?_
    have e : opRule S w v = (-1, S) := by
      unfold opRule
      repeat (first | rw [if_pos (by omega)] | rw [if_neg (by omega)])
    rw [e]
    exact ⟨rfl, rfl, rfl, rfl⟩
set_option maxRecDepth 100000 in
set_option maxHeartbeats 4000000 in
theorem c_X6_ship {w m g d sl t : Int} (hB : BB S) (hw : Rg w) (hm : Rg m) (hg : g = 0 ∨ g = 1) (hd : Rg d) (hsl : sl = 0 ∨ sl = 1) (ht : Rg t) : CT l D cA A ad yX6_ship cX6_ship 7 (some .int) rm_X6_ship [.inr (some (50, 0)), .inl w, .inl m, .inl g, .inl d, .inl sl, .inl t] lvR (VR S) sz (PR (some (.inl (opShip S w m g d sl t).1)) ((opShip S w m g d sl t).2) sz) := by
  refine CT.of2 [some (.inr (some (50, 0))), some (.inl w), some (.inl m), some (.inl g), some (.inl d), some (.inl sl), some (.inl t)] (by decide) (Nat.le_of_ble_eq_true rfl) rfl ?_
  have hb := hB.m
  simp only [bsm] at hb
  refine aw_iload_n dX6_ship_0 rfl rfl ?_
  refine aw_iconst dX6_ship_1 ?_
  refine aw_iconst dX6_ship_2 ?_
  refine aw_callS (c_X6_isIn (by omega) (by omega) (by omega)) mv_X6_isIn mlX6_108 dX6_ship_3 (by decide) rfl (Nat.le_of_ble_eq_true rfl) rfl ?_
  rintro _ _ _ _ ⟨⟨rfl, h1⟩ | ⟨rfl, h1⟩, rfl, rfl, rfl⟩
  · refine aw_if_eq (tgt := 42) dX6_ship_6 (by decide) (by omega) (fun c_6 => absurd c_6 (by decide)) (fun _ => ?_)
    refine aw_iload_n dX6_ship_9 rfl rfl ?_
    refine aw_iconst dX6_ship_10 ?_
    refine aw_sipush dX6_ship_11 (by decide) ?_
    refine aw_callS (c_X6_isIn (by omega) (by omega) (by omega)) mv_X6_isIn mlX6_108 dX6_ship_14 (by decide) rfl (Nat.le_of_ble_eq_true rfl) rfl ?_
    rintro _ _ _ _ ⟨⟨rfl, h2⟩ | ⟨rfl, h2⟩, rfl, rfl, rfl⟩
    · refine aw_if_eq (tgt := 42) dX6_ship_17 (by decide) (by omega) (fun c_17 => absurd c_17 (by decide)) (fun _ => ?_)
      refine aw_iload dX6_ship_20 rfl ?_
      refine aw_iconst dX6_ship_22 ?_
      refine aw_bipush dX6_ship_23 (by decide) ?_
      refine aw_callS (c_X6_isIn (by omega) (by omega) (by omega)) mv_X6_isIn mlX6_108 dX6_ship_25 (by decide) rfl (Nat.le_of_ble_eq_true rfl) rfl ?_
      rintro _ _ _ _ ⟨⟨rfl, h3⟩ | ⟨rfl, h3⟩, rfl, rfl, rfl⟩
      · refine aw_if_eq (tgt := 42) dX6_ship_28 (by decide) (by omega) (fun c_28 => absurd c_28 (by decide)) (fun _ => ?_)
        refine aw_iload dX6_ship_31 rfl ?_
        refine aw_iconst dX6_ship_33 ?_
        refine aw_ldc (n := 200000) dX6_ship_34 ctX6_118 (by decide) ?_
        refine aw_callS (c_X6_isIn (by omega) (by omega) (by omega)) mv_X6_isIn mlX6_108 dX6_ship_36 (by decide) rfl (Nat.le_of_ble_eq_true rfl) rfl ?_
        rintro _ _ _ _ ⟨⟨rfl, h4⟩ | ⟨rfl, h4⟩, rfl, rfl, rfl⟩
        · refine aw_if_ne (tgt := 44) dX6_ship_39 (by decide) (by omega) (fun _ => ?_) (fun c_39 => absurd c_39 (by decide))
          refine aw_iload_n dX6_ship_44 rfl rfl ?_
          refine aw_aload_n dX6_ship_45 rfl rfl ?_
          refine rr_getS dX6_ship_46 flX6_112 rfl (by decide) (fun _ => rfl) ?_
          refine aw_icmp_ge (tgt := 55) dX6_ship_49 (by decide) (by omega) (by omega) (fun c_49 => ?_) (fun c_49 => ?_)
          · refine aw_aload_n dX6_ship_55 rfl rfl ?_
            refine rr_getS dX6_ship_56 flX6_119 rfl (by decide) (fun _ => rfl) ?_
            refine aw_bipush dX6_ship_59 (by decide) ?_
            refine aw_icmp_ne (tgt := 67) dX6_ship_61 (by decide) (by omega) (by omega) (fun c_61 => ?_) (fun c_61 => ?_)
            · refine aw_aload_n dX6_ship_67 rfl rfl ?_
              refine rr_getA dX6_ship_68 flX6_30 rfl (by decide) ?_
              refine aw_aload_n dX6_ship_71 rfl rfl ?_
              refine rr_getS dX6_ship_72 flX6_119 rfl (by decide) (fun _ => rfl) ?_
              refine aw_iload_n dX6_ship_75 rfl rfl ?_
              refine rr_iast (n := 30) dX6_ship_76 rfl rfl rfl (by omega) (by omega) ?_
              refine aw_aload_n dX6_ship_77 rfl rfl ?_
              refine rr_getA dX6_ship_78 flX6_33 rfl (by decide) ?_
              refine aw_aload_n dX6_ship_81 rfl rfl ?_
              refine rr_getS (S0 := S) dX6_ship_82 flX6_119 rfl (by decide) (fun _ => rfl) ?_
              refine aw_iload_n dX6_ship_85 rfl rfl ?_
              refine rr_iast (n := 30) dX6_ship_86 rfl rfl rfl (by omega) (by omega) ?_
              refine aw_aload_n dX6_ship_87 rfl rfl ?_
              refine rr_getA dX6_ship_88 flX6_36 rfl (by decide) ?_
              refine aw_aload_n dX6_ship_91 rfl rfl ?_
              refine rr_getS (S0 := S) dX6_ship_92 flX6_119 rfl (by decide) (fun _ => rfl) ?_
              refine aw_iload_n dX6_ship_95 rfl rfl ?_
              refine rr_zast (n := 30) dX6_ship_96 rfl rfl rfl (by omega) (by omega) (by omega) ?_
              refine aw_aload_n dX6_ship_97 rfl rfl ?_
              refine rr_getA dX6_ship_98 flX6_39 rfl (by decide) ?_
              refine aw_aload_n dX6_ship_101 rfl rfl ?_
              refine rr_getS (S0 := S) dX6_ship_102 flX6_119 rfl (by decide) (fun _ => rfl) ?_
              refine aw_iload dX6_ship_105 rfl ?_
              refine rr_iast (n := 30) dX6_ship_107 rfl rfl rfl (by omega) (by omega) ?_
              refine aw_aload_n dX6_ship_108 rfl rfl ?_
              refine rr_getA dX6_ship_109 flX6_42 rfl (by decide) ?_
              refine aw_aload_n dX6_ship_112 rfl rfl ?_
              refine rr_getS (S0 := S) dX6_ship_113 flX6_119 rfl (by decide) (fun _ => rfl) ?_
              refine aw_iload dX6_ship_116 rfl ?_
              refine rr_zast (n := 30) dX6_ship_118 rfl rfl rfl (by omega) (by omega) (by omega) ?_
              refine aw_aload_n dX6_ship_119 rfl rfl ?_
              refine rr_getA dX6_ship_120 flX6_45 rfl (by decide) ?_
              refine aw_aload_n dX6_ship_123 rfl rfl ?_
              refine rr_getS (S0 := S) dX6_ship_124 flX6_119 rfl (by decide) (fun _ => rfl) ?_
              refine aw_iload dX6_ship_127 rfl ?_
              refine rr_iast (n := 30) dX6_ship_129 rfl rfl rfl (by omega) (by omega) ?_
              refine aw_aload_n dX6_ship_130 rfl rfl ?_
              refine rr_getA dX6_ship_131 flX6_48 rfl (by decide) ?_
              refine aw_aload_n dX6_ship_134 rfl rfl ?_
              refine rr_getS (S0 := S) dX6_ship_135 flX6_119 rfl (by decide) (fun _ => rfl) ?_
              refine aw_iconst dX6_ship_138 ?_
              refine rr_iast (n := 30) dX6_ship_139 rfl rfl rfl (by omega) (by omega) ?_
              refine aw_aload_n dX6_ship_140 rfl rfl ?_
              refine rr_getA dX6_ship_141 flX6_60 rfl (by decide) ?_
              refine aw_aload_n dX6_ship_144 rfl rfl ?_
              refine rr_getS (S0 := S) dX6_ship_145 flX6_119 rfl (by decide) (fun _ => rfl) ?_
              refine aw_bipush dX6_ship_148 (by decide) ?_
              refine rr_iast (n := 30) dX6_ship_150 rfl rfl rfl (by omega) (by omega) ?_
              refine aw_aload_n dX6_ship_151 rfl rfl ?_
              refine rr_getA dX6_ship_152 flX6_63 rfl (by decide) ?_
              refine aw_aload_n dX6_ship_155 rfl rfl ?_
              refine rr_getS (S0 := S) dX6_ship_156 flX6_119 rfl (by decide) (fun _ => rfl) ?_
              refine aw_bipush dX6_ship_159 (by decide) ?_
              refine rr_iast (n := 30) dX6_ship_161 rfl rfl rfl (by omega) (by omega) ?_
              refine aw_aload_n dX6_ship_162 rfl rfl ?_
              refine rr_getA dX6_ship_163 flX6_69 rfl (by decide) ?_
              refine aw_aload_n dX6_ship_166 rfl rfl ?_
              refine rr_getS (S0 := S) dX6_ship_167 flX6_119 rfl (by decide) (fun _ => rfl) ?_
              refine aw_bipush dX6_ship_170 (by decide) ?_
              refine rr_iast (n := 30) dX6_ship_172 rfl rfl rfl (by omega) (by omega) ?_
              refine aw_aload_n dX6_ship_173 rfl rfl ?_
              refine aw_dup dX6_ship_174 ?_
              refine rr_getS (S0 := S) dX6_ship_175 flX6_119 rfl (by decide) (fun _ => rfl) ?_
              refine aw_iconst dX6_ship_178 ?_
              refine aw_iadd dX6_ship_179 ?_
              refine rr_put dX6_ship_180 flX6_119 rfl (by decide) rfl trivial ?_
              refine aw_aload_n dX6_ship_183 rfl rfl ?_
              refine rr_getS (S0 := u2 S 8 0 (S 8 0 + 1)) dX6_ship_184 flX6_119 rfl (by decide) (fun _ => rfl) ?_
              refine aw_iconst dX6_ship_187 ?_
              refine aw_isub dX6_ship_188 ?_
              refine aw_iret dX6_ship_189 rfl (Nat.zero_le _) (Nat.zero_le _) ?_
              have e : opShip S w m g d sl t = (S 8 0, u2 (u2 (u2 (u2 (u2 (u2 (u2 (u2 (u2 (u2 (u2 S 9 (S 8 0) w) 10 (S 8 0) m) 11 (S 8 0) g) 12 (S 8 0) d) 13 (S 8 0) sl) 14 (S 8 0) t) 15 (S 8 0) (-1)) 19 (S 8 0) (-4)) 20 (S 8 0) (-4)) 22 (S 8 0) (-4)) 8 0 (S 8 0 + 1)) := by
                unfold opShip
                repeat (first | rw [if_pos (by omega)] | rw [if_neg (by omega)])
              rw [e]
              refine ⟨?_, rfl, rfl, rfl⟩
              rw [u2_self, Int.add_sub_cancel]
            · refine aw_bipush dX6_ship_64 (by decide) ?_
              refine aw_iret dX6_ship_66 rfl (Nat.zero_le _) (Nat.zero_le _) ?_
              have e : opShip S w m g d sl t = (-3, S) := by
                unfold opShip
                repeat (first | rw [if_pos (by omega)] | rw [if_neg (by omega)])
              rw [e]
              exact ⟨rfl, rfl, rfl, rfl⟩
          · refine aw_bipush dX6_ship_52 (by decide) ?_
            refine aw_iret dX6_ship_54 rfl (Nat.zero_le _) (Nat.zero_le _) ?_
            have e : opShip S w m g d sl t = (-2, S) := by
              unfold opShip
              repeat (first | rw [if_pos (by omega)] | rw [if_neg (by omega)])
            rw [e]
            exact ⟨rfl, rfl, rfl, rfl⟩
        · refine aw_if_ne (tgt := 44) dX6_ship_39 (by decide) (by omega) (fun c_39 => absurd c_39 (by decide)) (fun _ => ?_)
          refine aw_iconst dX6_ship_42 ?_
          refine aw_iret dX6_ship_43 rfl (Nat.zero_le _) (Nat.zero_le _) ?_
          have e : opShip S w m g d sl t = (-1, S) := by
            unfold opShip
            repeat (first | rw [if_pos (by omega)] | rw [if_neg (by omega)])
          rw [e]
          exact ⟨rfl, rfl, rfl, rfl⟩
      · refine aw_if_eq (tgt := 42) dX6_ship_28 (by decide) (by omega) (fun _ => ?_) (fun c_28 => absurd c_28 (by decide))
        refine aw_iconst dX6_ship_42 ?_
        refine aw_iret dX6_ship_43 rfl (Nat.zero_le _) (Nat.zero_le _) ?_
        have e : opShip S w m g d sl t = (-1, S) := by
          unfold opShip
          repeat (first | rw [if_pos (by omega)] | rw [if_neg (by omega)])
        rw [e]
        exact ⟨rfl, rfl, rfl, rfl⟩
    · refine aw_if_eq (tgt := 42) dX6_ship_17 (by decide) (by omega) (fun _ => ?_) (fun c_17 => absurd c_17 (by decide))
      refine aw_iconst dX6_ship_42 ?_
      refine aw_iret dX6_ship_43 rfl (Nat.zero_le _) (Nat.zero_le _) ?_
      have e : opShip S w m g d sl t = (-1, S) := by
        unfold opShip
        repeat (first | rw [if_pos (by omega)] | rw [if_neg (by omega)])
      rw [e]
      exact ⟨rfl, rfl, rfl, rfl⟩
  · refine aw_if_eq (tgt := 42) dX6_ship_6 (by decide) (by omega) (fun _ => ?_) (fun c_6 => absurd c_6 (by decide))
    refine aw_iconst dX6_ship_42 ?_
    refine aw_iret dX6_ship_43 rfl (Nat.zero_le _) (Nat.zero_le _) ?_
    have e : opShip S w m g d sl t = (-1, S) := by
      unfold opShip
      repeat (first | rw [if_pos (by omega)] | rw [if_neg (by omega)])
    rw [e]
    exact ⟨rfl, rfl, rfl, rfl⟩
set_option maxRecDepth 100000 in
set_option maxHeartbeats 4000000 in
theorem c_X6_convoy {w f : Int} (hB : BB S) (hw : Rg w) (hf : Rg f) : CT l D cA A ad yX6_convoy cX6_convoy 3 (some .int) rm_X6_convoy [.inr (some (50, 0)), .inl w, .inl f] lvR (VR S) sz (PR (some (.inl (opConv S w f).1)) ((opConv S w f).2) sz) := by
  refine CT.of2 [some (.inr (some (50, 0))), some (.inl w), some (.inl f)] (by decide) (Nat.le_of_ble_eq_true rfl) rfl ?_
  have hb := hB.m
  simp only [bsm] at hb
  refine aw_iload_n dX6_convoy_0 rfl rfl ?_
  refine aw_iconst dX6_convoy_1 ?_
  refine aw_iconst dX6_convoy_2 ?_
  refine aw_callS (c_X6_isIn (by omega) (by omega) (by omega)) mv_X6_isIn mlX6_108 dX6_convoy_3 (by decide) rfl (Nat.le_of_ble_eq_true rfl) rfl ?_
  rintro _ _ _ _ ⟨⟨rfl, h1⟩ | ⟨rfl, h1⟩, rfl, rfl, rfl⟩
  · refine aw_if_eq (tgt := 20) dX6_convoy_6 (by decide) (by omega) (fun c_6 => absurd c_6 (by decide)) (fun _ => ?_)
    refine aw_iload_n dX6_convoy_9 rfl rfl ?_
    refine aw_iconst dX6_convoy_10 ?_
    refine aw_sipush dX6_convoy_11 (by decide) ?_
    refine aw_callS (c_X6_isIn (by omega) (by omega) (by omega)) mv_X6_isIn mlX6_108 dX6_convoy_14 (by decide) rfl (Nat.le_of_ble_eq_true rfl) rfl ?_
    rintro _ _ _ _ ⟨⟨rfl, h2⟩ | ⟨rfl, h2⟩, rfl, rfl, rfl⟩
    · refine aw_if_ne (tgt := 22) dX6_convoy_17 (by decide) (by omega) (fun _ => ?_) (fun c_17 => absurd c_17 (by decide))
      refine aw_iload_n dX6_convoy_22 rfl rfl ?_
      refine aw_aload_n dX6_convoy_23 rfl rfl ?_
      refine rr_getS dX6_convoy_24 flX6_112 rfl (by decide) (fun _ => rfl) ?_
      refine aw_icmp_gt (tgt := 33) dX6_convoy_27 (by decide) (by omega) (by omega) (fun c_27 => ?_) (fun c_27 => ?_)
      · refine aw_aload_n dX6_convoy_33 rfl rfl ?_
        refine rr_getS dX6_convoy_34 flX6_122 rfl (by decide) (fun _ => rfl) ?_
        refine aw_bipush dX6_convoy_37 (by decide) ?_
        refine aw_icmp_ne (tgt := 45) dX6_convoy_39 (by decide) (by omega) (by omega) (fun c_39 => ?_) (fun c_39 => ?_)
        · refine aw_aload_n dX6_convoy_45 rfl rfl ?_
          refine rr_getA dX6_convoy_46 flX6_75 rfl (by decide) ?_
          refine aw_aload_n dX6_convoy_49 rfl rfl ?_
          refine rr_getS dX6_convoy_50 flX6_122 rfl (by decide) (fun _ => rfl) ?_
          refine aw_iload_n dX6_convoy_53 rfl rfl ?_
          refine rr_iast (n := 12) dX6_convoy_54 rfl rfl rfl (by omega) (by omega) ?_
          refine aw_aload_n dX6_convoy_55 rfl rfl ?_
          refine rr_getA dX6_convoy_56 flX6_78 rfl (by decide) ?_
          refine aw_aload_n dX6_convoy_59 rfl rfl ?_
          refine rr_getS (S0 := S) dX6_convoy_60 flX6_122 rfl (by decide) (fun _ => rfl) ?_
          refine aw_iload_n dX6_convoy_63 rfl rfl ?_
          refine rr_iast (n := 12) dX6_convoy_64 rfl rfl rfl (by omega) (by omega) ?_
          refine aw_aload_n dX6_convoy_65 rfl rfl ?_
          refine aw_dup dX6_convoy_66 ?_
          refine rr_getS (S0 := S) dX6_convoy_67 flX6_122 rfl (by decide) (fun _ => rfl) ?_
          refine aw_iconst dX6_convoy_70 ?_
          refine aw_iadd dX6_convoy_71 ?_
          refine rr_put dX6_convoy_72 flX6_122 rfl (by decide) rfl trivial ?_
          refine aw_aload_n dX6_convoy_75 rfl rfl ?_
          refine rr_getS (S0 := u2 S 24 0 (S 24 0 + 1)) dX6_convoy_76 flX6_122 rfl (by decide) (fun _ => rfl) ?_
          refine aw_iconst dX6_convoy_79 ?_
          refine aw_isub dX6_convoy_80 ?_
          refine aw_iret dX6_convoy_81 rfl (Nat.zero_le _) (Nat.zero_le _) ?_
          have e : opConv S w f = (S 24 0, u2 (u2 (u2 S 25 (S 24 0) w) 26 (S 24 0) f) 24 0 (S 24 0 + 1)) := by
            unfold opConv
            repeat (first | rw [if_pos (by omega)] | rw [if_neg (by omega)])
          rw [e]
          refine ⟨?_, rfl, rfl, rfl⟩
          rw [u2_self, Int.add_sub_cancel]
        · refine aw_bipush dX6_convoy_42 (by decide) ?_
          refine aw_iret dX6_convoy_44 rfl (Nat.zero_le _) (Nat.zero_le _) ?_
          have e : opConv S w f = (-3, S) := by
            unfold opConv
            repeat (first | rw [if_pos (by omega)] | rw [if_neg (by omega)])
          rw [e]
          exact ⟨rfl, rfl, rfl, rfl⟩
      · refine aw_bipush dX6_convoy_30 (by decide) ?_
        refine aw_iret dX6_convoy_32 rfl (Nat.zero_le _) (Nat.zero_le _) ?_
        have e : opConv S w f = (-2, S) := by
          unfold opConv
          repeat (first | rw [if_pos (by omega)] | rw [if_neg (by omega)])
        rw [e]
        exact ⟨rfl, rfl, rfl, rfl⟩
    · refine aw_if_ne (tgt := 22) dX6_convoy_17 (by decide) (by omega) (fun c_17 => absurd c_17 (by decide)) (fun _ => ?_)
      refine aw_iconst dX6_convoy_20 ?_
      refine aw_iret dX6_convoy_21 rfl (Nat.zero_le _) (Nat.zero_le _) ?_
      have e : opConv S w f = (-1, S) := by
        unfold opConv
        repeat (first | rw [if_pos (by omega)] | rw [if_neg (by omega)])
      rw [e]
      exact ⟨rfl, rfl, rfl, rfl⟩
  · refine aw_if_eq (tgt := 20) dX6_convoy_6 (by decide) (by omega) (fun _ => ?_) (fun c_6 => absurd c_6 (by decide))
    refine aw_iconst dX6_convoy_20 ?_
    refine aw_iret dX6_convoy_21 rfl (Nat.zero_le _) (Nat.zero_le _) ?_
    have e : opConv S w f = (-1, S) := by
      unfold opConv
      repeat (first | rw [if_pos (by omega)] | rw [if_neg (by omega)])
    rw [e]
    exact ⟨rfl, rfl, rfl, rfl⟩
set_option maxRecDepth 100000 in
set_option maxHeartbeats 4000000 in
theorem c_X6_book {c s : Int} (hB : BB S) (hc0 : Rg c) (hs0 : Rg s) : CT l D cA A ad yX6_book cX6_book 3 (some .int) rm_X6_book [.inr (some (50, 0)), .inl c, .inl s] lvR (VR S) sz (PR (some (.inl (opBook S c s).1)) ((opBook S c s).2) sz) := by
  refine CT.of2 [some (.inr (some (50, 0))), some (.inl c), some (.inl s)] (by decide) (Nat.le_of_ble_eq_true rfl) rfl ?_
  have hb := hB.m
  simp only [bsm] at hb
  refine aw_iload_n dX6_book_0 rfl rfl ?_
  refine aw_iconst dX6_book_1 ?_
  refine aw_aload_n dX6_book_2 rfl rfl ?_
  refine rr_getS dX6_book_3 flX6_122 rfl (by decide) (fun _ => rfl) ?_
  refine aw_iconst dX6_book_6 ?_
  refine aw_isub dX6_book_7 ?_
  refine aw_callS (c_X6_isIn (by omega) (by omega) (by omega)) mv_X6_isIn mlX6_108 dX6_book_8 (by decide) rfl (Nat.le_of_ble_eq_true rfl) rfl ?_
  rintro _ _ _ _ ⟨⟨rfl, h1⟩ | ⟨rfl, h1⟩, rfl, rfl, rfl⟩
  · refine aw_if_eq (tgt := 28) dX6_book_11 (by decide) (by omega) (fun c_11 => absurd c_11 (by decide)) (fun _ => ?_)
    refine aw_iload_n dX6_book_14 rfl rfl ?_
    refine aw_iconst dX6_book_15 ?_
    refine aw_aload_n dX6_book_16 rfl rfl ?_
    refine rr_getS dX6_book_17 flX6_119 rfl (by decide) (fun _ => rfl) ?_
    refine aw_iconst dX6_book_20 ?_
    refine aw_isub dX6_book_21 ?_
    refine aw_callS (c_X6_isIn (by omega) (by omega) (by omega)) mv_X6_isIn mlX6_108 dX6_book_22 (by decide) rfl (Nat.le_of_ble_eq_true rfl) rfl ?_
    rintro _ _ _ _ ⟨⟨rfl, h2⟩ | ⟨rfl, h2⟩, rfl, rfl, rfl⟩
    · refine aw_if_ne (tgt := 30) dX6_book_25 (by decide) (by omega) (fun _ => ?_) (fun c_25 => absurd c_25 (by decide))
      have hc := hB.cv (c := c) (by omega) (by omega)
      have hsh := hB.sh (s := s) (by omega) (by omega)
      simp only [bcv] at hc
      simp only [bsh] at hsh
      refine aw_aload_n dX6_book_30 rfl rfl ?_
      refine rr_getA dX6_book_31 flX6_30 rfl (by decide) ?_
      refine aw_iload_n dX6_book_34 rfl rfl ?_
      refine rr_iald (n := 30) dX6_book_35 rfl rfl rfl (by omega) (by omega) (fun _ => rfl) ?_
      refine aw_aload_n dX6_book_36 rfl rfl ?_
      refine rr_getA dX6_book_37 flX6_75 rfl (by decide) ?_
      refine aw_iload_n dX6_book_40 rfl rfl ?_
      refine rr_iald (n := 12) dX6_book_41 rfl rfl rfl (by omega) (by omega) (fun _ => rfl) ?_
      refine aw_icmp_ne (tgt := 91) dX6_book_42 (by decide) (by omega) (by omega) (fun c_42 => ?_) (fun c_42 => ?_)
      · refine aw_bipush dX6_book_91 (by decide) ?_
        refine aw_iret dX6_book_93 rfl (Nat.zero_le _) (Nat.zero_le _) ?_
        have e : opBook S c s = (-2, S) := by
          unfold opBook
          repeat (first | rw [if_pos (by omega)] | rw [if_neg (by omega)])
        rw [e]
        exact ⟨rfl, rfl, rfl, rfl⟩
      · refine aw_aload_n dX6_book_45 rfl rfl ?_
        refine rr_getA dX6_book_46 flX6_69 rfl (by decide) ?_
        refine aw_iload_n dX6_book_49 rfl rfl ?_
        refine rr_iald (n := 30) dX6_book_50 rfl rfl rfl (by omega) (by omega) (fun _ => rfl) ?_
        refine aw_bipush dX6_book_51 (by decide) ?_
        refine aw_icmp_ne (tgt := 91) dX6_book_53 (by decide) (by omega) (by omega) (fun c_53 => ?_) (fun c_53 => ?_)
        · refine aw_bipush dX6_book_91 (by decide) ?_
          refine aw_iret dX6_book_93 rfl (Nat.zero_le _) (Nat.zero_le _) ?_
          have e : opBook S c s = (-2, S) := by
            unfold opBook
            repeat (first | rw [if_pos (by omega)] | rw [if_neg (by omega)])
          rw [e]
          exact ⟨rfl, rfl, rfl, rfl⟩
        · refine aw_aload_n dX6_book_56 rfl rfl ?_
          refine rr_getA dX6_book_57 flX6_57 rfl (by decide) ?_
          refine aw_iload_n dX6_book_60 rfl rfl ?_
          refine rr_zald (n := 30) dX6_book_61 rfl rfl rfl (by omega) (by omega) (fun _ => rfl) ?_
          refine aw_if_ne (tgt := 91) dX6_book_62 (by decide) (by omega) (fun c_62 => ?_) (fun c_62 => ?_)
          · refine aw_bipush dX6_book_91 (by decide) ?_
            refine aw_iret dX6_book_93 rfl (Nat.zero_le _) (Nat.zero_le _) ?_
            have e : opBook S c s = (-2, S) := by
              unfold opBook
              repeat (first | rw [if_pos (by omega)] | rw [if_neg (by omega)])
            rw [e]
            exact ⟨rfl, rfl, rfl, rfl⟩
          · refine aw_aload_n dX6_book_65 rfl rfl ?_
            refine rr_getA dX6_book_66 flX6_78 rfl (by decide) ?_
            refine aw_iload_n dX6_book_69 rfl rfl ?_
            refine rr_iald (n := 12) dX6_book_70 rfl rfl rfl (by omega) (by omega) (fun _ => rfl) ?_
            refine aw_aload_n dX6_book_71 rfl rfl ?_
            refine rr_getS dX6_book_72 flX6_112 rfl (by decide) (fun _ => rfl) ?_
            refine aw_icmp_le (tgt := 91) dX6_book_75 (by decide) (by omega) (by omega) (fun c_75 => ?_) (fun c_75 => ?_)
            · refine aw_bipush dX6_book_91 (by decide) ?_
              refine aw_iret dX6_book_93 rfl (Nat.zero_le _) (Nat.zero_le _) ?_
              have e : opBook S c s = (-2, S) := by
                unfold opBook
                repeat (first | rw [if_pos (by omega)] | rw [if_neg (by omega)])
              rw [e]
              exact ⟨rfl, rfl, rfl, rfl⟩
            · refine aw_aload_n dX6_book_78 rfl rfl ?_
              refine rr_getA dX6_book_79 flX6_33 rfl (by decide) ?_
              refine aw_iload_n dX6_book_82 rfl rfl ?_
              refine rr_iald (n := 30) dX6_book_83 rfl rfl rfl (by omega) (by omega) (fun _ => rfl) ?_
              refine aw_aload_n dX6_book_84 rfl rfl ?_
              refine rr_getS dX6_book_85 flX6_112 rfl (by decide) (fun _ => rfl) ?_
              refine aw_icmp_ge (tgt := 94) dX6_book_88 (by decide) (by omega) (by omega) (fun c_88 => ?_) (fun c_88 => ?_)
              · refine aw_aload_n dX6_book_94 rfl rfl ?_
                refine rr_getA dX6_book_95 flX6_81 rfl (by decide) ?_
                refine aw_iload_n dX6_book_98 rfl rfl ?_
                refine rr_iald (n := 12) dX6_book_99 rfl rfl rfl (by omega) (by omega) (fun _ => rfl) ?_
                refine aw_bipush dX6_book_100 (by decide) ?_
                refine aw_icmp_ne (tgt := 108) dX6_book_102 (by decide) (by omega) (by omega) (fun c_102 => ?_) (fun c_102 => ?_)
                · refine aw_aload_n dX6_book_108 rfl rfl ?_
                  refine rr_getA dX6_book_109 flX6_84 rfl (by decide) ?_
                  refine aw_bipush dX6_book_112 (by decide) ?_
                  refine aw_iload_n dX6_book_114 rfl rfl ?_
                  refine aw_imul dX6_book_115 ?_
                  refine aw_aload_n dX6_book_116 rfl rfl ?_
                  refine rr_getA dX6_book_117 flX6_81 rfl (by decide) ?_
                  refine aw_iload_n dX6_book_120 rfl rfl ?_
                  refine rr_iald (n := 12) dX6_book_121 rfl rfl rfl (by omega) (by omega) (fun _ => rfl) ?_
                  refine aw_iadd dX6_book_122 ?_
                  refine aw_iload_n dX6_book_123 rfl rfl ?_
                  refine rr_iast (n := 96) dX6_book_124 rfl rfl rfl (by omega) (by omega) ?_
                  refine aw_aload_n dX6_book_125 rfl rfl ?_
                  refine rr_getA dX6_book_126 flX6_81 rfl (by decide) ?_
                  refine aw_iload_n dX6_book_129 rfl rfl ?_
                  refine aw_dup2 dX6_book_130 ?_
                  refine rr_iald (n := 12) (S0 := S) dX6_book_131 rfl rfl rfl (by omega) (by omega) (fun _ => rfl) ?_
                  refine aw_iconst dX6_book_132 ?_
                  refine aw_iadd dX6_book_133 ?_
                  refine rr_iast (n := 12) dX6_book_134 rfl rfl rfl (by omega) (by omega) ?_
                  refine aw_aload_n dX6_book_135 rfl rfl ?_
                  refine rr_getA dX6_book_136 flX6_69 rfl (by decide) ?_
                  refine aw_iload_n dX6_book_139 rfl rfl ?_
                  refine aw_iload_n dX6_book_140 rfl rfl ?_
                  refine rr_iast (n := 30) dX6_book_141 rfl rfl rfl (by omega) (by omega) ?_
                  refine aw_aload_n dX6_book_142 rfl rfl ?_
                  refine rr_getA dX6_book_143 flX6_81 rfl (by decide) ?_
                  refine aw_iload_n dX6_book_146 rfl rfl ?_
                  refine rr_iald (n := 12) (S0 := u2 S 27 c (S 27 c + 1)) dX6_book_147 rfl rfl rfl (by omega) (by omega) (fun _ => rfl) ?_
                  refine aw_iret dX6_book_148 rfl (Nat.zero_le _) (Nat.zero_le _) ?_
                  have e : opBook S c s = (S 27 c + 1, u2 (u2 (u2 S 28 (8 * c + S 27 c) s) 27 c (S 27 c + 1)) 22 s c) := by
                    unfold opBook
                    repeat (first | rw [if_pos (by omega)] | rw [if_neg (by omega)])
                  rw [e]
                  refine ⟨?_, rfl, rfl, rfl⟩
                  rw [u2_self]
                · refine aw_bipush dX6_book_105 (by decide) ?_
                  refine aw_iret dX6_book_107 rfl (Nat.zero_le _) (Nat.zero_le _) ?_
                  have e : opBook S c s = (-3, S) := by
                    unfold opBook
                    repeat (first | rw [if_pos (by omega)] | rw [if_neg (by omega)])
                  rw [e]
                  exact ⟨rfl, rfl, rfl, rfl⟩
              · refine aw_bipush dX6_book_91 (by decide) ?_
                refine aw_iret dX6_book_93 rfl (Nat.zero_le _) (Nat.zero_le _) ?_
                have e : opBook S c s = (-2, S) := by
                  unfold opBook
                  repeat (first | rw [if_pos (by omega)] | rw [if_neg (by omega)])
                rw [e]
                exact ⟨rfl, rfl, rfl, rfl⟩
    · refine aw_if_ne (tgt := 30) dX6_book_25 (by decide) (by omega) (fun c_25 => absurd c_25 (by decide)) (fun _ => ?_)
      refine aw_iconst dX6_book_28 ?_
      refine aw_iret dX6_book_29 rfl (Nat.zero_le _) (Nat.zero_le _) ?_
      have e : opBook S c s = (-1, S) := by
        unfold opBook
        repeat (first | rw [if_pos (by omega)] | rw [if_neg (by omega)])
      rw [e]
      exact ⟨rfl, rfl, rfl, rfl⟩
  · refine aw_if_eq (tgt := 28) dX6_book_11 (by decide) (by omega) (fun _ => ?_) (fun c_11 => absurd c_11 (by decide))
    refine aw_iconst dX6_book_28 ?_
    refine aw_iret dX6_book_29 rfl (Nat.zero_le _) (Nat.zero_le _) ?_
    have e : opBook S c s = (-1, S) := by
      unfold opBook
      repeat (first | rw [if_pos (by omega)] | rw [if_neg (by omega)])
    rw [e]
    exact ⟨rfl, rfl, rfl, rfl⟩
set_option maxRecDepth 100000 in
set_option maxHeartbeats 4000000 in
theorem c_X6_ground {s n : Int} (hB : BB S) (hs0 : Rg s) (hn : Rg n) : CT l D cA A ad yX6_ground cX6_ground 3 (some .int) rm_X6_ground [.inr (some (50, 0)), .inl s, .inl n] lvR (VR S) sz (PR (some (.inl (opGrd S s n).1)) ((opGrd S s n).2) sz) := by
  refine CT.of2 [some (.inr (some (50, 0))), some (.inl s), some (.inl n)] (by decide) (Nat.le_of_ble_eq_true rfl) rfl ?_
  have hb := hB.m
  simp only [bsm] at hb
  refine aw_iload_n dX6_ground_0 rfl rfl ?_
  refine aw_iconst dX6_ground_1 ?_
  refine aw_aload_n dX6_ground_2 rfl rfl ?_
  refine rr_getS dX6_ground_3 flX6_119 rfl (by decide) (fun _ => rfl) ?_
  refine aw_iconst dX6_ground_6 ?_
  refine aw_isub dX6_ground_7 ?_
  refine aw_callS (c_X6_isIn (by omega) (by omega) (by omega)) mv_X6_isIn mlX6_108 dX6_ground_8 (by decide) rfl (Nat.le_of_ble_eq_true rfl) rfl ?_
  rintro _ _ _ _ ⟨⟨rfl, h1⟩ | ⟨rfl, h1⟩, rfl, rfl, rfl⟩
  · refine aw_if_eq (tgt := 25) dX6_ground_11 (by decide) (by omega) (fun c_11 => absurd c_11 (by decide)) (fun _ => ?_)
    refine aw_iload_n dX6_ground_14 rfl rfl ?_
    refine aw_iconst dX6_ground_15 ?_
    refine aw_sipush dX6_ground_16 (by decide) ?_
    refine aw_callS (c_X6_isIn (by omega) (by omega) (by omega)) mv_X6_isIn mlX6_108 dX6_ground_19 (by decide) rfl (Nat.le_of_ble_eq_true rfl) rfl ?_
    rintro _ _ _ _ ⟨⟨rfl, h2⟩ | ⟨rfl, h2⟩, rfl, rfl, rfl⟩
    · refine aw_if_ne (tgt := 27) dX6_ground_22 (by decide) (by omega) (fun _ => ?_) (fun c_22 => absurd c_22 (by decide))
      have hsh := hB.sh (s := s) (by omega) (by omega)
      simp only [bsh] at hsh
      refine aw_aload_n dX6_ground_27 rfl rfl ?_
      refine rr_getA dX6_ground_28 flX6_48 rfl (by decide) ?_
      refine aw_iload_n dX6_ground_31 rfl rfl ?_
      refine rr_iald (n := 30) dX6_ground_32 rfl rfl rfl (by omega) (by omega) (fun _ => rfl) ?_
      refine aw_iconst dX6_ground_33 ?_
      refine aw_bipush dX6_ground_34 (by decide) ?_
      refine aw_callS (c_X6_isIn (by omega) (by omega) (by omega)) mv_X6_isIn mlX6_108 dX6_ground_36 (by decide) rfl (Nat.le_of_ble_eq_true rfl) rfl ?_
      rintro _ _ _ _ ⟨⟨rfl, h3⟩ | ⟨rfl, h3⟩, rfl, rfl, rfl⟩
      · refine aw_if_eq (tgt := 51) dX6_ground_39 (by decide) (by omega) (fun c_39 => absurd c_39 (by decide)) (fun _ => ?_)
        refine aw_aload_n dX6_ground_42 rfl rfl ?_
        refine rr_getA dX6_ground_43 flX6_66 rfl (by decide) ?_
        refine aw_iload_n dX6_ground_46 rfl rfl ?_
        refine rr_iald (n := 30) dX6_ground_47 rfl rfl rfl (by omega) (by omega) (fun _ => rfl) ?_
        refine aw_if_le (tgt := 54) dX6_ground_48 (by decide) (by omega) (fun c_48 => ?_) (fun c_48 => ?_)
        · refine aw_aload_n dX6_ground_54 rfl rfl ?_
          refine rr_getA dX6_ground_55 flX6_66 rfl (by decide) ?_
          refine aw_iload_n dX6_ground_58 rfl rfl ?_
          refine aw_iload_n dX6_ground_59 rfl rfl ?_
          refine rr_iast (n := 30) dX6_ground_60 rfl rfl rfl (by omega) (by omega) ?_
          refine aw_iconst dX6_ground_61 ?_
          refine aw_iret dX6_ground_62 rfl (Nat.zero_le _) (Nat.zero_le _) ?_
          have e : opGrd S s n = (1, u2 S 21 s n) := by
            unfold opGrd
            repeat (first | rw [if_pos (by omega)] | rw [if_neg (by omega)])
          rw [e]
          exact ⟨rfl, rfl, rfl, rfl⟩
        · refine aw_bipush dX6_ground_51 (by decide) ?_
          refine aw_iret dX6_ground_53 rfl (Nat.zero_le _) (Nat.zero_le _) ?_
          have e : opGrd S s n = (-2, S) := by
            unfold opGrd
            repeat (first | rw [if_pos (by omega)] | rw [if_neg (by omega)])
          rw [e]
          exact ⟨rfl, rfl, rfl, rfl⟩
      · refine aw_if_eq (tgt := 51) dX6_ground_39 (by decide) (by omega) (fun _ => ?_) (fun c_39 => absurd c_39 (by decide))
        refine aw_bipush dX6_ground_51 (by decide) ?_
        refine aw_iret dX6_ground_53 rfl (Nat.zero_le _) (Nat.zero_le _) ?_
        have e : opGrd S s n = (-2, S) := by
          unfold opGrd
          repeat (first | rw [if_pos (by omega)] | rw [if_neg (by omega)])
        rw [e]
        exact ⟨rfl, rfl, rfl, rfl⟩
    · refine aw_if_ne (tgt := 27) dX6_ground_22 (by decide) (by omega) (fun c_22 => absurd c_22 (by decide)) (fun _ => ?_)
      refine aw_iconst dX6_ground_25 ?_
      refine aw_iret dX6_ground_26 rfl (Nat.zero_le _) (Nat.zero_le _) ?_
      have e : opGrd S s n = (-1, S) := by
        unfold opGrd
        repeat (first | rw [if_pos (by omega)] | rw [if_neg (by omega)])
      rw [e]
      exact ⟨rfl, rfl, rfl, rfl⟩
  · refine aw_if_eq (tgt := 25) dX6_ground_11 (by decide) (by omega) (fun _ => ?_) (fun c_11 => absurd c_11 (by decide))
    refine aw_iconst dX6_ground_25 ?_
    refine aw_iret dX6_ground_26 rfl (Nat.zero_le _) (Nat.zero_le _) ?_
    have e : opGrd S s n = (-1, S) := by
      unfold opGrd
      repeat (first | rw [if_pos (by omega)] | rw [if_neg (by omega)])
    rw [e]
    exact ⟨rfl, rfl, rfl, rfl⟩
set_option maxRecDepth 100000 in
set_option maxHeartbeats 4000000 in
theorem c_X6_joins {s : Int} (hs : 0 ≤ s ∧ s < 30) (hw : S 9 s = 0 ∨ S 9 s = 1) (hm : 0 ≤ S 31 (S 9 s) ∧ S 31 (S 9 s) < 30) : CT l D cA A ad yX6_joins cX6_joins 3 none rm_X6_joins [.inr (some (50, 0)), .inl s] lvR (VR S) sz (PR none (jn S s) sz) := by
  refine CT.of2 [some (.inr (some (50, 0))), some (.inl s), none] (by decide) (Nat.le_of_ble_eq_true rfl) rfl ?_
  refine aw_aload_n dX6_joins_0 rfl rfl ?_
  refine rr_getA dX6_joins_1 flX6_30 rfl (by decide) ?_
  refine aw_iload_n dX6_joins_4 rfl rfl ?_
  refine rr_iald (n := 30) dX6_joins_5 rfl rfl rfl (by omega) (by omega) (fun _ => rfl) ?_
  refine aw_istore_n dX6_joins_6 rfl (by decide) ?_
  refine aw_aload_n dX6_joins_7 rfl rfl ?_
  refine rr_getA dX6_joins_8 flX6_96 rfl (by decide) ?_
  refine aw_bipush dX6_joins_11 (by decide) ?_
  refine aw_iload_n dX6_joins_13 rfl rfl ?_
  refine aw_imul dX6_joins_14 ?_
  refine aw_aload_n dX6_joins_15 rfl rfl ?_
  refine rr_getA dX6_joins_16 flX6_93 rfl (by decide) ?_
  refine aw_iload_n dX6_joins_19 rfl rfl ?_
  refine rr_iald (n := 2) dX6_joins_20 rfl rfl rfl (by omega) (by omega) (fun _ => rfl) ?_
  refine aw_iadd dX6_joins_21 ?_
  refine aw_iload_n dX6_joins_22 rfl rfl ?_
  refine rr_iast (n := 60) dX6_joins_23 rfl rfl rfl (by omega) (by omega) ?_
  refine aw_aload_n dX6_joins_24 rfl rfl ?_
  refine rr_getA dX6_joins_25 flX6_93 rfl (by decide) ?_
  refine aw_iload_n dX6_joins_28 rfl rfl ?_
  refine aw_dup2 dX6_joins_29 ?_
  refine rr_iald (n := 2) (S0 := S) dX6_joins_30 rfl rfl rfl (by omega) (by omega) (fun _ => rfl) ?_
  refine aw_iconst dX6_joins_31 ?_
  refine aw_iadd dX6_joins_32 ?_
  refine rr_iast (n := 2) dX6_joins_33 rfl rfl rfl (by omega) (by omega) ?_
  refine aw_vret dX6_joins_34 rfl (Nat.zero_le _) (Nat.zero_le _) ?_
  exact ⟨rfl, rfl, rfl, rfl⟩
end REF1
