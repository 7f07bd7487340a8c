section CLS2
variable {l : Launch} {D : va_G} {cA : Nat → ClassId} {A : Nat → Prop} {ad : Ad} {ns nc : Int} {V : Vw} {sz : Nat} {S : SS}
/-- the class stands for the state; how many ships, convoys there are -/
def RC (ns nc : Int) (S : SS) (V : Vw) : Prop := RepC S V ∧ S 8 0 = ns ∧ S 24 0 = nc
/-- an end: an answer, and the class stands for a new state -/
def PC (r : Option AV) (ns nc : Int) (S : SS) (sz : Nat) : Pst := fun r' lv' V' sz' => r' = r ∧ lv' = lvC ns nc ∧ sz' = sz ∧ RC ns nc S V'
theorem rcx_8 {x : Int} (hR : RepC S V) (h0 : 0 ≤ x) (h : x < 8) : V 8 0 x.toNat = .inr (some (1, x.toNat)) := rc_8 hR (by omega)
theorem rcx_9 {x : Int} (hR : RepC S V) (h0 : 0 ≤ x) (h : x < 24) : V 9 0 x.toNat = .inl (S 6 x) := by
  have := rc_9 (k := x.toNat) hR (by omega)
  rw [Int.toNat_of_nonneg h0] at this
  exact this
theorem rcx_10 {x : Int} (hR : RepC S V) (h0 : 0 ≤ x) (h : x < 24) : V 10 0 x.toNat = .inl (S 7 x) := by
  have := rc_10 (k := x.toNat) hR (by omega)
  rw [Int.toNat_of_nonneg h0] at this
  exact this
theorem rcx_11 {x : Int} (hR : RepC S V) (h0 : 0 ≤ x) (h : x < S 24 0) : V 11 0 x.toNat = .inr (some (7, x.toNat)) := rc_11 hR (by omega)
theorem rcx_6 {i : Nat} {x : Int} (hR : RepC S V) (hi : (i : Int) < S 8 0) (h0 : 0 ≤ x) (h : x < 7) : V 6 i x.toNat = .inl (S 23 (7 * (i : Int) + x)) := by
  have := rc_6 (i := i) (k := x.toNat) hR hi (by omega)
  rw [Int.toNat_of_nonneg h0] at this
  exact this
theorem RC.lane {j : Nat} (h : RC ns nc S V) (hB : BB S) (hj : j < 16) : RW (lvC ns nc) V 30 j 40 j (S 33 j) := by
  have := (hB.iM (a := (j : Int)) (by omega) (by omega)).1
  exact ⟨rfl, decide_eq_true hj, rc_30_0 h.1 hj, rfl, decide_eq_true hj, rc_30_1 h.1 hj, this.1, this.2⟩
theorem RC.line {j : Nat} (h : RC ns nc S V) (hB : BB S) (hj : j < 2) : RW (lvC ns nc) V 31 j 41 j (S 31 j) := by
  have := hB.ln (w := (j : Int)) (by omega) (by omega)
  exact ⟨rfl, decide_eq_true hj, rc_31_0 h.1 hj, rfl, decide_eq_true hj, rc_31_1 h.1 hj, this.1, this.2⟩
theorem RC.ships (h : RC ns nc S V) (hB : BB S) : RW (lvC ns nc) V 32 0 42 0 (S 8 0) := by
  have := hB.m
  simp only [bsm] at this
  exact ⟨rfl, rfl, rc_32_0 h.1, rfl, rfl, rc_32_1 h.1, this.2.2.2.1.1, this.2.2.2.1.2⟩
theorem RC.book {j : Nat} (h : RC ns nc S V) (hB : BB S) (hj : (j : Int) < nc) : RW (lvC ns nc) V 33 j 43 j (S 27 j) := by
  have hm := hB.m
  simp only [bsm] at hm
  have h24 := h.2.2
  have := hB.cv (c := (j : Int)) (by omega) (by omega)
  simp only [bcv] at this
  exact ⟨rfl, decide_eq_true hj, rc_33_0 h.1 (by omega), rfl, decide_eq_true hj, rc_33_1 h.1 (by omega), this.2.2.1.1, this.2.2.1.2⟩
theorem RC.put {j : Nat} (h : RC ns nc S V) (hB : BB S) (hj : (j : Int) < nc) : RW (lvC ns nc) V 34 j 44 j (S 29 j) := by
  have hm := hB.m
  simp only [bsm] at hm
  have h24 := h.2.2
  have := hB.cv (c := (j : Int)) (by omega) (by omega)
  simp only [bcv] at this
  exact ⟨rfl, decide_eq_true hj, rc_34_0 h.1 (by omega), rfl, decide_eq_true hj, rc_34_1 h.1 (by omega), this.2.2.2.1, this.2.2.2.2⟩
theorem RC.set {σ i k : Nat} {K : Nat} {x : Int} (h : RC ns nc S V) (v : Int) (hs : src σ i k = some (false, K, x)) (hK : plainK K) (hd : okd S σ i k) : RC ns nc (u2 S K x v) (s3 V σ i k (.inl v)) :=
  ⟨h.1.setI v hs hK hd, by rw [u2_ne hK.1.symm]; exact h.2.1, by rw [u2_ne hK.2.1.symm]; exact h.2.2⟩
set_option maxRecDepth 100000 in
set_option maxHeartbeats 4000000 in
theorem c_X5_sectionAt {sec : Nat} (hC : RC ns nc S V) (hs : sec < 8) : CT l D cA A ad yX5_sectionAt cX5_sectionAt 2 (some (.object "ShipCut$Section")) rm_X5_sectionAt [.inr (some (0, 0)), .inl (sec : Int)] (lvC ns nc) V sz (PP (some (.inr (some (1, sec)))) (lvC ns nc) V sz) := by
  refine CT.of2 [some (.inr (some (0, 0))), some (.inl (sec : Int))] (by decide) (Nat.le_of_ble_eq_true rfl) rfl ?_
  obtain ⟨hR, h8, h24⟩ := hC
  refine aw_iload_n dX5_sectionAt_0 rfl rfl ?_
  refine aw_if_lt (tgt := 19) dX5_sectionAt_1 (by decide) (by omega) (fun c_1 => absurd c_1 (by omega)) (fun c_1 => ?_)
  refine aw_iload_n dX5_sectionAt_4 rfl rfl ?_
  refine aw_bipush dX5_sectionAt_5 (by decide) ?_
  refine aw_icmp_ge (tgt := 19) dX5_sectionAt_7 (by decide) (by omega) (by omega) (fun c_7 => absurd c_7 (by omega)) (fun c_7 => ?_)
  refine aw_aload_n dX5_sectionAt_10 rfl rfl ?_
  refine aw_get dX5_sectionAt_11 flX5_11 (by decide) (by decide) rfl rfl (rc_0_0 hR) ?_
  refine aw_iload_n dX5_sectionAt_14 rfl rfl ?_
  refine aw_aald dX5_sectionAt_15 rfl (by decide) (by decide) rfl (by omega) (lnlt (n := 8) rfl (by omega)) (rcx_8 hR (by omega) (by omega)) ?_
  refine aw_goto (tgt := 20) dX5_sectionAt_16 (by decide) ?_
  refine aw_aret dX5_sectionAt_20 rfl (Nat.zero_le _) (Nat.zero_le _) ?_
  exact ⟨rfl, rfl, rfl, rfl⟩
set_option maxRecDepth 100000 in
set_option maxHeartbeats 4000000 in
theorem c_X5_sectionAt_out {x : Int} (hx : Rg x) (h : x < 0 ∨ 8 ≤ x) : CT l D cA A ad yX5_sectionAt cX5_sectionAt 2 (some (.object "ShipCut$Section")) rm_X5_sectionAt [.inr (some (0, 0)), .inl x] (lvC ns nc) V sz (PP (some (.inr none)) (lvC ns nc) V sz) := by
  refine CT.of2 [some (.inr (some (0, 0))), some (.inl x)] (by decide) (Nat.le_of_ble_eq_true rfl) rfl ?_
  refine aw_iload_n dX5_sectionAt_0 rfl rfl ?_
  refine aw_if_lt (tgt := 19) dX5_sectionAt_1 (by decide) (by omega) (fun c_1 => ?_) (fun c_1 => ?_)
  · refine aw_null dX5_sectionAt_19 ?_
    refine aw_aret dX5_sectionAt_20 rfl (Nat.zero_le _) (Nat.zero_le _) ?_
    exact ⟨rfl, rfl, rfl, rfl⟩
  · refine aw_iload_n dX5_sectionAt_4 rfl rfl ?_
    refine aw_bipush dX5_sectionAt_5 (by decide) ?_
    refine aw_icmp_ge (tgt := 19) dX5_sectionAt_7 (by decide) (by omega) (by omega) (fun c_7 => ?_) (fun c_7 => ?_)
    · refine aw_null dX5_sectionAt_19 ?_
      refine aw_aret dX5_sectionAt_20 rfl (Nat.zero_le _) (Nat.zero_le _) ?_
      exact ⟨rfl, rfl, rfl, rfl⟩
    · exfalso
      omega
set_option maxRecDepth 100000 in
set_option maxHeartbeats 4000000 in
theorem c_X5_convoyAt {c : Nat} (hB : BB S) (hC : RC ns nc S V) (hs : (c : Int) < nc) : CT l D cA A ad yX5_convoyAt cX5_convoyAt 2 (some (.object "ShipCut$Convoy")) rm_X5_convoyAt [.inr (some (0, 0)), .inl (c : Int)] (lvC ns nc) V sz (PP (some (.inr (some (7, c)))) (lvC ns nc) V sz) := by
  refine CT.of2 [some (.inr (some (0, 0))), some (.inl (c : Int))] (by decide) (Nat.le_of_ble_eq_true rfl) rfl ?_
  obtain ⟨hR, h8, h24⟩ := hC
  have hm := hB.m
  simp only [bsm] at hm
  refine aw_iload_n dX5_convoyAt_0 rfl rfl ?_
  refine aw_if_lt (tgt := 21) dX5_convoyAt_1 (by decide) (by omega) (fun c_1 => absurd c_1 (by omega)) (fun c_1 => ?_)
  refine aw_iload_n dX5_convoyAt_4 rfl rfl ?_
  refine aw_aload_n dX5_convoyAt_5 rfl rfl ?_
  refine aw_get dX5_convoyAt_6 flX5_37 (by decide) (by decide) rfl rfl (rc_0_5 hR) ?_
  refine aw_icmp_ge (tgt := 21) dX5_convoyAt_9 (by decide) (by omega) (by omega) (fun c_9 => absurd c_9 (by omega)) (fun c_9 => ?_)
  refine aw_aload_n dX5_convoyAt_12 rfl rfl ?_
  refine aw_get dX5_convoyAt_13 flX5_33 (by decide) (by decide) rfl rfl (rc_0_4 hR) ?_
  refine aw_iload_n dX5_convoyAt_16 rfl rfl ?_
  refine aw_aald dX5_convoyAt_17 rfl (by decide) (by decide) rfl (by omega) (lnlt (n := 12) rfl (by omega)) (rcx_11 hR (by omega) (by omega)) ?_
  refine aw_goto (tgt := 22) dX5_convoyAt_18 (by decide) ?_
  refine aw_aret dX5_convoyAt_22 rfl (Nat.zero_le _) (Nat.zero_le _) ?_
  exact ⟨rfl, rfl, rfl, rfl⟩
set_option maxRecDepth 100000 in
set_option maxHeartbeats 4000000 in
theorem c_X5_convoyAt_out {x : Int} (hB : BB S) (hC : RC ns nc S V) (hx : Rg x) (h : x < 0 ∨ nc ≤ x) : CT l D cA A ad yX5_convoyAt cX5_convoyAt 2 (some (.object "ShipCut$Convoy")) rm_X5_convoyAt [.inr (some (0, 0)), .inl x] (lvC ns nc) V sz (PP (some (.inr none)) (lvC ns nc) V sz) := by
  refine CT.of2 [some (.inr (some (0, 0))), some (.inl x)] (by decide) (Nat.le_of_ble_eq_true rfl) rfl ?_
  obtain ⟨hR, h8, h24⟩ := hC
  have hm := hB.m
  simp only [bsm] at hm
  refine aw_iload_n dX5_convoyAt_0 rfl rfl ?_
  refine aw_if_lt (tgt := 21) dX5_convoyAt_1 (by decide) (by omega) (fun c_1 => ?_) (fun c_1 => ?_)
  · refine aw_null dX5_convoyAt_21 ?_
    refine aw_aret dX5_convoyAt_22 rfl (Nat.zero_le _) (Nat.zero_le _) ?_
    exact ⟨rfl, rfl, rfl, rfl⟩
  · refine aw_iload_n dX5_convoyAt_4 rfl rfl ?_
    refine aw_aload_n dX5_convoyAt_5 rfl rfl ?_
    refine aw_get dX5_convoyAt_6 flX5_37 (by decide) (by decide) rfl rfl (rc_0_5 hR) ?_
    refine aw_icmp_ge (tgt := 21) dX5_convoyAt_9 (by decide) (by omega) (by omega) (fun c_9 => ?_) (fun c_9 => ?_)
    · refine aw_null dX5_convoyAt_21 ?_
      refine aw_aret dX5_convoyAt_22 rfl (Nat.zero_le _) (Nat.zero_le _) ?_
      exact ⟨rfl, rfl, rfl, rfl⟩
    · exfalso
      omega
set_option maxRecDepth 100000 in
set_option maxHeartbeats 4000000 in
theorem c_X5_lineOf {w : Int} (hC : RC ns nc S V) (hw : w = 0 ∨ w = 1) : CT l D cA A ad yX5_lineOf cX5_lineOf 2 (some (.object "ShipCut$Row")) rm_X5_lineOf [.inr (some (0, 0)), .inl w] (lvC ns nc) V sz (PP (some (.inr (some (31, w.toNat)))) (lvC ns nc) V sz) := by
  refine CT.of2 [some (.inr (some (0, 0))), some (.inl w)] (by decide) (Nat.le_of_ble_eq_true rfl) rfl ?_
  obtain ⟨hR, h8, h24⟩ := hC
  rcases hw with rfl | rfl
  · refine aw_iload_n dX5_lineOf_0 rfl rfl ?_
    refine aw_if_ne (tgt := 11) dX5_lineOf_1 (by decide) (by omega) (fun c_1 => absurd c_1 (by decide)) (fun c_1 => ?_)
    refine aw_aload_n dX5_lineOf_4 rfl rfl ?_
    refine aw_get dX5_lineOf_5 flX5_41 (by decide) (by decide) rfl rfl (rc_0_6 hR) ?_
    refine aw_goto (tgt := 15) dX5_lineOf_8 (by decide) ?_
    refine aw_aret dX5_lineOf_15 rfl (Nat.zero_le _) (Nat.zero_le _) ?_
    exact ⟨rfl, rfl, rfl, rfl⟩
  · refine aw_iload_n dX5_lineOf_0 rfl rfl ?_
    refine aw_if_ne (tgt := 11) dX5_lineOf_1 (by decide) (by omega) (fun c_1 => ?_) (fun c_1 => absurd c_1 (by decide))
    refine aw_aload_n dX5_lineOf_11 rfl rfl ?_
    refine aw_get dX5_lineOf_12 flX5_44 (by decide) (by decide) rfl rfl (rc_0_7 hR) ?_
    refine aw_aret dX5_lineOf_15 rfl (Nat.zero_le _) (Nat.zero_le _) ?_
    exact ⟨rfl, rfl, rfl, rfl⟩
set_option maxRecDepth 100000 in
set_option maxHeartbeats 4000000 in
theorem c_X3_lane {sec : Nat} {w : Int} (hC : RC ns nc S V) (hs : sec < 8) (hw : w = 0 ∨ w = 1) : CT l D cA A ad yX3_lane cX3_lane 2 (some (.object "ShipCut$Lane")) rm_X3_lane [.inr (some (1, sec)), .inl w] (lvC ns nc) V sz (PP (some (.inr (some (2, 2 * sec + w.toNat)))) (lvC ns nc) V sz) := by
  refine CT.of2 [some (.inr (some (1, sec))), some (.inl w)] (by decide) (Nat.le_of_ble_eq_true rfl) rfl ?_
  obtain ⟨hR, h8, h24⟩ := hC
  rcases hw with rfl | rfl
  · refine aw_iload_n dX3_lane_0 rfl rfl ?_
    refine aw_if_ne (tgt := 11) dX3_lane_1 (by decide) (by omega) (fun c_1 => absurd c_1 (by decide)) (fun c_1 => ?_)
    refine aw_aload_n dX3_lane_4 rfl rfl ?_
    refine aw_get dX3_lane_5 flX3_25 (by decide) (by decide) rfl (decide_eq_true (by omega)) (rc_1_4 hR (by omega)) ?_
    refine aw_goto (tgt := 15) dX3_lane_8 (by decide) ?_
    refine aw_aret dX3_lane_15 rfl (Nat.zero_le _) (Nat.zero_le _) ?_
    exact ⟨rfl, rfl, rfl, rfl⟩
  · refine aw_iload_n dX3_lane_0 rfl rfl ?_
    refine aw_if_ne (tgt := 11) dX3_lane_1 (by decide) (by omega) (fun c_1 => ?_) (fun c_1 => absurd c_1 (by decide))
    refine aw_aload_n dX3_lane_11 rfl rfl ?_
    refine aw_get dX3_lane_12 flX3_29 (by decide) (by decide) rfl (decide_eq_true (by omega)) (rc_1_5 hR (by omega)) ?_
    refine aw_aret dX3_lane_15 rfl (Nat.zero_le _) (Nat.zero_le _) ?_
    exact ⟨rfl, rfl, rfl, rfl⟩
set_option maxRecDepth 100000 in
set_option maxHeartbeats 4000000 in
theorem c9_X5_ofThisHour (hB : BB S) (hC : RC ns nc S V) : CT l D cA A ad yX5_ofThisHour cX5_ofThisHour 3 (some .int) rm_X5_ofThisHour [.inr (some (0, 0)), .inr (some (9, 0))] (lvC ns nc) V sz (PP (some (.inl (S 6 (hr S)))) (lvC ns nc) V sz) := by
  refine CT.of2 [some (.inr (some (0, 0))), some (.inr (some (9, 0))), none] (by decide) (Nat.le_of_ble_eq_true rfl) rfl ?_
  obtain ⟨hR, h8, h24⟩ := hC
  have hm := hB.m
  simp only [bsm] at hm
  refine aw_aload_n dX5_ofThisHour_0 rfl rfl ?_
  refine aw_get dX5_ofThisHour_1 flX5_53 (by decide) (by decide) rfl rfl (rc_0_10 hR) ?_
  refine aw_bipush dX5_ofThisHour_4 (by decide) ?_
  refine aw_idiv dX5_ofThisHour_6 (by omega) (by omega) (by omega) (by omega) ?_
  refine aw_bipush dX5_ofThisHour_7 (by decide) ?_
  refine aw_irem dX5_ofThisHour_9 (by omega) (by omega) (by omega) (by omega) ?_
  refine aw_istore_n dX5_ofThisHour_10 rfl (by decide) ?_
  refine aw_iload_n dX5_ofThisHour_11 rfl rfl ?_
  refine aw_if_lt (tgt := 27) dX5_ofThisHour_12 (by decide) (by omega) (fun c_12 => absurd c_12 (by omega)) (fun c_12 => ?_)
  refine aw_iload_n dX5_ofThisHour_15 rfl rfl ?_
  refine aw_aload_n dX5_ofThisHour_16 rfl rfl ?_
  refine aw_alen dX5_ofThisHour_17 rfl (by decide) rfl ?_
  have hln : Ln 9 0 = 24 := rfl
  refine aw_icmp_ge (tgt := 27) dX5_ofThisHour_18 (by decide) (by omega) (by omega) (fun c_18 => absurd c_18 (by omega)) (fun c_18 => ?_)
  refine aw_aload_n dX5_ofThisHour_21 rfl rfl ?_
  refine aw_iload_n dX5_ofThisHour_22 rfl rfl ?_
  refine aw_iald dX5_ofThisHour_23 rfl rfl (by omega) (lnlt (n := 24) rfl (by omega)) (rcx_9 hR (by omega) (by omega)) ?_
  refine aw_goto (tgt := 28) dX5_ofThisHour_24 (by decide) ?_
  refine aw_iret dX5_ofThisHour_28 rfl (Nat.zero_le _) (Nat.zero_le _) ?_
  exact ⟨rfl, rfl, rfl, rfl⟩
set_option maxRecDepth 100000 in
set_option maxHeartbeats 4000000 in
theorem c10_X5_ofThisHour (hB : BB S) (hC : RC ns nc S V) : CT l D cA A ad yX5_ofThisHour cX5_ofThisHour 3 (some .int) rm_X5_ofThisHour [.inr (some (0, 0)), .inr (some (10, 0))] (lvC ns nc) V sz (PP (some (.inl (S 7 (hr S)))) (lvC ns nc) V sz) := by
  refine CT.of2 [some (.inr (some (0, 0))), some (.inr (some (10, 0))), none] (by decide) (Nat.le_of_ble_eq_true rfl) rfl ?_
  obtain ⟨hR, h8, h24⟩ := hC
  have hm := hB.m
  simp only [bsm] at hm
  refine aw_aload_n dX5_ofThisHour_0 rfl rfl ?_
  refine aw_get dX5_ofThisHour_1 flX5_53 (by decide) (by decide) rfl rfl (rc_0_10 hR) ?_
  refine aw_bipush dX5_ofThisHour_4 (by decide) ?_
  refine aw_idiv dX5_ofThisHour_6 (by omega) (by omega) (by omega) (by omega) ?_
  refine aw_bipush dX5_ofThisHour_7 (by decide) ?_
  refine aw_irem dX5_ofThisHour_9 (by omega) (by omega) (by omega) (by omega) ?_
  refine aw_istore_n dX5_ofThisHour_10 rfl (by decide) ?_
  refine aw_iload_n dX5_ofThisHour_11 rfl rfl ?_
  refine aw_if_lt (tgt := 27) dX5_ofThisHour_12 (by decide) (by omega) (fun c_12 => absurd c_12 (by omega)) (fun c_12 => ?_)
  refine aw_iload_n dX5_ofThisHour_15 rfl rfl ?_
  refine aw_aload_n dX5_ofThisHour_16 rfl rfl ?_
  refine aw_alen dX5_ofThisHour_17 rfl (by decide) rfl ?_
  have hln : Ln 10 0 = 24 := rfl
  refine aw_icmp_ge (tgt := 27) dX5_ofThisHour_18 (by decide) (by omega) (by omega) (fun c_18 => absurd c_18 (by omega)) (fun c_18 => ?_)
  refine aw_aload_n dX5_ofThisHour_21 rfl rfl ?_
  refine aw_iload_n dX5_ofThisHour_22 rfl rfl ?_
  refine aw_iald dX5_ofThisHour_23 rfl rfl (by omega) (lnlt (n := 24) rfl (by omega)) (rcx_10 hR (by omega) (by omega)) ?_
  refine aw_goto (tgt := 28) dX5_ofThisHour_24 (by decide) ?_
  refine aw_iret dX5_ofThisHour_28 rfl (Nat.zero_le _) (Nat.zero_le _) ?_
  exact ⟨rfl, rfl, rfl, rfl⟩
set_option maxRecDepth 100000 in
set_option maxHeartbeats 4000000 in
theorem c_X5_depthNow {sec : Nat} (hB : BB S) (hC : RC ns nc S V) (hs : sec < 8) : CT l D cA A ad yX5_depthNow cX5_depthNow 3 (some .int) rm_X5_depthNow [.inr (some (0, 0)), .inr (some (1, sec))] (lvC ns nc) V sz (PP (some (.inl (deep S sec))) (lvC ns nc) V sz) := by
  refine CT.of2 [some (.inr (some (0, 0))), some (.inr (some (1, sec))), none] (by decide) (Nat.le_of_ble_eq_true rfl) rfl ?_
  obtain ⟨hR, h8, h24⟩ := id hC
  have hm := hB.m
  simp only [bsm] at hm
  have hsc := hB.sc (i := (sec : Int)) (by omega) (by omega)
  simp only [bsc] at hsc
  have hhr : 0 ≤ hr S ∧ hr S < 24 := by simp only [hr]; omega
  have htw := hB.tw (i := hr S) (by omega) (by omega)
  refine aw_aload_n dX5_depthNow_0 rfl rfl ?_
  refine aw_getN dX5_depthNow_1 fnX5_196 (by decide) (by decide) rfl (decide_eq_true (by omega)) (rc_1_0 hR (by omega)) ?_
  refine aw_if_eq (tgt := 16) dX5_depthNow_4 (by decide) (by omega) (fun c_4 => ?_) (fun c_4 => ?_)
  · refine aw_iconst dX5_depthNow_16 ?_
    refine aw_goto (tgt := 21) dX5_depthNow_17 (by decide) ?_
    refine aw_istore_n dX5_depthNow_21 rfl (by decide) ?_
    refine aw_iload_n dX5_depthNow_22 rfl rfl ?_
    refine aw_if_eq (tgt := 42) dX5_depthNow_23 (by decide) (by omega) (fun c_23 => absurd c_23 (by decide)) (fun _ => ?_)
    refine aw_aload_n dX5_depthNow_26 rfl rfl ?_
    refine aw_getN dX5_depthNow_27 fnX5_68 (by decide) (by decide) rfl (decide_eq_true (by omega)) (rc_1_2 hR (by omega)) ?_
    refine aw_aload_n dX5_depthNow_30 rfl rfl ?_
    refine aw_aload_n dX5_depthNow_31 rfl rfl ?_
    refine aw_get dX5_depthNow_32 flX5_15 (by decide) (by decide) rfl rfl (rc_0_1 hR) ?_
    refine aw_callV (c9_X5_ofThisHour hB hC) mv_X5_ofThisHour mlX5_248 dX5_depthNow_35 rfl rfl (by decide) rfl (Nat.le_of_ble_eq_true rfl) rfl ?_
    rintro _ _ _ _ ⟨rfl, rfl, rfl, rfl⟩
    refine aw_iadd dX5_depthNow_38 ?_
    refine aw_goto (tgt := 46) dX5_depthNow_39 (by decide) ?_
    refine aw_iret dX5_depthNow_46 rfl (Nat.zero_le _) (Nat.zero_le _) ?_
    unfold deep
    first | rw [if_pos (by omega)] | rw [if_neg (by omega), Int.add_zero]
    exact ⟨rfl, rfl, rfl, rfl⟩
  · refine aw_aload_n dX5_depthNow_7 rfl rfl ?_
    refine aw_getN dX5_depthNow_8 fnX5_196 (by decide) (by decide) rfl (decide_eq_true (by omega)) (rc_1_0 hR (by omega)) ?_
    refine aw_bipush dX5_depthNow_11 (by decide) ?_
    refine aw_icmp_ne (tgt := 20) dX5_depthNow_13 (by decide) (by omega) (by omega) (fun c_13 => ?_) (fun c_13 => ?_)
    · refine aw_iconst dX5_depthNow_20 ?_
      refine aw_istore_n dX5_depthNow_21 rfl (by decide) ?_
      refine aw_iload_n dX5_depthNow_22 rfl rfl ?_
      refine aw_if_eq (tgt := 42) dX5_depthNow_23 (by decide) (by omega) (fun _ => ?_) (fun c_23 => absurd c_23 (by decide))
      refine aw_aload_n dX5_depthNow_42 rfl rfl ?_
      refine aw_getN dX5_depthNow_43 fnX5_68 (by decide) (by decide) rfl (decide_eq_true (by omega)) (rc_1_2 hR (by omega)) ?_
      refine aw_iret dX5_depthNow_46 rfl (Nat.zero_le _) (Nat.zero_le _) ?_
      unfold deep
      first | rw [if_pos (by omega)] | rw [if_neg (by omega), Int.add_zero]
      exact ⟨rfl, rfl, rfl, rfl⟩
    · refine aw_iconst dX5_depthNow_16 ?_
      refine aw_goto (tgt := 21) dX5_depthNow_17 (by decide) ?_
      refine aw_istore_n dX5_depthNow_21 rfl (by decide) ?_
      refine aw_iload_n dX5_depthNow_22 rfl rfl ?_
      refine aw_if_eq (tgt := 42) dX5_depthNow_23 (by decide) (by omega) (fun c_23 => absurd c_23 (by decide)) (fun _ => ?_)
      refine aw_aload_n dX5_depthNow_26 rfl rfl ?_
      refine aw_getN dX5_depthNow_27 fnX5_68 (by decide) (by decide) rfl (decide_eq_true (by omega)) (rc_1_2 hR (by omega)) ?_
      refine aw_aload_n dX5_depthNow_30 rfl rfl ?_
      refine aw_aload_n dX5_depthNow_31 rfl rfl ?_
      refine aw_get dX5_depthNow_32 flX5_15 (by decide) (by decide) rfl rfl (rc_0_1 hR) ?_
      refine aw_callV (c9_X5_ofThisHour hB hC) mv_X5_ofThisHour mlX5_248 dX5_depthNow_35 rfl rfl (by decide) rfl (Nat.le_of_ble_eq_true rfl) rfl ?_
      rintro _ _ _ _ ⟨rfl, rfl, rfl, rfl⟩
      refine aw_iadd dX5_depthNow_38 ?_
      refine aw_goto (tgt := 46) dX5_depthNow_39 (by decide) ?_
      refine aw_iret dX5_depthNow_46 rfl (Nat.zero_le _) (Nat.zero_le _) ?_
      unfold deep
      first | rw [if_pos (by omega)] | rw [if_neg (by omega), Int.add_zero]
      exact ⟨rfl, rfl, rfl, rfl⟩
set_option maxRecDepth 100000 in
set_option maxHeartbeats 4000000 in
theorem c_X5_windBarsGreat (hB : BB S) (hC : RC ns nc S V) : CT l D cA A ad yX5_windBarsGreat cX5_windBarsGreat 2 (some .boolean) rm_X5_windBarsGreat [.inr (some (0, 0))] (lvC ns nc) V sz (PB (S 7 (hr S) < 0 ∨ 6 < S 7 (hr S)) (lvC ns nc) V sz) := by
  refine CT.of2 [some (.inr (some (0, 0))), none] (by decide) (Nat.le_of_ble_eq_true rfl) rfl ?_
  obtain ⟨hR, h8, h24⟩ := id hC
  have hm := hB.m
  simp only [bsm] at hm
  have hhr : 0 ≤ hr S ∧ hr S < 24 := by simp only [hr]; omega
  have htw := hB.tw (i := hr S) (by omega) (by omega)
  refine aw_aload_n dX5_windBarsGreat_0 rfl rfl ?_
  refine aw_aload_n dX5_windBarsGreat_1 rfl rfl ?_
  refine aw_get dX5_windBarsGreat_2 flX5_19 (by decide) (by decide) rfl rfl (rc_0_2 hR) ?_
  refine aw_callV (c10_X5_ofThisHour hB hC) mv_X5_ofThisHour mlX5_248 dX5_windBarsGreat_5 rfl rfl (by decide) rfl (Nat.le_of_ble_eq_true rfl) rfl ?_
  rintro _ _ _ _ ⟨rfl, rfl, rfl, rfl⟩
  refine aw_istore_n dX5_windBarsGreat_8 rfl (by decide) ?_
  refine aw_iload_n dX5_windBarsGreat_9 rfl rfl ?_
  refine aw_iconst dX5_windBarsGreat_10 ?_
  refine aw_icmp_eq (tgt := 20) dX5_windBarsGreat_11 (by decide) (by omega) (by omega) (fun c_11 => ?_) (fun c_11 => ?_)
  · refine aw_iconst dX5_windBarsGreat_20 ?_
    refine aw_goto (tgt := 25) dX5_windBarsGreat_21 (by decide) ?_
    refine aw_zret dX5_windBarsGreat_25 rfl (by decide) (Nat.zero_le _) (Nat.zero_le _) ?_
    first | exact ⟨Or.inl ⟨rfl, by omega⟩, rfl, rfl, rfl⟩ | exact ⟨Or.inr ⟨rfl, by omega⟩, rfl, rfl, rfl⟩
  · refine aw_iload_n dX5_windBarsGreat_14 rfl rfl ?_
    refine aw_bipush dX5_windBarsGreat_15 (by decide) ?_
    refine aw_icmp_le (tgt := 24) dX5_windBarsGreat_17 (by decide) (by omega) (by omega) (fun c_17 => ?_) (fun c_17 => ?_)
    · refine aw_iconst dX5_windBarsGreat_24 ?_
      refine aw_zret dX5_windBarsGreat_25 rfl (by decide) (Nat.zero_le _) (Nat.zero_le _) ?_
      first | exact ⟨Or.inl ⟨rfl, by omega⟩, rfl, rfl, rfl⟩ | exact ⟨Or.inr ⟨rfl, by omega⟩, rfl, rfl, rfl⟩
    · refine aw_iconst dX5_windBarsGreat_20 ?_
      refine aw_goto (tgt := 25) dX5_windBarsGreat_21 (by decide) ?_
      refine aw_zret dX5_windBarsGreat_25 rfl (by decide) (Nat.zero_le _) (Nat.zero_le _) ?_
      first | exact ⟨Or.inl ⟨rfl, by omega⟩, rfl, rfl, rfl⟩ | exact ⟨Or.inr ⟨rfl, by omega⟩, rfl, rfl, rfl⟩
set_option maxRecDepth 100000 in
set_option maxHeartbeats 4000000 in
theorem c_X4_waitBy {s : Nat} {c : Int} (hC : RC ns nc S V) (hs : (s : Int) < ns) (hc : 0 ≤ c ∧ c < 7) : CT l D cA A ad yX4_waitBy cX4_waitBy 2 none rm_X4_waitBy [.inr (some (5, s)), .inl c] (lvC ns nc) V sz (PC none ns nc (wt S (7 * (s : Int) + c)) sz) := by
  refine CT.of2 [some (.inr (some (5, s))), some (.inl c)] (by decide) (Nat.le_of_ble_eq_true rfl) rfl ?_
  obtain ⟨hR, h8, h24⟩ := id hC
  refine aw_iload_n dX4_waitBy_0 rfl rfl ?_
  refine aw_if_lt (tgt := 20) dX4_waitBy_1 (by decide) (by omega) (fun c_1 => absurd c_1 (by omega)) (fun c_1 => ?_)
  refine aw_iload_n dX4_waitBy_4 rfl rfl ?_
  refine aw_bipush dX4_waitBy_5 (by decide) ?_
  refine aw_icmp_ge (tgt := 20) dX4_waitBy_7 (by decide) (by omega) (by omega) (fun c_7 => absurd c_7 (by omega)) (fun c_7 => ?_)
  refine aw_aload_n dX4_waitBy_10 rfl rfl ?_
  refine aw_get dX4_waitBy_11 flX4_9 (by decide) (by decide) rfl (decide_eq_true (by omega)) (rc_5_7 hR (by omega)) ?_
  refine aw_iload_n dX4_waitBy_14 rfl rfl ?_
  refine aw_dup2 dX4_waitBy_15 ?_
  refine aw_iald dX4_waitBy_16 rfl (decide_eq_true (by omega)) (by omega) (lnlt (n := 7) rfl (by omega)) (rcx_6 hR (by omega) (by omega) (by omega)) ?_
  refine aw_iconst dX4_waitBy_17 ?_
  refine aw_iadd dX4_waitBy_18 ?_
  refine aw_iast dX4_waitBy_19 rfl (decide_eq_true (by omega)) (by omega) (lnlt (n := 7) rfl (by omega)) ?_
  refine aw_vret dX4_waitBy_20 rfl (Nat.zero_le _) (Nat.zero_le _) ?_
  refine ⟨rfl, rfl, rfl, ?_⟩
  have h2 := hC.set (S 23 (7 * (s : Int) + c) + 1) (show src 6 s c.toNat = some (false, 23, 7 * (s : Int) + c) from by simp only [src]; rw [Int.toNat_of_nonneg hc.1]) (by decide) ⟨by omega, by omega⟩
  exact h2
set_option maxRecDepth 100000 in
set_option maxHeartbeats 4000000 in
theorem lp_X4_waitedInAll {s : Nat} (hC : RC ns nc S V) (hs : (s : Int) < ns) : ∀ (f n : Nat), n + f = 7 → AW l D cA A ad yX4_waitedInAll cX4_waitedInAll 3 (some .int) rm_X4_waitedInAll (PP (some (.inl (wsum S s (-1) 7))) (lvC ns nc) V sz) 0 0 (lvC ns nc) V sz 4 [some (.inr (some (5, s))), some (.inl (wsum S s (-1) n)), some (.inl (n : Int))] [] := by
  obtain ⟨hR, h8, h24⟩ := id hC
  intro f
  induction f with
  | zero =>
    intro n hn
    refine aw_iload_n dX4_waitedInAll_4 rfl rfl ?_
    refine aw_bipush dX4_waitedInAll_5 (by decide) ?_
    refine aw_icmp_ge (tgt := 25) dX4_waitedInAll_7 (by decide) (by omega) (by omega) (fun c_7 => ?_) (fun c_7 => absurd c_7 (by omega))
    refine aw_iload_n dX4_waitedInAll_25 rfl rfl ?_
    refine aw_iret dX4_waitedInAll_26 rfl (Nat.zero_le _) (Nat.zero_le _) ?_
    rw [show n = 7 by omega]
    exact ⟨rfl, rfl, rfl, rfl⟩
  | succ f ih =>
    intro n hn
    refine aw_iload_n dX4_waitedInAll_4 rfl rfl ?_
    refine aw_bipush dX4_waitedInAll_5 (by decide) ?_
    refine aw_icmp_ge (tgt := 25) dX4_waitedInAll_7 (by decide) (by omega) (by omega) (fun c_7 => absurd c_7 (by omega)) (fun c_7 => ?_)
    refine aw_iload_n dX4_waitedInAll_10 rfl rfl ?_
    refine aw_aload_n dX4_waitedInAll_11 rfl rfl ?_
    refine aw_get dX4_waitedInAll_12 flX4_9 (by decide) (by decide) rfl (decide_eq_true (by omega)) (rc_5_7 hR (by omega)) ?_
    refine aw_iload_n dX4_waitedInAll_15 rfl rfl ?_
    refine aw_iald dX4_waitedInAll_16 rfl (decide_eq_true (by omega)) (by omega) (lnlt (n := 7) rfl (by omega)) (rcx_6 hR (by omega) (by omega) (by omega)) ?_
    refine aw_iadd dX4_waitedInAll_17 ?_
    refine aw_istore_n dX4_waitedInAll_18 rfl (by decide) ?_
    refine aw_iinc dX4_waitedInAll_19 rfl (by decide) ?_
    refine aw_goto (tgt := 4) dX4_waitedInAll_22 (by decide) ?_
    refine AW.lss (ih (n + 1) (by omega)) (And.intro rfl (And.intro (congrArg Sum.inl ?_) (And.intro rfl trivial)))
    rw [wsum, if_pos (Or.inl (by decide))]
set_option maxRecDepth 100000 in
set_option maxHeartbeats 4000000 in
theorem c_X4_waitedInAll {s : Nat} (hC : RC ns nc S V) (hs : (s : Int) < ns) : CT l D cA A ad yX4_waitedInAll cX4_waitedInAll 3 (some .int) rm_X4_waitedInAll [.inr (some (5, s))] (lvC ns nc) V sz (PP (some (.inl (wsum S s (-1) 7))) (lvC ns nc) V sz) := by
  refine CT.of2 [some (.inr (some (5, s))), none, none] (by decide) (Nat.le_of_ble_eq_true rfl) rfl ?_
  refine aw_iconst dX4_waitedInAll_0 ?_
  refine aw_istore_n dX4_waitedInAll_1 rfl (by decide) ?_
  refine aw_iconst dX4_waitedInAll_2 ?_
  refine aw_istore_n dX4_waitedInAll_3 rfl (by decide) ?_
  exact AW.lss (lp_X4_waitedInAll hC hs 7 0 (by omega)) (And.intro rfl (And.intro rfl (And.intro rfl trivial)))
set_option maxRecDepth 100000 in
set_option maxHeartbeats 4000000 in
theorem c3_X4_counts {s : Nat} (hB : BB S) (hC : RC ns nc S V) (hs : (s : Int) < ns) : CT l D cA A ad yX4_counts cX4_counts 2 (some .boolean) rm_X4_counts [.inr (some (5, s)), .inl 3] (lvC ns nc) V sz (PB (pOut S s = true) (lvC ns nc) V sz) := by
  refine CT.of2 [some (.inr (some (5, s))), some (.inl 3)] (by decide) (Nat.le_of_ble_eq_true rfl) rfl ?_
  obtain ⟨hR, h8, h24⟩ := id hC
  have hm := hB.m
  simp only [bsm] at hm
  have hsh := hB.sh (s := (s : Int)) (by omega) (by omega)
  simp only [bsh] at hsh
  refine aw_iload_n dX4_counts_0 rfl rfl ?_
  refine aw_tableIn (off := 31) (tgt := 32) dX4_counts_1 (by decide) (by decide) (by decide) rfl (by decide) ?_
  refine aw_aload_n dX4_counts_32 rfl rfl ?_
  refine aw_get dX4_counts_33 flX4_15 (by decide) (by decide) rfl (decide_eq_true (by omega)) (rc_5_8 hR (by omega)) ?_
  refine aw_bipush dX4_counts_36 (by decide) ?_
  refine aw_icmp_ne (tgt := 45) dX4_counts_38 (by decide) (by omega) (by omega) (fun c_38 => ?_) (fun c_38 => ?_)
  · refine aw_iconst dX4_counts_45 ?_
    refine aw_zret dX4_counts_46 rfl (by decide) (Nat.zero_le _) (Nat.zero_le _) ?_
    simp only [pOut, decide_eq_true_eq]
    first | exact ⟨Or.inl ⟨rfl, by omega⟩, rfl, rfl, rfl⟩ | exact ⟨Or.inr ⟨rfl, by omega⟩, rfl, rfl, rfl⟩
  · refine aw_iconst dX4_counts_41 ?_
    refine aw_goto (tgt := 46) dX4_counts_42 (by decide) ?_
    refine aw_zret dX4_counts_46 rfl (by decide) (Nat.zero_le _) (Nat.zero_le _) ?_
    simp only [pOut, decide_eq_true_eq]
    first | exact ⟨Or.inl ⟨rfl, by omega⟩, rfl, rfl, rfl⟩ | exact ⟨Or.inr ⟨rfl, by omega⟩, rfl, rfl, rfl⟩
set_option maxRecDepth 100000 in
set_option maxHeartbeats 4000000 in
theorem c4_X4_counts {s : Nat} (hB : BB S) (hC : RC ns nc S V) (hs : (s : Int) < ns) : CT l D cA A ad yX4_counts cX4_counts 2 (some .boolean) rm_X4_counts [.inr (some (5, s)), .inl 4] (lvC ns nc) V sz (PB (pLeft S s = true) (lvC ns nc) V sz) := by
  refine CT.of2 [some (.inr (some (5, s))), some (.inl 4)] (by decide) (Nat.le_of_ble_eq_true rfl) rfl ?_
  obtain ⟨hR, h8, h24⟩ := id hC
  have hm := hB.m
  simp only [bsm] at hm
  have hsh := hB.sh (s := (s : Int)) (by omega) (by omega)
  simp only [bsh] at hsh
  refine aw_iload_n dX4_counts_0 rfl rfl ?_
  refine aw_tableIn (off := 46) (tgt := 47) dX4_counts_1 (by decide) (by decide) (by decide) rfl (by decide) ?_
  refine aw_aload_n dX4_counts_47 rfl rfl ?_
  refine aw_get dX4_counts_48 flX4_26 (by decide) (by decide) rfl (decide_eq_true (by omega)) (rc_5_11 hR (by omega)) ?_
  refine aw_zret dX4_counts_51 rfl (by omega) (Nat.zero_le _) (Nat.zero_le _) ?_
  rcases (show S 18 s = 0 ∨ S 18 s = 1 by omega) with e | e
  · exact ⟨Or.inr ⟨by rw [e], by simp only [pLeft, decide_eq_true_eq]; omega⟩, rfl, rfl, rfl⟩
  · exact ⟨Or.inl ⟨by rw [e], by simp only [pLeft, decide_eq_true_eq]; omega⟩, rfl, rfl, rfl⟩
set_option maxRecDepth 100000 in
set_option maxHeartbeats 4000000 in
theorem c5_X4_counts {s : Nat} (hB : BB S) (hC : RC ns nc S V) (hs : (s : Int) < ns) : CT l D cA A ad yX4_counts cX4_counts 2 (some .boolean) rm_X4_counts [.inr (some (5, s)), .inl 5] (lvC ns nc) V sz (PB (pLate S s = true) (lvC ns nc) V sz) := by
  refine CT.of2 [some (.inr (some (5, s))), some (.inl 5)] (by decide) (Nat.le_of_ble_eq_true rfl) rfl ?_
  obtain ⟨hR, h8, h24⟩ := id hC
  have hm := hB.m
  simp only [bsm] at hm
  have hsh := hB.sh (s := (s : Int)) (by omega) (by omega)
  simp only [bsh] at hsh
  refine aw_iload_n dX4_counts_0 rfl rfl ?_
  refine aw_tableIn (off := 51) (tgt := 52) dX4_counts_1 (by decide) (by decide) (by decide) rfl (by decide) ?_
  refine aw_aload_n dX4_counts_52 rfl rfl ?_
  refine aw_get dX4_counts_53 flX4_22 (by decide) (by decide) rfl (decide_eq_true (by omega)) (rc_5_10 hR (by omega)) ?_
  refine aw_zret dX4_counts_56 rfl (by omega) (Nat.zero_le _) (Nat.zero_le _) ?_
  rcases (show S 17 s = 0 ∨ S 17 s = 1 by omega) with e | e
  · exact ⟨Or.inr ⟨by rw [e], by simp only [pLate, decide_eq_true_eq]; omega⟩, rfl, rfl, rfl⟩
  · exact ⟨Or.inl ⟨by rw [e], by simp only [pLate, decide_eq_true_eq]; omega⟩, rfl, rfl, rfl⟩
set_option maxRecDepth 100000 in
set_option maxHeartbeats 4000000 in
theorem c6_X4_counts {s : Nat} (hB : BB S) (hC : RC ns nc S V) (hs : (s : Int) < ns) : CT l D cA A ad yX4_counts cX4_counts 2 (some .boolean) rm_X4_counts [.inr (some (5, s)), .inl 6] (lvC ns nc) V sz (PB (pIn S s = true) (lvC ns nc) V sz) := by
  refine CT.of2 [some (.inr (some (5, s))), some (.inl 6)] (by decide) (Nat.le_of_ble_eq_true rfl) rfl ?_
  obtain ⟨hR, h8, h24⟩ := id hC
  have hm := hB.m
  simp only [bsm] at hm
  have hsh := hB.sh (s := (s : Int)) (by omega) (by omega)
  simp only [bsh] at hsh
  refine aw_iload_n dX4_counts_0 rfl rfl ?_
  refine aw_tableIn (off := 56) (tgt := 57) dX4_counts_1 (by decide) (by decide) (by decide) rfl (by decide) ?_
  refine aw_aload_n dX4_counts_57 rfl rfl ?_
  refine aw_callV (c_X4_isInSection (decide_eq_true (by omega)) (rc_5_8 hR (by omega)) (by omega)) mv_X4_isInSection mlX4_62 dX4_counts_58 rfl (decide_eq_true (by omega)) (by decide) rfl (Nat.le_of_ble_eq_true rfl) rfl ?_
  rintro _ _ _ _ ⟨⟨rfl, hI⟩ | ⟨rfl, hI⟩, rfl, rfl, rfl⟩
  · refine aw_zret dX4_counts_61 rfl (by decide) (Nat.zero_le _) (Nat.zero_le _) ?_
    simp only [pIn, decide_eq_true_eq]
    first | exact ⟨Or.inl ⟨rfl, by omega⟩, rfl, rfl, rfl⟩ | exact ⟨Or.inr ⟨rfl, by omega⟩, rfl, rfl, rfl⟩
  · refine aw_zret dX4_counts_61 rfl (by decide) (Nat.zero_le _) (Nat.zero_le _) ?_
    simp only [pIn, decide_eq_true_eq]
    first | exact ⟨Or.inl ⟨rfl, by omega⟩, rfl, rfl, rfl⟩ | exact ⟨Or.inr ⟨rfl, by omega⟩, rfl, rfl, rfl⟩
set_option maxRecDepth 100000 in
set_option maxHeartbeats 4000000 in
theorem t2_X4_dues {s : Nat} (hB : BB S) (hC : RC ns nc S V) (hs : (s : Int) < ns) : AW l D cA A ad yX4_dues cX4_dues 4 (some .int) rm_X4_dues (PP (some (.inl (dues S s))) (lvC ns nc) V sz) 0 0 (lvC ns nc) V sz 55 [some (.inr (some (5, s))), none, none, some (.inl (due1 (S 14 s) (S 17 s)))] [] := by
  obtain ⟨hR, h8, h24⟩ := id hC
  have hm := hB.m
  simp only [bsm] at hm
  have hsh := hB.sh (s := (s : Int)) (by omega) (by omega)
  simp only [bsh] at hsh
  have h0 : 0 ≤ due0 (S 14 s) ∧ due0 (S 14 s) ≤ 1000000 := by simp only [due0]; split <;> (try split) <;> omega
  have h1 : 0 ≤ due1 (S 14 s) (S 17 s) ∧ due1 (S 14 s) (S 17 s) ≤ 2000000 := by simp only [due1]; split <;> omega
  refine aw_aload_n dX4_dues_55 rfl rfl ?_
  refine aw_get dX4_dues_56 flX4_9 (by decide) (by decide) rfl (decide_eq_true (by omega)) (rc_5_7 hR (by omega)) ?_
  refine aw_iconst dX4_dues_59 ?_
  refine aw_iald dX4_dues_60 rfl (decide_eq_true (by omega)) (by omega) (lnlt (n := 7) rfl (by omega)) (rcx_6 hR (by omega) (by decide) (by decide)) ?_
  refine aw_bipush dX4_dues_61 (by decide) ?_
  refine aw_icmp_leW (tgt := 73) dX4_dues_63 (by decide) (fun c_63 => ?_) (fun c_63 => ?_)
  · refine aw_iload_n dX4_dues_73 rfl rfl ?_
    refine aw_iret dX4_dues_74 rfl (Nat.zero_le _) (Nat.zero_le _) ?_
    rw [dues]
    rw [Int.add_zero] at c_63
    rw [if_pos c_63]
    rw [Int.sub_zero]
    exact ⟨rfl, rfl, rfl, rfl⟩
  · refine aw_iload_n dX4_dues_66 rfl rfl ?_
    refine aw_iload_n dX4_dues_67 rfl rfl ?_
    refine aw_bipush dX4_dues_68 (by decide) ?_
    refine aw_idiv dX4_dues_70 (by omega) (by omega) (by omega) (by omega) ?_
    refine aw_isub dX4_dues_71 ?_
    refine aw_istore_n dX4_dues_72 rfl (by decide) ?_
    refine aw_iload_n dX4_dues_73 rfl rfl ?_
    refine aw_iret dX4_dues_74 rfl (Nat.zero_le _) (Nat.zero_le _) ?_
    rw [dues]
    rw [Int.add_zero] at c_63
    rw [if_neg c_63]
    exact ⟨rfl, rfl, rfl, rfl⟩
set_option maxRecDepth 100000 in
set_option maxHeartbeats 4000000 in
theorem t1_X4_dues {s : Nat} (hB : BB S) (hC : RC ns nc S V) (hs : (s : Int) < ns) : AW l D cA A ad yX4_dues cX4_dues 4 (some .int) rm_X4_dues (PP (some (.inl (dues S s))) (lvC ns nc) V sz) 0 0 (lvC ns nc) V sz 41 [some (.inr (some (5, s))), none, none, some (.inl (due0 (S 14 s)))] [] := by
  obtain ⟨hR, h8, h24⟩ := id hC
  have hm := hB.m
  simp only [bsm] at hm
  have hsh := hB.sh (s := (s : Int)) (by omega) (by omega)
  simp only [bsh] at hsh
  have h0 : 0 ≤ due0 (S 14 s) ∧ due0 (S 14 s) ≤ 1000000 := by simp only [due0]; split <;> (try split) <;> omega
  have h1 : 0 ≤ due1 (S 14 s) (S 17 s) ∧ due1 (S 14 s) (S 17 s) ≤ 2000000 := by simp only [due1]; split <;> omega
  refine aw_aload_n dX4_dues_41 rfl rfl ?_
  refine aw_get dX4_dues_42 flX4_22 (by decide) (by decide) rfl (decide_eq_true (by omega)) (rc_5_10 hR (by omega)) ?_
  refine aw_if_eq (tgt := 55) dX4_dues_45 (by decide) (by omega) (fun c_45 => ?_) (fun c_45 => ?_)
  · refine AW.lss (t2_X4_dues hB hC hs) (And.intro rfl (And.intro (congrArg Sum.inl ?_) trivial))
    rw [due1]
    first | rw [if_pos (by omega), Int.add_zero] | rw [if_neg (by omega)]
  · refine aw_iload_n dX4_dues_48 rfl rfl ?_
    refine aw_iload_n dX4_dues_49 rfl rfl ?_
    refine aw_bipush dX4_dues_50 (by decide) ?_
    refine aw_idiv dX4_dues_52 (by omega) (by omega) (by omega) (by omega) ?_
    refine aw_iadd dX4_dues_53 ?_
    refine aw_istore_n dX4_dues_54 rfl (by decide) ?_
    refine AW.lss (t2_X4_dues hB hC hs) (And.intro rfl (And.intro (congrArg Sum.inl ?_) trivial))
    rw [due1]
    first | rw [if_pos (by omega), Int.add_zero] | rw [if_neg (by omega)]
set_option maxRecDepth 100000 in
set_option maxHeartbeats 4000000 in
theorem c_X4_dues {s : Nat} (hB : BB S) (hC : RC ns nc S V) (hs : (s : Int) < ns) : CT l D cA A ad yX4_dues cX4_dues 4 (some .int) rm_X4_dues [.inr (some (5, s))] (lvC ns nc) V sz (PP (some (.inl (dues S s))) (lvC ns nc) V sz) := by
  refine CT.of2 [some (.inr (some (5, s))), none, none, none] (by decide) (Nat.le_of_ble_eq_true rfl) rfl ?_
  obtain ⟨hR, h8, h24⟩ := id hC
  have hm := hB.m
  simp only [bsm] at hm
  have hsh := hB.sh (s := (s : Int)) (by omega) (by omega)
  simp only [bsh] at hsh
  have h0 : 0 ≤ due0 (S 14 s) ∧ due0 (S 14 s) ≤ 1000000 := by simp only [due0]; split <;> (try split) <;> omega
  have h1 : 0 ≤ due1 (S 14 s) (S 17 s) ∧ due1 (S 14 s) (S 17 s) ≤ 2000000 := by simp only [due1]; split <;> omega
  refine aw_aload_n dX4_dues_0 rfl rfl ?_
  refine aw_get dX4_dues_1 flX4_59 (by decide) (by decide) rfl (decide_eq_true (by omega)) (rc_5_6 hR (by omega)) ?_
  refine aw_sipush dX4_dues_4 (by decide) ?_
  refine aw_mmin dX4_dues_7 mlX4_66 (by decide) (by decide) (Nat.zero_le _) (Nat.zero_le _) (by omega) (by omega) ?_
  refine aw_istore_n dX4_dues_10 rfl (by decide) ?_
  refine aw_aload_n dX4_dues_11 rfl rfl ?_
  refine aw_get dX4_dues_12 flX4_59 (by decide) (by decide) rfl (decide_eq_true (by omega)) (rc_5_6 hR (by omega)) ?_
  refine aw_iload_n dX4_dues_15 rfl rfl ?_
  refine aw_isub dX4_dues_16 ?_
  refine aw_sipush dX4_dues_17 (by decide) ?_
  refine aw_mmin dX4_dues_20 mlX4_66 (by decide) (by decide) (Nat.zero_le _) (Nat.zero_le _) (by (try split) <;> omega) (by (try split) <;> omega) ?_
  refine aw_istore_n dX4_dues_23 rfl (by decide) ?_
  refine aw_iconst dX4_dues_24 ?_
  refine aw_iload_n dX4_dues_25 rfl rfl ?_
  refine aw_imul dX4_dues_26 ?_
  refine aw_iconst dX4_dues_27 ?_
  refine aw_iload_n dX4_dues_28 rfl rfl ?_
  refine aw_imul dX4_dues_29 ?_
  refine aw_iadd dX4_dues_30 ?_
  refine aw_aload_n dX4_dues_31 rfl rfl ?_
  refine aw_get dX4_dues_32 flX4_59 (by decide) (by decide) rfl (decide_eq_true (by omega)) (rc_5_6 hR (by omega)) ?_
  refine aw_iload_n dX4_dues_35 rfl rfl ?_
  refine aw_isub dX4_dues_36 ?_
  refine aw_iload_n dX4_dues_37 rfl rfl ?_
  refine aw_isub dX4_dues_38 ?_
  refine aw_iadd dX4_dues_39 ?_
  refine aw_istore_n dX4_dues_40 rfl (by decide) ?_
  refine AW.lss (t1_X4_dues hB hC hs) (And.intro rfl (And.intro (congrArg Sum.inl ?_) trivial))
  rw [due0]
  split
  · rw [if_neg (by omega)]
    split <;> omega
  · split
    · rw [if_pos (by omega)]
      split <;> omega
    · rw [if_pos (by omega)]
      split <;> omega
set_option maxRecDepth 100000 in
set_option maxHeartbeats 4000000 in
theorem c_X3_waysInside {sec : Nat} (hB : BB S) (hC : RC ns nc S V) (hs : sec < 8) : CT l D cA A ad yX3_waysInside cX3_waysInside 1 (some .int) rm_X3_waysInside [.inr (some (1, sec))] (lvC ns nc) V sz (PP (some (.inl (sev1 S sec))) (lvC ns nc) V sz) := by
  refine CT.of2 [some (.inr (some (1, sec)))] (by decide) (Nat.le_of_ble_eq_true rfl) rfl ?_
  obtain ⟨hR, h8, h24⟩ := id hC
  have e1 : V 30 (2 * sec) 1 = .inl (S 33 (2 * (sec : Int))) := by have := rc_30_1 (i := 2 * sec) hR (by omega); rw [this]; congr 2
  have e2 : V 30 (2 * sec + 1) 1 = .inl (S 33 (2 * (sec : Int) + 1)) := by have := rc_30_1 (i := 2 * sec + 1) hR (by omega); rw [this]; congr 2
  have hi1 := hB.iM (a := 2 * (sec : Int)) (by omega) (by omega)
  have hi2 := hB.iM (a := 2 * (sec : Int) + 1) (by omega) (by omega)
  refine aw_aload_n dX3_waysInside_0 rfl rfl ?_
  refine aw_get dX3_waysInside_1 flX3_25 (by decide) (by decide) rfl (decide_eq_true (by omega)) (rc_1_4 hR (by omega)) ?_
  refine aw_getN dX3_waysInside_4 fnX3_35 (by decide) (by decide) rfl (decide_eq_true (by omega)) (rc_2_0 hR (by omega)) ?_
  refine aw_getN dX3_waysInside_7 fnX3_39 (by decide) (by decide) rfl (decide_eq_true (by omega)) e1 ?_
  refine aw_if_le (tgt := 17) dX3_waysInside_10 (by decide) (by omega) (fun c_10 => ?_) (fun c_10 => ?_)
  · refine aw_iconst dX3_waysInside_17 ?_
    refine aw_aload_n dX3_waysInside_18 rfl rfl ?_
    refine aw_get dX3_waysInside_19 flX3_29 (by decide) (by decide) rfl (decide_eq_true (by omega)) (rc_1_5 hR (by omega)) ?_
    refine aw_getN dX3_waysInside_22 fnX3_35 (by decide) (by decide) rfl (decide_eq_true (by omega)) (rc_2_0 hR (by omega)) ?_
    refine aw_getN dX3_waysInside_25 fnX3_39 (by decide) (by decide) rfl (decide_eq_true (by omega)) e2 ?_
    refine aw_if_le (tgt := 35) dX3_waysInside_28 (by decide) (by omega) (fun c_28 => ?_) (fun c_28 => ?_)
    · refine aw_iconst dX3_waysInside_35 ?_
      refine aw_iadd dX3_waysInside_36 ?_
      refine aw_iret dX3_waysInside_37 rfl (Nat.zero_le _) (Nat.zero_le _) ?_
      first | (rw [sev1, decide_eq_true (show 0 < S 33 (2 * (sec : Int)) by omega), decide_eq_true (show 0 < S 33 (2 * (sec : Int) + 1) by omega)]; exact ⟨rfl, rfl, rfl, rfl⟩) | (rw [sev1, decide_eq_true (show 0 < S 33 (2 * (sec : Int)) by omega), decide_eq_false (show ¬ 0 < S 33 (2 * (sec : Int) + 1) by omega)]; exact ⟨rfl, rfl, rfl, rfl⟩) | (rw [sev1, decide_eq_false (show ¬ 0 < S 33 (2 * (sec : Int)) by omega), decide_eq_true (show 0 < S 33 (2 * (sec : Int) + 1) by omega)]; exact ⟨rfl, rfl, rfl, rfl⟩) | (rw [sev1, decide_eq_false (show ¬ 0 < S 33 (2 * (sec : Int)) by omega), decide_eq_false (show ¬ 0 < S 33 (2 * (sec : Int) + 1) by omega)]; exact ⟨rfl, rfl, rfl, rfl⟩)
    · refine aw_iconst dX3_waysInside_31 ?_
      refine aw_goto (tgt := 36) dX3_waysInside_32 (by decide) ?_
      refine aw_iadd dX3_waysInside_36 ?_
      refine aw_iret dX3_waysInside_37 rfl (Nat.zero_le _) (Nat.zero_le _) ?_
      first | (rw [sev1, decide_eq_true (show 0 < S 33 (2 * (sec : Int)) by omega), decide_eq_true (show 0 < S 33 (2 * (sec : Int) + 1) by omega)]; exact ⟨rfl, rfl, rfl, rfl⟩) | (rw [sev1, decide_eq_true (show 0 < S 33 (2 * (sec : Int)) by omega), decide_eq_false (show ¬ 0 < S 33 (2 * (sec : Int) + 1) by omega)]; exact ⟨rfl, rfl, rfl, rfl⟩) | (rw [sev1, decide_eq_false (show ¬ 0 < S 33 (2 * (sec : Int)) by omega), decide_eq_true (show 0 < S 33 (2 * (sec : Int) + 1) by omega)]; exact ⟨rfl, rfl, rfl, rfl⟩) | (rw [sev1, decide_eq_false (show ¬ 0 < S 33 (2 * (sec : Int)) by omega), decide_eq_false (show ¬ 0 < S 33 (2 * (sec : Int) + 1) by omega)]; exact ⟨rfl, rfl, rfl, rfl⟩)
  · refine aw_iconst dX3_waysInside_13 ?_
    refine aw_goto (tgt := 18) dX3_waysInside_14 (by decide) ?_
    refine aw_aload_n dX3_waysInside_18 rfl rfl ?_
    refine aw_get dX3_waysInside_19 flX3_29 (by decide) (by decide) rfl (decide_eq_true (by omega)) (rc_1_5 hR (by omega)) ?_
    refine aw_getN dX3_waysInside_22 fnX3_35 (by decide) (by decide) rfl (decide_eq_true (by omega)) (rc_2_0 hR (by omega)) ?_
    refine aw_getN dX3_waysInside_25 fnX3_39 (by decide) (by decide) rfl (decide_eq_true (by omega)) e2 ?_
    refine aw_if_le (tgt := 35) dX3_waysInside_28 (by decide) (by omega) (fun c_28 => ?_) (fun c_28 => ?_)
    · refine aw_iconst dX3_waysInside_35 ?_
      refine aw_iadd dX3_waysInside_36 ?_
      refine aw_iret dX3_waysInside_37 rfl (Nat.zero_le _) (Nat.zero_le _) ?_
      first | (rw [sev1, decide_eq_true (show 0 < S 33 (2 * (sec : Int)) by omega), decide_eq_true (show 0 < S 33 (2 * (sec : Int) + 1) by omega)]; exact ⟨rfl, rfl, rfl, rfl⟩) | (rw [sev1, decide_eq_true (show 0 < S 33 (2 * (sec : Int)) by omega), decide_eq_false (show ¬ 0 < S 33 (2 * (sec : Int) + 1) by omega)]; exact ⟨rfl, rfl, rfl, rfl⟩) | (rw [sev1, decide_eq_false (show ¬ 0 < S 33 (2 * (sec : Int)) by omega), decide_eq_true (show 0 < S 33 (2 * (sec : Int) + 1) by omega)]; exact ⟨rfl, rfl, rfl, rfl⟩) | (rw [sev1, decide_eq_false (show ¬ 0 < S 33 (2 * (sec : Int)) by omega), decide_eq_false (show ¬ 0 < S 33 (2 * (sec : Int) + 1) by omega)]; exact ⟨rfl, rfl, rfl, rfl⟩)
    · refine aw_iconst dX3_waysInside_31 ?_
      refine aw_goto (tgt := 36) dX3_waysInside_32 (by decide) ?_
      refine aw_iadd dX3_waysInside_36 ?_
      refine aw_iret dX3_waysInside_37 rfl (Nat.zero_le _) (Nat.zero_le _) ?_
      first | (rw [sev1, decide_eq_true (show 0 < S 33 (2 * (sec : Int)) by omega), decide_eq_true (show 0 < S 33 (2 * (sec : Int) + 1) by omega)]; exact ⟨rfl, rfl, rfl, rfl⟩) | (rw [sev1, decide_eq_true (show 0 < S 33 (2 * (sec : Int)) by omega), decide_eq_false (show ¬ 0 < S 33 (2 * (sec : Int) + 1) by omega)]; exact ⟨rfl, rfl, rfl, rfl⟩) | (rw [sev1, decide_eq_false (show ¬ 0 < S 33 (2 * (sec : Int)) by omega), decide_eq_true (show 0 < S 33 (2 * (sec : Int) + 1) by omega)]; exact ⟨rfl, rfl, rfl, rfl⟩) | (rw [sev1, decide_eq_false (show ¬ 0 < S 33 (2 * (sec : Int)) by omega), decide_eq_false (show ¬ 0 < S 33 (2 * (sec : Int) + 1) by omega)]; exact ⟨rfl, rfl, rfl, rfl⟩)
end CLS2
