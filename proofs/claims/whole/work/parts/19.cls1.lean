section CLS1
variable {l : Launch} {D : va_G} {cA : Nat → ClassId} {A : Nat → Prop} {ad : Ad} {lv : Lw} {V : Vw} {sz : Nat}
theorem lnlt {σ i n : Nat} {x : Int} (h : Ln σ i = n) (hx : x < (n : Int)) : x < ((Ln σ i : Nat) : Int) := by rw [h]; exact hx
/-- an answer, nothing changed -/
def PP (r : Option AV) (lv : Lw) (V : Vw) (sz : Nat) : Pst := fun r' lv' V' sz' => r' = r ∧ lv' = lv ∧ V' = V ∧ sz' = sz
/-- a row of ships: its object, its array, how many it has -/
def RW (lv : Lw) (V : Vw) (σ j τ i : Nat) (n : Int) : Prop := Kd σ j = .inl 2 ∧ lv σ j = true ∧ V σ j 0 = .inr (some (τ, i)) ∧ Kd τ i = .inr 2 ∧ lv τ i = true ∧ V σ j 1 = .inl n ∧ 0 ≤ n ∧ n ≤ (Ln τ i : Nat)
set_option maxRecDepth 100000 in
set_option maxHeartbeats 4000000 in
theorem c_X2_isFull {σ j τ i : Nat} {n : Int} (hW : RW lv V σ j τ i n) : CT l D cA A ad yX2_isFull cX2_isFull 1 (some .boolean) rm_X2_isFull [.inr (some (σ, j))] lv V sz (PB ((Ln τ i : Nat) ≤ n) lv V sz) := by
  refine CT.of2 [some (.inr (some (σ, j)))] (by decide) (Nat.le_of_ble_eq_true rfl) rfl ?_
  obtain ⟨w1, w2, w3, w4, w5, w6, w7, w8⟩ := hW
  have hLn := Ln_le τ i
  refine aw_aload_n dX2_isFull_0 rfl rfl ?_
  refine aw_get dX2_isFull_1 flX2_9 (by decide) (by decide) w1 w2 w6 ?_
  refine aw_aload_n dX2_isFull_4 rfl rfl ?_
  refine aw_get dX2_isFull_5 flX2_23 (by decide) (by decide) w1 w2 w3 ?_
  refine aw_alen dX2_isFull_8 w4 (by decide) w5 ?_
  refine aw_icmp_lt (tgt := 16) dX2_isFull_9 (by decide) (by omega) (by omega) (fun c_9 => ?_) (fun c_9 => ?_)
  · refine aw_iconst dX2_isFull_16 ?_
    refine aw_zret dX2_isFull_17 rfl (by decide) (Nat.zero_le _) (Nat.zero_le _) ?_
    first | exact ⟨Or.inl ⟨rfl, by omega⟩, rfl, rfl, rfl⟩ | exact ⟨Or.inr ⟨rfl, by omega⟩, rfl, rfl, rfl⟩
  · refine aw_iconst dX2_isFull_12 ?_
    refine aw_goto (tgt := 17) dX2_isFull_13 (by decide) ?_
    refine aw_zret dX2_isFull_17 rfl (by decide) (Nat.zero_le _) (Nat.zero_le _) ?_
    first | exact ⟨Or.inl ⟨rfl, by omega⟩, rfl, rfl, rfl⟩ | exact ⟨Or.inr ⟨rfl, by omega⟩, rfl, rfl, rfl⟩
set_option maxRecDepth 100000 in
set_option maxHeartbeats 4000000 in
theorem c_X2_add {σ j τ i s : Nat} {n : Int} (hW : RW lv V σ j τ i n) (hn : n < (Ln τ i : Nat)) (hne : σ ≠ τ) (hs : lv 5 s = true) : CT l D cA A ad yX2_add cX2_add 2 none rm_X2_add [.inr (some (σ, j)), .inr (some (5, s))] lv V sz (PP none lv (s3 (s3 V τ i n.toNat (.inr (some (5, s)))) σ j 1 (.inl (n + 1))) sz) := by
  refine CT.of2 [some (.inr (some (σ, j))), some (.inr (some (5, s)))] (by decide) (Nat.le_of_ble_eq_true rfl) rfl ?_
  obtain ⟨w1, w2, w3, w4, w5, w6, w7, w8⟩ := hW
  have hLn := Ln_le τ i
  refine aw_aload_n dX2_add_0 rfl rfl ?_
  refine aw_get dX2_add_1 flX2_9 (by decide) (by decide) w1 w2 w6 ?_
  refine aw_aload_n dX2_add_4 rfl rfl ?_
  refine aw_get dX2_add_5 flX2_23 (by decide) (by decide) w1 w2 w3 ?_
  refine aw_alen dX2_add_8 w4 (by decide) w5 ?_
  refine aw_icmp_ge (tgt := 32) dX2_add_9 (by decide) (by omega) (by omega) (fun c_9 => absurd c_9 (by omega)) (fun c_9 => ?_)
  refine aw_aload_n dX2_add_12 rfl rfl ?_
  refine aw_get dX2_add_13 flX2_23 (by decide) (by decide) w1 w2 w3 ?_
  refine aw_aload_n dX2_add_16 rfl rfl ?_
  refine aw_get dX2_add_17 flX2_9 (by decide) (by decide) w1 w2 w6 ?_
  refine aw_aload_n dX2_add_20 rfl rfl ?_
  refine aw_aast dX2_add_21 w4 (by decide) (by decide) w5 (by omega) (by omega) rfl hs ?_
  refine aw_aload_n dX2_add_22 rfl rfl ?_
  refine aw_dup dX2_add_23 ?_
  refine aw_get dX2_add_24 flX2_9 (by decide) (by decide) w1 w2 ((s3_ne (fun q => hne q.1)).trans w6) ?_
  refine aw_iconst dX2_add_27 ?_
  refine aw_iadd dX2_add_28 ?_
  refine aw_put dX2_add_29 flX2_9 (by decide) (by decide) rfl w1 w2 trivial ?_
  refine aw_vret dX2_add_32 rfl (Nat.zero_le _) (Nat.zero_le _) ?_
  exact ⟨rfl, rfl, rfl, rfl⟩
set_option maxRecDepth 100000 in
set_option maxHeartbeats 4000000 in
theorem c_X2_at {σ j τ i : Nat} {n x : Int} {q : Option (Nat × Nat)} (hW : RW lv V σ j τ i n) (h0 : 0 ≤ x) (h1 : x < n) (hv : V τ i x.toNat = .inr q) : CT l D cA A ad yX2_at cX2_at 2 (some (.object "ShipCut$Ship")) rm_X2_at [.inr (some (σ, j)), .inl x] lv V sz (PP (some (.inr q)) lv V sz) := by
  refine CT.of2 [some (.inr (some (σ, j))), some (.inl x)] (by decide) (Nat.le_of_ble_eq_true rfl) rfl ?_
  obtain ⟨w1, w2, w3, w4, w5, w6, w7, w8⟩ := hW
  have hLn := Ln_le τ i
  refine aw_iload_n dX2_at_0 rfl rfl ?_
  refine aw_if_lt (tgt := 21) dX2_at_1 (by decide) (by omega) (fun c_1 => absurd c_1 (by omega)) (fun c_1 => ?_)
  refine aw_iload_n dX2_at_4 rfl rfl ?_
  refine aw_aload_n dX2_at_5 rfl rfl ?_
  refine aw_get dX2_at_6 flX2_9 (by decide) (by decide) w1 w2 w6 ?_
  refine aw_icmp_ge (tgt := 21) dX2_at_9 (by decide) (by omega) (by omega) (fun c_9 => absurd c_9 (by omega)) (fun c_9 => ?_)
  refine aw_aload_n dX2_at_12 rfl rfl ?_
  refine aw_get dX2_at_13 flX2_23 (by decide) (by decide) w1 w2 w3 ?_
  refine aw_iload_n dX2_at_16 rfl rfl ?_
  refine aw_aald dX2_at_17 w4 (by decide) (by decide) w5 (by omega) (by omega) hv ?_
  refine aw_goto (tgt := 22) dX2_at_18 (by decide) ?_
  refine aw_aret dX2_at_22 rfl (Nat.zero_le _) (Nat.zero_le _) ?_
  exact ⟨rfl, rfl, rfl, rfl⟩
set_option maxRecDepth 100000 in
set_option maxHeartbeats 4000000 in
theorem c_X2_at_out {σ j τ i : Nat} {n x : Int} (hW : RW lv V σ j τ i n) (hx : Rg x) (h : x < 0 ∨ n ≤ x) : CT l D cA A ad yX2_at cX2_at 2 (some (.object "ShipCut$Ship")) rm_X2_at [.inr (some (σ, j)), .inl x] lv V sz (PP (some (.inr none)) lv V sz) := by
  refine CT.of2 [some (.inr (some (σ, j))), some (.inl x)] (by decide) (Nat.le_of_ble_eq_true rfl) rfl ?_
  obtain ⟨w1, w2, w3, w4, w5, w6, w7, w8⟩ := hW
  have hLn := Ln_le τ i
  refine aw_iload_n dX2_at_0 rfl rfl ?_
  refine aw_if_lt (tgt := 21) dX2_at_1 (by decide) (by omega) (fun c_1 => ?_) (fun c_1 => ?_)
  · refine aw_null dX2_at_21 ?_
    refine aw_aret dX2_at_22 rfl (Nat.zero_le _) (Nat.zero_le _) ?_
    exact ⟨rfl, rfl, rfl, rfl⟩
  · refine aw_iload_n dX2_at_4 rfl rfl ?_
    refine aw_aload_n dX2_at_5 rfl rfl ?_
    refine aw_get dX2_at_6 flX2_9 (by decide) (by decide) w1 w2 w6 ?_
    refine aw_icmp_ge (tgt := 21) dX2_at_9 (by decide) (by omega) (by omega) (fun c_9 => ?_) (fun c_9 => ?_)
    · refine aw_null dX2_at_21 ?_
      refine aw_aret dX2_at_22 rfl (Nat.zero_le _) (Nat.zero_le _) ?_
      exact ⟨rfl, rfl, rfl, rfl⟩
    · exfalso
      omega
set_option maxRecDepth 100000 in
set_option maxHeartbeats 4000000 in
theorem c_X2_numberAt {σ j τ i s : Nat} {n x e : Int} (hW : RW lv V σ j τ i n) (h0 : 0 ≤ x) (h1 : x < n) (hv : V τ i x.toNat = .inr (some (5, s))) (hs : lv 5 s = true) (hq : V 5 s 0 = .inl e) : CT l D cA A ad yX2_numberAt cX2_numberAt 3 (some .int) rm_X2_numberAt [.inr (some (σ, j)), .inl x] lv V sz (PP (some (.inl e)) lv V sz) := by
  refine CT.of2 [some (.inr (some (σ, j))), some (.inl x), none] (by decide) (Nat.le_of_ble_eq_true rfl) rfl ?_
  refine aw_aload_n dX2_numberAt_0 rfl rfl ?_
  refine aw_iload_n dX2_numberAt_1 rfl rfl ?_
  refine aw_callV (c_X2_at hW h0 h1 hv) mv_X2_at mlX2_27 dX2_numberAt_2 hW.1 hW.2.1 (by decide) rfl (Nat.le_of_ble_eq_true rfl) rfl ?_
  rintro _ _ _ _ ⟨rfl, rfl, rfl, rfl⟩
  refine aw_astore_n dX2_numberAt_5 rfl (by decide) ?_
  refine aw_aload_n dX2_numberAt_6 rfl rfl ?_
  refine aw_ifnonnull_S (tgt := 15) dX2_numberAt_7 (by decide) ?_
  refine aw_aload_n dX2_numberAt_15 rfl rfl ?_
  refine aw_getN dX2_numberAt_16 fnX2_31 (by decide) (by decide) rfl hs hq ?_
  refine aw_iret dX2_numberAt_19 rfl (Nat.zero_le _) (Nat.zero_le _) ?_
  exact ⟨rfl, rfl, rfl, rfl⟩
set_option maxRecDepth 100000 in
set_option maxHeartbeats 4000000 in
theorem c_X2_numberAt_out {σ j τ i : Nat} {n x : Int} (hW : RW lv V σ j τ i n) (hx : Rg x) (h : x < 0 ∨ n ≤ x) : CT l D cA A ad yX2_numberAt cX2_numberAt 3 (some .int) rm_X2_numberAt [.inr (some (σ, j)), .inl x] lv V sz (PP (some (.inl (-4))) lv V sz) := by
  refine CT.of2 [some (.inr (some (σ, j))), some (.inl x), none] (by decide) (Nat.le_of_ble_eq_true rfl) rfl ?_
  refine aw_aload_n dX2_numberAt_0 rfl rfl ?_
  refine aw_iload_n dX2_numberAt_1 rfl rfl ?_
  refine aw_callV (c_X2_at_out hW hx h) mv_X2_at mlX2_27 dX2_numberAt_2 hW.1 hW.2.1 (by decide) rfl (Nat.le_of_ble_eq_true rfl) rfl ?_
  rintro _ _ _ _ ⟨rfl, rfl, rfl, rfl⟩
  refine aw_astore_n dX2_numberAt_5 rfl (by decide) ?_
  refine aw_aload_n dX2_numberAt_6 rfl rfl ?_
  refine aw_ifnonnull_N dX2_numberAt_7 ?_
  refine aw_bipush dX2_numberAt_10 (by decide) ?_
  refine aw_goto (tgt := 19) dX2_numberAt_12 (by decide) ?_
  refine aw_iret dX2_numberAt_19 rfl (Nat.zero_le _) (Nat.zero_le _) ?_
  exact ⟨rfl, rfl, rfl, rfl⟩
set_option maxRecDepth 100000 in
set_option maxHeartbeats 4000000 in
theorem c_X4_isAground {s : Nat} {u t : Int} (hs : lv 5 s = true) (hu : V 5 s 15 = .inl u) (hru : Rg u) (ht : Rg t) : CT l D cA A ad yX4_isAground cX4_isAground 2 (some .boolean) rm_X4_isAground [.inr (some (5, s)), .inl t] lv V sz (PB (t < u) lv V sz) := by
  refine CT.of2 [some (.inr (some (5, s))), some (.inl t)] (by decide) (Nat.le_of_ble_eq_true rfl) rfl ?_
  refine aw_aload_n dX4_isAground_0 rfl rfl ?_
  refine aw_get dX4_isAground_1 flX4_38 (by decide) (by decide) rfl hs hu ?_
  refine aw_iload_n dX4_isAground_4 rfl rfl ?_
  refine aw_icmp_le (tgt := 12) dX4_isAground_5 (by decide) (by omega) (by omega) (fun c_5 => ?_) (fun c_5 => ?_)
  · refine aw_iconst dX4_isAground_12 ?_
    refine aw_zret dX4_isAground_13 rfl (by decide) (Nat.zero_le _) (Nat.zero_le _) ?_
    first | exact ⟨Or.inl ⟨rfl, by omega⟩, rfl, rfl, rfl⟩ | exact ⟨Or.inr ⟨rfl, by omega⟩, rfl, rfl, rfl⟩
  · refine aw_iconst dX4_isAground_8 ?_
    refine aw_goto (tgt := 13) dX4_isAground_9 (by decide) ?_
    refine aw_zret dX4_isAground_13 rfl (by decide) (Nat.zero_le _) (Nat.zero_le _) ?_
    first | exact ⟨Or.inl ⟨rfl, by omega⟩, rfl, rfl, rfl⟩ | exact ⟨Or.inr ⟨rfl, by omega⟩, rfl, rfl, rfl⟩
set_option maxRecDepth 100000 in
set_option maxHeartbeats 4000000 in
theorem c_X4_isInSection {s : Nat} {p : Int} (hs : lv 5 s = true) (hp : V 5 s 8 = .inl p) (hrp : Rg p) : CT l D cA A ad yX4_isInSection cX4_isInSection 1 (some .boolean) rm_X4_isInSection [.inr (some (5, s))] lv V sz (PB (p ≠ -1 ∧ p ≠ 8) lv V sz) := by
  refine CT.of2 [some (.inr (some (5, s)))] (by decide) (Nat.le_of_ble_eq_true rfl) rfl ?_
  refine aw_aload_n dX4_isInSection_0 rfl rfl ?_
  refine aw_get dX4_isInSection_1 flX4_15 (by decide) (by decide) rfl hs hp ?_
  refine aw_iconst dX4_isInSection_4 ?_
  refine aw_icmp_eq (tgt := 21) dX4_isInSection_5 (by decide) (by omega) (by omega) (fun c_5 => ?_) (fun c_5 => ?_)
  · refine aw_iconst dX4_isInSection_21 ?_
    refine aw_zret dX4_isInSection_22 rfl (by decide) (Nat.zero_le _) (Nat.zero_le _) ?_
    first | exact ⟨Or.inl ⟨rfl, by omega⟩, rfl, rfl, rfl⟩ | exact ⟨Or.inr ⟨rfl, by omega⟩, rfl, rfl, rfl⟩
  · refine aw_aload_n dX4_isInSection_8 rfl rfl ?_
    refine aw_get dX4_isInSection_9 flX4_15 (by decide) (by decide) rfl hs hp ?_
    refine aw_bipush dX4_isInSection_12 (by decide) ?_
    refine aw_icmp_eq (tgt := 21) dX4_isInSection_14 (by decide) (by omega) (by omega) (fun c_14 => ?_) (fun c_14 => ?_)
    · refine aw_iconst dX4_isInSection_21 ?_
      refine aw_zret dX4_isInSection_22 rfl (by decide) (Nat.zero_le _) (Nat.zero_le _) ?_
      first | exact ⟨Or.inl ⟨rfl, by omega⟩, rfl, rfl, rfl⟩ | exact ⟨Or.inr ⟨rfl, by omega⟩, rfl, rfl, rfl⟩
    · refine aw_iconst dX4_isInSection_17 ?_
      refine aw_goto (tgt := 22) dX4_isInSection_18 (by decide) ?_
      refine aw_zret dX4_isInSection_22 rfl (by decide) (Nat.zero_le _) (Nat.zero_le _) ?_
      first | exact ⟨Or.inl ⟨rfl, by omega⟩, rfl, rfl, rfl⟩ | exact ⟨Or.inr ⟨rfl, by omega⟩, rfl, rfl, rfl⟩
set_option maxRecDepth 100000 in
set_option maxHeartbeats 4000000 in
theorem lp_X2_hasAground {σ j τ i : Nat} {n t : Int} {e : Nat → Nat} {u : Nat → Int} (hW : RW lv V σ j τ i n) (ht : Rg t) (he : ∀ k : Nat, (k : Int) < n → V τ i k = .inr (some (5, e k)) ∧ lv 5 (e k) = true ∧ V 5 (e k) 15 = .inl (u k) ∧ Rg (u k)) : ∀ (f k : Nat), k + f = n.toNat → exB (fun k => decide (t < u k)) k = false → AW l D cA A ad yX2_hasAground cX2_hasAground 4 (some .boolean) rm_X2_hasAground (PP (some (.inl (b2i (exB (fun k => decide (t < u k)) n.toNat)))) lv V sz) 0 0 lv V sz 2 [some (.inr (some (σ, j))), some (.inl t), some (.inl (k : Int)), none] [] := by
  obtain ⟨w1, w2, w3, w4, w5, w6, w7, w8⟩ := id hW
  have hLn := Ln_le τ i
  intro f
  induction f with
  | zero =>
    intro k hk hf
    refine aw_iload_n dX2_hasAground_2 rfl rfl ?_
    refine aw_aload_n dX2_hasAground_3 rfl rfl ?_
    refine aw_get dX2_hasAground_4 flX2_9 (by decide) (by decide) w1 w2 w6 ?_
    refine aw_icmp_ge (tgt := 36) dX2_hasAground_7 (by decide) (by omega) (by omega) (fun c_7 => ?_) (fun c_7 => absurd c_7 (by omega))
    refine aw_iconst dX2_hasAground_36 ?_
    refine aw_zret dX2_hasAground_37 rfl (by decide) (Nat.zero_le _) (Nat.zero_le _) ?_
    rw [show n.toNat = k by omega, hf]
    exact ⟨rfl, rfl, rfl, rfl⟩
  | succ f ih =>
    intro k hk hf
    obtain ⟨e1, e2, e3, e4⟩ := he k (by omega)
    refine aw_iload_n dX2_hasAground_2 rfl rfl ?_
    refine aw_aload_n dX2_hasAground_3 rfl rfl ?_
    refine aw_get dX2_hasAground_4 flX2_9 (by decide) (by decide) w1 w2 w6 ?_
    refine aw_icmp_ge (tgt := 36) dX2_hasAground_7 (by decide) (by omega) (by omega) (fun c_7 => absurd c_7 (by omega)) (fun c_7 => ?_)
    refine aw_aload_n dX2_hasAground_10 rfl rfl ?_
    refine aw_iload_n dX2_hasAground_11 rfl rfl ?_
    refine aw_callV (c_X2_at (x := (k : Int)) hW (by omega) (by omega) e1) mv_X2_at mlX2_27 dX2_hasAground_12 w1 w2 (by decide) rfl (Nat.le_of_ble_eq_true rfl) rfl ?_
    rintro _ _ _ _ ⟨rfl, rfl, rfl, rfl⟩
    refine aw_astore_n dX2_hasAground_15 rfl (by decide) ?_
    refine aw_aload_n dX2_hasAground_16 rfl rfl ?_
    refine aw_ifnull_S dX2_hasAground_17 ?_
    refine aw_aload_n dX2_hasAground_20 rfl rfl ?_
    refine aw_iload_n dX2_hasAground_21 rfl rfl ?_
    refine aw_callV (c_X4_isAground e2 e3 e4 ht) mv_X4_isAground mlX2_34 dX2_hasAground_22 rfl e2 (by decide) rfl (Nat.le_of_ble_eq_true rfl) rfl ?_
    rintro _ _ _ _ ⟨⟨rfl, hI⟩ | ⟨rfl, hI⟩, rfl, rfl, rfl⟩
    · refine aw_if_eq (tgt := 30) dX2_hasAground_25 (by decide) (by omega) (fun c_25 => absurd c_25 (by decide)) (fun _ => ?_)
      refine aw_iconst dX2_hasAground_28 ?_
      refine aw_zret dX2_hasAground_29 rfl (by decide) (Nat.zero_le _) (Nat.zero_le _) ?_
      have hx : ∀ g : Nat, exB (fun k => decide (t < u k)) (k + 1 + g) = true := by
        intro g
        induction g with
        | zero => simp only [Nat.add_zero, exB]; rw [decide_eq_true hI, Bool.or_true]
        | succ g ig => rw [← Nat.add_assoc, exB, ig, Bool.true_or]
      rw [show n.toNat = k + 1 + f by omega, hx f]
      exact ⟨rfl, rfl, rfl, rfl⟩
    · refine aw_if_eq (tgt := 30) dX2_hasAground_25 (by decide) (by omega) (fun _ => ?_) (fun c_25 => absurd c_25 (by decide))
      refine aw_iinc dX2_hasAground_30 rfl (by decide) ?_
      refine aw_goto (tgt := 2) dX2_hasAground_33 (by decide) ?_
      exact AW.lss (ih (k + 1) (by omega) (by rw [exB, hf, decide_eq_false hI]; rfl)) (And.intro rfl (And.intro rfl (And.intro rfl trivial)))
set_option maxRecDepth 100000 in
set_option maxHeartbeats 4000000 in
theorem c_X2_hasAground {σ j τ i : Nat} {n t : Int} {e : Nat → Nat} {u : Nat → Int} (hW : RW lv V σ j τ i n) (ht : Rg t) (he : ∀ k : Nat, (k : Int) < n → V τ i k = .inr (some (5, e k)) ∧ lv 5 (e k) = true ∧ V 5 (e k) 15 = .inl (u k) ∧ Rg (u k)) : CT l D cA A ad yX2_hasAground cX2_hasAground 4 (some .boolean) rm_X2_hasAground [.inr (some (σ, j)), .inl t] lv V sz (PP (some (.inl (b2i (exB (fun k => decide (t < u k)) n.toNat)))) lv V sz) := by
  refine CT.of2 [some (.inr (some (σ, j))), some (.inl t), none, none] (by decide) (Nat.le_of_ble_eq_true rfl) rfl ?_
  refine aw_iconst dX2_hasAground_0 ?_
  refine aw_istore_n dX2_hasAground_1 rfl (by decide) ?_
  exact AW.lss (lp_X2_hasAground hW ht he n.toNat 0 (by omega) rfl) (And.intro rfl (And.intro rfl (And.intro rfl trivial)))
def shV (V : Vw) (τ i : Nat) : Nat → Vw
  | 0 => V
  | m + 1 => s3 (shV V τ i m) τ i m (shV V τ i m τ i (m + 1))
theorem shV_at (V : Vw) (τ i m σ' i' k' : Nat) : shV V τ i m σ' i' k' = if σ' = τ ∧ i' = i ∧ k' < m then V τ i (k' + 1) else V σ' i' k' := by
  induction m generalizing σ' i' k' with
  | zero => simp [shV]
  | succ m ih =>
    simp only [shV, s3]
    by_cases h : σ' = τ ∧ i' = i ∧ k' = m
    · obtain ⟨rfl, rfl, rfl⟩ := h
      rw [if_pos ⟨rfl, rfl, rfl⟩, ih, if_neg (by omega), if_pos ⟨rfl, rfl, by omega⟩]
    · rw [if_neg h, ih]
      by_cases h2 : σ' = τ ∧ i' = i ∧ k' < m
      · rw [if_pos h2, if_pos ⟨h2.1, h2.2.1, by omega⟩]
      · rw [if_neg h2, if_neg]
        rintro ⟨a, b, c⟩
        by_cases h3 : k' = m
        · exact h ⟨a, b, h3⟩
        · exact h2 ⟨a, b, by omega⟩
def rmV (V : Vw) (σ j τ i : Nat) (n : Int) : Vw := s3 (s3 (shV V τ i (n - 1).toNat) σ j 1 (.inl (n - 1))) τ i (n - 1).toNat (.inr none)
set_option maxRecDepth 100000 in
set_option maxHeartbeats 4000000 in
theorem lp_X2_removeFirst {σ j τ i : Nat} {n : Int} {e : Nat → Nat} (hW : RW lv V σ j τ i n) (hne : σ ≠ τ) (h1 : 1 ≤ n) (he : ∀ k : Nat, 1 ≤ k → (k : Int) < n → V τ i k = .inr (some (5, e k)) ∧ lv 5 (e k) = true) (hk : AW l D cA A ad yX2_removeFirst cX2_removeFirst 2 none rm_X2_removeFirst (PP none lv (rmV V σ j τ i n) sz) 0 0 lv (shV V τ i (n - 1).toNat) sz 38 [some (.inr (some (σ, j))), none] []) : ∀ (f k : Nat), k + f = (n - 1).toNat → AW l D cA A ad yX2_removeFirst cX2_removeFirst 2 none rm_X2_removeFirst (PP none lv (rmV V σ j τ i n) sz) 0 0 lv (shV V τ i k) sz 10 [some (.inr (some (σ, j))), some (.inl ((k : Int) + 1))] [] := by
  obtain ⟨w1, w2, w3, w4, w5, w6, w7, w8⟩ := id hW
  have hLn := Ln_le τ i
  have g3 : ∀ k : Nat, shV V τ i k σ j 0 = .inr (some (τ, i)) := fun k => by rw [shV_at, if_neg (fun q => hne q.1)]; exact w3
  have g6 : ∀ k : Nat, shV V τ i k σ j 1 = .inl n := fun k => by rw [shV_at, if_neg (fun q => hne q.1)]; exact w6
  intro f
  induction f with
  | zero =>
    intro k hkf
    refine aw_iload_n dX2_removeFirst_10 rfl rfl ?_
    refine aw_aload_n dX2_removeFirst_11 rfl rfl ?_
    refine aw_get dX2_removeFirst_12 flX2_9 (by decide) (by decide) w1 w2 (g6 k) ?_
    refine aw_icmp_ge (tgt := 38) dX2_removeFirst_15 (by decide) (by omega) (by omega) (fun c_15 => ?_) (fun c_15 => absurd c_15 (by omega))
    rw [show k = (n - 1).toNat by omega]
    exact AW.lss hk (And.intro rfl trivial)
  | succ f ih =>
    intro k hkf
    obtain ⟨e1, e2⟩ := he (k + 1) (by omega) (by omega)
    have ek : ((k : Int) + 1).toNat = k + 1 := by omega
    have ek2 : ((k : Int) + 1 - 1).toNat = k := by omega
    have e3 : shV V τ i k τ i ((k : Int) + 1).toNat = .inr (some (5, e (k + 1))) := by rw [ek, shV_at, if_neg (by omega)]; exact e1
    have e4 : shV V τ i (k + 1) = s3 (shV V τ i k) τ i ((k : Int) + 1 - 1).toNat (.inr (some (5, e (k + 1)))) := by
      rw [ek2, shV, show shV V τ i k τ i (k + 1) = .inr (some (5, e (k + 1))) from by rw [shV_at, if_neg (by omega)]; exact e1]
    refine aw_iload_n dX2_removeFirst_10 rfl rfl ?_
    refine aw_aload_n dX2_removeFirst_11 rfl rfl ?_
    refine aw_get dX2_removeFirst_12 flX2_9 (by decide) (by decide) w1 w2 (g6 k) ?_
    refine aw_icmp_ge (tgt := 38) dX2_removeFirst_15 (by decide) (by omega) (by omega) (fun c_15 => absurd c_15 (by omega)) (fun c_15 => ?_)
    refine aw_aload_n dX2_removeFirst_18 rfl rfl ?_
    refine aw_get dX2_removeFirst_19 flX2_23 (by decide) (by decide) w1 w2 (g3 k) ?_
    refine aw_iload_n dX2_removeFirst_22 rfl rfl ?_
    refine aw_iconst dX2_removeFirst_23 ?_
    refine aw_isub dX2_removeFirst_24 ?_
    refine aw_aload_n dX2_removeFirst_25 rfl rfl ?_
    refine aw_get dX2_removeFirst_26 flX2_23 (by decide) (by decide) w1 w2 (g3 k) ?_
    refine aw_iload_n dX2_removeFirst_29 rfl rfl ?_
    refine aw_aald dX2_removeFirst_30 w4 (by decide) (by decide) w5 (by omega) (by omega) e3 ?_
    refine aw_aast dX2_removeFirst_31 w4 (by decide) (by decide) w5 (by omega) (by omega) rfl e2 ?_
    refine aw_iinc dX2_removeFirst_32 rfl (by decide) ?_
    refine aw_goto (tgt := 10) dX2_removeFirst_35 (by decide) ?_
    exact AW.lsV (ih (k + 1) (by omega)) (And.intro rfl (And.intro rfl trivial)) e4.symm
set_option maxRecDepth 100000 in
set_option maxHeartbeats 4000000 in
theorem c_X2_removeFirst {σ j τ i : Nat} {n : Int} {e : Nat → Nat} (hW : RW lv V σ j τ i n) (hne : σ ≠ τ) (h1 : 1 ≤ n) (he : ∀ k : Nat, 1 ≤ k → (k : Int) < n → V τ i k = .inr (some (5, e k)) ∧ lv 5 (e k) = true) : CT l D cA A ad yX2_removeFirst cX2_removeFirst 2 none rm_X2_removeFirst [.inr (some (σ, j))] lv V sz (PP none lv (rmV V σ j τ i n) sz) := by
  refine CT.of2 [some (.inr (some (σ, j))), none] (by decide) (Nat.le_of_ble_eq_true rfl) rfl ?_
  obtain ⟨w1, w2, w3, w4, w5, w6, w7, w8⟩ := id hW
  have hLn := Ln_le τ i
  have g3 : ∀ k : Nat, shV V τ i k σ j 0 = .inr (some (τ, i)) := fun k => by rw [shV_at, if_neg (fun q => hne q.1)]; exact w3
  have g6 : ∀ k : Nat, shV V τ i k σ j 1 = .inl n := fun k => by rw [shV_at, if_neg (fun q => hne q.1)]; exact w6
  refine aw_aload_n dX2_removeFirst_0 rfl rfl ?_
  refine aw_get dX2_removeFirst_1 flX2_9 (by decide) (by decide) w1 w2 w6 ?_
  refine aw_if_ne (tgt := 8) dX2_removeFirst_4 (by decide) (by omega) (fun c_4 => ?_) (fun c_4 => absurd c_4 (by omega))
  refine aw_iconst dX2_removeFirst_8 ?_
  refine aw_istore_n dX2_removeFirst_9 rfl (by decide) ?_
  refine AW.lss (lp_X2_removeFirst hW hne h1 he ?_ (n - 1).toNat 0 (by omega)) (And.intro rfl (And.intro rfl trivial))
  refine aw_aload_n dX2_removeFirst_38 rfl rfl ?_
  refine aw_dup dX2_removeFirst_39 ?_
  refine aw_get dX2_removeFirst_40 flX2_9 (by decide) (by decide) w1 w2 (g6 (n - 1).toNat) ?_
  refine aw_iconst dX2_removeFirst_43 ?_
  refine aw_isub dX2_removeFirst_44 ?_
  refine aw_put dX2_removeFirst_45 flX2_9 (by decide) (by decide) rfl w1 w2 trivial ?_
  refine aw_aload_n dX2_removeFirst_48 rfl rfl ?_
  refine aw_get dX2_removeFirst_49 flX2_23 (by decide) (by decide) w1 w2 ((s3_ne (by omega)).trans (g3 _)) ?_
  refine aw_aload_n dX2_removeFirst_52 rfl rfl ?_
  refine aw_get dX2_removeFirst_53 flX2_9 (by decide) (by decide) w1 w2 (s3_self _ _ _ _ _) ?_
  refine aw_null dX2_removeFirst_56 ?_
  refine aw_aastN dX2_removeFirst_57 w4 (by decide) (by decide) w5 (by omega) (by omega) ?_
  refine aw_vret dX2_removeFirst_58 rfl (Nat.zero_le _) (Nat.zero_le _) ?_
  exact ⟨rfl, rfl, rfl, rfl⟩
set_option maxRecDepth 100000 in
set_option maxHeartbeats 4000000 in
theorem c0_X3_lane {i : Nat} {q : Option (Nat × Nat)} (hs : lv 1 i = true) (h4 : V 1 i 4 = .inr q) : CT l D cA A ad yX3_lane cX3_lane 2 (some (.object "ShipCut$Lane")) rm_X3_lane [.inr (some (1, i)), .inl 0] lv V sz (PP (some (.inr q)) lv V sz) := by
  refine CT.of2 [some (.inr (some (1, i))), some (.inl 0)] (by decide) (Nat.le_of_ble_eq_true rfl) rfl ?_
  refine aw_iload_n dX3_lane_0 rfl rfl ?_
  refine aw_if_ne (tgt := 11) dX3_lane_1 (by decide) (by omega) (fun c_1 => absurd c_1 (by decide)) (fun c_1 => ?_)
  refine aw_aload_n dX3_lane_4 rfl rfl ?_
  refine aw_get dX3_lane_5 flX3_25 (by decide) (by decide) rfl hs h4 ?_
  refine aw_goto (tgt := 15) dX3_lane_8 (by decide) ?_
  refine aw_aret dX3_lane_15 rfl (Nat.zero_le _) (Nat.zero_le _) ?_
  exact ⟨rfl, rfl, rfl, rfl⟩
set_option maxRecDepth 100000 in
set_option maxHeartbeats 4000000 in
theorem c1_X3_lane {i : Nat} {q : Option (Nat × Nat)} (hs : lv 1 i = true) (h5 : V 1 i 5 = .inr q) : CT l D cA A ad yX3_lane cX3_lane 2 (some (.object "ShipCut$Lane")) rm_X3_lane [.inr (some (1, i)), .inl 1] lv V sz (PP (some (.inr q)) lv V sz) := by
  refine CT.of2 [some (.inr (some (1, i))), some (.inl 1)] (by decide) (Nat.le_of_ble_eq_true rfl) rfl ?_
  refine aw_iload_n dX3_lane_0 rfl rfl ?_
  refine aw_if_ne (tgt := 11) dX3_lane_1 (by decide) (by omega) (fun c_1 => ?_) (fun c_1 => absurd c_1 (by decide))
  refine aw_aload_n dX3_lane_11 rfl rfl ?_
  refine aw_get dX3_lane_12 flX3_29 (by decide) (by decide) rfl hs h5 ?_
  refine aw_aret dX3_lane_15 rfl (Nat.zero_le _) (Nat.zero_le _) ?_
  exact ⟨rfl, rfl, rfl, rfl⟩
set_option maxRecDepth 100000 in
set_option maxHeartbeats 4000000 in
theorem c_X5_within {v a b : Int} (hv : Rg v) (ha : Rg a) (hb : Rg b) : CT l D cA A ad yX5_within cX5_within 3 (some .boolean) rm_X5_within [.inl v, .inl a, .inl b] lv V sz (PB (a ≤ v ∧ v ≤ b) lv V sz) := by
  refine CT.of2 [some (.inl v), some (.inl a), some (.inl b)] (by decide) (Nat.le_of_ble_eq_true rfl) rfl ?_
  refine aw_iload_n dX5_within_0 rfl rfl ?_
  refine aw_iload_n dX5_within_1 rfl rfl ?_
  refine aw_icmp_lt (tgt := 14) dX5_within_2 (by decide) (by omega) (by omega) (fun c_2 => ?_) (fun c_2 => ?_)
  · refine aw_iconst dX5_within_14 ?_
    refine aw_zret dX5_within_15 rfl (by decide) (Nat.zero_le _) (Nat.zero_le _) ?_
    first | exact ⟨Or.inl ⟨rfl, by omega⟩, rfl, rfl, rfl⟩ | exact ⟨Or.inr ⟨rfl, by omega⟩, rfl, rfl, rfl⟩
  · refine aw_iload_n dX5_within_5 rfl rfl ?_
    refine aw_iload_n dX5_within_6 rfl rfl ?_
    refine aw_icmp_gt (tgt := 14) dX5_within_7 (by decide) (by omega) (by omega) (fun c_7 => ?_) (fun c_7 => ?_)
    · refine aw_iconst dX5_within_14 ?_
      refine aw_zret dX5_within_15 rfl (by decide) (Nat.zero_le _) (Nat.zero_le _) ?_
      first | exact ⟨Or.inl ⟨rfl, by omega⟩, rfl, rfl, rfl⟩ | exact ⟨Or.inr ⟨rfl, by omega⟩, rfl, rfl, rfl⟩
    · refine aw_iconst dX5_within_10 ?_
      refine aw_goto (tgt := 15) dX5_within_11 (by decide) ?_
      refine aw_zret dX5_within_15 rfl (by decide) (Nat.zero_le _) (Nat.zero_le _) ?_
      first | exact ⟨Or.inl ⟨rfl, by omega⟩, rfl, rfl, rfl⟩ | exact ⟨Or.inr ⟨rfl, by omega⟩, rfl, rfl, rfl⟩
set_option maxRecDepth 100000 in
set_option maxHeartbeats 4000000 in
theorem c_X5_isWay {v : Int} (hv : Rg v) : CT l D cA A ad yX5_isWay cX5_isWay 1 (some .boolean) rm_X5_isWay [.inl v] lv V sz (PB (v = 0 ∨ v = 1) lv V sz) := by
  refine CT.of2 [some (.inl v)] (by decide) (Nat.le_of_ble_eq_true rfl) rfl ?_
  refine aw_iload_n dX5_isWay_0 rfl rfl ?_
  refine aw_if_eq (tgt := 9) dX5_isWay_1 (by decide) (by omega) (fun c_1 => ?_) (fun c_1 => ?_)
  · refine aw_iconst dX5_isWay_9 ?_
    refine aw_goto (tgt := 14) dX5_isWay_10 (by decide) ?_
    refine aw_zret dX5_isWay_14 rfl (by decide) (Nat.zero_le _) (Nat.zero_le _) ?_
    first | exact ⟨Or.inl ⟨rfl, by omega⟩, rfl, rfl, rfl⟩ | exact ⟨Or.inr ⟨rfl, by omega⟩, rfl, rfl, rfl⟩
  · refine aw_iload_n dX5_isWay_4 rfl rfl ?_
    refine aw_iconst dX5_isWay_5 ?_
    refine aw_icmp_ne (tgt := 13) dX5_isWay_6 (by decide) (by omega) (by omega) (fun c_6 => ?_) (fun c_6 => ?_)
    · refine aw_iconst dX5_isWay_13 ?_
      refine aw_zret dX5_isWay_14 rfl (by decide) (Nat.zero_le _) (Nat.zero_le _) ?_
      first | exact ⟨Or.inl ⟨rfl, by omega⟩, rfl, rfl, rfl⟩ | exact ⟨Or.inr ⟨rfl, by omega⟩, rfl, rfl, rfl⟩
    · refine aw_iconst dX5_isWay_9 ?_
      refine aw_goto (tgt := 14) dX5_isWay_10 (by decide) ?_
      refine aw_zret dX5_isWay_14 rfl (by decide) (Nat.zero_le _) (Nat.zero_le _) ?_
      first | exact ⟨Or.inl ⟨rfl, by omega⟩, rfl, rfl, rfl⟩ | exact ⟨Or.inr ⟨rfl, by omega⟩, rfl, rfl, rfl⟩
end CLS1
