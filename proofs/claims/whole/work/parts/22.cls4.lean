section CLS4
variable {l : Launch} {D : va_G} {cA : Nat → ClassId} {A : Nat → Prop} {ad : Ad} {ns nc : Int} {V : Vw} {sz : Nat} {S : SS}
theorem toC_eq {S T : SS} {σ i k : Nat} (h : ∀ b K x, src σ i k = some (b, K, x) → T K x = S K x) : toC T σ i k = toC S σ i k := by
  unfold toC
  cases hs : src σ i k with
  | none => rfl
  | some q =>
    obtain ⟨b, K, x⟩ := q
    have e := h b K x hs
    cases b <;> simp only [e]
theorem RepC.popLane {S : SS} {V : Vw} {j : Nat} (hR : RepC S V) (hj : j < 16) (hn : 1 ≤ S 33 j ∧ S 33 j ≤ 3) : RepC (shf (u2 S 33 j (S 33 j - 1)) 34 (30 * (j : Int)) (S 33 j - 1).toNat) (rmV V 30 j 40 j (S 33 j)) := by
  have eK : ∀ x, shf (u2 S 33 j (S 33 j - 1)) 34 (30 * (j : Int)) (S 33 j - 1).toNat 33 x = if x = (j : Int) then S 33 j - 1 else S 33 x := fun x => by rw [shf_ne (by decide), u2_at]
  have eO : ∀ k x, k ≠ 33 → k ≠ 34 → shf (u2 S 33 j (S 33 j - 1)) 34 (30 * (j : Int)) (S 33 j - 1).toNat k x = S k x := fun k x h1 h2 => by rw [shf_ne h2, u2_ne h1]
  have eA : ∀ x, shf (u2 S 33 j (S 33 j - 1)) 34 (30 * (j : Int)) (S 33 j - 1).toNat 34 x = if 30 * (j : Int) ≤ x ∧ x < 30 * (j : Int) + (S 33 j - 1).toNat then S 34 (x + 1) else S 34 x := fun x => by rw [shf_at, u2_ne (by decide), u2_ne (by decide)]
  generalize shf (u2 S 33 j (S 33 j - 1)) 34 (30 * (j : Int)) (S 33 j - 1).toNat = T at eK eO eA
  intro σ i k hd
  by_cases e1 : σ = 30 ∧ i = j ∧ k = 1
  · obtain ⟨rfl, rfl, rfl⟩ := e1
    rw [rmV, s3_ne (by omega), s3_self]
    simp only [toC, src]
    rw [eK, if_pos rfl]
  · by_cases e2 : σ = 40 ∧ i = j
    · obtain ⟨rfl, rfl⟩ := e2
      simp only [okd, eK, if_true] at hd
      rw [rmV, s3_ne (by omega), s3_ne (by omega), shV_at, if_pos ⟨rfl, rfl, by omega⟩, hR 40 i (k + 1) ⟨⟨hj, by omega⟩, by omega⟩]
      simp only [toC, src]
      rw [eA, if_pos (by omega)]
      rw [show (30 * (i : Int) + ((k + 1 : Nat) : Int)) = 30 * (i : Int) + (k : Int) + 1 by omega]
    · have hd0 : okd S σ i k := by
        by_cases hσ : σ = 40
        · subst hσ
          have hij : ¬ (i : Int) = j := fun q => e2 ⟨rfl, by omega⟩
          simp only [okd, eK, if_neg hij] at hd ⊢
          exact hd
        · revert hd
          unfold okd
          split <;> first | (exact absurd rfl hσ) | (simp only [eO 8 _ (by decide) (by decide), eO 24 _ (by decide) (by decide), eO 27 _ (by decide) (by decide), eO 29 _ (by decide) (by decide)]; exact id) | (first | (rw [eO _ _ (by decide) (by decide)]; exact id) | exact id)
      rw [rmV, s3_ne (fun q => e2 ⟨q.1, q.2.1⟩), s3_ne e1, shV_at, if_neg (fun q => e2 ⟨q.1, q.2.1⟩), hR _ _ _ hd0]
      refine (toC_eq (fun b K x hs => ?_)).symm
      have h1 := src_inv hd0 hs
      by_cases k1 : K = 33
      · subst k1
        simp only [inv, Prod.mk.injEq] at h1
        rw [eK, if_neg]
        intro q
        exact e1 ⟨h1.1.symm, by omega, h1.2.2.symm⟩
      · by_cases k2 : K = 34
        · subst k2
          simp only [inv, Prod.mk.injEq] at h1
          rw [eA, if_neg]
          intro q
          exact e2 ⟨h1.1.symm, by omega⟩
        · exact eO K x k1 k2
theorem RepC.popLine {S : SS} {V : Vw} {j : Nat} (hR : RepC S V) (hj : j < 2) (hn : 1 ≤ S 31 j ∧ S 31 j ≤ 30) : RepC (shf (u2 S 31 j (S 31 j - 1)) 32 (30 * (j : Int)) (S 31 j - 1).toNat) (rmV V 31 j 41 j (S 31 j)) := by
  have eK : ∀ x, shf (u2 S 31 j (S 31 j - 1)) 32 (30 * (j : Int)) (S 31 j - 1).toNat 31 x = if x = (j : Int) then S 31 j - 1 else S 31 x := fun x => by rw [shf_ne (by decide), u2_at]
  have eO : ∀ k x, k ≠ 31 → k ≠ 32 → shf (u2 S 31 j (S 31 j - 1)) 32 (30 * (j : Int)) (S 31 j - 1).toNat k x = S k x := fun k x h1 h2 => by rw [shf_ne h2, u2_ne h1]
  have eA : ∀ x, shf (u2 S 31 j (S 31 j - 1)) 32 (30 * (j : Int)) (S 31 j - 1).toNat 32 x = if 30 * (j : Int) ≤ x ∧ x < 30 * (j : Int) + (S 31 j - 1).toNat then S 32 (x + 1) else S 32 x := fun x => by rw [shf_at, u2_ne (by decide), u2_ne (by decide)]
  generalize shf (u2 S 31 j (S 31 j - 1)) 32 (30 * (j : Int)) (S 31 j - 1).toNat = T at eK eO eA
  intro σ i k hd
  by_cases e1 : σ = 31 ∧ i = j ∧ k = 1
  · obtain ⟨rfl, rfl, rfl⟩ := e1
    rw [rmV, s3_ne (by omega), s3_self]
    simp only [toC, src]
    rw [eK, if_pos rfl]
  · by_cases e2 : σ = 41 ∧ i = j
    · obtain ⟨rfl, rfl⟩ := e2
      simp only [okd, eK, if_true] at hd
      rw [rmV, s3_ne (by omega), s3_ne (by omega), shV_at, if_pos ⟨rfl, rfl, by omega⟩, hR 41 i (k + 1) ⟨⟨hj, by omega⟩, by omega⟩]
      simp only [toC, src]
      rw [eA, if_pos (by omega)]
      rw [show (30 * (i : Int) + ((k + 1 : Nat) : Int)) = 30 * (i : Int) + (k : Int) + 1 by omega]
    · have hd0 : okd S σ i k := by
        by_cases hσ : σ = 41
        · subst hσ
          have hij : ¬ (i : Int) = j := fun q => e2 ⟨rfl, by omega⟩
          simp only [okd, eK, if_neg hij] at hd ⊢
          exact hd
        · revert hd
          unfold okd
          split <;> first | (exact absurd rfl hσ) | (simp only [eO 8 _ (by decide) (by decide), eO 24 _ (by decide) (by decide), eO 27 _ (by decide) (by decide), eO 29 _ (by decide) (by decide)]; exact id) | (first | (rw [eO _ _ (by decide) (by decide)]; exact id) | exact id)
      rw [rmV, s3_ne (fun q => e2 ⟨q.1, q.2.1⟩), s3_ne e1, shV_at, if_neg (fun q => e2 ⟨q.1, q.2.1⟩), hR _ _ _ hd0]
      refine (toC_eq (fun b K x hs => ?_)).symm
      have h1 := src_inv hd0 hs
      by_cases k1 : K = 31
      · subst k1
        simp only [inv, Prod.mk.injEq] at h1
        rw [eK, if_neg]
        intro q
        exact e1 ⟨h1.1.symm, by omega, h1.2.2.symm⟩
      · by_cases k2 : K = 32
        · subst k2
          simp only [inv, Prod.mk.injEq] at h1
          rw [eA, if_neg]
          intro q
          exact e2 ⟨h1.1.symm, by omega⟩
        · exact eO K x k1 k2
/-- as gos, but the ship is still in its row -/
def gosC (S : SS) (s : Int) (sec : Nat) : Bool × SS :=
  if (sec : Int) = (if S 9 s = 0 then 7 else 0) then (true, u2 (u2 S 15 s 8) 20 s (S 0 0))
  else if 0 ≤ cause S s (if S 9 s = 0 then sec + 1 else sec - 1) then (false, wt S (7 * s + cause S s (if S 9 s = 0 then sec + 1 else sec - 1)))
  else (true, ent S s (if S 9 s = 0 then (sec : Int) + 1 else (sec : Int) - 1))
theorem lvs_at (S : SS) (sec w x : Int) : lvs S sec w 34 x = if 30 * (2 * sec + w) ≤ x ∧ x < 30 * (2 * sec + w) + (S 33 (2 * sec + w) - 1).toNat then S 34 (x + 1) else S 34 x := by
  simp only [lvs]
  rw [shf_at, u2_ne (by decide), u2_ne (by decide)]
theorem lvs_u2 {S : SS} {K : Nat} (h3 : K ≠ 33) (h4 : K ≠ 34) (x v sec w : Int) : lvs (u2 S K x v) sec w = u2 (lvs S sec w) K x v := by
  funext k z
  by_cases e3 : k = 33
  · subst e3
    rw [lvs_33, u2_ne (Ne.symm h3), u2_ne (Ne.symm h3), u2_ne (Ne.symm h3), lvs_33]
  · by_cases e4 : k = 34
    · subst e4
      rw [lvs_at, u2_ne (Ne.symm h3), u2_ne (Ne.symm h4), u2_ne (Ne.symm h4), u2_ne (Ne.symm h4), lvs_at]
    · rw [lvs_ne e3 e4]
      simp only [u2]
      rw [lvs_ne e3 e4]
theorem lvs_ent {S : SS} {s sec nx : Int} (hne : nx ≠ sec) (h0 : 0 ≤ S 33 (2 * nx + S 9 s) ∧ S 33 (2 * nx + S 9 s) ≤ 3) (h1 : 1 ≤ S 33 (2 * sec + S 9 s) ∧ S 33 (2 * sec + S 9 s) ≤ 3) (h9 : S 9 s = 0 ∨ S 9 s = 1) : lvs (ent S s nx) sec (S 9 s) = ent (lvs S sec (S 9 s)) s nx := by
  have e9 : lvs S sec (S 9 s) 9 s = S 9 s := lvs_ne (by decide) (by decide) _
  have e13 : lvs S sec (S 9 s) 13 s = S 13 s := lvs_ne (by decide) (by decide) _
  have e3 : lvs S sec (S 9 s) 3 nx = S 3 nx := lvs_ne (by decide) (by decide) _
  have e0 : lvs S sec (S 9 s) 0 0 = S 0 0 := lvs_ne (by decide) (by decide) _
  have e33 : lvs S sec (S 9 s) 33 (2 * nx + S 9 s) = S 33 (2 * nx + S 9 s) := by rw [lvs_33, if_neg (by omega)]
  simp only [ent, e9, e13, e3, e0, e33]
  rw [lvs_u2 (by decide) (by decide), lvs_u2 (by decide) (by decide), lvs_u2 (by decide) (by decide)]
  congr 3
  funext k z
  by_cases k3 : k = 33
  · subst k3
    rw [lvs_33]
    simp only [u2_at, u2_ne (show (33 : Nat) ≠ 34 by decide)]
    rw [lvs_33, if_neg (show ¬ 2 * sec + S 9 s = 2 * nx + S 9 s by omega)]
    by_cases hz : z = 2 * nx + S 9 s
    · rw [if_neg (by omega), if_pos hz, if_pos hz]
    · simp only [if_neg hz]
  · by_cases k4 : k = 34
    · subst k4
      have a1 : u2 (u2 S 34 (30 * (2 * nx + S 9 s) + S 33 (2 * nx + S 9 s)) s) 33 (2 * nx + S 9 s) (S 33 (2 * nx + S 9 s) + 1) 33 (2 * sec + S 9 s) = S 33 (2 * sec + S 9 s) := by rw [u2_at, if_neg (by omega), u2_ne (by decide)]
      rw [lvs_at, a1]
      simp only [u2_at, u2_ne (show (34 : Nat) ≠ 33 by decide)]
      rw [lvs_at]
      by_cases hz : z = 30 * (2 * nx + S 9 s) + S 33 (2 * nx + S 9 s)
      · rw [if_neg (by omega), if_pos hz, if_pos hz]
      · by_cases hr : 30 * (2 * sec + S 9 s) ≤ z ∧ z < 30 * (2 * sec + S 9 s) + (S 33 (2 * sec + S 9 s) - 1).toNat
        · rw [if_pos hr, if_neg (by omega), if_neg hz, if_pos hr]
        · rw [if_neg hr, if_neg hz, if_neg hz, if_neg hr]
    · rw [lvs_ne k3 k4]
      simp only [u2]
      rw [if_neg (by omega), if_neg (by omega), if_neg (by omega), if_neg (by omega), lvs_ne k3 k4]
theorem gos_C {S : SS} {s : Int} {sec : Nat} (hB : BB S) (hs : 0 ≤ s ∧ s < 30) (hs2 : sec < 8) (h1 : 1 ≤ S 33 (2 * (sec : Int) + S 9 s)) : (gos S s sec).1 = (gosC S s sec).1 ∧ (gos S s sec).2 = if (gosC S s sec).1 = true then lvs (gosC S s sec).2 sec (S 9 s) else (gosC S s sec).2 := by
  have hsh := hB.sh hs.1 hs.2
  simp only [bsh] at hsh
  have hi := hB.iM (a := 2 * (sec : Int) + S 9 s) (by omega) (by omega)
  by_cases c1 : (sec : Int) = (if S 9 s = 0 then 7 else 0)
  · have ea : gos S s sec = (true, goE S sec s) := by rw [gos, if_pos c1]
    have eb : gosC S s sec = (true, u2 (u2 S 15 s 8) 20 s (S 0 0)) := by rw [gosC, if_pos c1]
    rw [ea, eb]
    refine ⟨rfl, ?_⟩
    rw [if_pos rfl]
    show goE S sec s = lvs (u2 (u2 S 15 s 8) 20 s (S 0 0)) sec (S 9 s)
    rw [lvs_u2 (by decide) (by decide), lvs_u2 (by decide) (by decide)]
    rfl
  · by_cases c2 : 0 ≤ cause S s (if S 9 s = 0 then sec + 1 else sec - 1)
    · have ea : gos S s sec = (false, wt S (7 * s + cause S s (if S 9 s = 0 then sec + 1 else sec - 1))) := by rw [gos, if_neg c1, if_pos c2]
      have eb : gosC S s sec = (false, wt S (7 * s + cause S s (if S 9 s = 0 then sec + 1 else sec - 1))) := by rw [gosC, if_neg c1, if_pos c2]
      rw [ea, eb]
      exact ⟨rfl, rfl⟩
    · have ea : gos S s sec = (true, ent (lvs S sec (S 9 s)) s (if S 9 s = 0 then (sec : Int) + 1 else (sec : Int) - 1)) := by rw [gos, if_neg c1, if_neg c2]
      have eb : gosC S s sec = (true, ent S s (if S 9 s = 0 then (sec : Int) + 1 else (sec : Int) - 1)) := by rw [gosC, if_neg c1, if_neg c2]
      rw [ea, eb]
      refine ⟨rfl, ?_⟩
      rw [if_pos rfl]
      have hnx : 0 ≤ (if S 9 s = 0 then (sec : Int) + 1 else (sec : Int) - 1) ∧ (if S 9 s = 0 then (sec : Int) + 1 else (sec : Int) - 1) < 8 ∧ (if S 9 s = 0 then (sec : Int) + 1 else (sec : Int) - 1) ≠ sec := by
        by_cases h0 : S 9 s = 0
        · rw [if_pos h0] at c1 ⊢; omega
        · rw [if_neg h0] at c1 ⊢; omega
      generalize (if S 9 s = 0 then (sec : Int) + 1 else (sec : Int) - 1) = nx at hnx
      have hi2 := hB.iM (a := 2 * nx + S 9 s) (by omega) (by omega)
      exact (lvs_ent hnx.2.2 hi2.1 (by omega) hsh.1).symm
/-- one minute of a ship afloat, its time there taken off already -/
def lv2 (S : SS) (s : Int) (sec : Nat) (first : Bool) : Bool × SS := if 0 < S 16 s then (false, S) else if first = true then gosC S s sec else (false, wt S (7 * s + 6))
set_option maxRecDepth 100000 in
set_option maxHeartbeats 4000000 in
theorem cA_X5_comesInto {s sec : Nat} {x : Int} (hC : RC ns nc S V) (hs : (s : Int) < ns) (hx : 0 ≤ x ∧ x < 7) : CT l D cA A ad yX5_comesInto cX5_comesInto 5 (some .boolean) rm_X5_comesInto [.inr (some (0, 0)), .inr (some (5, s)), .inr (some (1, sec)), .inl x] (lvC ns nc) V sz (PC (some (.inl 0)) ns nc (wt S (7 * (s : Int) + x)) sz) := by
  refine CT.of2 [some (.inr (some (0, 0))), some (.inr (some (5, s))), some (.inr (some (1, sec))), some (.inl x), none] (by decide) (Nat.le_of_ble_eq_true rfl) rfl ?_
  refine aw_iload_n dX5_comesInto_0 rfl rfl ?_
  refine aw_bipush dX5_comesInto_1 (by decide) ?_
  refine aw_icmp_eq (tgt := 13) dX5_comesInto_3 (by decide) (by omega) (by omega) (fun c_3 => absurd c_3 (by omega)) (fun c_3 => ?_)
  refine aw_aload_n dX5_comesInto_6 rfl rfl ?_
  refine aw_iload_n dX5_comesInto_7 rfl rfl ?_
  refine aw_callV (c_X4_waitBy hC hs (by omega)) mv_X4_waitBy mlX5_183 dX5_comesInto_8 rfl (decide_eq_true (by omega)) (by decide) rfl (Nat.le_of_ble_eq_true rfl) rfl ?_
  rintro _ _ _ _ ⟨rfl, rfl, rfl, hC2⟩
  refine aw_iconst dX5_comesInto_11 ?_
  refine aw_zret dX5_comesInto_12 rfl (Or.inl rfl) (Nat.zero_le _) (Nat.zero_le _) ?_
  exact ⟨rfl, rfl, rfl, hC2⟩
theorem RC.mk2 {T : SS} (h : RepC T V) (h8 : S 8 0 = ns) (h24 : S 24 0 = nc) (e8 : T 8 0 = S 8 0 := by rfl) (e24 : T 24 0 = S 24 0 := by rfl) : RC ns nc T V := ⟨h, e8.trans h8, e24.trans h24⟩
set_option maxRecDepth 100000 in
set_option maxHeartbeats 4000000 in
theorem cB_X5_comesInto {s sec : Nat} (hB : BB S) (hC : RC ns nc S V) (hs : (s : Int) < ns) (hs2 : sec < 8) (hM : S 33 (2 * (sec : Int) + S 9 s) ≤ 2) : CT l D cA A ad yX5_comesInto cX5_comesInto 5 (some .boolean) rm_X5_comesInto [.inr (some (0, 0)), .inr (some (5, s)), .inr (some (1, sec)), .inl (-4)] (lvC ns nc) V sz (PC (some (.inl 1)) ns nc (ent S s sec) sz) := by
  refine CT.of2 [some (.inr (some (0, 0))), some (.inr (some (5, s))), some (.inr (some (1, sec))), some (.inl (-4)), none] (by decide) (Nat.le_of_ble_eq_true rfl) rfl ?_
  obtain ⟨hR, h8, h24⟩ := id hC
  have hm := hB.m
  simp only [bsm] at hm
  have hsh := hB.sh (s := (s : Int)) (by omega) (by omega)
  simp only [bsh] at hsh
  have hat : ((2 * sec + (S 9 s).toNat : Nat) : Int) = 2 * (sec : Int) + S 9 s := by omega
  have hiM := hB.iM (a := 2 * (sec : Int) + S 9 s) (by omega) (by omega)
  rw [← hat] at hM hiM
  refine aw_iload_n dX5_comesInto_0 rfl rfl ?_
  refine aw_bipush dX5_comesInto_1 (by decide) ?_
  refine aw_icmp_eq (tgt := 13) dX5_comesInto_3 (by decide) (by omega) (by omega) (fun c_3 => ?_) (fun c_3 => absurd c_3 (by omega))
  refine aw_aload_n dX5_comesInto_13 rfl rfl ?_
  refine aw_aload_n dX5_comesInto_14 rfl rfl ?_
  refine aw_getN dX5_comesInto_15 fnX5_110 (by decide) (by decide) rfl (decide_eq_true (by omega)) (rc_5_1 hR (by omega)) ?_
  refine aw_callV (c_X3_lane hC hs2 hsh.1) mv_X3_lane mlX5_172 dX5_comesInto_18 rfl (decide_eq_true (by omega)) (by decide) rfl (Nat.le_of_ble_eq_true rfl) rfl ?_
  rintro _ _ _ _ ⟨rfl, rfl, rfl, rfl⟩
  refine aw_astore dX5_comesInto_21 (by decide) ?_
  refine aw_aload dX5_comesInto_23 rfl ?_
  refine aw_getN dX5_comesInto_25 fnX5_176 (by decide) (by decide) rfl (decide_eq_true (by omega)) (rc_2_0 hR (by omega)) ?_
  refine aw_aload_n dX5_comesInto_28 rfl rfl ?_
  refine aw_callV (c_X2_add (s := s) (hC.lane hB (j := 2 * sec + (S 9 s).toNat) (by omega)) (show S 33 ((2 * sec + (S 9 s).toNat : Nat) : Int) < 3 by omega) (by decide) (decide_eq_true hs)) mv_X2_add mlX5_92 dX5_comesInto_29 rfl (decide_eq_true (by omega)) (by decide) rfl (Nat.le_of_ble_eq_true rfl) rfl ?_
  rintro _ _ _ _ ⟨rfl, rfl, rfl, rfl⟩
  have hC : RC ns nc (u2 (u2 S 34 (30 * ((2 * sec + (S 9 s).toNat : Nat) : Int) + S 33 ((2 * sec + (S 9 s).toNat : Nat) : Int)) s) 33 ((2 * sec + (S 9 s).toNat : Nat) : Int) (S 33 ((2 * sec + (S 9 s).toNat : Nat) : Int) + 1)) _ := RC.mk2 (hR.pushLane (i := 2 * sec + (S 9 s).toNat) (by omega) (by omega) (s : Int)) h8 h24
  have hR := hC.1
  refine aw_aload dX5_comesInto_32 rfl ?_
  refine aw_aload_n dX5_comesInto_34 rfl rfl ?_
  refine aw_get (v := .inl (S 0 0)) dX5_comesInto_35 flX5_53 (by decide) (by decide) rfl rfl ((rc_0_10 hR).trans rfl) ?_
  refine aw_putN dX5_comesInto_38 fnX5_216 (by decide) (by decide) rfl rfl (decide_eq_true (show 2 * sec + (S 9 s).toNat < 16 by omega)) trivial ?_
  have hC := hC.set (S 0 0) (show src 2 (2 * sec + (S 9 s).toNat) 1 = some (false, 35, ((2 * sec + (S 9 s).toNat : Nat) : Int)) from rfl) (by decide) (And.intro (show 2 * sec + (S 9 s).toNat < 16 by omega) (by decide))
  have hR := hC.1
  refine aw_aload_n dX5_comesInto_41 rfl rfl ?_
  refine aw_aload_n dX5_comesInto_42 rfl rfl ?_
  refine aw_getN dX5_comesInto_43 fnX5_196 (by decide) (by decide) rfl (decide_eq_true (by omega)) (rc_1_0 hR (by omega)) ?_
  refine aw_putN dX5_comesInto_46 fnX5_199 (by decide) (by decide) rfl rfl (decide_eq_true hs) trivial ?_
  have hC := hC.set ((sec : Int)) (show src 5 s 8 = some (false, 15, (s : Int)) from rfl) (by decide) (And.intro (show (s : Int) < _ by rw [hC.2.1]; exact hs) (by decide))
  have hR := hC.1
  refine aw_aload_n dX5_comesInto_49 rfl rfl ?_
  refine aw_aload_n dX5_comesInto_50 rfl rfl ?_
  refine aw_getN (v := .inl (S 13 s)) dX5_comesInto_51 fnX5_219 (by decide) (by decide) rfl (decide_eq_true hs) ((rc_5_5 hR (show (s : Int) < _ by rw [hC.2.1]; exact hs)).trans rfl) ?_
  refine aw_if_eq (tgt := 66) dX5_comesInto_54 (by decide) (by omega) (fun c_54 => ?_) (fun c_54 => ?_)
  · refine aw_aload_n dX5_comesInto_66 rfl rfl ?_
    refine aw_getN (v := .inl (S 3 sec)) dX5_comesInto_67 fnX5_65 (by decide) (by decide) rfl (decide_eq_true (by omega)) ((rc_1_1 hR (by omega)).trans rfl) ?_
    refine aw_putN dX5_comesInto_70 fnX5_193 (by decide) (by decide) rfl rfl (decide_eq_true hs) trivial ?_
    refine aw_iconst dX5_comesInto_73 ?_
    refine aw_zret dX5_comesInto_74 rfl (Or.inr rfl) (Nat.zero_le _) (Nat.zero_le _) ?_
    refine ⟨rfl, rfl, rfl, ?_⟩
    rw [ent, ← hat]
    first | (rw [if_pos c_54]; exact hC.set (S 3 sec) (show src 5 s 9 = some (false, 16, (s : Int)) from rfl) (by decide) (And.intro (show (s : Int) < _ by rw [hC.2.1]; exact hs) (by decide))) | (rw [if_neg c_54]; exact hC.set (2 * S 3 sec) (show src 5 s 9 = some (false, 16, (s : Int)) from rfl) (by decide) (And.intro (show (s : Int) < _ by rw [hC.2.1]; exact hs) (by decide)))
  · refine aw_iconst dX5_comesInto_57 ?_
    refine aw_aload_n dX5_comesInto_58 rfl rfl ?_
    refine aw_getN (v := .inl (S 3 sec)) dX5_comesInto_59 fnX5_65 (by decide) (by decide) rfl (decide_eq_true (by omega)) ((rc_1_1 hR (by omega)).trans rfl) ?_
    refine aw_imul dX5_comesInto_62 ?_
    refine aw_goto (tgt := 70) dX5_comesInto_63 (by decide) ?_
    refine aw_putN dX5_comesInto_70 fnX5_193 (by decide) (by decide) rfl rfl (decide_eq_true hs) trivial ?_
    refine aw_iconst dX5_comesInto_73 ?_
    refine aw_zret dX5_comesInto_74 rfl (Or.inr rfl) (Nat.zero_le _) (Nat.zero_le _) ?_
    refine ⟨rfl, rfl, rfl, ?_⟩
    rw [ent, ← hat]
    first | (rw [if_pos c_54]; exact hC.set (S 3 sec) (show src 5 s 9 = some (false, 16, (s : Int)) from rfl) (by decide) (And.intro (show (s : Int) < _ by rw [hC.2.1]; exact hs) (by decide))) | (rw [if_neg c_54]; exact hC.set (2 * S 3 sec) (show src 5 s 9 = some (false, 16, (s : Int)) from rfl) (by decide) (And.intro (show (s : Int) < _ by rw [hC.2.1]; exact hs) (by decide)))
set_option maxRecDepth 100000 in
set_option maxHeartbeats 4000000 in
theorem t1_X5_leaves {s sec : Nat} {first : Bool} (hI : CI S) (hC : RC ns nc S V) (hs : (s : Int) < ns) (hs2 : sec < 8) : AW l D cA A ad yX5_leaves cX5_leaves 5 (some .boolean) rm_X5_leaves (PC (some (.inl (b2i (lv2 S s sec first).1))) ns nc (lv2 S s sec first).2 sz) 0 0 (lvC ns nc) V sz 17 [some (.inr (some (0, 0))), some (.inr (some (5, s))), some (.inr (some (1, sec))), some (.inl (b2i first)), none] [] := by
  obtain ⟨hR, h8, h24⟩ := id hC
  have hB := hI.1
  have hm := hB.m
  simp only [bsm] at hm
  have hsh := hB.sh (s := (s : Int)) (by omega) (by omega)
  simp only [bsh] at hsh
  have hfr := b2i_rg first
  rcases hsh.1 with hw9 | hw9
  · refine aw_aload_n dX5_leaves_17 rfl rfl ?_
    refine aw_getN dX5_leaves_18 fnX5_193 (by decide) (by decide) rfl (decide_eq_true (by omega)) (rc_5_9 hR (by omega)) ?_
    refine aw_if_le (tgt := 26) dX5_leaves_21 (by decide) (by omega) (fun c_21 => ?_) (fun c_21 => ?_)
    · refine aw_iload_n dX5_leaves_26 rfl rfl ?_
      refine aw_if_ne (tgt := 38) dX5_leaves_27 (by decide) (by omega) (fun c_27 => ?_) (fun c_27 => ?_)
      · have hf := b2i_pos c_27
        refine aw_aload_n dX5_leaves_38 rfl rfl ?_
        refine aw_aload_n dX5_leaves_39 rfl rfl ?_
        refine aw_getN dX5_leaves_40 fnX5_110 (by decide) (by decide) rfl (decide_eq_true (by omega)) (rc_5_1 hR (by omega)) ?_
        refine aw_if_ne (tgt := 55) dX5_leaves_43 (by decide) (by omega) (fun c_43 => absurd c_43 (by omega)) (fun c_43 => ?_)
        refine aw_aload_n dX5_leaves_46 rfl rfl ?_
        refine aw_getN dX5_leaves_47 fnX5_196 (by decide) (by decide) rfl (decide_eq_true (by omega)) (rc_1_0 hR (by omega)) ?_
        refine aw_iconst dX5_leaves_50 ?_
        refine aw_iadd dX5_leaves_51 ?_
        refine aw_goto (tgt := 61) dX5_leaves_52 (by decide) ?_
        by_cases hend : (sec : Int) = 7
        · refine aw_callV (c_X5_sectionAt_out (by omega) (by omega)) mv_X5_sectionAt mlX5_57 dX5_leaves_61 rfl rfl (by decide) rfl (Nat.le_of_ble_eq_true rfl) rfl ?_
          rintro _ _ _ _ ⟨rfl, rfl, rfl, rfl⟩
          refine aw_astore dX5_leaves_64 (by decide) ?_
          refine aw_aload dX5_leaves_66 rfl ?_
          refine aw_ifnonnull_N dX5_leaves_68 ?_
          refine aw_aload_n dX5_leaves_71 rfl rfl ?_
          refine aw_bipush dX5_leaves_72 (by decide) ?_
          refine aw_putN dX5_leaves_74 fnX5_199 (by decide) (by decide) rfl rfl (decide_eq_true hs) trivial ?_
          have hC := hC.set 8 (show src 5 s 8 = some (false, 15, (s : Int)) from rfl) (by decide) (And.intro (show (s : Int) < _ by omega) (by decide))
          have hR := hC.1
          refine aw_aload_n dX5_leaves_77 rfl rfl ?_
          refine aw_aload_n dX5_leaves_78 rfl rfl ?_
          refine aw_get (v := .inl (S 0 0)) dX5_leaves_79 flX5_53 (by decide) (by decide) rfl rfl ((rc_0_10 hR).trans rfl) ?_
          refine aw_putN dX5_leaves_82 fnX5_202 (by decide) (by decide) rfl rfl (decide_eq_true hs) trivial ?_
          have hC := hC.set (S 0 0) (show src 5 s 13 = some (false, 20, (s : Int)) from rfl) (by decide) (And.intro (show (s : Int) < _ by rw [hC.2.1]; exact hs) (by decide))
          refine aw_iconst dX5_leaves_85 ?_
          refine aw_zret dX5_leaves_86 rfl (Or.inr rfl) (Nat.zero_le _) (Nat.zero_le _) ?_
          have e : lv2 S s sec first = (true, u2 (u2 S 15 s 8) 20 s (S 0 0)) := by
            rw [lv2]
            rw [if_neg (by omega), if_pos hf, gosC, if_pos (by rw [if_pos (by omega)]; omega)]
          rw [e]
          exact ⟨rfl, rfl, rfl, hC⟩
        · rw [show (sec : Int) + 1 = ((sec + 1 : Nat) : Int) by omega]
          refine aw_callV (c_X5_sectionAt (sec := sec + 1) hC (by omega)) mv_X5_sectionAt mlX5_57 dX5_leaves_61 rfl rfl (by decide) rfl (Nat.le_of_ble_eq_true rfl) rfl ?_
          rintro _ _ _ _ ⟨rfl, rfl, rfl, rfl⟩
          refine aw_astore dX5_leaves_64 (by decide) ?_
          refine aw_aload dX5_leaves_66 rfl ?_
          refine aw_ifnonnull_S (tgt := 87) dX5_leaves_68 (by decide) ?_
          refine aw_aload_n dX5_leaves_87 rfl rfl ?_
          refine aw_aload_n dX5_leaves_88 rfl rfl ?_
          refine aw_aload dX5_leaves_89 rfl ?_
          refine aw_aload_n dX5_leaves_91 rfl rfl ?_
          refine aw_aload_n dX5_leaves_92 rfl rfl ?_
          refine aw_aload dX5_leaves_93 rfl ?_
          refine aw_callV (c_X5_causeAgainst (sec := sec + 1) hI hC hs (by omega)) mv_X5_causeAgainst mlX5_205 dX5_leaves_95 rfl rfl (by decide) rfl (Nat.le_of_ble_eq_true rfl) rfl ?_
          rintro _ _ _ _ ⟨rfl, rfl, rfl, rfl⟩
          have hcb := cause_bd S s (sec + 1)
          by_cases hca : 0 ≤ cause S s (sec + 1)
          · rw [show cz (cause S s (sec + 1)) = cause S s (sec + 1) by rw [cz, if_neg (by omega)]]
            refine aw_callV (cA_X5_comesInto hC hs (by omega)) mv_X5_comesInto mlX5_209 dX5_leaves_98 rfl rfl (by decide) rfl (Nat.le_of_ble_eq_true rfl) rfl ?_
            rintro _ _ _ _ ⟨rfl, rfl, rfl, hC2⟩
            refine aw_zret dX5_leaves_101 rfl (Or.inl rfl) (Nat.zero_le _) (Nat.zero_le _) ?_
            have e : lv2 S s sec first = (false, wt S (7 * (s : Int) + cause S s (sec + 1))) := by
              rw [lv2]
              rw [if_neg (by omega), if_pos hf, gosC, if_neg (by rw [if_pos (by omega)]; omega), if_pos (c := S 9 s = 0) (by omega), if_pos hca]
            rw [e]
            exact ⟨rfl, rfl, rfl, hC2⟩
          · rw [show cz (cause S s (sec + 1)) = -4 by rw [cz, if_pos (by omega)]]
            have hc2 : S 33 (2 * ((sec + 1 : Nat) : Int) + S 9 s) ≤ 2 := by
              have hi3 := hB.iM (a := 2 * ((sec + 1 : Nat) : Int) + S 9 s) (by omega) (by omega)
              by_cases h3 : S 33 (2 * ((sec + 1 : Nat) : Int) + S 9 s) = 3
              · exfalso
                apply hca
                simp only [cause]
                split
                · decide
                · split
                  · decide
                  · first | decide | (rw [if_pos h3]; decide)
              · omega
            refine aw_callV (cB_X5_comesInto (sec := sec + 1) hB hC hs (by omega) hc2) mv_X5_comesInto mlX5_209 dX5_leaves_98 rfl rfl (by decide) rfl (Nat.le_of_ble_eq_true rfl) rfl ?_
            rintro _ _ _ _ ⟨rfl, rfl, rfl, hC2⟩
            refine aw_zret dX5_leaves_101 rfl (Or.inr rfl) (Nat.zero_le _) (Nat.zero_le _) ?_
            have e : lv2 S s sec first = (true, ent S s ((sec + 1 : Nat) : Int)) := by
              rw [lv2]
              rw [if_neg (by omega), if_pos hf, gosC, if_neg (by rw [if_pos (by omega)]; omega), if_pos (c := S 9 s = 0) (by omega), if_neg hca, if_pos (c := S 9 s = 0) (by omega)]
              rfl
            rw [e]
            exact ⟨rfl, rfl, rfl, hC2⟩
      · have hf := b2i_zero c_27
        refine aw_aload_n dX5_leaves_30 rfl rfl ?_
        refine aw_bipush dX5_leaves_31 (by decide) ?_
        refine aw_callV (c_X4_waitBy hC hs (by decide)) mv_X4_waitBy mlX5_183 dX5_leaves_33 rfl (decide_eq_true (by omega)) (by decide) rfl (Nat.le_of_ble_eq_true rfl) rfl ?_
        rintro _ _ _ _ ⟨rfl, rfl, rfl, hC2⟩
        refine aw_iconst dX5_leaves_36 ?_
        refine aw_zret dX5_leaves_37 rfl (Or.inl rfl) (Nat.zero_le _) (Nat.zero_le _) ?_
        have e : lv2 S s sec first = (false, wt S (7 * (s : Int) + 6)) := by
          rw [lv2]
          rw [if_neg (by omega), if_neg (by rw [hf]; decide)]
        rw [e]
        exact ⟨rfl, rfl, rfl, hC2⟩
    · refine aw_iconst dX5_leaves_24 ?_
      refine aw_zret dX5_leaves_25 rfl (Or.inl rfl) (Nat.zero_le _) (Nat.zero_le _) ?_
      have e : lv2 S s sec first = (false, S) := by
        rw [lv2]
        rw [if_pos (by omega)]
      rw [e]
      exact ⟨rfl, rfl, rfl, hC⟩
  · refine aw_aload_n dX5_leaves_17 rfl rfl ?_
    refine aw_getN dX5_leaves_18 fnX5_193 (by decide) (by decide) rfl (decide_eq_true (by omega)) (rc_5_9 hR (by omega)) ?_
    refine aw_if_le (tgt := 26) dX5_leaves_21 (by decide) (by omega) (fun c_21 => ?_) (fun c_21 => ?_)
    · refine aw_iload_n dX5_leaves_26 rfl rfl ?_
      refine aw_if_ne (tgt := 38) dX5_leaves_27 (by decide) (by omega) (fun c_27 => ?_) (fun c_27 => ?_)
      · have hf := b2i_pos c_27
        refine aw_aload_n dX5_leaves_38 rfl rfl ?_
        refine aw_aload_n dX5_leaves_39 rfl rfl ?_
        refine aw_getN dX5_leaves_40 fnX5_110 (by decide) (by decide) rfl (decide_eq_true (by omega)) (rc_5_1 hR (by omega)) ?_
        refine aw_if_ne (tgt := 55) dX5_leaves_43 (by decide) (by omega) (fun c_43 => ?_) (fun c_43 => absurd c_43 (by omega))
        refine aw_aload_n dX5_leaves_55 rfl rfl ?_
        refine aw_getN dX5_leaves_56 fnX5_196 (by decide) (by decide) rfl (decide_eq_true (by omega)) (rc_1_0 hR (by omega)) ?_
        refine aw_iconst dX5_leaves_59 ?_
        refine aw_isub dX5_leaves_60 ?_
        by_cases hend : (sec : Int) = 0
        · refine aw_callV (c_X5_sectionAt_out (by omega) (by omega)) mv_X5_sectionAt mlX5_57 dX5_leaves_61 rfl rfl (by decide) rfl (Nat.le_of_ble_eq_true rfl) rfl ?_
          rintro _ _ _ _ ⟨rfl, rfl, rfl, rfl⟩
          refine aw_astore dX5_leaves_64 (by decide) ?_
          refine aw_aload dX5_leaves_66 rfl ?_
          refine aw_ifnonnull_N dX5_leaves_68 ?_
          refine aw_aload_n dX5_leaves_71 rfl rfl ?_
          refine aw_bipush dX5_leaves_72 (by decide) ?_
          refine aw_putN dX5_leaves_74 fnX5_199 (by decide) (by decide) rfl rfl (decide_eq_true hs) trivial ?_
          have hC := hC.set 8 (show src 5 s 8 = some (false, 15, (s : Int)) from rfl) (by decide) (And.intro (show (s : Int) < _ by omega) (by decide))
          have hR := hC.1
          refine aw_aload_n dX5_leaves_77 rfl rfl ?_
          refine aw_aload_n dX5_leaves_78 rfl rfl ?_
          refine aw_get (v := .inl (S 0 0)) dX5_leaves_79 flX5_53 (by decide) (by decide) rfl rfl ((rc_0_10 hR).trans rfl) ?_
          refine aw_putN dX5_leaves_82 fnX5_202 (by decide) (by decide) rfl rfl (decide_eq_true hs) trivial ?_
          have hC := hC.set (S 0 0) (show src 5 s 13 = some (false, 20, (s : Int)) from rfl) (by decide) (And.intro (show (s : Int) < _ by rw [hC.2.1]; exact hs) (by decide))
          refine aw_iconst dX5_leaves_85 ?_
          refine aw_zret dX5_leaves_86 rfl (Or.inr rfl) (Nat.zero_le _) (Nat.zero_le _) ?_
          have e : lv2 S s sec first = (true, u2 (u2 S 15 s 8) 20 s (S 0 0)) := by
            rw [lv2]
            rw [if_neg (by omega), if_pos hf, gosC, if_pos (by rw [if_neg (by omega)]; omega)]
          rw [e]
          exact ⟨rfl, rfl, rfl, hC⟩
        · rw [show (sec : Int) - 1 = ((sec - 1 : Nat) : Int) by omega]
          refine aw_callV (c_X5_sectionAt (sec := sec - 1) hC (by omega)) mv_X5_sectionAt mlX5_57 dX5_leaves_61 rfl rfl (by decide) rfl (Nat.le_of_ble_eq_true rfl) rfl ?_
          rintro _ _ _ _ ⟨rfl, rfl, rfl, rfl⟩
          refine aw_astore dX5_leaves_64 (by decide) ?_
          refine aw_aload dX5_leaves_66 rfl ?_
          refine aw_ifnonnull_S (tgt := 87) dX5_leaves_68 (by decide) ?_
          refine aw_aload_n dX5_leaves_87 rfl rfl ?_
          refine aw_aload_n dX5_leaves_88 rfl rfl ?_
          refine aw_aload dX5_leaves_89 rfl ?_
          refine aw_aload_n dX5_leaves_91 rfl rfl ?_
          refine aw_aload_n dX5_leaves_92 rfl rfl ?_
          refine aw_aload dX5_leaves_93 rfl ?_
          refine aw_callV (c_X5_causeAgainst (sec := sec - 1) hI hC hs (by omega)) mv_X5_causeAgainst mlX5_205 dX5_leaves_95 rfl rfl (by decide) rfl (Nat.le_of_ble_eq_true rfl) rfl ?_
          rintro _ _ _ _ ⟨rfl, rfl, rfl, rfl⟩
          have hcb := cause_bd S s (sec - 1)
          by_cases hca : 0 ≤ cause S s (sec - 1)
          · rw [show cz (cause S s (sec - 1)) = cause S s (sec - 1) by rw [cz, if_neg (by omega)]]
            refine aw_callV (cA_X5_comesInto hC hs (by omega)) mv_X5_comesInto mlX5_209 dX5_leaves_98 rfl rfl (by decide) rfl (Nat.le_of_ble_eq_true rfl) rfl ?_
            rintro _ _ _ _ ⟨rfl, rfl, rfl, hC2⟩
            refine aw_zret dX5_leaves_101 rfl (Or.inl rfl) (Nat.zero_le _) (Nat.zero_le _) ?_
            have e : lv2 S s sec first = (false, wt S (7 * (s : Int) + cause S s (sec - 1))) := by
              rw [lv2]
              rw [if_neg (by omega), if_pos hf, gosC, if_neg (by rw [if_neg (by omega)]; omega), if_neg (c := S 9 s = 0) (by omega), if_pos hca]
            rw [e]
            exact ⟨rfl, rfl, rfl, hC2⟩
          · rw [show cz (cause S s (sec - 1)) = -4 by rw [cz, if_pos (by omega)]]
            have hc2 : S 33 (2 * ((sec - 1 : Nat) : Int) + S 9 s) ≤ 2 := by
              have hi3 := hB.iM (a := 2 * ((sec - 1 : Nat) : Int) + S 9 s) (by omega) (by omega)
              by_cases h3 : S 33 (2 * ((sec - 1 : Nat) : Int) + S 9 s) = 3
              · exfalso
                apply hca
                simp only [cause]
                split
                · decide
                · split
                  · decide
                  · first | decide | (rw [if_pos h3]; decide)
              · omega
            refine aw_callV (cB_X5_comesInto (sec := sec - 1) hB hC hs (by omega) hc2) mv_X5_comesInto mlX5_209 dX5_leaves_98 rfl rfl (by decide) rfl (Nat.le_of_ble_eq_true rfl) rfl ?_
            rintro _ _ _ _ ⟨rfl, rfl, rfl, hC2⟩
            refine aw_zret dX5_leaves_101 rfl (Or.inr rfl) (Nat.zero_le _) (Nat.zero_le _) ?_
            have e : lv2 S s sec first = (true, ent S s ((sec - 1 : Nat) : Int)) := by
              rw [lv2]
              rw [if_neg (by omega), if_pos hf, gosC, if_neg (by rw [if_neg (by omega)]; omega), if_neg (c := S 9 s = 0) (by omega), if_neg hca, if_neg (c := S 9 s = 0) (by omega)]
              rw [show (sec : Int) - 1 = ((sec - 1 : Nat) : Int) by omega]
            rw [e]
            exact ⟨rfl, rfl, rfl, hC2⟩
      · have hf := b2i_zero c_27
        refine aw_aload_n dX5_leaves_30 rfl rfl ?_
        refine aw_bipush dX5_leaves_31 (by decide) ?_
        refine aw_callV (c_X4_waitBy hC hs (by decide)) mv_X4_waitBy mlX5_183 dX5_leaves_33 rfl (decide_eq_true (by omega)) (by decide) rfl (Nat.le_of_ble_eq_true rfl) rfl ?_
        rintro _ _ _ _ ⟨rfl, rfl, rfl, hC2⟩
        refine aw_iconst dX5_leaves_36 ?_
        refine aw_zret dX5_leaves_37 rfl (Or.inl rfl) (Nat.zero_le _) (Nat.zero_le _) ?_
        have e : lv2 S s sec first = (false, wt S (7 * (s : Int) + 6)) := by
          rw [lv2]
          rw [if_neg (by omega), if_neg (by rw [hf]; decide)]
        rw [e]
        exact ⟨rfl, rfl, rfl, hC2⟩
    · refine aw_iconst dX5_leaves_24 ?_
      refine aw_zret dX5_leaves_25 rfl (Or.inl rfl) (Nat.zero_le _) (Nat.zero_le _) ?_
      have e : lv2 S s sec first = (false, S) := by
        rw [lv2]
        rw [if_pos (by omega)]
      rw [e]
      exact ⟨rfl, rfl, rfl, hC⟩
set_option maxRecDepth 100000 in
set_option maxHeartbeats 4000000 in
theorem c_X5_leaves {s sec : Nat} {first : Bool} (hI : CI S) (hI2 : CI (tk S s)) (hC : RC ns nc S V) (hs : (s : Int) < ns) (hs2 : sec < 8) : CT l D cA A ad yX5_leaves cX5_leaves 5 (some .boolean) rm_X5_leaves [.inr (some (0, 0)), .inr (some (5, s)), .inr (some (1, sec)), .inl (b2i first)] (lvC ns nc) V sz (PC (some (.inl (b2i (lv2 (tk S s) s sec first).1))) ns nc (lv2 (tk S s) s sec first).2 sz) := by
  refine CT.of2 [some (.inr (some (0, 0))), some (.inr (some (5, s))), some (.inr (some (1, sec))), some (.inl (b2i first)), none] (by decide) (Nat.le_of_ble_eq_true rfl) rfl ?_
  obtain ⟨hR, h8, h24⟩ := id hC
  have hB := hI.1
  have hm := hB.m
  simp only [bsm] at hm
  have hsh := hB.sh (s := (s : Int)) (by omega) (by omega)
  simp only [bsh] at hsh
  refine aw_aload_n dX5_leaves_0 rfl rfl ?_
  refine aw_getN dX5_leaves_1 fnX5_193 (by decide) (by decide) rfl (decide_eq_true (by omega)) (rc_5_9 hR (by omega)) ?_
  refine aw_if_le (tgt := 17) dX5_leaves_4 (by decide) (by omega) (fun c_4 => ?_) (fun c_4 => ?_)
  · first
    | (have hC2 : RC ns nc (tk S s) _ := RC.mk2 (T := tk S s) (hC.1.setI (S 16 s - 1) (show src 5 s 9 = some (false, 16, (s : Int)) from rfl) (by decide) (And.intro (show (s : Int) < _ by omega) (by decide)) |>.toS (fun k x => by rw [tk, if_pos (by omega)])) h8 h24
       exact t1_X5_leaves hI2 hC2 hs hs2)
    | (have hC2 : RC ns nc (tk S s) V := RC.mk2 (T := tk S s) (hC.1.toS (fun k x => by rw [tk, if_neg (by omega), Int.sub_zero]; simp only [u2]; split <;> simp_all)) h8 h24
       exact t1_X5_leaves hI2 hC2 hs hs2)
  · refine aw_aload_n dX5_leaves_7 rfl rfl ?_
    refine aw_dup dX5_leaves_8 ?_
    refine aw_getN dX5_leaves_9 fnX5_193 (by decide) (by decide) rfl (decide_eq_true (by omega)) (rc_5_9 hR (by omega)) ?_
    refine aw_iconst dX5_leaves_12 ?_
    refine aw_isub dX5_leaves_13 ?_
    refine aw_putN dX5_leaves_14 fnX5_193 (by decide) (by decide) rfl rfl (decide_eq_true hs) trivial ?_
    first
    | (have hC2 : RC ns nc (tk S s) _ := RC.mk2 (T := tk S s) (hC.1.setI (S 16 s - 1) (show src 5 s 9 = some (false, 16, (s : Int)) from rfl) (by decide) (And.intro (show (s : Int) < _ by omega) (by decide)) |>.toS (fun k x => by rw [tk, if_pos (by omega)])) h8 h24
       exact t1_X5_leaves hI2 hC2 hs hs2)
    | (have hC2 : RC ns nc (tk S s) V := RC.mk2 (T := tk S s) (hC.1.toS (fun k x => by rw [tk, if_neg (by omega), Int.sub_zero]; simp only [u2]; split <;> simp_all)) h8 h24
       exact t1_X5_leaves hI2 hC2 hs hs2)
end CLS4
