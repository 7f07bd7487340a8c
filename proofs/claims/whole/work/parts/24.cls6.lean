section CLS6
variable {l : Launch} {D : va_G} {cA : Nat → ClassId} {A : Nat → Prop} {ad : Ad} {ns nc : Int} {V : Vw} {sz : Nat} {S : SS}
set_option maxRecDepth 100000 in
set_option maxHeartbeats 4000000 in
theorem lp0_X5_moveShips (hok : ∀ j : Nat, j < 8 → okMC (7 - j) 0 (mvN S j 33 (2 * ((7 - j : Nat) : Int) + 0)).toNat (mvN S j) 0 false) : ∀ (f j : Nat) (V : Vw), j + f = 8 → RC ns nc (mvN S j) V → AW l D cA A ad yX5_moveShips cX5_moveShips 4 none rm_X5_moveShips (PC none ns nc (mvN S 8) sz) 0 0 (lvC ns nc) V sz 2 [some (.inr (some (0, 0))), some (.inl 0), some (.inl (j : Int)), none] [] := by
  intro f
  induction f with
  | zero =>
    intro j V hj hC
    refine aw_iload_n dX5_moveShips_2 rfl rfl ?_
    refine aw_bipush dX5_moveShips_3 (by decide) ?_
    refine aw_icmp_ge (tgt := 48) dX5_moveShips_5 (by decide) (by omega) (by omega) (fun c_5 => ?_) (fun c_5 => absurd c_5 (by omega))
    refine aw_vret dX5_moveShips_48 rfl (Nat.zero_le _) (Nat.zero_le _) ?_
    rw [show j = 8 by omega] at hC
    exact ⟨rfl, rfl, rfl, hC⟩
  | succ f ih =>
    intro j V hj hC
    obtain ⟨hR, h8, h24⟩ := id hC
    have ej : (7 : Int) - j = ((7 - j : Nat) : Int) := by omega
    refine aw_iload_n dX5_moveShips_2 rfl rfl ?_
    refine aw_bipush dX5_moveShips_3 (by decide) ?_
    refine aw_icmp_ge (tgt := 48) dX5_moveShips_5 (by decide) (by omega) (by omega) (fun c_5 => absurd c_5 (by omega)) (fun c_5 => ?_)
    refine aw_aload_n dX5_moveShips_8 rfl rfl ?_
    refine aw_iload_n dX5_moveShips_9 rfl rfl ?_
    refine aw_if_ne (tgt := 20) dX5_moveShips_10 (by decide) (by omega) (fun c_10 => absurd c_10 (by decide)) (fun c_10 => ?_)
    refine aw_bipush dX5_moveShips_13 (by decide) ?_
    refine aw_iload_n dX5_moveShips_15 rfl rfl ?_
    refine aw_isub dX5_moveShips_16 ?_
    refine aw_goto (tgt := 21) dX5_moveShips_17 (by decide) ?_
    rw [ej]
    refine aw_callV (c_X5_sectionAt (sec := (7 - j)) hC (by omega)) mv_X5_sectionAt mlX5_57 dX5_moveShips_21 rfl rfl (by decide) rfl (Nat.le_of_ble_eq_true rfl) rfl ?_
    rintro _ _ _ _ ⟨rfl, rfl, rfl, rfl⟩
    refine aw_astore_n dX5_moveShips_24 rfl (by decide) ?_
    refine aw_aload_n dX5_moveShips_25 rfl rfl ?_
    refine aw_ifnull_S dX5_moveShips_26 ?_
    refine aw_aload_n dX5_moveShips_29 rfl rfl ?_
    refine aw_aload_n dX5_moveShips_30 rfl rfl ?_
    refine aw_aload_n dX5_moveShips_31 rfl rfl ?_
    refine aw_iload_n dX5_moveShips_32 rfl rfl ?_
    refine aw_callV (c_X3_lane (sec := (7 - j)) hC (by omega) (by decide)) mv_X3_lane mlX5_172 dX5_moveShips_33 rfl (decide_eq_true (by omega)) (by decide) rfl (Nat.le_of_ble_eq_true rfl) rfl ?_
    rintro _ _ _ _ ⟨rfl, rfl, rfl, rfl⟩
    refine aw_getN dX5_moveShips_36 fnX5_176 (by decide) (by decide) rfl (decide_eq_true (show 2 * (7 - j) + Int.toNat 0 < 16 by show 2 * (7 - j) + 0 < 16; omega)) (rc_2_0 hR (show 2 * (7 - j) + Int.toNat 0 < 16 by show 2 * (7 - j) + 0 < 16; omega)) ?_
    refine aw_callV (c_X5_moveWithin (sec := (7 - j)) (w := 0) (by omega) (by decide) (hok j (by omega)) hC) mv_X5_moveWithin mlX5_179 dX5_moveShips_39 rfl rfl (by decide) rfl (Nat.le_of_ble_eq_true rfl) rfl ?_
    rintro _ _ _ _ ⟨rfl, rfl, rfl, hC2⟩
    refine aw_iinc dX5_moveShips_42 rfl (by decide) ?_
    refine aw_goto (tgt := 2) dX5_moveShips_45 (by decide) ?_
    exact AW.lss (ih (j + 1) _ (by omega) hC2) (And.intro rfl (And.intro rfl (And.intro rfl trivial)))
set_option maxRecDepth 100000 in
set_option maxHeartbeats 4000000 in
theorem c0_X5_moveShips (hok : ∀ j : Nat, j < 8 → okMC (7 - j) 0 (mvN S j 33 (2 * ((7 - j : Nat) : Int) + 0)).toNat (mvN S j) 0 false) (hC : RC ns nc S V) : CT l D cA A ad yX5_moveShips cX5_moveShips 4 none rm_X5_moveShips [.inr (some (0, 0)), .inl 0] (lvC ns nc) V sz (PC none ns nc (mvN S 8) sz) := by
  refine CT.of2 [some (.inr (some (0, 0))), some (.inl 0), none, none] (by decide) (Nat.le_of_ble_eq_true rfl) rfl ?_
  refine aw_iconst dX5_moveShips_0 ?_
  refine aw_istore_n dX5_moveShips_1 rfl (by decide) ?_
  exact AW.lss (lp0_X5_moveShips hok 8 0 V (by omega) hC) (And.intro rfl (And.intro rfl (And.intro rfl trivial)))
set_option maxRecDepth 100000 in
set_option maxHeartbeats 4000000 in
theorem lp1_X5_moveShips (hok : ∀ j : Nat, j < 8 → okMC j 1 (mvS S j 33 (2 * ((j : Nat) : Int) + 1)).toNat (mvS S j) 0 false) : ∀ (f j : Nat) (V : Vw), j + f = 8 → RC ns nc (mvS S j) V → AW l D cA A ad yX5_moveShips cX5_moveShips 4 none rm_X5_moveShips (PC none ns nc (mvS S 8) sz) 0 0 (lvC ns nc) V sz 2 [some (.inr (some (0, 0))), some (.inl 1), some (.inl (j : Int)), none] [] := by
  intro f
  induction f with
  | zero =>
    intro j V hj hC
    refine aw_iload_n dX5_moveShips_2 rfl rfl ?_
    refine aw_bipush dX5_moveShips_3 (by decide) ?_
    refine aw_icmp_ge (tgt := 48) dX5_moveShips_5 (by decide) (by omega) (by omega) (fun c_5 => ?_) (fun c_5 => absurd c_5 (by omega))
    refine aw_vret dX5_moveShips_48 rfl (Nat.zero_le _) (Nat.zero_le _) ?_
    rw [show j = 8 by omega] at hC
    exact ⟨rfl, rfl, rfl, hC⟩
  | succ f ih =>
    intro j V hj hC
    obtain ⟨hR, h8, h24⟩ := id hC
    refine aw_iload_n dX5_moveShips_2 rfl rfl ?_
    refine aw_bipush dX5_moveShips_3 (by decide) ?_
    refine aw_icmp_ge (tgt := 48) dX5_moveShips_5 (by decide) (by omega) (by omega) (fun c_5 => absurd c_5 (by omega)) (fun c_5 => ?_)
    refine aw_aload_n dX5_moveShips_8 rfl rfl ?_
    refine aw_iload_n dX5_moveShips_9 rfl rfl ?_
    refine aw_if_ne (tgt := 20) dX5_moveShips_10 (by decide) (by omega) (fun c_10 => ?_) (fun c_10 => absurd c_10 (by decide))
    refine aw_iload_n dX5_moveShips_20 rfl rfl ?_
    refine aw_callV (c_X5_sectionAt (sec := j) hC (by omega)) mv_X5_sectionAt mlX5_57 dX5_moveShips_21 rfl rfl (by decide) rfl (Nat.le_of_ble_eq_true rfl) rfl ?_
    rintro _ _ _ _ ⟨rfl, rfl, rfl, rfl⟩
    refine aw_astore_n dX5_moveShips_24 rfl (by decide) ?_
    refine aw_aload_n dX5_moveShips_25 rfl rfl ?_
    refine aw_ifnull_S dX5_moveShips_26 ?_
    refine aw_aload_n dX5_moveShips_29 rfl rfl ?_
    refine aw_aload_n dX5_moveShips_30 rfl rfl ?_
    refine aw_aload_n dX5_moveShips_31 rfl rfl ?_
    refine aw_iload_n dX5_moveShips_32 rfl rfl ?_
    refine aw_callV (c_X3_lane (sec := j) hC (by omega) (by decide)) mv_X3_lane mlX5_172 dX5_moveShips_33 rfl (decide_eq_true (by omega)) (by decide) rfl (Nat.le_of_ble_eq_true rfl) rfl ?_
    rintro _ _ _ _ ⟨rfl, rfl, rfl, rfl⟩
    refine aw_getN dX5_moveShips_36 fnX5_176 (by decide) (by decide) rfl (decide_eq_true (show 2 * j + Int.toNat 1 < 16 by show 2 * j + 1 < 16; omega)) (rc_2_0 hR (show 2 * j + Int.toNat 1 < 16 by show 2 * j + 1 < 16; omega)) ?_
    refine aw_callV (c_X5_moveWithin (sec := j) (w := 1) (by omega) (by decide) (hok j (by omega)) hC) mv_X5_moveWithin mlX5_179 dX5_moveShips_39 rfl rfl (by decide) rfl (Nat.le_of_ble_eq_true rfl) rfl ?_
    rintro _ _ _ _ ⟨rfl, rfl, rfl, hC2⟩
    refine aw_iinc dX5_moveShips_42 rfl (by decide) ?_
    refine aw_goto (tgt := 2) dX5_moveShips_45 (by decide) ?_
    exact AW.lss (ih (j + 1) _ (by omega) hC2) (And.intro rfl (And.intro rfl (And.intro rfl trivial)))
set_option maxRecDepth 100000 in
set_option maxHeartbeats 4000000 in
theorem c1_X5_moveShips (hok : ∀ j : Nat, j < 8 → okMC j 1 (mvS S j 33 (2 * ((j : Nat) : Int) + 1)).toNat (mvS S j) 0 false) (hC : RC ns nc S V) : CT l D cA A ad yX5_moveShips cX5_moveShips 4 none rm_X5_moveShips [.inr (some (0, 0)), .inl 1] (lvC ns nc) V sz (PC none ns nc (mvS S 8) sz) := by
  refine CT.of2 [some (.inr (some (0, 0))), some (.inl 1), none, none] (by decide) (Nat.le_of_ble_eq_true rfl) rfl ?_
  refine aw_iconst dX5_moveShips_0 ?_
  refine aw_istore_n dX5_moveShips_1 rfl (by decide) ?_
  exact AW.lss (lp1_X5_moveShips hok 8 0 V (by omega) hC) (And.intro rfl (And.intro rfl (And.intro rfl trivial)))
theorem cause_congr {S T : SS} (h : ∀ k, k ≠ 23 → ∀ x, T k x = S k x) (s : Int) (sec : Nat) : cause T s sec = cause S s sec := by
  have e1 : ∀ x n, agP T x n = agP S x n := fun x n => by simp only [agP, h 15 (by decide), h 21 (by decide)]
  have e2 : ∀ x n, exB (agP T x) n = exB (agP S x) n := fun x n => by
    induction n with
    | zero => rfl
    | succ n ih => simp only [exB, ih, e1]
  have e3 : ∀ n, lowF T n = lowF S n := fun n => by
    induction n with
    | zero => rfl
    | succ n ih => simp only [lowF, ih, h 5 (by decide)]
  have e4 : ∀ o f k, onUp T o k f = onUp S o k f := fun o f => by
    induction f with
    | zero => intro k; rfl
    | succ f ih => intro k; simp only [onUp, ih, h 5 (by decide), h 33 (by decide)]
  have hA : isAgr T sec = isAgr S sec := by rw [isAgr, isAgr, h 8 (by decide), e2]
  have hO : isOnc T sec (1 - S 9 s) = isOnc S sec (1 - S 9 s) := by rw [isOnc, isOnc, e3, e4]
  have hH : hr T = hr S := by rw [hr, hr, h 0 (by decide)]
  have hD : deep T sec = deep S sec := by rw [deep, deep, hH, h 4 (by decide), h 6 (by decide)]
  unfold cause
  rw [h 9 (by decide), hA, hO, hD, hH, h 5 (by decide), h 33 (by decide), h 0 (by decide), h 35 (by decide), h 1 (by decide), h 12 (by decide), h 11 (by decide), h 7 (by decide)]
theorem isAgr_congr {S T : SS} (h8 : T 8 0 = S 8 0) (h15 : ∀ x, T 15 x = S 15 x) (h21 : ∀ x, T 21 x = S 21 x) (sec : Int) : isAgr T sec = isAgr S sec := by
  have e1 : ∀ n, agP T sec n = agP S sec n := fun n => by simp only [agP, h15, h21]
  have e2 : ∀ n, exB (agP T sec) n = exB (agP S sec) n := fun n => by
    induction n with
    | zero => rfl
    | succ n ih => simp only [exB, ih, e1]
  simp only [isAgr, e2, h8]
theorem lnA_congr {S T : SS} (h0 : T 0 0 = S 0 0) (h33 : ∀ x, T 33 x = S 33 x) (h34 : ∀ x, T 34 x = S 34 x) (h36 : ∀ x, T 36 x = S 36 x) (j : Nat) : lnA T j = lnA S j := by
  simp only [lnA, h0, h33, h34, h36]
theorem CI_congr {S T : SS} (h : ∀ k, k ≠ 23 → ∀ x, T k x = S k x) (hB : BB T) (hI : CI S) : CI T := by
  obtain ⟨-, hV, hU, hA⟩ := hI
  refine ⟨hB, ?_, ?_, ?_⟩
  · simp only [VE, h 33 (by decide), h 34 (by decide), h 8 (by decide), h 31 (by decide), h 32 (by decide), h 24 (by decide), h 0 (by decide), h 26 (by decide), h 27 (by decide), h 28 (by decide), h 29 (by decide), h 30 (by decide)]
    exact hV
  · simp only [UN, h 8 (by decide), h 36 (by decide), h 21 (by decide), h 0 (by decide)]
    exact hU
  · intro sec hs
    rw [lnA_congr (h 0 (by decide) 0) (h 33 (by decide)) (h 34 (by decide)) (h 36 (by decide)), lnA_congr (h 0 (by decide) 0) (h 33 (by decide)) (h 34 (by decide)) (h 36 (by decide)), isAgr_congr (h 8 (by decide) 0) (h 15 (by decide)) (h 21 (by decide))]
    exact hA sec hs
theorem CI_qw {S : SS} {w : Int} (h : CI S) (n : Nat) : CI (qw S w n) := CI_congr (fun k hk x => qw_ne hk n x) (BB_qw h.1 n) h
/-- the first of a line is gone -/
def lnP (S : SS) (w : Int) : SS := shf (u2 S 31 w (S 31 w - 1)) 32 (30 * w) (S 31 w - 1).toNat
theorem lnP_ne {S : SS} {w : Int} {k : Nat} (h1 : k ≠ 31) (h2 : k ≠ 32) (x : Int) : lnP S w k x = S k x := by
  simp only [lnP]
  rw [shf_ne h2, u2_ne h1]
theorem lnP_31 (S : SS) (w x : Int) : lnP S w 31 x = if x = w then S 31 w - 1 else S 31 x := by
  simp only [lnP]
  rw [shf_ne (by decide), u2_at]
theorem lnP_32 (S : SS) (w x : Int) : lnP S w 32 x = if 30 * w ≤ x ∧ x < 30 * w + (S 31 w - 1).toNat then S 32 (x + 1) else S 32 x := by
  simp only [lnP]
  rw [shf_at, u2_ne (by decide), u2_ne (by decide)]
theorem lnP_u2 {S : SS} {K : Nat} (h3 : K ≠ 31) (h4 : K ≠ 32) (x v w : Int) : lnP (u2 S K x v) w = u2 (lnP S w) K x v := by
  funext k z
  by_cases e3 : k = 31
  · subst e3
    rw [lnP_31, u2_ne (Ne.symm h3), u2_ne (Ne.symm h3), u2_ne (Ne.symm h3), lnP_31]
  · by_cases e4 : k = 32
    · subst e4
      rw [lnP_32, u2_ne (Ne.symm h3), u2_ne (Ne.symm h4), u2_ne (Ne.symm h4), u2_ne (Ne.symm h4), lnP_32]
    · rw [lnP_ne e3 e4]
      simp only [u2]
      rw [lnP_ne e3 e4]
theorem u2_comm {S : SS} {K K' : Nat} (h : K ≠ K') (x v x' v' : Int) : u2 (u2 S K x v) K' x' v' = u2 (u2 S K' x' v') K x v := by
  funext k z
  simp only [u2]
  by_cases h1 : k = K'
  · subst h1
    have : ¬ (k = K ∧ z = x) := fun q => h q.1.symm
    simp only [this, if_false]
  · have : ¬ (k = K' ∧ z = x') := fun q => h1 q.1
    simp only [this, if_false]
theorem ent_lnP {T : SS} {s sec w t : Int} : lnP (u2 (ent T s sec) 19 s t) w = ent (u2 (lnP T w) 19 s t) s sec := by
  have e9 : u2 (lnP T w) 19 s t 9 s = T 9 s := by rw [u2_ne (by decide), lnP_ne (by decide) (by decide)]
  have e33 : ∀ x, u2 (lnP T w) 19 s t 33 x = T 33 x := fun x => by rw [u2_ne (by decide), lnP_ne (by decide) (by decide)]
  have e0 : u2 (lnP T w) 19 s t 0 0 = T 0 0 := by rw [u2_ne (by decide), lnP_ne (by decide) (by decide)]
  have e13 : u2 (lnP T w) 19 s t 13 s = T 13 s := by rw [u2_ne (by decide), lnP_ne (by decide) (by decide)]
  have e3 : u2 (lnP T w) 19 s t 3 sec = T 3 sec := by rw [u2_ne (by decide), lnP_ne (by decide) (by decide)]
  simp only [ent, e9, e33, e0, e13, e3]
  rw [lnP_u2 (by decide) (by decide), lnP_u2 (by decide) (by decide), lnP_u2 (by decide) (by decide), lnP_u2 (by decide) (by decide), lnP_u2 (by decide) (by decide), lnP_u2 (by decide) (by decide)]
  rw [u2_comm (K := 16) (K' := 19) (by decide), u2_comm (K := 15) (K' := 19) (by decide), u2_comm (K := 35) (K' := 19) (by decide), u2_comm (K := 33) (K' := 19) (by decide), u2_comm (K := 34) (K' := 19) (by decide)]
set_option maxRecDepth 100000 in
set_option maxHeartbeats 4000000 in
theorem lp0_X5_letFirstIn {s : Nat} (hI : CI S) (h1 : 1 ≤ S 31 0) (hk : ∀ V : Vw, RC ns nc (qw S 0 ((S 31 0).toNat - 1)) V → AW l D cA A ad yX5_letFirstIn cX5_letFirstIn 7 none rm_X5_letFirstIn (PC none ns nc (cm S 0) sz) 0 0 (lvC ns nc) V sz 76 [some (.inr (some (0, 0))), some (.inl 0), some (.inr (some (31, 0))), some (.inr (some (5, s))), some (.inr (some (1, 0))), none, none] []) : ∀ (f n : Nat) (V : Vw), n + f = (S 31 0).toNat - 1 → RC ns nc (qw S 0 n) V → AW l D cA A ad yX5_letFirstIn cX5_letFirstIn 7 none rm_X5_letFirstIn (PC none ns nc (cm S 0) sz) 0 0 (lvC ns nc) V sz 41 [some (.inr (some (0, 0))), some (.inl 0), some (.inr (some (31, 0))), some (.inr (some (5, s))), some (.inr (some (1, 0))), some (.inl ((n : Int) + 1)), none] [] := by
  obtain ⟨hB, hV, -, -⟩ := hI
  have hln := hB.ln (w := 0) (by decide) (by decide)
  intro f
  induction f with
  | zero =>
    intro n V hn hC
    have e31 : V 31 0 1 = .inl (S 31 0) := (rc_31_1 hC.1 (by decide)).trans (by rw [qw_ne (by decide)]; rfl)
    refine aw_iload dX5_letFirstIn_41 rfl ?_
    refine aw_aload_n dX5_letFirstIn_43 rfl rfl ?_
    refine aw_getN dX5_letFirstIn_44 fnX5_84 (by decide) (by decide) rfl rfl e31 ?_
    refine aw_icmp_ge (tgt := 76) dX5_letFirstIn_47 (by decide) (by omega) (by omega) (fun c_47 => ?_) (fun c_47 => absurd c_47 (by omega))
    rw [show n = (S 31 0).toNat - 1 by omega] at hC
    exact AW.lss (hk V hC) (And.intro rfl (And.intro rfl (And.intro rfl (And.intro rfl (And.intro rfl trivial)))))
  | succ f ih =>
    intro n V hn hC
    have hR := hC.1
    have e31 : V 31 0 1 = .inl (S 31 0) := (rc_31_1 hR (by decide)).trans (by rw [qw_ne (by decide)]; rfl)
    have hv := hV.2.1 0 (n + 1) (by decide) (show ((n + 1 : Nat) : Int) < S 31 0 by omega)
    have hv : S 32 (30 * (0 : Int) + ((n : Int) + 1)) < S 8 0 := hv
    have hli := hB.li (x := 30 * (0 : Int) + ((n : Int) + 1)) (by omega) (by omega)
    have e41 : V 41 0 ((n : Int) + 1).toNat = .inr (some (5, (S 32 (30 * (0 : Int) + ((n : Int) + 1))).toNat)) := by
      have := rc_41 (i := 0) (k := n + 1) hR (by decide) (by omega) (by rw [qw_ne (by decide)]; show ((n + 1 : Nat) : Int) < S 31 0; omega)
      rw [qw_ne (by decide)] at this
      exact this
    have h8 : S 8 0 = ns := by have := hC.2.1; rw [qw_ne (by decide)] at this; exact this
    have hW : RW (lvC ns nc) V 31 0 41 0 (S 31 0) := ⟨rfl, rfl, rc_31_0 hR (by decide), rfl, rfl, e31, hln.1, hln.2⟩
    generalize hse : S 32 (30 * (0 : Int) + ((n : Int) + 1)) = s1 at hv hli e41
    obtain ⟨t, rfl⟩ : ∃ t : Nat, s1 = (t : Int) := ⟨s1.toNat, by omega⟩
    rw [Int.toNat_natCast] at e41
    have eq1 : qw S 0 (n + 1) = wt (qw S 0 n) (7 * (t : Int) + 6) := by rw [qw, hse]
    refine aw_iload dX5_letFirstIn_41 rfl ?_
    refine aw_aload_n dX5_letFirstIn_43 rfl rfl ?_
    refine aw_getN dX5_letFirstIn_44 fnX5_84 (by decide) (by decide) rfl rfl e31 ?_
    refine aw_icmp_ge (tgt := 76) dX5_letFirstIn_47 (by decide) (by omega) (by omega) (fun c_47 => absurd c_47 (by omega)) (fun c_47 => ?_)
    refine aw_aload_n dX5_letFirstIn_50 rfl rfl ?_
    refine aw_iload dX5_letFirstIn_51 rfl ?_
    refine aw_callV (c_X2_at (x := (n : Int) + 1) hW (by omega) (by omega) e41) mv_X2_at mlX5_103 dX5_letFirstIn_53 rfl rfl (by decide) rfl (Nat.le_of_ble_eq_true rfl) rfl ?_
    rintro _ _ _ _ ⟨rfl, rfl, rfl, rfl⟩
    refine aw_astore dX5_letFirstIn_56 (by decide) ?_
    refine aw_aload dX5_letFirstIn_58 rfl ?_
    refine aw_ifnull_S dX5_letFirstIn_60 ?_
    refine aw_aload dX5_letFirstIn_63 rfl ?_
    refine aw_bipush dX5_letFirstIn_65 (by decide) ?_
    refine aw_callV (c_X4_waitBy (s := t) hC (by omega) (by decide)) mv_X4_waitBy mlX5_183 dX5_letFirstIn_67 rfl (decide_eq_true (by omega)) (by decide) rfl (Nat.le_of_ble_eq_true rfl) rfl ?_
    rintro _ _ _ _ ⟨rfl, rfl, rfl, hC2⟩
    refine aw_iinc dX5_letFirstIn_70 rfl (by decide) ?_
    refine aw_goto (tgt := 41) dX5_letFirstIn_73 (by decide) ?_
    rw [← eq1] at hC2
    exact AW.lss (ih (n + 1) _ (by omega) hC2) (And.intro rfl (And.intro rfl (And.intro rfl (And.intro rfl (And.intro rfl (And.intro rfl trivial))))))
set_option maxRecDepth 100000 in
set_option maxHeartbeats 4000000 in
theorem tl0_X5_letFirstIn {s : Nat} (hI : CI S) (h1 : 1 ≤ S 31 0) (hs0 : S 32 0 = s) (hs : (s : Int) < ns) (h9 : S 9 s = 0) (V : Vw) (hC : RC ns nc (qw S 0 ((S 31 0).toNat - 1)) V) : AW l D cA A ad yX5_letFirstIn cX5_letFirstIn 7 none rm_X5_letFirstIn (PC none ns nc (cm S 0) sz) 0 0 (lvC ns nc) V sz 76 [some (.inr (some (0, 0))), some (.inl 0), some (.inr (some (31, 0))), some (.inr (some (5, s))), some (.inr (some (1, 0))), none, none] [] := by
  have hB := hI.1
  have hln := hB.ln (w := 0) (by decide) (by decide)
  have hIq := CI_qw (w := 0) hI ((S 31 0).toNat - 1)
  have ec : cause (qw S 0 ((S 31 0).toNat - 1)) s 0 = cause S s 0 := cause_congr (fun k hk x => qw_ne hk _ x) _ _
  have hcb := cause_bd S s 0
  have h9q : qw S 0 ((S 31 0).toNat - 1) 9 s = 0 := by rw [qw_ne (by decide)]; exact h9
  have ecm : cm S 0 = if 0 ≤ cause S s 0 then wt (qw S 0 ((S 31 0).toNat - 1)) (7 * (s : Int) + cause S s 0) else ent (u2 (lnP (qw S 0 ((S 31 0).toNat - 1)) 0) 19 s (S 0 0)) s 0 := by
    have e31 : qw S 0 ((S 31 0).toNat - 1) 31 0 = S 31 0 := qw_ne (by decide) _ _
    rw [cm, if_neg (by omega), ← hs0, lnP, e31]
    rfl
  refine aw_aload_n dX5_letFirstIn_76 rfl rfl ?_
  refine aw_aload_n dX5_letFirstIn_77 rfl rfl ?_
  refine aw_aload dX5_letFirstIn_78 rfl ?_
  refine aw_aload_n dX5_letFirstIn_80 rfl rfl ?_
  refine aw_aload_n dX5_letFirstIn_81 rfl rfl ?_
  refine aw_aload dX5_letFirstIn_82 rfl ?_
  refine aw_callV (c_X5_causeAgainst (s := s) (sec := 0) hIq hC hs (by decide)) mv_X5_causeAgainst mlX5_205 dX5_letFirstIn_84 rfl rfl (by decide) rfl (Nat.le_of_ble_eq_true rfl) rfl ?_
  rintro _ _ _ _ ⟨rfl, rfl, rfl, rfl⟩
  rw [ec]
  by_cases hca : 0 ≤ cause S s 0
  · rw [show cz (cause S s 0) = cause S s 0 by rw [cz, if_neg (by omega)]]
    refine aw_callV (cA_X5_comesInto (s := s) (sec := 0) hC hs (by omega)) mv_X5_comesInto mlX5_209 dX5_letFirstIn_87 rfl rfl (by decide) rfl (Nat.le_of_ble_eq_true rfl) rfl ?_
    rintro _ _ _ _ ⟨rfl, rfl, rfl, hC2⟩
    refine aw_if_eq (tgt := 105) dX5_letFirstIn_90 (by decide) (by omega) (fun _ => ?_) (fun c_90 => absurd c_90 (by decide))
    refine aw_vret dX5_letFirstIn_105 rfl (Nat.zero_le _) (Nat.zero_le _) ?_
    rw [ecm, if_pos hca]
    exact ⟨rfl, rfl, rfl, hC2⟩
  · rw [show cz (cause S s 0) = -4 by rw [cz, if_pos (by omega)]]
    have hc2 : qw S 0 ((S 31 0).toNat - 1) 33 (2 * ((0 : Nat) : Int) + (qw S 0 ((S 31 0).toNat - 1)) 9 s) ≤ 2 := by
      have hi3 := hIq.1.iM (a := 2 * ((0 : Nat) : Int) + (qw S 0 ((S 31 0).toNat - 1)) 9 s) (by omega) (by omega)
      by_cases h3 : qw S 0 ((S 31 0).toNat - 1) 33 (2 * ((0 : Nat) : Int) + (qw S 0 ((S 31 0).toNat - 1)) 9 s) = 3
      · exfalso
        apply hca
        rw [← ec]
        simp only [cause]
        split
        · decide
        · split
          · decide
          · first | decide | (rw [if_pos h3]; decide)
      · omega
    refine aw_callV (cB_X5_comesInto (s := s) (sec := 0) hIq.1 hC hs (by decide) hc2) mv_X5_comesInto mlX5_209 dX5_letFirstIn_87 rfl rfl (by decide) rfl (Nat.le_of_ble_eq_true rfl) rfl ?_
    rintro _ _ V3 _ ⟨rfl, rfl, rfl, hC2⟩
    refine aw_if_eq (tgt := 105) dX5_letFirstIn_90 (by decide) (by omega) (fun c_90 => absurd c_90 (by decide)) (fun _ => ?_)
    refine aw_aload_n dX5_letFirstIn_93 rfl rfl ?_
    refine aw_aload_n dX5_letFirstIn_94 rfl rfl ?_
    refine aw_get (v := .inl (S 0 0)) dX5_letFirstIn_95 flX5_53 (by decide) (by decide) rfl rfl (((rc_0_10 hC2.1).trans (congrArg Sum.inl (show (ent (qw S 0 ((S 31 0).toNat - 1)) s ((0 : Nat) : Int)) 0 0 = S 0 0 by simp only [ent]; rw [u2_ne (by decide), u2_ne (by decide), u2_ne (by decide), u2_ne (by decide), u2_ne (by decide), qw_ne (by decide)]))).trans rfl) ?_
    refine aw_putN dX5_letFirstIn_98 fnX5_213 (by decide) (by decide) rfl rfl (decide_eq_true hs) trivial ?_
    have hC3 : RC ns nc (u2 (ent (qw S 0 ((S 31 0).toNat - 1)) s ((0 : Nat) : Int)) 19 s (S 0 0)) _ := hC2.set (S 0 0) (show src 5 s 12 = some (false, 19, (s : Int)) from rfl) (by decide) (And.intro (show (s : Int) < _ by rw [hC2.2.1]; exact hs) (by decide))
    have hR3 := hC3.1
    have e31 : ∀ x, (u2 (ent (qw S 0 ((S 31 0).toNat - 1)) s ((0 : Nat) : Int)) 19 s (S 0 0)) 31 x = S 31 x := fun x => by simp only [ent]; rw [u2_ne (by decide), u2_ne (by decide), u2_ne (by decide), u2_ne (by decide), u2_ne (by decide), u2_ne (by decide), qw_ne (by decide)]
    have e32 : ∀ x, (u2 (ent (qw S 0 ((S 31 0).toNat - 1)) s ((0 : Nat) : Int)) 19 s (S 0 0)) 32 x = S 32 x := fun x => by simp only [ent]; rw [u2_ne (by decide), u2_ne (by decide), u2_ne (by decide), u2_ne (by decide), u2_ne (by decide), u2_ne (by decide), qw_ne (by decide)]
    have h8 : S 8 0 = ns := by have := hC.2.1; rw [qw_ne (by decide)] at this; exact this
    have hW : RW (lvC ns nc) (s3 V3 5 s 12 (.inl (S 0 0))) 31 0 41 0 (S 31 0) := ⟨rfl, rfl, rc_31_0 hR3 (by decide), rfl, rfl, (rc_31_1 hR3 (by decide)).trans (by rw [e31]; rfl), hln.1, hln.2⟩
    have hent : ∀ q : Nat, 1 ≤ q → (q : Int) < S 31 0 → s3 V3 5 s 12 (.inl (S 0 0)) 41 0 q = Sum.inr (some (5, (S 32 (30 * (0 : Int) + q)).toNat)) ∧ lvC ns nc 5 (S 32 (30 * (0 : Int) + q)).toNat = true := fun q hq1 hq2 => by
      have hv := hI.2.1.2.1 0 q (by decide) hq2
      have hv : S 32 (30 * (0 : Int) + q) < S 8 0 := hv
      have hli := hB.li (x := 30 * (0 : Int) + q) (by omega) (by omega)
      refine ⟨?_, decide_eq_true (by omega)⟩
      have := rc_41 (i := 0) (k := q) hR3 (by decide) (by omega) (by rw [e31]; exact hq2)
      rw [e32] at this
      exact this
    have hpop := RepC.popLine (j := 0) hR3 (by decide) (by rw [e31]; exact ⟨h1, hln.2⟩)
    have hpop : RepC (lnP (u2 (ent (qw S 0 ((S 31 0).toNat - 1)) s ((0 : Nat) : Int)) 19 s (S 0 0)) 0) _ := hpop
    rw [ent_lnP, e31] at hpop
    refine aw_aload_n dX5_letFirstIn_101 rfl rfl ?_
    refine aw_callV (c_X2_removeFirst (e := fun q => (S 32 (30 * (0 : Int) + q)).toNat) hW (by decide) h1 hent) mv_X2_removeFirst mlX5_190 dX5_letFirstIn_102 rfl rfl (by decide) rfl (Nat.le_of_ble_eq_true rfl) rfl ?_
    rintro _ _ _ _ ⟨rfl, rfl, rfl, rfl⟩
    refine aw_vret dX5_letFirstIn_105 rfl (Nat.zero_le _) (Nat.zero_le _) ?_
    refine ⟨rfl, rfl, rfl, ?_⟩
    rw [ecm, if_neg hca]
    refine ⟨hpop, ?_, ?_⟩
    · simp only [ent]; rw [u2_ne (by decide), u2_ne (by decide), u2_ne (by decide), u2_ne (by decide), u2_ne (by decide), u2_ne (by decide), lnP_ne (by decide) (by decide)]; exact hC.2.1
    · simp only [ent]; rw [u2_ne (by decide), u2_ne (by decide), u2_ne (by decide), u2_ne (by decide), u2_ne (by decide), u2_ne (by decide), lnP_ne (by decide) (by decide)]; exact hC.2.2
set_option maxRecDepth 100000 in
set_option maxHeartbeats 4000000 in
theorem c0_X5_letFirstIn (hI : CI S) (hC : RC ns nc S V) (h9 : S 31 0 ≠ 0 → ∀ s : Nat, S 32 0 = s → S 9 s = 0) : CT l D cA A ad yX5_letFirstIn cX5_letFirstIn 7 none rm_X5_letFirstIn [.inr (some (0, 0)), .inl 0] (lvC ns nc) V sz (PC none ns nc (cm S 0) sz) := by
  refine CT.of2 [some (.inr (some (0, 0))), some (.inl 0), none, none, none, none, none] (by decide) (Nat.le_of_ble_eq_true rfl) rfl ?_
  obtain ⟨hR, h8, h24⟩ := id hC
  obtain ⟨hB, hV, -, -⟩ := id hI
  have hln := hB.ln (w := 0) (by decide) (by decide)
  have hline := hC.line hB (j := 0) (by decide)
  by_cases h0 : S 31 0 = 0
  · refine aw_aload_n dX5_letFirstIn_0 rfl rfl ?_
    refine aw_iload_n dX5_letFirstIn_1 rfl rfl ?_
    refine aw_callV (c_X5_lineOf (w := 0) hC (by decide)) mv_X5_lineOf mlX5_151 dX5_letFirstIn_2 rfl rfl (by decide) rfl (Nat.le_of_ble_eq_true rfl) rfl ?_
    rintro _ _ _ _ ⟨rfl, rfl, rfl, rfl⟩
    refine aw_astore_n dX5_letFirstIn_5 rfl (by decide) ?_
    refine aw_aload_n dX5_letFirstIn_6 rfl rfl ?_
    refine aw_iconst dX5_letFirstIn_7 ?_
    refine aw_callV (c_X2_at_out hline (by decide) (Or.inr (show S 31 0 ≤ 0 by omega))) mv_X2_at mlX5_103 dX5_letFirstIn_8 rfl rfl (by decide) rfl (Nat.le_of_ble_eq_true rfl) rfl ?_
    rintro _ _ _ _ ⟨rfl, rfl, rfl, rfl⟩
    refine aw_astore_n dX5_letFirstIn_11 rfl (by decide) ?_
    refine aw_aload_n dX5_letFirstIn_12 rfl rfl ?_
    refine aw_iload_n dX5_letFirstIn_13 rfl rfl ?_
    refine aw_if_ne (tgt := 21) dX5_letFirstIn_14 (by decide) (by omega) (fun c_14 => absurd c_14 (by decide)) (fun c_14 => ?_)
    refine aw_iconst dX5_letFirstIn_17 ?_
    refine aw_goto (tgt := 23) dX5_letFirstIn_18 (by decide) ?_
    refine aw_callV (c_X5_sectionAt (sec := 0) hC (by decide)) mv_X5_sectionAt mlX5_57 dX5_letFirstIn_23 rfl rfl (by decide) rfl (Nat.le_of_ble_eq_true rfl) rfl ?_
    rintro _ _ _ _ ⟨rfl, rfl, rfl, rfl⟩
    refine aw_astore dX5_letFirstIn_26 (by decide) ?_
    refine aw_aload_n dX5_letFirstIn_28 rfl rfl ?_
    refine aw_ifnull_N (tgt := 37) dX5_letFirstIn_29 (by decide) ?_
    refine aw_vret dX5_letFirstIn_37 rfl (Nat.zero_le _) (Nat.zero_le _) ?_
    rw [cm, if_pos h0]
    exact ⟨rfl, rfl, rfl, hC⟩
  · have hv : S 32 0 < S 8 0 := hV.2.1 0 0 (by decide) (show (0 : Int) < S 31 0 by omega)
    have hli := hB.li (x := 0) (by decide) (by decide)
    have e41 : V 41 0 (0 : Int).toNat = .inr (some (5, (S 32 0).toNat)) := rc_41 (i := 0) (k := 0) hR (by decide) (by decide) (show (0 : Int) < S 31 0 by omega)
    generalize hse : S 32 0 = s1 at hv hli e41
    obtain ⟨s, rfl⟩ : ∃ t : Nat, s1 = (t : Int) := ⟨s1.toNat, by omega⟩
    rw [Int.toNat_natCast] at e41
    have h9s := h9 h0 s hse
    refine aw_aload_n dX5_letFirstIn_0 rfl rfl ?_
    refine aw_iload_n dX5_letFirstIn_1 rfl rfl ?_
    refine aw_callV (c_X5_lineOf (w := 0) hC (by decide)) mv_X5_lineOf mlX5_151 dX5_letFirstIn_2 rfl rfl (by decide) rfl (Nat.le_of_ble_eq_true rfl) rfl ?_
    rintro _ _ _ _ ⟨rfl, rfl, rfl, rfl⟩
    refine aw_astore_n dX5_letFirstIn_5 rfl (by decide) ?_
    refine aw_aload_n dX5_letFirstIn_6 rfl rfl ?_
    refine aw_iconst dX5_letFirstIn_7 ?_
    refine aw_callV (c_X2_at (x := 0) hline (by decide) (show (0 : Int) < S 31 0 by omega) e41) mv_X2_at mlX5_103 dX5_letFirstIn_8 rfl rfl (by decide) rfl (Nat.le_of_ble_eq_true rfl) rfl ?_
    rintro _ _ _ _ ⟨rfl, rfl, rfl, rfl⟩
    refine aw_astore_n dX5_letFirstIn_11 rfl (by decide) ?_
    refine aw_aload_n dX5_letFirstIn_12 rfl rfl ?_
    refine aw_iload_n dX5_letFirstIn_13 rfl rfl ?_
    refine aw_if_ne (tgt := 21) dX5_letFirstIn_14 (by decide) (by omega) (fun c_14 => absurd c_14 (by decide)) (fun c_14 => ?_)
    refine aw_iconst dX5_letFirstIn_17 ?_
    refine aw_goto (tgt := 23) dX5_letFirstIn_18 (by decide) ?_
    refine aw_callV (c_X5_sectionAt (sec := 0) hC (by decide)) mv_X5_sectionAt mlX5_57 dX5_letFirstIn_23 rfl rfl (by decide) rfl (Nat.le_of_ble_eq_true rfl) rfl ?_
    rintro _ _ _ _ ⟨rfl, rfl, rfl, rfl⟩
    refine aw_astore dX5_letFirstIn_26 (by decide) ?_
    refine aw_aload_n dX5_letFirstIn_28 rfl rfl ?_
    refine aw_ifnull_S dX5_letFirstIn_29 ?_
    refine aw_aload dX5_letFirstIn_32 rfl ?_
    refine aw_ifnonnull_S (tgt := 38) dX5_letFirstIn_34 (by decide) ?_
    refine aw_iconst dX5_letFirstIn_38 ?_
    refine aw_istore dX5_letFirstIn_39 (by decide) ?_
    exact AW.lss (lp0_X5_letFirstIn hI (by omega) (fun V hC => tl0_X5_letFirstIn hI (by omega) hse (by omega) h9s V hC) ((S 31 0).toNat - 1) 0 _ (by omega) hC) (And.intro rfl (And.intro rfl (And.intro rfl (And.intro rfl (And.intro rfl (And.intro rfl trivial))))))
set_option maxRecDepth 100000 in
set_option maxHeartbeats 4000000 in
theorem lp1_X5_letFirstIn {s : Nat} (hI : CI S) (h1 : 1 ≤ S 31 1) (hk : ∀ V : Vw, RC ns nc (qw S 1 ((S 31 1).toNat - 1)) V → AW l D cA A ad yX5_letFirstIn cX5_letFirstIn 7 none rm_X5_letFirstIn (PC none ns nc (cm S 1) sz) 0 0 (lvC ns nc) V sz 76 [some (.inr (some (0, 0))), some (.inl 1), some (.inr (some (31, 1))), some (.inr (some (5, s))), some (.inr (some (1, 7))), none, none] []) : ∀ (f n : Nat) (V : Vw), n + f = (S 31 1).toNat - 1 → RC ns nc (qw S 1 n) V → AW l D cA A ad yX5_letFirstIn cX5_letFirstIn 7 none rm_X5_letFirstIn (PC none ns nc (cm S 1) sz) 0 0 (lvC ns nc) V sz 41 [some (.inr (some (0, 0))), some (.inl 1), some (.inr (some (31, 1))), some (.inr (some (5, s))), some (.inr (some (1, 7))), some (.inl ((n : Int) + 1)), none] [] := by
  obtain ⟨hB, hV, -, -⟩ := hI
  have hln := hB.ln (w := 1) (by decide) (by decide)
  intro f
  induction f with
  | zero =>
    intro n V hn hC
    have e31 : V 31 1 1 = .inl (S 31 1) := (rc_31_1 hC.1 (by decide)).trans (by rw [qw_ne (by decide)]; rfl)
    refine aw_iload dX5_letFirstIn_41 rfl ?_
    refine aw_aload_n dX5_letFirstIn_43 rfl rfl ?_
    refine aw_getN dX5_letFirstIn_44 fnX5_84 (by decide) (by decide) rfl rfl e31 ?_
    refine aw_icmp_ge (tgt := 76) dX5_letFirstIn_47 (by decide) (by omega) (by omega) (fun c_47 => ?_) (fun c_47 => absurd c_47 (by omega))
    rw [show n = (S 31 1).toNat - 1 by omega] at hC
    exact AW.lss (hk V hC) (And.intro rfl (And.intro rfl (And.intro rfl (And.intro rfl (And.intro rfl trivial)))))
  | succ f ih =>
    intro n V hn hC
    have hR := hC.1
    have e31 : V 31 1 1 = .inl (S 31 1) := (rc_31_1 hR (by decide)).trans (by rw [qw_ne (by decide)]; rfl)
    have hv := hV.2.1 1 (n + 1) (by decide) (show ((n + 1 : Nat) : Int) < S 31 1 by omega)
    have hv : S 32 (30 * (1 : Int) + ((n : Int) + 1)) < S 8 0 := hv
    have hli := hB.li (x := 30 * (1 : Int) + ((n : Int) + 1)) (by omega) (by omega)
    have e41 : V 41 1 ((n : Int) + 1).toNat = .inr (some (5, (S 32 (30 * (1 : Int) + ((n : Int) + 1))).toNat)) := by
      have := rc_41 (i := 1) (k := n + 1) hR (by decide) (by omega) (by rw [qw_ne (by decide)]; show ((n + 1 : Nat) : Int) < S 31 1; omega)
      rw [qw_ne (by decide)] at this
      exact this
    have h8 : S 8 0 = ns := by have := hC.2.1; rw [qw_ne (by decide)] at this; exact this
    have hW : RW (lvC ns nc) V 31 1 41 1 (S 31 1) := ⟨rfl, rfl, rc_31_0 hR (by decide), rfl, rfl, e31, hln.1, hln.2⟩
    generalize hse : S 32 (30 * (1 : Int) + ((n : Int) + 1)) = s1 at hv hli e41
    obtain ⟨t, rfl⟩ : ∃ t : Nat, s1 = (t : Int) := ⟨s1.toNat, by omega⟩
    rw [Int.toNat_natCast] at e41
    have eq1 : qw S 1 (n + 1) = wt (qw S 1 n) (7 * (t : Int) + 6) := by rw [qw, hse]
    refine aw_iload dX5_letFirstIn_41 rfl ?_
    refine aw_aload_n dX5_letFirstIn_43 rfl rfl ?_
    refine aw_getN dX5_letFirstIn_44 fnX5_84 (by decide) (by decide) rfl rfl e31 ?_
    refine aw_icmp_ge (tgt := 76) dX5_letFirstIn_47 (by decide) (by omega) (by omega) (fun c_47 => absurd c_47 (by omega)) (fun c_47 => ?_)
    refine aw_aload_n dX5_letFirstIn_50 rfl rfl ?_
    refine aw_iload dX5_letFirstIn_51 rfl ?_
    refine aw_callV (c_X2_at (x := (n : Int) + 1) hW (by omega) (by omega) e41) mv_X2_at mlX5_103 dX5_letFirstIn_53 rfl rfl (by decide) rfl (Nat.le_of_ble_eq_true rfl) rfl ?_
    rintro _ _ _ _ ⟨rfl, rfl, rfl, rfl⟩
    refine aw_astore dX5_letFirstIn_56 (by decide) ?_
    refine aw_aload dX5_letFirstIn_58 rfl ?_
    refine aw_ifnull_S dX5_letFirstIn_60 ?_
    refine aw_aload dX5_letFirstIn_63 rfl ?_
    refine aw_bipush dX5_letFirstIn_65 (by decide) ?_
    refine aw_callV (c_X4_waitBy (s := t) hC (by omega) (by decide)) mv_X4_waitBy mlX5_183 dX5_letFirstIn_67 rfl (decide_eq_true (by omega)) (by decide) rfl (Nat.le_of_ble_eq_true rfl) rfl ?_
    rintro _ _ _ _ ⟨rfl, rfl, rfl, hC2⟩
    refine aw_iinc dX5_letFirstIn_70 rfl (by decide) ?_
    refine aw_goto (tgt := 41) dX5_letFirstIn_73 (by decide) ?_
    rw [← eq1] at hC2
    exact AW.lss (ih (n + 1) _ (by omega) hC2) (And.intro rfl (And.intro rfl (And.intro rfl (And.intro rfl (And.intro rfl (And.intro rfl trivial))))))
set_option maxRecDepth 100000 in
set_option maxHeartbeats 4000000 in
theorem tl1_X5_letFirstIn {s : Nat} (hI : CI S) (h1 : 1 ≤ S 31 1) (hs0 : S 32 30 = s) (hs : (s : Int) < ns) (h9 : S 9 s = 1) (V : Vw) (hC : RC ns nc (qw S 1 ((S 31 1).toNat - 1)) V) : AW l D cA A ad yX5_letFirstIn cX5_letFirstIn 7 none rm_X5_letFirstIn (PC none ns nc (cm S 1) sz) 0 0 (lvC ns nc) V sz 76 [some (.inr (some (0, 0))), some (.inl 1), some (.inr (some (31, 1))), some (.inr (some (5, s))), some (.inr (some (1, 7))), none, none] [] := by
  have hB := hI.1
  have hln := hB.ln (w := 1) (by decide) (by decide)
  have hIq := CI_qw (w := 1) hI ((S 31 1).toNat - 1)
  have ec : cause (qw S 1 ((S 31 1).toNat - 1)) s 7 = cause S s 7 := cause_congr (fun k hk x => qw_ne hk _ x) _ _
  have hcb := cause_bd S s 7
  have h9q : qw S 1 ((S 31 1).toNat - 1) 9 s = 1 := by rw [qw_ne (by decide)]; exact h9
  have ecm : cm S 1 = if 0 ≤ cause S s 7 then wt (qw S 1 ((S 31 1).toNat - 1)) (7 * (s : Int) + cause S s 7) else ent (u2 (lnP (qw S 1 ((S 31 1).toNat - 1)) 1) 19 s (S 0 0)) s 7 := by
    have e31 : qw S 1 ((S 31 1).toNat - 1) 31 1 = S 31 1 := qw_ne (by decide) _ _
    rw [cm, if_neg (by omega), ← hs0, lnP, e31]
    rfl
  refine aw_aload_n dX5_letFirstIn_76 rfl rfl ?_
  refine aw_aload_n dX5_letFirstIn_77 rfl rfl ?_
  refine aw_aload dX5_letFirstIn_78 rfl ?_
  refine aw_aload_n dX5_letFirstIn_80 rfl rfl ?_
  refine aw_aload_n dX5_letFirstIn_81 rfl rfl ?_
  refine aw_aload dX5_letFirstIn_82 rfl ?_
  refine aw_callV (c_X5_causeAgainst (s := s) (sec := 7) hIq hC hs (by decide)) mv_X5_causeAgainst mlX5_205 dX5_letFirstIn_84 rfl rfl (by decide) rfl (Nat.le_of_ble_eq_true rfl) rfl ?_
  rintro _ _ _ _ ⟨rfl, rfl, rfl, rfl⟩
  rw [ec]
  by_cases hca : 0 ≤ cause S s 7
  · rw [show cz (cause S s 7) = cause S s 7 by rw [cz, if_neg (by omega)]]
    refine aw_callV (cA_X5_comesInto (s := s) (sec := 7) hC hs (by omega)) mv_X5_comesInto mlX5_209 dX5_letFirstIn_87 rfl rfl (by decide) rfl (Nat.le_of_ble_eq_true rfl) rfl ?_
    rintro _ _ _ _ ⟨rfl, rfl, rfl, hC2⟩
    refine aw_if_eq (tgt := 105) dX5_letFirstIn_90 (by decide) (by omega) (fun _ => ?_) (fun c_90 => absurd c_90 (by decide))
    refine aw_vret dX5_letFirstIn_105 rfl (Nat.zero_le _) (Nat.zero_le _) ?_
    rw [ecm, if_pos hca]
    exact ⟨rfl, rfl, rfl, hC2⟩
  · rw [show cz (cause S s 7) = -4 by rw [cz, if_pos (by omega)]]
    have hc2 : qw S 1 ((S 31 1).toNat - 1) 33 (2 * ((7 : Nat) : Int) + (qw S 1 ((S 31 1).toNat - 1)) 9 s) ≤ 2 := by
      have hi3 := hIq.1.iM (a := 2 * ((7 : Nat) : Int) + (qw S 1 ((S 31 1).toNat - 1)) 9 s) (by omega) (by omega)
      by_cases h3 : qw S 1 ((S 31 1).toNat - 1) 33 (2 * ((7 : Nat) : Int) + (qw S 1 ((S 31 1).toNat - 1)) 9 s) = 3
      · exfalso
        apply hca
        rw [← ec]
        simp only [cause]
        split
        · decide
        · split
          · decide
          · first | decide | (rw [if_pos h3]; decide)
      · omega
    refine aw_callV (cB_X5_comesInto (s := s) (sec := 7) hIq.1 hC hs (by decide) hc2) mv_X5_comesInto mlX5_209 dX5_letFirstIn_87 rfl rfl (by decide) rfl (Nat.le_of_ble_eq_true rfl) rfl ?_
    rintro _ _ V3 _ ⟨rfl, rfl, rfl, hC2⟩
    refine aw_if_eq (tgt := 105) dX5_letFirstIn_90 (by decide) (by omega) (fun c_90 => absurd c_90 (by decide)) (fun _ => ?_)
    refine aw_aload_n dX5_letFirstIn_93 rfl rfl ?_
    refine aw_aload_n dX5_letFirstIn_94 rfl rfl ?_
    refine aw_get (v := .inl (S 0 0)) dX5_letFirstIn_95 flX5_53 (by decide) (by decide) rfl rfl (((rc_0_10 hC2.1).trans (congrArg Sum.inl (show (ent (qw S 1 ((S 31 1).toNat - 1)) s ((7 : Nat) : Int)) 0 0 = S 0 0 by simp only [ent]; rw [u2_ne (by decide), u2_ne (by decide), u2_ne (by decide), u2_ne (by decide), u2_ne (by decide), qw_ne (by decide)]))).trans rfl) ?_
    refine aw_putN dX5_letFirstIn_98 fnX5_213 (by decide) (by decide) rfl rfl (decide_eq_true hs) trivial ?_
    have hC3 : RC ns nc (u2 (ent (qw S 1 ((S 31 1).toNat - 1)) s ((7 : Nat) : Int)) 19 s (S 0 0)) _ := hC2.set (S 0 0) (show src 5 s 12 = some (false, 19, (s : Int)) from rfl) (by decide) (And.intro (show (s : Int) < _ by rw [hC2.2.1]; exact hs) (by decide))
    have hR3 := hC3.1
    have e31 : ∀ x, (u2 (ent (qw S 1 ((S 31 1).toNat - 1)) s ((7 : Nat) : Int)) 19 s (S 0 0)) 31 x = S 31 x := fun x => by simp only [ent]; rw [u2_ne (by decide), u2_ne (by decide), u2_ne (by decide), u2_ne (by decide), u2_ne (by decide), u2_ne (by decide), qw_ne (by decide)]
    have e32 : ∀ x, (u2 (ent (qw S 1 ((S 31 1).toNat - 1)) s ((7 : Nat) : Int)) 19 s (S 0 0)) 32 x = S 32 x := fun x => by simp only [ent]; rw [u2_ne (by decide), u2_ne (by decide), u2_ne (by decide), u2_ne (by decide), u2_ne (by decide), u2_ne (by decide), qw_ne (by decide)]
    have h8 : S 8 0 = ns := by have := hC.2.1; rw [qw_ne (by decide)] at this; exact this
    have hW : RW (lvC ns nc) (s3 V3 5 s 12 (.inl (S 0 0))) 31 1 41 1 (S 31 1) := ⟨rfl, rfl, rc_31_0 hR3 (by decide), rfl, rfl, (rc_31_1 hR3 (by decide)).trans (by rw [e31]; rfl), hln.1, hln.2⟩
    have hent : ∀ q : Nat, 1 ≤ q → (q : Int) < S 31 1 → s3 V3 5 s 12 (.inl (S 0 0)) 41 1 q = Sum.inr (some (5, (S 32 (30 * (1 : Int) + q)).toNat)) ∧ lvC ns nc 5 (S 32 (30 * (1 : Int) + q)).toNat = true := fun q hq1 hq2 => by
      have hv := hI.2.1.2.1 1 q (by decide) hq2
      have hv : S 32 (30 * (1 : Int) + q) < S 8 0 := hv
      have hli := hB.li (x := 30 * (1 : Int) + q) (by omega) (by omega)
      refine ⟨?_, decide_eq_true (by omega)⟩
      have := rc_41 (i := 1) (k := q) hR3 (by decide) (by omega) (by rw [e31]; exact hq2)
      rw [e32] at this
      exact this
    have hpop := RepC.popLine (j := 1) hR3 (by decide) (by rw [e31]; exact ⟨h1, hln.2⟩)
    have hpop : RepC (lnP (u2 (ent (qw S 1 ((S 31 1).toNat - 1)) s ((7 : Nat) : Int)) 19 s (S 0 0)) 1) _ := hpop
    rw [ent_lnP, e31] at hpop
    refine aw_aload_n dX5_letFirstIn_101 rfl rfl ?_
    refine aw_callV (c_X2_removeFirst (e := fun q => (S 32 (30 * (1 : Int) + q)).toNat) hW (by decide) h1 hent) mv_X2_removeFirst mlX5_190 dX5_letFirstIn_102 rfl rfl (by decide) rfl (Nat.le_of_ble_eq_true rfl) rfl ?_
    rintro _ _ _ _ ⟨rfl, rfl, rfl, rfl⟩
    refine aw_vret dX5_letFirstIn_105 rfl (Nat.zero_le _) (Nat.zero_le _) ?_
    refine ⟨rfl, rfl, rfl, ?_⟩
    rw [ecm, if_neg hca]
    refine ⟨hpop, ?_, ?_⟩
    · simp only [ent]; rw [u2_ne (by decide), u2_ne (by decide), u2_ne (by decide), u2_ne (by decide), u2_ne (by decide), u2_ne (by decide), lnP_ne (by decide) (by decide)]; exact hC.2.1
    · simp only [ent]; rw [u2_ne (by decide), u2_ne (by decide), u2_ne (by decide), u2_ne (by decide), u2_ne (by decide), u2_ne (by decide), lnP_ne (by decide) (by decide)]; exact hC.2.2
set_option maxRecDepth 100000 in
set_option maxHeartbeats 4000000 in
theorem c1_X5_letFirstIn (hI : CI S) (hC : RC ns nc S V) (h9 : S 31 1 ≠ 0 → ∀ s : Nat, S 32 30 = s → S 9 s = 1) : CT l D cA A ad yX5_letFirstIn cX5_letFirstIn 7 none rm_X5_letFirstIn [.inr (some (0, 0)), .inl 1] (lvC ns nc) V sz (PC none ns nc (cm S 1) sz) := by
  refine CT.of2 [some (.inr (some (0, 0))), some (.inl 1), none, none, none, none, none] (by decide) (Nat.le_of_ble_eq_true rfl) rfl ?_
  obtain ⟨hR, h8, h24⟩ := id hC
  obtain ⟨hB, hV, -, -⟩ := id hI
  have hln := hB.ln (w := 1) (by decide) (by decide)
  have hline := hC.line hB (j := 1) (by decide)
  by_cases h0 : S 31 1 = 0
  · refine aw_aload_n dX5_letFirstIn_0 rfl rfl ?_
    refine aw_iload_n dX5_letFirstIn_1 rfl rfl ?_
    refine aw_callV (c_X5_lineOf (w := 1) hC (by decide)) mv_X5_lineOf mlX5_151 dX5_letFirstIn_2 rfl rfl (by decide) rfl (Nat.le_of_ble_eq_true rfl) rfl ?_
    rintro _ _ _ _ ⟨rfl, rfl, rfl, rfl⟩
    refine aw_astore_n dX5_letFirstIn_5 rfl (by decide) ?_
    refine aw_aload_n dX5_letFirstIn_6 rfl rfl ?_
    refine aw_iconst dX5_letFirstIn_7 ?_
    refine aw_callV (c_X2_at_out hline (by decide) (Or.inr (show S 31 1 ≤ 0 by omega))) mv_X2_at mlX5_103 dX5_letFirstIn_8 rfl rfl (by decide) rfl (Nat.le_of_ble_eq_true rfl) rfl ?_
    rintro _ _ _ _ ⟨rfl, rfl, rfl, rfl⟩
    refine aw_astore_n dX5_letFirstIn_11 rfl (by decide) ?_
    refine aw_aload_n dX5_letFirstIn_12 rfl rfl ?_
    refine aw_iload_n dX5_letFirstIn_13 rfl rfl ?_
    refine aw_if_ne (tgt := 21) dX5_letFirstIn_14 (by decide) (by omega) (fun c_14 => ?_) (fun c_14 => absurd c_14 (by decide))
    refine aw_bipush dX5_letFirstIn_21 (by decide) ?_
    refine aw_callV (c_X5_sectionAt (sec := 7) hC (by decide)) mv_X5_sectionAt mlX5_57 dX5_letFirstIn_23 rfl rfl (by decide) rfl (Nat.le_of_ble_eq_true rfl) rfl ?_
    rintro _ _ _ _ ⟨rfl, rfl, rfl, rfl⟩
    refine aw_astore dX5_letFirstIn_26 (by decide) ?_
    refine aw_aload_n dX5_letFirstIn_28 rfl rfl ?_
    refine aw_ifnull_N (tgt := 37) dX5_letFirstIn_29 (by decide) ?_
    refine aw_vret dX5_letFirstIn_37 rfl (Nat.zero_le _) (Nat.zero_le _) ?_
    rw [cm, if_pos h0]
    exact ⟨rfl, rfl, rfl, hC⟩
  · have hv : S 32 30 < S 8 0 := hV.2.1 1 0 (by decide) (show (0 : Int) < S 31 1 by omega)
    have hli := hB.li (x := 30) (by decide) (by decide)
    have e41 : V 41 1 (0 : Int).toNat = .inr (some (5, (S 32 30).toNat)) := rc_41 (i := 1) (k := 0) hR (by decide) (by decide) (show (0 : Int) < S 31 1 by omega)
    generalize hse : S 32 30 = s1 at hv hli e41
    obtain ⟨s, rfl⟩ : ∃ t : Nat, s1 = (t : Int) := ⟨s1.toNat, by omega⟩
    rw [Int.toNat_natCast] at e41
    have h9s := h9 h0 s hse
    refine aw_aload_n dX5_letFirstIn_0 rfl rfl ?_
    refine aw_iload_n dX5_letFirstIn_1 rfl rfl ?_
    refine aw_callV (c_X5_lineOf (w := 1) hC (by decide)) mv_X5_lineOf mlX5_151 dX5_letFirstIn_2 rfl rfl (by decide) rfl (Nat.le_of_ble_eq_true rfl) rfl ?_
    rintro _ _ _ _ ⟨rfl, rfl, rfl, rfl⟩
    refine aw_astore_n dX5_letFirstIn_5 rfl (by decide) ?_
    refine aw_aload_n dX5_letFirstIn_6 rfl rfl ?_
    refine aw_iconst dX5_letFirstIn_7 ?_
    refine aw_callV (c_X2_at (x := 0) hline (by decide) (show (0 : Int) < S 31 1 by omega) e41) mv_X2_at mlX5_103 dX5_letFirstIn_8 rfl rfl (by decide) rfl (Nat.le_of_ble_eq_true rfl) rfl ?_
    rintro _ _ _ _ ⟨rfl, rfl, rfl, rfl⟩
    refine aw_astore_n dX5_letFirstIn_11 rfl (by decide) ?_
    refine aw_aload_n dX5_letFirstIn_12 rfl rfl ?_
    refine aw_iload_n dX5_letFirstIn_13 rfl rfl ?_
    refine aw_if_ne (tgt := 21) dX5_letFirstIn_14 (by decide) (by omega) (fun c_14 => ?_) (fun c_14 => absurd c_14 (by decide))
    refine aw_bipush dX5_letFirstIn_21 (by decide) ?_
    refine aw_callV (c_X5_sectionAt (sec := 7) hC (by decide)) mv_X5_sectionAt mlX5_57 dX5_letFirstIn_23 rfl rfl (by decide) rfl (Nat.le_of_ble_eq_true rfl) rfl ?_
    rintro _ _ _ _ ⟨rfl, rfl, rfl, rfl⟩
    refine aw_astore dX5_letFirstIn_26 (by decide) ?_
    refine aw_aload_n dX5_letFirstIn_28 rfl rfl ?_
    refine aw_ifnull_S dX5_letFirstIn_29 ?_
    refine aw_aload dX5_letFirstIn_32 rfl ?_
    refine aw_ifnonnull_S (tgt := 38) dX5_letFirstIn_34 (by decide) ?_
    refine aw_iconst dX5_letFirstIn_38 ?_
    refine aw_istore dX5_letFirstIn_39 (by decide) ?_
    exact AW.lss (lp1_X5_letFirstIn hI (by omega) (fun V hC => tl1_X5_letFirstIn hI (by omega) hse (by omega) h9s V hC) ((S 31 1).toNat - 1) 0 _ (by omega) hC) (And.intro rfl (And.intro rfl (And.intro rfl (And.intro rfl (And.intro rfl (And.intro rfl trivial))))))
end CLS6
