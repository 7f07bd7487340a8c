section CLS3
variable {l : Launch} {D : va_G} {cA : Nat → ClassId} {A : Nat → Prop} {ad : Ad} {ns nc : Int} {V : Vw} {sz : Nat} {S : SS}
/-- what is there of the other way beneath a section -/
def onDn (S : SS) (o : Int) : Nat → Bool
  | 0 => if S 5 0 = 0 then decide (0 < S 33 o) else false
  | n + 1 => if S 5 ((n : Int) + 1) = 0 then (decide (0 < S 33 (2 * ((n : Int) + 1) + o)) || onDn S o n) else false
/-- one of a lane is aground -/
def lnA (S : SS) (j : Nat) : Bool := exB (fun k => decide (S 0 0 < S 36 (S 34 (30 * (j : Int) + k)))) (S 33 j).toNat
/-- the entries of the rows are ships that there are -/
def VE (S : SS) : Prop := (∀ (j k : Nat), j < 16 → (k : Int) < S 33 j → S 34 (30 * (j : Int) + k) < S 8 0) ∧ (∀ (j k : Nat), j < 2 → (k : Int) < S 31 j → S 32 (30 * (j : Int) + k) < S 8 0) ∧ (∀ (j k : Nat), (j : Int) < S 24 0 → S 0 0 ≤ S 26 j → (k : Int) < S 27 j → S 28 (8 * (j : Int) + k) < S 8 0) ∧ ∀ (j k : Nat), (j : Int) < S 24 0 → S 0 0 ≤ S 26 j → (k : Int) < S 29 j → S 30 (30 * (j : Int) + k) < S 8 0
/-- how long a ship is aground, by both ways of counting -/
def UN (S : SS) : Prop := ∀ s : Int, 0 ≤ s → s < S 8 0 → (0 ≤ S 36 s ∧ S 36 s ≤ 20000) ∧ S 21 s = if S 0 0 < S 36 s then S 36 s - S 0 0 else 0
/-- those aground in a section are in its lanes -/
def AG (S : SS) : Prop := ∀ sec : Nat, sec < 8 → (lnA S (2 * sec) || lnA S (2 * sec + 1)) = isAgr S sec
def CI (S : SS) : Prop := BB S ∧ VE S ∧ UN S ∧ AG S
set_option maxRecDepth 100000 in
set_option maxHeartbeats 4000000 in
theorem lpU_X5_reachesShip {o fr : Int} {r : Bool} (hB : BB S) (hC : RC ns nc S V) (ho : o = 0 ∨ o = 1) : ∀ (f k n : Nat), k + f = 8 → n + f ≤ 8 → onUp S o k f = r → AW l D cA A ad yX5_reachesShip cX5_reachesShip 7 (some .boolean) rm_X5_reachesShip (PP (some (.inl (b2i r))) (lvC ns nc) V sz) 0 0 (lvC ns nc) V sz 6 [some (.inr (some (0, 0))), some (.inl fr), some (.inl (1)), some (.inl o), some (.inl (k : Int)), some (.inl (n : Int)), none] [] := by
  obtain ⟨hR, h8, h24⟩ := id hC
  intro f
  induction f with
  | zero =>
    intro k n hk hn he
    refine aw_iload dX5_reachesShip_6 rfl ?_
    refine aw_bipush dX5_reachesShip_8 (by decide) ?_
    refine aw_icmp_ge (tgt := 65) dX5_reachesShip_10 (by decide) (by omega) (by omega) (fun c_10 => ?_) (fun c_10 => ?_)
    · refine aw_iconst dX5_reachesShip_65 ?_
      refine aw_zret dX5_reachesShip_66 rfl (by decide) (Nat.zero_le _) (Nat.zero_le _) ?_
      rw [← he]
      exact ⟨rfl, rfl, rfl, rfl⟩
    · refine aw_aload_n dX5_reachesShip_13 rfl rfl ?_
      refine aw_iload dX5_reachesShip_14 rfl ?_
      refine aw_callV (c_X5_sectionAt_out (by omega) (by omega)) mv_X5_sectionAt mlX5_57 dX5_reachesShip_16 rfl rfl (by decide) rfl (Nat.le_of_ble_eq_true rfl) rfl ?_
      rintro _ _ _ _ ⟨rfl, rfl, rfl, rfl⟩
      refine aw_astore dX5_reachesShip_19 (by decide) ?_
      refine aw_aload dX5_reachesShip_21 rfl ?_
      refine aw_ifnull_N (tgt := 34) dX5_reachesShip_23 (by decide) ?_
      refine aw_iconst dX5_reachesShip_34 ?_
      refine aw_zret dX5_reachesShip_35 rfl (by decide) (Nat.zero_le _) (Nat.zero_le _) ?_
      rw [← he]
      exact ⟨rfl, rfl, rfl, rfl⟩
  | succ f ih =>
    intro k n hk hn he
    have hsc := hB.sc (i := (k : Int)) (by omega) (by omega)
    simp only [bsc] at hsc
    have hiM := hB.iM (a := 2 * (k : Int) + o) (by omega) (by omega)
    have e33 : V 30 (2 * k + o.toNat) 1 = .inl (S 33 (2 * (k : Int) + o)) := by
      rw [rc_30_1 hR (by omega)]
      congr 2
      omega
    refine aw_iload dX5_reachesShip_6 rfl ?_
    refine aw_bipush dX5_reachesShip_8 (by decide) ?_
    refine aw_icmp_ge (tgt := 65) dX5_reachesShip_10 (by decide) (by omega) (by omega) (fun c_10 => absurd c_10 (by omega)) (fun c_10 => ?_)
    refine aw_aload_n dX5_reachesShip_13 rfl rfl ?_
    refine aw_iload dX5_reachesShip_14 rfl ?_
    refine aw_callV (c_X5_sectionAt (sec := k) hC (by omega)) mv_X5_sectionAt mlX5_57 dX5_reachesShip_16 rfl rfl (by decide) rfl (Nat.le_of_ble_eq_true rfl) rfl ?_
    rintro _ _ _ _ ⟨rfl, rfl, rfl, rfl⟩
    refine aw_astore dX5_reachesShip_19 (by decide) ?_
    refine aw_aload dX5_reachesShip_21 rfl ?_
    refine aw_ifnull_S dX5_reachesShip_23 ?_
    refine aw_aload dX5_reachesShip_26 rfl ?_
    refine aw_getN dX5_reachesShip_28 fnX5_71 (by decide) (by decide) rfl (decide_eq_true (by omega)) (rc_1_3 hR (by omega)) ?_
    refine aw_if_eq (tgt := 36) dX5_reachesShip_31 (by decide) (by omega) (fun c_31 => ?_) (fun c_31 => ?_)
    · refine aw_aload dX5_reachesShip_36 rfl ?_
      refine aw_iload_n dX5_reachesShip_38 rfl rfl ?_
      refine aw_callV (c_X3_lane (sec := k) hC (by omega) ho) mv_X3_lane mlX5_172 dX5_reachesShip_39 rfl (decide_eq_true (by omega)) (by decide) rfl (Nat.le_of_ble_eq_true rfl) rfl ?_
      rintro _ _ _ _ ⟨rfl, rfl, rfl, rfl⟩
      refine aw_getN dX5_reachesShip_42 fnX5_176 (by decide) (by decide) rfl (decide_eq_true (by omega)) (rc_2_0 hR (by omega)) ?_
      refine aw_getN dX5_reachesShip_45 fnX5_84 (by decide) (by decide) rfl (decide_eq_true (by omega)) e33 ?_
      refine aw_if_le (tgt := 53) dX5_reachesShip_48 (by decide) (by omega) (fun c_48 => ?_) (fun c_48 => ?_)
      · refine aw_iload dX5_reachesShip_53 rfl ?_
        refine aw_iload_n dX5_reachesShip_55 rfl rfl ?_
        refine aw_iadd dX5_reachesShip_56 ?_
        refine aw_istore dX5_reachesShip_57 (by decide) ?_
        refine aw_iinc dX5_reachesShip_59 rfl (by decide) ?_
        refine aw_goto (tgt := 6) dX5_reachesShip_62 (by decide) ?_
        simp only [onUp] at he
        rw [if_pos (by omega), decide_eq_false (by omega), Bool.false_or] at he
        exact AW.lss (ih (k + 1) (n + 1) (by omega) (by omega) he) (And.intro rfl (And.intro rfl (And.intro rfl (And.intro rfl (And.intro rfl (And.intro rfl trivial))))))
      · refine aw_iconst dX5_reachesShip_51 ?_
        refine aw_zret dX5_reachesShip_52 rfl (by decide) (Nat.zero_le _) (Nat.zero_le _) ?_
        simp only [onUp] at he
        rw [if_pos (by omega), decide_eq_true (by omega), Bool.true_or] at he
        rw [← he]
        exact ⟨rfl, rfl, rfl, rfl⟩
    · refine aw_iconst dX5_reachesShip_34 ?_
      refine aw_zret dX5_reachesShip_35 rfl (by decide) (Nat.zero_le _) (Nat.zero_le _) ?_
      simp only [onUp] at he
      rw [if_neg (by omega)] at he
      rw [← he]
      exact ⟨rfl, rfl, rfl, rfl⟩
set_option maxRecDepth 100000 in
set_option maxHeartbeats 4000000 in
theorem cU_X5_reachesShip {sec : Nat} {o : Int} (hB : BB S) (hC : RC ns nc S V) (hs : sec < 8) (ho : o = 0 ∨ o = 1) : CT l D cA A ad yX5_reachesShip cX5_reachesShip 7 (some .boolean) rm_X5_reachesShip [.inr (some (0, 0)), .inl (sec : Int), .inl 1, .inl o] (lvC ns nc) V sz (PP (some (.inl (b2i (onUp S o sec (8 - sec))))) (lvC ns nc) V sz) := by
  refine CT.of2 [some (.inr (some (0, 0))), some (.inl (sec : Int)), some (.inl 1), some (.inl o), none, none, none] (by decide) (Nat.le_of_ble_eq_true rfl) rfl ?_
  refine aw_iload_n dX5_reachesShip_0 rfl rfl ?_
  refine aw_istore dX5_reachesShip_1 (by decide) ?_
  refine aw_iconst dX5_reachesShip_3 ?_
  refine aw_istore dX5_reachesShip_4 (by decide) ?_
  exact AW.lss (lpU_X5_reachesShip hB hC ho (8 - sec) sec 0 (by omega) (by omega) rfl) (And.intro rfl (And.intro rfl (And.intro rfl (And.intro rfl (And.intro rfl (And.intro rfl trivial))))))
set_option maxRecDepth 100000 in
set_option maxHeartbeats 4000000 in
theorem lpD_X5_reachesShip {o fr : Int} {r : Bool} (hB : BB S) (hC : RC ns nc S V) (ho : o = 0 ∨ o = 1) : ∀ (f k n : Nat), k + 1 = f → n + f ≤ 8 → onDn S o k = r → AW l D cA A ad yX5_reachesShip cX5_reachesShip 7 (some .boolean) rm_X5_reachesShip (PP (some (.inl (b2i r))) (lvC ns nc) V sz) 0 0 (lvC ns nc) V sz 6 [some (.inr (some (0, 0))), some (.inl fr), some (.inl (-1)), some (.inl o), some (.inl (k : Int)), some (.inl (n : Int)), none] [] := by
  obtain ⟨hR, h8, h24⟩ := id hC
  intro f
  induction f with
  | zero =>
    intro k n hk hn he
    omega
  | succ f ih =>
    intro k n hk hn he
    have hsc := hB.sc (i := (k : Int)) (by omega) (by omega)
    simp only [bsc] at hsc
    have hiM := hB.iM (a := 2 * (k : Int) + o) (by omega) (by omega)
    have e33 : V 30 (2 * k + o.toNat) 1 = .inl (S 33 (2 * (k : Int) + o)) := by
      rw [rc_30_1 hR (by omega)]
      congr 2
      omega
    refine aw_iload dX5_reachesShip_6 rfl ?_
    refine aw_bipush dX5_reachesShip_8 (by decide) ?_
    refine aw_icmp_ge (tgt := 65) dX5_reachesShip_10 (by decide) (by omega) (by omega) (fun c_10 => absurd c_10 (by omega)) (fun c_10 => ?_)
    refine aw_aload_n dX5_reachesShip_13 rfl rfl ?_
    refine aw_iload dX5_reachesShip_14 rfl ?_
    refine aw_callV (c_X5_sectionAt (sec := k) hC (by omega)) mv_X5_sectionAt mlX5_57 dX5_reachesShip_16 rfl rfl (by decide) rfl (Nat.le_of_ble_eq_true rfl) rfl ?_
    rintro _ _ _ _ ⟨rfl, rfl, rfl, rfl⟩
    refine aw_astore dX5_reachesShip_19 (by decide) ?_
    refine aw_aload dX5_reachesShip_21 rfl ?_
    refine aw_ifnull_S dX5_reachesShip_23 ?_
    refine aw_aload dX5_reachesShip_26 rfl ?_
    refine aw_getN dX5_reachesShip_28 fnX5_71 (by decide) (by decide) rfl (decide_eq_true (by omega)) (rc_1_3 hR (by omega)) ?_
    refine aw_if_eq (tgt := 36) dX5_reachesShip_31 (by decide) (by omega) (fun c_31 => ?_) (fun c_31 => ?_)
    · refine aw_aload dX5_reachesShip_36 rfl ?_
      refine aw_iload_n dX5_reachesShip_38 rfl rfl ?_
      refine aw_callV (c_X3_lane (sec := k) hC (by omega) ho) mv_X3_lane mlX5_172 dX5_reachesShip_39 rfl (decide_eq_true (by omega)) (by decide) rfl (Nat.le_of_ble_eq_true rfl) rfl ?_
      rintro _ _ _ _ ⟨rfl, rfl, rfl, rfl⟩
      refine aw_getN dX5_reachesShip_42 fnX5_176 (by decide) (by decide) rfl (decide_eq_true (by omega)) (rc_2_0 hR (by omega)) ?_
      refine aw_getN dX5_reachesShip_45 fnX5_84 (by decide) (by decide) rfl (decide_eq_true (by omega)) e33 ?_
      refine aw_if_le (tgt := 53) dX5_reachesShip_48 (by decide) (by omega) (fun c_48 => ?_) (fun c_48 => ?_)
      · refine aw_iload dX5_reachesShip_53 rfl ?_
        refine aw_iload_n dX5_reachesShip_55 rfl rfl ?_
        refine aw_iadd dX5_reachesShip_56 ?_
        refine aw_istore dX5_reachesShip_57 (by decide) ?_
        refine aw_iinc dX5_reachesShip_59 rfl (by decide) ?_
        refine aw_goto (tgt := 6) dX5_reachesShip_62 (by decide) ?_
        have he2 : (if S 5 (k : Int) = 0 then (decide (0 < S 33 (2 * (k : Int) + o)) || (if k = 0 then false else onDn S o (k - 1))) else false) = r := by
          rw [← he]
          cases k with
          | zero => simp [onDn]
          | succ q => simp [onDn]
        rw [if_pos (by omega), decide_eq_false (by omega), Bool.false_or] at he2
        by_cases hk0 : k = 0
        · rw [if_pos hk0] at he2
          refine aw_iload dX5_reachesShip_6 rfl ?_
          refine aw_bipush dX5_reachesShip_8 (by decide) ?_
          refine aw_icmp_ge (tgt := 65) dX5_reachesShip_10 (by decide) (by omega) (by omega) (fun c_10 => ?_) (fun c_10 => ?_)
          · refine aw_iconst dX5_reachesShip_65 ?_
            refine aw_zret dX5_reachesShip_66 rfl (by decide) (Nat.zero_le _) (Nat.zero_le _) ?_
            rw [← he2]
            exact ⟨rfl, rfl, rfl, rfl⟩
          · refine aw_aload_n dX5_reachesShip_13 rfl rfl ?_
            refine aw_iload dX5_reachesShip_14 rfl ?_
            refine aw_callV (c_X5_sectionAt_out (by omega) (by omega)) mv_X5_sectionAt mlX5_57 dX5_reachesShip_16 rfl rfl (by decide) rfl (Nat.le_of_ble_eq_true rfl) rfl ?_
            rintro _ _ _ _ ⟨rfl, rfl, rfl, rfl⟩
            refine aw_astore dX5_reachesShip_19 (by decide) ?_
            refine aw_aload dX5_reachesShip_21 rfl ?_
            refine aw_ifnull_N (tgt := 34) dX5_reachesShip_23 (by decide) ?_
            refine aw_iconst dX5_reachesShip_34 ?_
            refine aw_zret dX5_reachesShip_35 rfl (by decide) (Nat.zero_le _) (Nat.zero_le _) ?_
            rw [← he2]
            exact ⟨rfl, rfl, rfl, rfl⟩
        · rw [if_neg hk0] at he2
          exact AW.lss (ih (k - 1) (n + 1) (by omega) (by omega) he2) (And.intro rfl (And.intro rfl (And.intro rfl (And.intro rfl (And.intro (congrArg Sum.inl (by omega)) (And.intro rfl trivial))))))
      · refine aw_iconst dX5_reachesShip_51 ?_
        refine aw_zret dX5_reachesShip_52 rfl (by decide) (Nat.zero_le _) (Nat.zero_le _) ?_
        have he2 : (if S 5 (k : Int) = 0 then (decide (0 < S 33 (2 * (k : Int) + o)) || (if k = 0 then false else onDn S o (k - 1))) else false) = r := by
          rw [← he]
          cases k with
          | zero => simp [onDn]
          | succ q => simp [onDn]
        rw [if_pos (by omega), decide_eq_true (by omega), Bool.true_or] at he2
        rw [← he2]
        exact ⟨rfl, rfl, rfl, rfl⟩
    · refine aw_iconst dX5_reachesShip_34 ?_
      refine aw_zret dX5_reachesShip_35 rfl (by decide) (Nat.zero_le _) (Nat.zero_le _) ?_
      have he2 : (if S 5 (k : Int) = 0 then (decide (0 < S 33 (2 * (k : Int) + o)) || (if k = 0 then false else onDn S o (k - 1))) else false) = r := by
        rw [← he]
        cases k with
        | zero => simp [onDn]
        | succ q => simp [onDn]
      rw [if_neg (by omega)] at he2
      rw [← he2]
      exact ⟨rfl, rfl, rfl, rfl⟩
set_option maxRecDepth 100000 in
set_option maxHeartbeats 4000000 in
theorem cD_X5_reachesShip {sec : Nat} {o : Int} (hB : BB S) (hC : RC ns nc S V) (hs : sec < 8) (ho : o = 0 ∨ o = 1) : CT l D cA A ad yX5_reachesShip cX5_reachesShip 7 (some .boolean) rm_X5_reachesShip [.inr (some (0, 0)), .inl (sec : Int), .inl (-1), .inl o] (lvC ns nc) V sz (PP (some (.inl (b2i (onDn S o sec)))) (lvC ns nc) V sz) := by
  refine CT.of2 [some (.inr (some (0, 0))), some (.inl (sec : Int)), some (.inl (-1)), some (.inl o), none, none, none] (by decide) (Nat.le_of_ble_eq_true rfl) rfl ?_
  refine aw_iload_n dX5_reachesShip_0 rfl rfl ?_
  refine aw_istore dX5_reachesShip_1 (by decide) ?_
  refine aw_iconst dX5_reachesShip_3 ?_
  refine aw_istore dX5_reachesShip_4 (by decide) ?_
  exact AW.lss (lpD_X5_reachesShip hB hC ho (sec + 1) sec 0 (by omega) (by omega) rfl) (And.intro rfl (And.intro rfl (And.intro rfl (And.intro rfl (And.intro rfl (And.intro rfl trivial))))))
theorem onUp_low {S : SS} {o : Int} {sec : Nat} (hs : sec < 8) (h5 : S 5 sec = 0) : onUp S o (lowF S sec) (8 - lowF S sec) = (onUp S o sec (8 - sec) || onDn S o sec) := by
  have key : ∀ n : Nat, n < 8 → S 5 n = 0 → (onUp S o (lowF S n) (8 - lowF S n) = (onUp S o n (8 - n) || onDn S o n)) := by
    intro n
    induction n with
    | zero =>
      intro _ h0
      have h0' : S 5 (0 : Int) = 0 := h0
      have e : onUp S o 0 8 = (decide (0 < S 33 o) || onUp S o 1 7) := by
        rw [onUp, if_pos h0]
        simp
      show onUp S o 0 8 = (onUp S o 0 8 || onDn S o 0)
      rw [onDn, if_pos h0', e]
      cases decide (0 < S 33 o) <;> simp
    | succ n ih =>
      intro hn h1
      have h1' : S 5 ((n : Int) + 1) = 0 := h1
      have eu : onUp S o (n + 1) (8 - (n + 1)) = (decide (0 < S 33 (2 * ((n : Int) + 1) + o)) || onUp S o (n + 2) (8 - (n + 2))) := by
        rw [show 8 - (n + 1) = (8 - (n + 2)) + 1 by omega, onUp, if_pos h1]
        rfl
      have ed : onDn S o (n + 1) = (decide (0 < S 33 (2 * ((n : Int) + 1) + o)) || onDn S o n) := by rw [onDn, if_pos h1']
      by_cases h0 : S 5 (n : Int) = 0
      · have e1 : lowF S (n + 1) = lowF S n := by rw [lowF, if_pos h0]
        have i1 := ih (by omega) h0
        have e2 : onUp S o n (8 - n) = (decide (0 < S 33 (2 * (n : Int) + o)) || onUp S o (n + 1) (8 - (n + 1))) := by
          rw [show 8 - n = (8 - (n + 1)) + 1 by omega, onUp, if_pos h0]
        rw [e1, i1, e2, eu, ed]
        have hd : (decide (0 < S 33 (2 * (n : Int) + o)) || onDn S o n) = onDn S o n := by
          cases n with
          | zero => 
            have h0' : S 5 (0 : Int) = 0 := h0
            rw [onDn, if_pos h0']
            simp
          | succ q =>
            have h0' : S 5 ((q : Int) + 1) = 0 := h0
            rw [onDn, if_pos h0']
            have ec : (((q + 1 : Nat) : Int)) = (q : Int) + 1 := rfl
            rw [ec]
            cases decide (0 < S 33 (2 * ((q : Int) + 1) + o)) <;> simp
        rw [← hd]
        cases decide (0 < S 33 (2 * (n : Int) + o)) <;> cases decide (0 < S 33 (2 * ((n : Int) + 1) + o)) <;> cases onUp S o (n + 2) (8 - (n + 2)) <;> cases onDn S o n <;> rfl
      · have e1 : lowF S (n + 1) = n + 1 := by rw [lowF, if_neg h0]
        have e2 : onDn S o n = false := by
          cases n with
          | zero => exact if_neg h0
          | succ q => exact if_neg h0
        rw [e1, ed, e2, eu]
        cases decide (0 < S 33 (2 * ((n : Int) + 1) + o)) <;> simp
  exact key sec hs h5
theorem onUp_by {S : SS} {o : Int} {sec : Nat} (hs : sec < 8) (h5 : S 5 sec ≠ 0) : onUp S o sec (8 - sec) = false ∧ onDn S o sec = false := by
  constructor
  · rw [show 8 - sec = (7 - sec) + 1 by omega, onUp, if_neg h5]
  · cases sec with
    | zero => exact if_neg h5
    | succ q => exact if_neg h5
/-- the cause as the class says it: NONE where there is none -/
def cz (x : Int) : Int := if x = -1 then -4 else x
set_option maxRecDepth 100000 in
set_option maxHeartbeats 4000000 in
theorem t1_X5_causeAgainst {s sec : Nat} (hI : CI S) (hC : RC ns nc S V) (hs : (s : Int) < ns) (hs2 : sec < 8) (a1 : ¬ isAgr S sec = true) : AW l D cA A ad yX5_causeAgainst cX5_causeAgainst 5 (some .int) rm_X5_causeAgainst (PP (some (.inl (cz (cause S s sec)))) (lvC ns nc) V sz) 0 0 (lvC ns nc) V sz 49 [some (.inr (some (0, 0))), some (.inr (some (5, s))), some (.inr (some (1, sec))), some (.inl (1 - S 9 s)), none] [] := by
  obtain ⟨hR, h8, h24⟩ := id hC
  obtain ⟨hB, hV, hU, hAG⟩ := hI
  have hm := hB.m
  simp only [bsm] at hm
  have hsh := hB.sh (s := (s : Int)) (by omega) (by omega)
  simp only [bsh] at hsh
  have hsc := hB.sc (i := (sec : Int)) (by omega) (by omega)
  simp only [bsc] at hsc
  have hhr : 0 ≤ hr S ∧ hr S < 24 := by simp only [hr]; omega
  have htw := hB.tw (i := hr S) (by omega) (by omega)
  have hdp : 0 ≤ deep S sec ∧ deep S sec ≤ 100 := by simp only [deep]; split <;> omega
  have hiM := hB.iM (a := 2 * (sec : Int) + S 9 s) (by omega) (by omega)
  have hag := hAG sec hs2
  have hlane : ∀ j : Nat, j < 16 → ∀ k : Nat, (k : Int) < S 33 j → V 40 j k = .inr (some (5, (S 34 (30 * (j : Int) + k)).toNat)) ∧ lvC ns nc 5 (S 34 (30 * (j : Int) + k)).toNat = true ∧ V 5 (S 34 (30 * (j : Int) + k)).toNat 15 = .inl (S 36 (S 34 (30 * (j : Int) + k))) ∧ Rg (S 36 (S 34 (30 * (j : Int) + k))) := by
    intro j hj k hk
    have hi := (hB.iM (a := (j : Int)) (by omega) (by omega)).1
    have hin := hB.ins (x := 30 * (j : Int) + k) (by omega) (by omega)
    have hve := hV.1 j k hj hk
    have hun := (hU (S 34 (30 * (j : Int) + k)) (by omega) (by omega)).1
    refine ⟨rc_40 hR hj (by omega) hk, decide_eq_true (by omega), ?_, by omega⟩
    have := rc_5_15 (i := (S 34 (30 * (j : Int) + k)).toNat) hR (by omega)
    rw [Int.toNat_of_nonneg hin.1] at this
    exact this
  have e35 : V 2 (2 * sec + (S 9 s).toNat) 1 = .inl (S 35 (2 * (sec : Int) + S 9 s)) := by
    rw [rc_2_1 hR (by omega)]
    congr 2
    omega
  have e33 : V 30 (2 * sec + (S 9 s).toNat) 1 = .inl (S 33 (2 * (sec : Int) + S 9 s)) := by
    rw [rc_30_1 hR (by omega)]
    congr 2
    omega
  refine aw_aload_n dX5_causeAgainst_49 rfl rfl ?_
  refine aw_aload_n dX5_causeAgainst_50 rfl rfl ?_
  refine aw_getN dX5_causeAgainst_51 fnX5_196 (by decide) (by decide) rfl (decide_eq_true (by omega)) (rc_1_0 hR (by omega)) ?_
  refine aw_iconst dX5_causeAgainst_54 ?_
  refine aw_iload_n dX5_causeAgainst_55 rfl rfl ?_
  refine aw_callV (cU_X5_reachesShip hB hC hs2 (by omega)) mv_X5_reachesShip mlX5_232 dX5_causeAgainst_56 rfl rfl (by decide) rfl (Nat.le_of_ble_eq_true rfl) rfl ?_
  rintro _ _ _ _ ⟨rfl, rfl, rfl, rfl⟩
  have hu1 := b2i_rg (onUp S (1 - S 9 s) sec (8 - sec))
  refine aw_if_ne (tgt := 75) dX5_causeAgainst_59 (by decide) (by omega) (fun c_59 => ?_) (fun c_59 => ?_)
  · have hu2 := b2i_pos c_59
    have a3 : S 5 sec = 0 := by
      rcases hsc.2.2 with h | h
      · exact h
      · rw [(onUp_by (o := 1 - S 9 s) hs2 (by omega)).1] at hu2; cases hu2
    have a2 : isOnc S sec (1 - S 9 s) = true := by rw [isOnc, onUp_low hs2 a3, hu2, Bool.true_or]
    refine aw_iconst dX5_causeAgainst_75 ?_
    refine aw_iret dX5_causeAgainst_76 rfl (Nat.zero_le _) (Nat.zero_le _) ?_
    have ec : cause S s sec = 1 := by
      simp only [cause]
      rw [if_neg a1, if_pos ⟨a3, a2⟩]
    rw [ec]
    exact ⟨rfl, rfl, rfl, rfl⟩
  · have hu2 := b2i_zero c_59
    refine aw_aload_n dX5_causeAgainst_62 rfl rfl ?_
    refine aw_aload_n dX5_causeAgainst_63 rfl rfl ?_
    refine aw_getN dX5_causeAgainst_64 fnX5_196 (by decide) (by decide) rfl (decide_eq_true (by omega)) (rc_1_0 hR (by omega)) ?_
    refine aw_iconst dX5_causeAgainst_67 ?_
    refine aw_iload_n dX5_causeAgainst_68 rfl rfl ?_
    refine aw_callV (cD_X5_reachesShip hB hC hs2 (by omega)) mv_X5_reachesShip mlX5_232 dX5_causeAgainst_69 rfl rfl (by decide) rfl (Nat.le_of_ble_eq_true rfl) rfl ?_
    rintro _ _ _ _ ⟨rfl, rfl, rfl, rfl⟩
    have hd1 := b2i_rg (onDn S (1 - S 9 s) sec)
    refine aw_if_eq (tgt := 77) dX5_causeAgainst_72 (by decide) (by omega) (fun c_72 => ?_) (fun c_72 => ?_)
    · have hd2 := b2i_zero c_72
      have a23 : ¬ (S 5 sec = 0 ∧ isOnc S sec (1 - S 9 s) = true) := by
        intro h
        have h2 := h.2
        rw [isOnc, onUp_low hs2 h.1, hu2, hd2] at h2
        cases h2
      refine aw_aload_n dX5_causeAgainst_77 rfl rfl ?_
      refine aw_aload_n dX5_causeAgainst_78 rfl rfl ?_
      refine aw_getN dX5_causeAgainst_79 fnX5_110 (by decide) (by decide) rfl (decide_eq_true (by omega)) (rc_5_1 hR (by omega)) ?_
      refine aw_callV (c_X3_lane (sec := sec) hC hs2 (by omega)) mv_X3_lane mlX5_172 dX5_causeAgainst_82 rfl (decide_eq_true (by omega)) (by decide) rfl (Nat.le_of_ble_eq_true rfl) rfl ?_
      rintro _ _ _ _ ⟨rfl, rfl, rfl, rfl⟩
      refine aw_astore dX5_causeAgainst_85 (by decide) ?_
      refine aw_aload dX5_causeAgainst_87 rfl ?_
      refine aw_getN dX5_causeAgainst_89 fnX5_176 (by decide) (by decide) rfl (decide_eq_true (by omega)) (rc_2_0 hR (by omega)) ?_
      refine aw_callV (c_X2_isFull (hC.lane hB (j := 2 * sec + (S 9 s).toNat) (by omega))) mv_X2_isFull mlX5_80 dX5_causeAgainst_92 rfl (decide_eq_true (by omega)) (by decide) rfl (Nat.le_of_ble_eq_true rfl) rfl ?_
      rintro _ _ _ _ ⟨⟨rfl, hF⟩ | ⟨rfl, hF⟩, rfl, rfl, rfl⟩
      · have hF2 : S 33 (2 * (sec : Int) + S 9 s) = 3 := by
          have : ((3 : Nat) : Int) ≤ S 33 ((2 * sec + (S 9 s).toNat : Nat) : Int) := hF
          rw [show ((2 * sec + (S 9 s).toNat : Nat) : Int) = 2 * (sec : Int) + S 9 s by omega] at this
          omega
        refine aw_if_eq (tgt := 100) dX5_causeAgainst_95 (by decide) (by omega) (fun c_95 => absurd c_95 (by decide)) (fun _ => ?_)
        refine aw_iconst dX5_causeAgainst_98 ?_
        refine aw_iret dX5_causeAgainst_99 rfl (Nat.zero_le _) (Nat.zero_le _) ?_
        have ec : cause S s sec = 2 := by
          simp only [cause]
          rw [if_neg a1, if_neg a23]
          repeat (first | rw [if_pos (by omega)] | rw [if_neg (by omega)])
        rw [ec]
        exact ⟨rfl, rfl, rfl, rfl⟩
      · have hF2 : S 33 (2 * (sec : Int) + S 9 s) ≠ 3 := by
          intro q
          apply hF
          show ((3 : Nat) : Int) ≤ S 33 ((2 * sec + (S 9 s).toNat : Nat) : Int)
          rw [show ((2 * sec + (S 9 s).toNat : Nat) : Int) = 2 * (sec : Int) + S 9 s by omega]
          omega
        refine aw_if_eq (tgt := 100) dX5_causeAgainst_95 (by decide) (by omega) (fun _ => ?_) (fun c_95 => absurd c_95 (by decide))
        refine aw_aload_n dX5_causeAgainst_100 rfl rfl ?_
        refine aw_get dX5_causeAgainst_101 flX5_53 (by decide) (by decide) rfl rfl (rc_0_10 hR) ?_
        refine aw_aload dX5_causeAgainst_104 rfl ?_
        refine aw_getN dX5_causeAgainst_106 fnX5_216 (by decide) (by decide) rfl (decide_eq_true (by omega)) e35 ?_
        refine aw_isub dX5_causeAgainst_109 ?_
        refine aw_aload_n dX5_causeAgainst_110 rfl rfl ?_
        refine aw_get dX5_causeAgainst_111 flX5_47 (by decide) (by decide) rfl rfl (rc_0_8 hR) ?_
        refine aw_icmp_ge (tgt := 119) dX5_causeAgainst_114 (by decide) (by omega) (by omega) (fun c_114 => ?_) (fun c_114 => ?_)
        · refine aw_aload_n dX5_causeAgainst_119 rfl rfl ?_
          refine aw_getN dX5_causeAgainst_120 fnX5_235 (by decide) (by decide) rfl (decide_eq_true (by omega)) (rc_5_4 hR (by omega)) ?_
          refine aw_aload_n dX5_causeAgainst_123 rfl rfl ?_
          refine aw_aload_n dX5_causeAgainst_124 rfl rfl ?_
          refine aw_callV (c_X5_depthNow hB hC hs2) mv_X5_depthNow mlX5_238 dX5_causeAgainst_125 rfl rfl (by decide) rfl (Nat.le_of_ble_eq_true rfl) rfl ?_
          rintro _ _ _ _ ⟨rfl, rfl, rfl, rfl⟩
          refine aw_icmp_le (tgt := 133) dX5_causeAgainst_128 (by decide) (by omega) (by omega) (fun c_128 => ?_) (fun c_128 => ?_)
          · refine aw_aload_n dX5_causeAgainst_133 rfl rfl ?_
            refine aw_getN dX5_causeAgainst_134 fnX5_242 (by decide) (by decide) rfl (decide_eq_true (by omega)) (rc_5_3 hR (by omega)) ?_
            refine aw_if_eq (tgt := 156) dX5_causeAgainst_137 (by decide) (by omega) (fun c_137 => ?_) (fun c_137 => ?_)
            · refine aw_bipush dX5_causeAgainst_156 (by decide) ?_
              refine aw_iret dX5_causeAgainst_158 rfl (Nat.zero_le _) (Nat.zero_le _) ?_
              have ec : cause S s sec = -1 := by
                simp only [cause]
                rw [if_neg a1, if_neg a23]
                repeat (first | rw [if_pos (by omega)] | rw [if_neg (by omega)])
              rw [ec]
              exact ⟨rfl, rfl, rfl, rfl⟩
            · refine aw_aload_n dX5_causeAgainst_140 rfl rfl ?_
              refine aw_getN dX5_causeAgainst_141 fnX5_71 (by decide) (by decide) rfl (decide_eq_true (by omega)) (rc_1_3 hR (by omega)) ?_
              refine aw_if_ne (tgt := 156) dX5_causeAgainst_144 (by decide) (by omega) (fun c_144 => ?_) (fun c_144 => ?_)
              · refine aw_bipush dX5_causeAgainst_156 (by decide) ?_
                refine aw_iret dX5_causeAgainst_158 rfl (Nat.zero_le _) (Nat.zero_le _) ?_
                have ec : cause S s sec = -1 := by
                  simp only [cause]
                  rw [if_neg a1, if_neg a23]
                  repeat (first | rw [if_pos (by omega)] | rw [if_neg (by omega)])
                rw [ec]
                exact ⟨rfl, rfl, rfl, rfl⟩
              · refine aw_aload_n dX5_causeAgainst_147 rfl rfl ?_
                refine aw_callV (c_X5_windBarsGreat hB hC) mv_X5_windBarsGreat mlX5_245 dX5_causeAgainst_148 rfl rfl (by decide) rfl (Nat.le_of_ble_eq_true rfl) rfl ?_
                rintro _ _ _ _ ⟨⟨rfl, hWd⟩ | ⟨rfl, hWd⟩, rfl, rfl, rfl⟩
                · refine aw_if_eq (tgt := 156) dX5_causeAgainst_151 (by decide) (by omega) (fun c_151 => absurd c_151 (by decide)) (fun _ => ?_)
                  refine aw_iconst dX5_causeAgainst_154 ?_
                  refine aw_iret dX5_causeAgainst_155 rfl (Nat.zero_le _) (Nat.zero_le _) ?_
                  have ec : cause S s sec = 5 := by
                    simp only [cause]
                    rw [if_neg a1, if_neg a23]
                    repeat (first | rw [if_pos (by omega)] | rw [if_neg (by omega)])
                  rw [ec]
                  exact ⟨rfl, rfl, rfl, rfl⟩
                · refine aw_if_eq (tgt := 156) dX5_causeAgainst_151 (by decide) (by omega) (fun _ => ?_) (fun c_151 => absurd c_151 (by decide))
                  refine aw_bipush dX5_causeAgainst_156 (by decide) ?_
                  refine aw_iret dX5_causeAgainst_158 rfl (Nat.zero_le _) (Nat.zero_le _) ?_
                  have ec : cause S s sec = -1 := by
                    simp only [cause]
                    rw [if_neg a1, if_neg a23]
                    repeat (first | rw [if_pos (by omega)] | rw [if_neg (by omega)])
                  rw [ec]
                  exact ⟨rfl, rfl, rfl, rfl⟩
          · refine aw_iconst dX5_causeAgainst_131 ?_
            refine aw_iret dX5_causeAgainst_132 rfl (Nat.zero_le _) (Nat.zero_le _) ?_
            have ec : cause S s sec = 4 := by
              simp only [cause]
              rw [if_neg a1, if_neg a23]
              repeat (first | rw [if_pos (by omega)] | rw [if_neg (by omega)])
            rw [ec]
            exact ⟨rfl, rfl, rfl, rfl⟩
        · refine aw_iconst dX5_causeAgainst_117 ?_
          refine aw_iret dX5_causeAgainst_118 rfl (Nat.zero_le _) (Nat.zero_le _) ?_
          have ec : cause S s sec = 3 := by
            simp only [cause]
            rw [if_neg a1, if_neg a23]
            repeat (first | rw [if_pos (by omega)] | rw [if_neg (by omega)])
          rw [ec]
          exact ⟨rfl, rfl, rfl, rfl⟩
    · have hd2 := b2i_pos c_72
      have a3 : S 5 sec = 0 := by
        rcases hsc.2.2 with h | h
        · exact h
        · rw [(onUp_by (o := 1 - S 9 s) hs2 (by omega)).2] at hd2; cases hd2
      have a2 : isOnc S sec (1 - S 9 s) = true := by rw [isOnc, onUp_low hs2 a3, hd2, Bool.or_true]
      refine aw_iconst dX5_causeAgainst_75 ?_
      refine aw_iret dX5_causeAgainst_76 rfl (Nat.zero_le _) (Nat.zero_le _) ?_
      have ec : cause S s sec = 1 := by
        simp only [cause]
        rw [if_neg a1, if_pos ⟨a3, a2⟩]
      rw [ec]
      exact ⟨rfl, rfl, rfl, rfl⟩
set_option maxRecDepth 100000 in
set_option maxHeartbeats 4000000 in
theorem c_X5_causeAgainst {s sec : Nat} (hI : CI S) (hC : RC ns nc S V) (hs : (s : Int) < ns) (hs2 : sec < 8) : CT l D cA A ad yX5_causeAgainst cX5_causeAgainst 5 (some .int) rm_X5_causeAgainst [.inr (some (0, 0)), .inr (some (5, s)), .inr (some (1, sec))] (lvC ns nc) V sz (PP (some (.inl (cz (cause S s sec)))) (lvC ns nc) V sz) := by
  refine CT.of2 [some (.inr (some (0, 0))), some (.inr (some (5, s))), some (.inr (some (1, sec))), none, none] (by decide) (Nat.le_of_ble_eq_true rfl) rfl ?_
  obtain ⟨hR, h8, h24⟩ := id hC
  obtain ⟨hB, hV, hU, hAG⟩ := hI
  have hm := hB.m
  simp only [bsm] at hm
  have hsh := hB.sh (s := (s : Int)) (by omega) (by omega)
  simp only [bsh] at hsh
  have hsc := hB.sc (i := (sec : Int)) (by omega) (by omega)
  simp only [bsc] at hsc
  have hhr : 0 ≤ hr S ∧ hr S < 24 := by simp only [hr]; omega
  have htw := hB.tw (i := hr S) (by omega) (by omega)
  have hdp : 0 ≤ deep S sec ∧ deep S sec ≤ 100 := by simp only [deep]; split <;> omega
  have hiM := hB.iM (a := 2 * (sec : Int) + S 9 s) (by omega) (by omega)
  have hag := hAG sec hs2
  have hlane : ∀ j : Nat, j < 16 → ∀ k : Nat, (k : Int) < S 33 j → V 40 j k = .inr (some (5, (S 34 (30 * (j : Int) + k)).toNat)) ∧ lvC ns nc 5 (S 34 (30 * (j : Int) + k)).toNat = true ∧ V 5 (S 34 (30 * (j : Int) + k)).toNat 15 = .inl (S 36 (S 34 (30 * (j : Int) + k))) ∧ Rg (S 36 (S 34 (30 * (j : Int) + k))) := by
    intro j hj k hk
    have hi := (hB.iM (a := (j : Int)) (by omega) (by omega)).1
    have hin := hB.ins (x := 30 * (j : Int) + k) (by omega) (by omega)
    have hve := hV.1 j k hj hk
    have hun := (hU (S 34 (30 * (j : Int) + k)) (by omega) (by omega)).1
    refine ⟨rc_40 hR hj (by omega) hk, decide_eq_true (by omega), ?_, by omega⟩
    have := rc_5_15 (i := (S 34 (30 * (j : Int) + k)).toNat) hR (by omega)
    rw [Int.toNat_of_nonneg hin.1] at this
    exact this
  have e35 : V 2 (2 * sec + (S 9 s).toNat) 1 = .inl (S 35 (2 * (sec : Int) + S 9 s)) := by
    rw [rc_2_1 hR (by omega)]
    congr 2
    omega
  have e33 : V 30 (2 * sec + (S 9 s).toNat) 1 = .inl (S 33 (2 * (sec : Int) + S 9 s)) := by
    rw [rc_30_1 hR (by omega)]
    congr 2
    omega
  refine aw_aload_n dX5_causeAgainst_0 rfl rfl ?_
  refine aw_getN dX5_causeAgainst_1 fnX5_222 (by decide) (by decide) rfl (decide_eq_true (by omega)) (rc_1_4 hR (by omega)) ?_
  refine aw_getN dX5_causeAgainst_4 fnX5_176 (by decide) (by decide) rfl (decide_eq_true (by omega)) (rc_2_0 hR (by omega)) ?_
  refine aw_aload_n dX5_causeAgainst_7 rfl rfl ?_
  refine aw_get dX5_causeAgainst_8 flX5_53 (by decide) (by decide) rfl rfl (rc_0_10 hR) ?_
  refine aw_callV (c_X2_hasAground (t := S 0 0) (u := fun k => S 36 (S 34 (30 * ((2 * sec : Nat) : Int) + k))) (e := fun k => (S 34 (30 * ((2 * sec : Nat) : Int) + k)).toNat) (hC.lane hB (by omega)) (by omega) (hlane (2 * sec) (by omega))) mv_X2_hasAground mlX5_226 dX5_causeAgainst_11 rfl (decide_eq_true (by omega)) (by decide) rfl (Nat.le_of_ble_eq_true rfl) rfl ?_
  rintro _ _ _ _ ⟨rfl, rfl, rfl, rfl⟩
  have hr1 := b2i_rg (lnA S (2 * sec))
  refine aw_if_ne (tgt := 34) dX5_causeAgainst_14 (by decide) (by first | omega | exact hr1) (fun c_14 => ?_) (fun c_14 => ?_)
  · have a1 : isAgr S sec = true := by rw [← hag, show lnA S (2 * sec) = true from b2i_pos c_14, Bool.true_or]
    refine aw_iconst dX5_causeAgainst_34 ?_
    refine aw_iret dX5_causeAgainst_35 rfl (Nat.zero_le _) (Nat.zero_le _) ?_
    have ec : cause S s sec = 0 := by
      simp only [cause]
      rw [if_pos a1]
    rw [ec]
    exact ⟨rfl, rfl, rfl, rfl⟩
  · have q1 : lnA S (2 * sec) = false := b2i_zero c_14
    refine aw_aload_n dX5_causeAgainst_17 rfl rfl ?_
    refine aw_getN dX5_causeAgainst_18 fnX5_229 (by decide) (by decide) rfl (decide_eq_true (by omega)) (rc_1_5 hR (by omega)) ?_
    refine aw_getN dX5_causeAgainst_21 fnX5_176 (by decide) (by decide) rfl (decide_eq_true (by omega)) (rc_2_0 hR (by omega)) ?_
    refine aw_aload_n dX5_causeAgainst_24 rfl rfl ?_
    refine aw_get dX5_causeAgainst_25 flX5_53 (by decide) (by decide) rfl rfl (rc_0_10 hR) ?_
    refine aw_callV (c_X2_hasAground (t := S 0 0) (u := fun k => S 36 (S 34 (30 * ((2 * sec + 1 : Nat) : Int) + k))) (e := fun k => (S 34 (30 * ((2 * sec + 1 : Nat) : Int) + k)).toNat) (hC.lane hB (by omega)) (by omega) (hlane (2 * sec + 1) (by omega))) mv_X2_hasAground mlX5_226 dX5_causeAgainst_28 rfl (decide_eq_true (by omega)) (by decide) rfl (Nat.le_of_ble_eq_true rfl) rfl ?_
    rintro _ _ _ _ ⟨rfl, rfl, rfl, rfl⟩
    have hr2 := b2i_rg (lnA S (2 * sec + 1))
    refine aw_if_eq (tgt := 36) dX5_causeAgainst_31 (by decide) (by first | omega | exact hr2) (fun c_31 => ?_) (fun c_31 => ?_)
    · have q2 : lnA S (2 * sec + 1) = false := b2i_zero c_31
      have a1 : ¬ isAgr S sec = true := by rw [← hag, q1, q2]; decide
      refine aw_aload_n dX5_causeAgainst_36 rfl rfl ?_
      refine aw_getN dX5_causeAgainst_37 fnX5_110 (by decide) (by decide) rfl (decide_eq_true (by omega)) (rc_5_1 hR (by omega)) ?_
      refine aw_if_ne (tgt := 47) dX5_causeAgainst_40 (by decide) (by omega) (fun c_40 => ?_) (fun c_40 => ?_)
      · refine aw_iconst dX5_causeAgainst_47 ?_
        refine aw_istore_n dX5_causeAgainst_48 rfl (by decide) ?_
        exact AW.lss (t1_X5_causeAgainst ⟨hB, hV, hU, hAG⟩ hC hs hs2 a1) (And.intro rfl (And.intro rfl (And.intro rfl (And.intro (congrArg Sum.inl (by omega)) trivial))))
      · refine aw_iconst dX5_causeAgainst_43 ?_
        refine aw_goto (tgt := 48) dX5_causeAgainst_44 (by decide) ?_
        refine aw_istore_n dX5_causeAgainst_48 rfl (by decide) ?_
        exact AW.lss (t1_X5_causeAgainst ⟨hB, hV, hU, hAG⟩ hC hs hs2 a1) (And.intro rfl (And.intro rfl (And.intro rfl (And.intro (congrArg Sum.inl (by omega)) trivial))))
    · have a1 : isAgr S sec = true := by rw [← hag, show lnA S (2 * sec + 1) = true from b2i_pos c_31, Bool.or_true]
      refine aw_iconst dX5_causeAgainst_34 ?_
      refine aw_iret dX5_causeAgainst_35 rfl (Nat.zero_le _) (Nat.zero_le _) ?_
      have ec : cause S s sec = 0 := by
        simp only [cause]
        rw [if_pos a1]
      rw [ec]
      exact ⟨rfl, rfl, rfl, rfl⟩
end CLS3
