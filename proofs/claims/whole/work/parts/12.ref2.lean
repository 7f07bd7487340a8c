section REF2
variable {l : Launch} {D : va_G} {cA : Nat → ClassId} {A : Nat → Prop} {ad : Ad} {lv : Lw} {V : Vw} {sz : Nat} {S : SS}
set_option maxRecDepth 100000 in
set_option maxHeartbeats 4000000 in
theorem lp_X6_nextConvoy {w : Int} (hB : BB S) (hw : Rg w) : ∀ (f n : Nat), n + f = (S 24 0).toNat → AW l D cA A ad yX6_nextConvoy cX6_nextConvoy 5 (some .int) rm_X6_nextConvoy (PR (some (.inl (nx S w (S 24 0).toNat))) (S) sz) 0 0 lvR (VR S) sz 5 [some (.inr (some (50, 0))), some (.inl w), some (.inl (nx S w n)), some (.inl (n : Int)), none] [] := by
  have hm := hB.m
  simp only [bsm] at hm
  intro f
  induction f with
  | zero =>
    intro n hn
    have hnx := nx_bd S w n
    refine aw_iload_n dX6_nextConvoy_5 rfl rfl ?_
    refine aw_aload_n dX6_nextConvoy_6 rfl rfl ?_
    refine rr_getS dX6_nextConvoy_7 flX6_122 rfl (by decide) (fun _ => rfl) ?_
    refine aw_icmp_ge (tgt := 79) dX6_nextConvoy_10 (by decide) (by omega) (by omega) (fun c_10 => ?_) (fun c_10 => absurd c_10 (by omega))
    refine aw_iload_n dX6_nextConvoy_79 rfl rfl ?_
    refine aw_iret dX6_nextConvoy_80 rfl (Nat.zero_le _) (Nat.zero_le _) ?_
    rw [show (S 24 0).toNat = n by omega]
    exact ⟨rfl, rfl, rfl, rfl⟩
  | succ f ih =>
    intro n hn
    have hnx := nx_bd S w n
    have hc := hB.cv (c := (n : Int)) (by omega) (by omega)
    simp only [bcv] at hc
    have hc2 : 0 ≤ nx S w n → (0 ≤ S 26 (nx S w n) ∧ S 26 (nx S w n) ≤ 9999) := fun h => (hB.cv h (by omega)).2.1
    refine aw_iload_n dX6_nextConvoy_5 rfl rfl ?_
    refine aw_aload_n dX6_nextConvoy_6 rfl rfl ?_
    refine rr_getS dX6_nextConvoy_7 flX6_122 rfl (by decide) (fun _ => rfl) ?_
    refine aw_icmp_ge (tgt := 79) dX6_nextConvoy_10 (by decide) (by omega) (by omega) (fun c_10 => absurd c_10 (by omega)) (fun c_10 => ?_)
    refine aw_aload_n dX6_nextConvoy_13 rfl rfl ?_
    refine rr_getA dX6_nextConvoy_14 flX6_75 rfl (by decide) ?_
    refine aw_iload_n dX6_nextConvoy_17 rfl rfl ?_
    refine rr_iald (n := 12) dX6_nextConvoy_18 rfl rfl rfl (by omega) (by omega) (fun _ => rfl) ?_
    refine aw_iload_n dX6_nextConvoy_19 rfl rfl ?_
    refine aw_icmp_ne (tgt := 40) dX6_nextConvoy_20 (by decide) (by omega) (by omega) (fun c_20 => ?_) (fun c_20 => ?_)
    · refine aw_iconst dX6_nextConvoy_40 ?_
      refine aw_istore dX6_nextConvoy_41 (by decide) ?_
      refine aw_iload dX6_nextConvoy_43 rfl ?_
      refine aw_if_eq (tgt := 71) dX6_nextConvoy_45 (by decide) (by omega) (fun _ => ?_) (fun c_45 => absurd c_45 (by decide))
      refine aw_iload_n dX6_nextConvoy_71 rfl rfl ?_
      refine aw_istore_n dX6_nextConvoy_72 rfl (by decide) ?_
      refine aw_iinc dX6_nextConvoy_73 rfl (by decide) ?_
      refine aw_goto (tgt := 5) dX6_nextConvoy_76 (by decide) ?_
      refine AW.lss (ih (n + 1) (by omega)) (And.intro rfl (And.intro rfl (And.intro (congrArg Sum.inl ?_) (And.intro rfl trivial))))
      show (if _ then _ else _) = _
      first | rw [if_pos (by omega)] | rw [if_neg (by omega)]
    · refine aw_aload_n dX6_nextConvoy_23 rfl rfl ?_
      refine rr_getA dX6_nextConvoy_24 flX6_78 rfl (by decide) ?_
      refine aw_iload_n dX6_nextConvoy_27 rfl rfl ?_
      refine rr_iald (n := 12) dX6_nextConvoy_28 rfl rfl rfl (by omega) (by omega) (fun _ => rfl) ?_
      refine aw_aload_n dX6_nextConvoy_29 rfl rfl ?_
      refine rr_getS dX6_nextConvoy_30 flX6_112 rfl (by decide) (fun _ => rfl) ?_
      refine aw_icmp_le (tgt := 40) dX6_nextConvoy_33 (by decide) (by omega) (by omega) (fun c_33 => ?_) (fun c_33 => ?_)
      · refine aw_iconst dX6_nextConvoy_40 ?_
        refine aw_istore dX6_nextConvoy_41 (by decide) ?_
        refine aw_iload dX6_nextConvoy_43 rfl ?_
        refine aw_if_eq (tgt := 71) dX6_nextConvoy_45 (by decide) (by omega) (fun _ => ?_) (fun c_45 => absurd c_45 (by decide))
        refine aw_iload_n dX6_nextConvoy_71 rfl rfl ?_
        refine aw_istore_n dX6_nextConvoy_72 rfl (by decide) ?_
        refine aw_iinc dX6_nextConvoy_73 rfl (by decide) ?_
        refine aw_goto (tgt := 5) dX6_nextConvoy_76 (by decide) ?_
        refine AW.lss (ih (n + 1) (by omega)) (And.intro rfl (And.intro rfl (And.intro (congrArg Sum.inl ?_) (And.intro rfl trivial))))
        show (if _ then _ else _) = _
        first | rw [if_pos (by omega)] | rw [if_neg (by omega)]
      · refine aw_iconst dX6_nextConvoy_36 ?_
        refine aw_goto (tgt := 41) dX6_nextConvoy_37 (by decide) ?_
        refine aw_istore dX6_nextConvoy_41 (by decide) ?_
        refine aw_iload dX6_nextConvoy_43 rfl ?_
        refine aw_if_eq (tgt := 71) dX6_nextConvoy_45 (by decide) (by omega) (fun c_45 => absurd c_45 (by decide)) (fun _ => ?_)
        refine aw_iload_n dX6_nextConvoy_48 rfl rfl ?_
        refine aw_if_lt (tgt := 67) dX6_nextConvoy_49 (by decide) (by omega) (fun c_49 => ?_) (fun c_49 => ?_)
        · refine aw_iload_n dX6_nextConvoy_67 rfl rfl ?_
          refine aw_goto (tgt := 72) dX6_nextConvoy_68 (by decide) ?_
          refine aw_istore_n dX6_nextConvoy_72 rfl (by decide) ?_
          refine aw_iinc dX6_nextConvoy_73 rfl (by decide) ?_
          refine aw_goto (tgt := 5) dX6_nextConvoy_76 (by decide) ?_
          refine AW.lss (ih (n + 1) (by omega)) (And.intro rfl (And.intro rfl (And.intro (congrArg Sum.inl ?_) (And.intro rfl trivial))))
          show (if _ then _ else _) = _
          first | rw [if_pos (by omega)] | rw [if_neg (by omega)]
        · have hc3 := hc2 (by omega)
          refine aw_aload_n dX6_nextConvoy_52 rfl rfl ?_
          refine rr_getA dX6_nextConvoy_53 flX6_78 rfl (by decide) ?_
          refine aw_iload_n dX6_nextConvoy_56 rfl rfl ?_
          refine rr_iald (n := 12) dX6_nextConvoy_57 rfl rfl rfl (by omega) (by omega) (fun _ => rfl) ?_
          refine aw_aload_n dX6_nextConvoy_58 rfl rfl ?_
          refine rr_getA dX6_nextConvoy_59 flX6_78 rfl (by decide) ?_
          refine aw_iload_n dX6_nextConvoy_62 rfl rfl ?_
          refine rr_iald (n := 12) dX6_nextConvoy_63 rfl rfl rfl (by omega) (by omega) (fun _ => rfl) ?_
          refine aw_icmp_ge (tgt := 71) dX6_nextConvoy_64 (by decide) (by omega) (by omega) (fun c_64 => ?_) (fun c_64 => ?_)
          · refine aw_iload_n dX6_nextConvoy_71 rfl rfl ?_
            refine aw_istore_n dX6_nextConvoy_72 rfl (by decide) ?_
            refine aw_iinc dX6_nextConvoy_73 rfl (by decide) ?_
            refine aw_goto (tgt := 5) dX6_nextConvoy_76 (by decide) ?_
            refine AW.lss (ih (n + 1) (by omega)) (And.intro rfl (And.intro rfl (And.intro (congrArg Sum.inl ?_) (And.intro rfl trivial))))
            show (if _ then _ else _) = _
            first | rw [if_pos (by omega)] | rw [if_neg (by omega)]
          · refine aw_iload_n dX6_nextConvoy_67 rfl rfl ?_
            refine aw_goto (tgt := 72) dX6_nextConvoy_68 (by decide) ?_
            refine aw_istore_n dX6_nextConvoy_72 rfl (by decide) ?_
            refine aw_iinc dX6_nextConvoy_73 rfl (by decide) ?_
            refine aw_goto (tgt := 5) dX6_nextConvoy_76 (by decide) ?_
            refine AW.lss (ih (n + 1) (by omega)) (And.intro rfl (And.intro rfl (And.intro (congrArg Sum.inl ?_) (And.intro rfl trivial))))
            show (if _ then _ else _) = _
            first | rw [if_pos (by omega)] | rw [if_neg (by omega)]
set_option maxRecDepth 100000 in
set_option maxHeartbeats 4000000 in
theorem c_X6_nextConvoy {w : Int} (hB : BB S) (hw : Rg w) : CT l D cA A ad yX6_nextConvoy cX6_nextConvoy 5 (some .int) rm_X6_nextConvoy [.inr (some (50, 0)), .inl w] lvR (VR S) sz (PR (some (.inl (nx S w (S 24 0).toNat))) (S) sz) := by
  refine CT.of2 [some (.inr (some (50, 0))), some (.inl w), none, none, none] (by decide) (Nat.le_of_ble_eq_true rfl) rfl ?_
  refine aw_bipush dX6_nextConvoy_0 (by decide) ?_
  refine aw_istore_n dX6_nextConvoy_2 rfl (by decide) ?_
  refine aw_iconst dX6_nextConvoy_3 ?_
  refine aw_istore_n dX6_nextConvoy_4 rfl (by decide) ?_
  exact lp_X6_nextConvoy hB hw (S 24 0).toNat 0 (by omega)
set_option maxRecDepth 100000 in
set_option maxHeartbeats 4000000 in
theorem lp_X6_isAground {sec : Int} (hB : BB S) (hw : Rg sec) : ∀ (f n : Nat), n + f = (S 8 0).toNat → AW l D cA A ad yX6_isAground cX6_isAground 4 (some .boolean) rm_X6_isAground (PR (some (.inl (b2i (isAgr S sec)))) (S) sz) 0 0 lvR (VR S) sz 4 [some (.inr (some (50, 0))), some (.inl sec), some (.inl (b2i (exB (agP S sec) n))), some (.inl (n : Int))] [] := by
  have hm := hB.m
  simp only [bsm] at hm
  intro f
  induction f with
  | zero =>
    intro n hn
    refine aw_iload_n dX6_isAground_4 rfl rfl ?_
    refine aw_aload_n dX6_isAground_5 rfl rfl ?_
    refine rr_getS dX6_isAground_6 flX6_119 rfl (by decide) (fun _ => rfl) ?_
    refine aw_icmp_ge (tgt := 47) dX6_isAground_9 (by decide) (by omega) (by omega) (fun c_9 => ?_) (fun c_9 => absurd c_9 (by omega))
    refine aw_iload_n dX6_isAground_47 rfl rfl ?_
    refine aw_zret dX6_isAground_48 rfl (b2i_01 _) (Nat.zero_le _) (Nat.zero_le _) ?_
    rw [isAgr, show (S 8 0).toNat = n by omega]
    exact ⟨rfl, rfl, rfl, rfl⟩
  | succ f ih =>
    intro n hn
    have hx := b2i_rg (exB (agP S sec) n)
    have hs := hB.sh (s := (n : Int)) (by omega) (by omega)
    simp only [bsh] at hs
    refine aw_iload_n dX6_isAground_4 rfl rfl ?_
    refine aw_aload_n dX6_isAground_5 rfl rfl ?_
    refine rr_getS dX6_isAground_6 flX6_119 rfl (by decide) (fun _ => rfl) ?_
    refine aw_icmp_ge (tgt := 47) dX6_isAground_9 (by decide) (by omega) (by omega) (fun c_9 => absurd c_9 (by omega)) (fun c_9 => ?_)
    refine aw_iload_n dX6_isAground_12 rfl rfl ?_
    refine aw_if_ne (tgt := 35) dX6_isAground_13 (by decide) (by omega) (fun c_13 => ?_) (fun c_13 => ?_)
    · refine aw_iconst dX6_isAground_35 ?_
      refine aw_goto (tgt := 40) dX6_isAground_36 (by decide) ?_
      refine aw_istore_n dX6_isAground_40 rfl (by decide) ?_
      refine aw_iinc dX6_isAground_41 rfl (by decide) ?_
      refine aw_goto (tgt := 4) dX6_isAground_44 (by decide) ?_
      refine AW.lss (ih (n + 1) (by omega)) (And.intro rfl (And.intro rfl (And.intro (congrArg Sum.inl ?_) (And.intro rfl trivial))))
      first
        | (rw [exB_t (Or.inl (b2i_pos c_13))]; rfl)
        | (rw [exB_t (Or.inr (by simp only [agP, decide_eq_true_eq]; omega))]; rfl)
        | (rw [exB_f (b2i_zero c_13) (by simp only [agP, decide_eq_false_iff_not]; omega)]; rfl)
    · refine aw_aload_n dX6_isAground_16 rfl rfl ?_
      refine rr_getA dX6_isAground_17 flX6_48 rfl (by decide) ?_
      refine aw_iload_n dX6_isAground_20 rfl rfl ?_
      refine rr_iald (n := 30) dX6_isAground_21 rfl rfl rfl (by omega) (by omega) (fun _ => rfl) ?_
      refine aw_iload_n dX6_isAground_22 rfl rfl ?_
      refine aw_icmp_ne (tgt := 39) dX6_isAground_23 (by decide) (by omega) (by omega) (fun c_23 => ?_) (fun c_23 => ?_)
      · refine aw_iconst dX6_isAground_39 ?_
        refine aw_istore_n dX6_isAground_40 rfl (by decide) ?_
        refine aw_iinc dX6_isAground_41 rfl (by decide) ?_
        refine aw_goto (tgt := 4) dX6_isAground_44 (by decide) ?_
        refine AW.lss (ih (n + 1) (by omega)) (And.intro rfl (And.intro rfl (And.intro (congrArg Sum.inl ?_) (And.intro rfl trivial))))
        first
          | (rw [exB_t (Or.inl (b2i_pos c_13))]; rfl)
          | (rw [exB_t (Or.inr (by simp only [agP, decide_eq_true_eq]; omega))]; rfl)
          | (rw [exB_f (b2i_zero c_13) (by simp only [agP, decide_eq_false_iff_not]; omega)]; rfl)
      · refine aw_aload_n dX6_isAground_26 rfl rfl ?_
        refine rr_getA dX6_isAground_27 flX6_66 rfl (by decide) ?_
        refine aw_iload_n dX6_isAground_30 rfl rfl ?_
        refine rr_iald (n := 30) dX6_isAground_31 rfl rfl rfl (by omega) (by omega) (fun _ => rfl) ?_
        refine aw_if_le (tgt := 39) dX6_isAground_32 (by decide) (by omega) (fun c_32 => ?_) (fun c_32 => ?_)
        · refine aw_iconst dX6_isAground_39 ?_
          refine aw_istore_n dX6_isAground_40 rfl (by decide) ?_
          refine aw_iinc dX6_isAground_41 rfl (by decide) ?_
          refine aw_goto (tgt := 4) dX6_isAground_44 (by decide) ?_
          refine AW.lss (ih (n + 1) (by omega)) (And.intro rfl (And.intro rfl (And.intro (congrArg Sum.inl ?_) (And.intro rfl trivial))))
          first
            | (rw [exB_t (Or.inl (b2i_pos c_13))]; rfl)
            | (rw [exB_t (Or.inr (by simp only [agP, decide_eq_true_eq]; omega))]; rfl)
            | (rw [exB_f (b2i_zero c_13) (by simp only [agP, decide_eq_false_iff_not]; omega)]; rfl)
        · refine aw_iconst dX6_isAground_35 ?_
          refine aw_goto (tgt := 40) dX6_isAground_36 (by decide) ?_
          refine aw_istore_n dX6_isAground_40 rfl (by decide) ?_
          refine aw_iinc dX6_isAground_41 rfl (by decide) ?_
          refine aw_goto (tgt := 4) dX6_isAground_44 (by decide) ?_
          refine AW.lss (ih (n + 1) (by omega)) (And.intro rfl (And.intro rfl (And.intro (congrArg Sum.inl ?_) (And.intro rfl trivial))))
          first
            | (rw [exB_t (Or.inl (b2i_pos c_13))]; rfl)
            | (rw [exB_t (Or.inr (by simp only [agP, decide_eq_true_eq]; omega))]; rfl)
            | (rw [exB_f (b2i_zero c_13) (by simp only [agP, decide_eq_false_iff_not]; omega)]; rfl)
set_option maxRecDepth 100000 in
set_option maxHeartbeats 4000000 in
theorem c_X6_isAground {sec : Int} (hB : BB S) (hw : Rg sec) : CT l D cA A ad yX6_isAground cX6_isAground 4 (some .boolean) rm_X6_isAground [.inr (some (50, 0)), .inl sec] lvR (VR S) sz (PR (some (.inl (b2i (isAgr S sec)))) (S) sz) := by
  refine CT.of2 [some (.inr (some (50, 0))), some (.inl sec), none, none] (by decide) (Nat.le_of_ble_eq_true rfl) rfl ?_
  refine aw_iconst dX6_isAground_0 ?_
  refine aw_istore_n dX6_isAground_1 rfl (by decide) ?_
  refine aw_iconst dX6_isAground_2 ?_
  refine aw_istore_n dX6_isAground_3 rfl (by decide) ?_
  exact lp_X6_isAground hB hw (S 8 0).toNat 0 (by omega)
set_option maxRecDepth 100000 in
set_option maxHeartbeats 4000000 in
theorem lp2_X6_isOncoming {sec : Nat} {o : Int} (hB : BB S) (ho : o = 0 ∨ o = 1) : ∀ (f k : Nat) (is : Bool), k + f = 8 → (is || onUp S o k f) = isOnc S sec o → AW l D cA A ad yX6_isOncoming cX6_isOncoming 6 (some .boolean) rm_X6_isOncoming (PR (some (.inl (b2i (isOnc S sec o)))) (S) sz) 0 0 lvR (VR S) sz 32 [some (.inr (some (50, 0))), some (.inl (sec : Int)), some (.inl o), some (.inl (b2i is)), none, some (.inl (k : Int))] [] := by
  intro f
  induction f with
  | zero =>
    intro k is hk hi
    have hx := b2i_rg is
    refine aw_iload dX6_isOncoming_32 rfl ?_
    refine aw_bipush dX6_isOncoming_34 (by decide) ?_
    refine aw_icmp_ge (tgt := 79) dX6_isOncoming_36 (by decide) (by omega) (by omega) (fun c_36 => ?_) (fun c_36 => absurd c_36 (by omega))
    refine aw_iload_n dX6_isOncoming_79 rfl rfl ?_
    refine aw_zret dX6_isOncoming_80 rfl (b2i_01 _) (Nat.zero_le _) (Nat.zero_le _) ?_
    rw [← hi]
    simp only [onUp, Bool.or_false]
    exact ⟨rfl, rfl, rfl, rfl⟩
  | succ f ih =>
    intro k is hk hi
    have hx := b2i_rg is
    have hc := hB.sc (i := (k : Int)) (by omega) (by omega)
    simp only [bsc] at hc
    have hM := hB.iM (a := 2 * (k : Int) + o) (by omega) (by omega)
    simp only [onUp] at hi
    refine aw_iload dX6_isOncoming_32 rfl ?_
    refine aw_bipush dX6_isOncoming_34 (by decide) ?_
    refine aw_icmp_ge (tgt := 79) dX6_isOncoming_36 (by decide) (by omega) (by omega) (fun c_36 => absurd c_36 (by omega)) (fun c_36 => ?_)
    refine aw_aload_n dX6_isOncoming_39 rfl rfl ?_
    refine rr_getA dX6_isOncoming_40 flX6_20 rfl (by decide) ?_
    refine aw_iload dX6_isOncoming_43 rfl ?_
    refine rr_zald (n := 8) dX6_isOncoming_45 rfl rfl rfl (by omega) (by omega) (fun _ => rfl) ?_
    refine aw_if_ne (tgt := 79) dX6_isOncoming_46 (by decide) (by omega) (fun c_46 => ?_) (fun c_46 => ?_)
    · refine aw_iload_n dX6_isOncoming_79 rfl rfl ?_
      refine aw_zret dX6_isOncoming_80 rfl (b2i_01 _) (Nat.zero_le _) (Nat.zero_le _) ?_
      rw [if_neg c_46] at hi
      rw [← hi]
      simp only [Bool.or_false]
      exact ⟨rfl, rfl, rfl, rfl⟩
    · refine aw_iload_n dX6_isOncoming_49 rfl rfl ?_
      refine aw_if_ne (tgt := 67) dX6_isOncoming_50 (by decide) (by omega) (fun c_50 => ?_) (fun c_50 => ?_)
      · refine aw_iconst dX6_isOncoming_67 ?_
        refine aw_goto (tgt := 72) dX6_isOncoming_68 (by decide) ?_
        refine aw_istore_n dX6_isOncoming_72 rfl (by decide) ?_
        refine aw_iinc dX6_isOncoming_73 rfl (by decide) ?_
        refine aw_goto (tgt := 32) dX6_isOncoming_76 (by decide) ?_
        first
          | (refine AW.lss (L0 := [some (.inr (some (50, 0))), some (.inl (sec : Int)), some (.inl o), some (.inl (b2i true)), none, some (.inl ((k + 1 : Nat) : Int))]) (ih (k + 1) true (by omega) ?_) (And.intro rfl (And.intro rfl (And.intro rfl (And.intro rfl (And.intro rfl trivial)))))
             rw [if_pos c_46] at hi
             first
               | (rw [b2i_pos c_50] at hi; simpa using hi)
               | (rw [decide_eq_true (show (0 : Int) < S 33 (2 * (k : Int) + o) by omega)] at hi; simpa using hi))
          | (refine AW.lss (L0 := [some (.inr (some (50, 0))), some (.inl (sec : Int)), some (.inl o), some (.inl (b2i false)), none, some (.inl ((k + 1 : Nat) : Int))]) (ih (k + 1) false (by omega) ?_) (And.intro rfl (And.intro rfl (And.intro rfl (And.intro rfl (And.intro rfl trivial)))))
             rw [if_pos c_46, b2i_zero c_50, decide_eq_false (show ¬ (0 : Int) < S 33 (2 * (k : Int) + o) by omega)] at hi
             simpa using hi)
      · refine aw_aload_n dX6_isOncoming_53 rfl rfl ?_
        refine rr_getA dX6_isOncoming_54 flX6_99 rfl (by decide) ?_
        refine aw_iconst dX6_isOncoming_57 ?_
        refine aw_iload dX6_isOncoming_58 rfl ?_
        refine aw_imul dX6_isOncoming_60 ?_
        refine aw_iload_n dX6_isOncoming_61 rfl rfl ?_
        refine aw_iadd dX6_isOncoming_62 ?_
        refine rr_iald (n := 16) dX6_isOncoming_63 rfl rfl rfl (by omega) (by omega) (fun _ => rfl) ?_
        refine aw_if_le (tgt := 71) dX6_isOncoming_64 (by decide) (by omega) (fun c_64 => ?_) (fun c_64 => ?_)
        · refine aw_iconst dX6_isOncoming_71 ?_
          refine aw_istore_n dX6_isOncoming_72 rfl (by decide) ?_
          refine aw_iinc dX6_isOncoming_73 rfl (by decide) ?_
          refine aw_goto (tgt := 32) dX6_isOncoming_76 (by decide) ?_
          first
            | (refine AW.lss (L0 := [some (.inr (some (50, 0))), some (.inl (sec : Int)), some (.inl o), some (.inl (b2i true)), none, some (.inl ((k + 1 : Nat) : Int))]) (ih (k + 1) true (by omega) ?_) (And.intro rfl (And.intro rfl (And.intro rfl (And.intro rfl (And.intro rfl trivial)))))
               rw [if_pos c_46] at hi
               first
                 | (rw [b2i_pos c_50] at hi; simpa using hi)
                 | (rw [decide_eq_true (show (0 : Int) < S 33 (2 * (k : Int) + o) by omega)] at hi; simpa using hi))
            | (refine AW.lss (L0 := [some (.inr (some (50, 0))), some (.inl (sec : Int)), some (.inl o), some (.inl (b2i false)), none, some (.inl ((k + 1 : Nat) : Int))]) (ih (k + 1) false (by omega) ?_) (And.intro rfl (And.intro rfl (And.intro rfl (And.intro rfl (And.intro rfl trivial)))))
               rw [if_pos c_46, b2i_zero c_50, decide_eq_false (show ¬ (0 : Int) < S 33 (2 * (k : Int) + o) by omega)] at hi
               simpa using hi)
        · refine aw_iconst dX6_isOncoming_67 ?_
          refine aw_goto (tgt := 72) dX6_isOncoming_68 (by decide) ?_
          refine aw_istore_n dX6_isOncoming_72 rfl (by decide) ?_
          refine aw_iinc dX6_isOncoming_73 rfl (by decide) ?_
          refine aw_goto (tgt := 32) dX6_isOncoming_76 (by decide) ?_
          first
            | (refine AW.lss (L0 := [some (.inr (some (50, 0))), some (.inl (sec : Int)), some (.inl o), some (.inl (b2i true)), none, some (.inl ((k + 1 : Nat) : Int))]) (ih (k + 1) true (by omega) ?_) (And.intro rfl (And.intro rfl (And.intro rfl (And.intro rfl (And.intro rfl trivial)))))
               rw [if_pos c_46] at hi
               first
                 | (rw [b2i_pos c_50] at hi; simpa using hi)
                 | (rw [decide_eq_true (show (0 : Int) < S 33 (2 * (k : Int) + o) by omega)] at hi; simpa using hi))
            | (refine AW.lss (L0 := [some (.inr (some (50, 0))), some (.inl (sec : Int)), some (.inl o), some (.inl (b2i false)), none, some (.inl ((k + 1 : Nat) : Int))]) (ih (k + 1) false (by omega) ?_) (And.intro rfl (And.intro rfl (And.intro rfl (And.intro rfl (And.intro rfl trivial)))))
               rw [if_pos c_46, b2i_zero c_50, decide_eq_false (show ¬ (0 : Int) < S 33 (2 * (k : Int) + o) by omega)] at hi
               simpa using hi)
set_option maxRecDepth 100000 in
set_option maxHeartbeats 4000000 in
theorem lp1_X6_isOncoming {sec : Nat} {o : Int} (hB : BB S) (hs : sec < 8) (ho : o = 0 ∨ o = 1) : ∀ (lo : Nat), lo ≤ sec → lowF S lo = lowF S sec → AW l D cA A ad yX6_isOncoming cX6_isOncoming 6 (some .boolean) rm_X6_isOncoming (PR (some (.inl (b2i (isOnc S sec o)))) (S) sz) 0 0 lvR (VR S) sz 5 [some (.inr (some (50, 0))), some (.inl (sec : Int)), some (.inl o), some (.inl 0), some (.inl (lo : Int)), none] [] := by
  intro lo
  induction lo with
  | zero =>
    intro hl he
    refine aw_iload dX6_isOncoming_5 rfl ?_
    refine aw_if_le (tgt := 28) dX6_isOncoming_7 (by decide) (by omega) (fun c_7 => ?_) (fun c_7 => absurd c_7 (by omega))
    refine aw_iload dX6_isOncoming_28 rfl ?_
    refine aw_istore dX6_isOncoming_30 (by decide) ?_
    refine AW.lss (L0 := [some (.inr (some (50, 0))), some (.inl (sec : Int)), some (.inl o), some (.inl (b2i false)), none, some (.inl ((0 : Nat) : Int))]) (lp2_X6_isOncoming hB ho (8 - (0)) (0) false (by omega) ?_) (And.intro rfl (And.intro rfl (And.intro rfl (And.intro rfl (And.intro rfl trivial)))))
    rw [isOnc, ← he]
    simp [lowF]
  | succ lo ih =>
    intro hl he
    have hc := hB.sc (i := (lo : Int)) (by omega) (by omega)
    simp only [bsc] at hc
    have e1 : ((lo + 1 : Nat) : Int) - 1 = (lo : Int) := by omega
    refine aw_iload dX6_isOncoming_5 rfl ?_
    refine aw_if_le (tgt := 28) dX6_isOncoming_7 (by decide) (by omega) (fun c_7 => absurd c_7 (by omega)) (fun c_7 => ?_)
    refine aw_aload_n dX6_isOncoming_10 rfl rfl ?_
    refine rr_getA dX6_isOncoming_11 flX6_20 rfl (by decide) ?_
    refine aw_iload dX6_isOncoming_14 rfl ?_
    refine aw_iconst dX6_isOncoming_16 ?_
    refine aw_isub dX6_isOncoming_17 ?_
    rw [e1]
    refine rr_zald (n := 8) dX6_isOncoming_18 rfl rfl rfl (by omega) (by omega) (fun _ => rfl) ?_
    refine aw_if_ne (tgt := 28) dX6_isOncoming_19 (by decide) (by omega) (fun c_19 => ?_) (fun c_19 => ?_)
    · refine aw_iload dX6_isOncoming_28 rfl ?_
      refine aw_istore dX6_isOncoming_30 (by decide) ?_
      refine AW.lss (L0 := [some (.inr (some (50, 0))), some (.inl (sec : Int)), some (.inl o), some (.inl (b2i false)), none, some (.inl ((lo + 1 : Nat) : Int))]) (lp2_X6_isOncoming hB ho (8 - (lo + 1)) (lo + 1) false (by omega) ?_) (And.intro rfl (And.intro rfl (And.intro rfl (And.intro rfl (And.intro rfl trivial)))))
      rw [isOnc, ← he]
      simp only [lowF]
      rw [if_neg c_19]
      simp
    · refine aw_iinc dX6_isOncoming_22 rfl (by decide) ?_
      refine aw_goto (tgt := 5) dX6_isOncoming_25 (by decide) ?_
      refine AW.lss (ih (by omega) ?_) (And.intro rfl (And.intro rfl (And.intro rfl (And.intro rfl (And.intro (congrArg Sum.inl (show (lo : Int) = ((lo + 1 : Nat) : Int) + -1 by omega)) trivial)))))
      rw [← he]
      simp only [lowF]
      rw [if_pos c_19]
set_option maxRecDepth 100000 in
set_option maxHeartbeats 4000000 in
theorem c_X6_isOncoming {sec : Nat} {o : Int} (hB : BB S) (hs : sec < 8) (ho : o = 0 ∨ o = 1) : CT l D cA A ad yX6_isOncoming cX6_isOncoming 6 (some .boolean) rm_X6_isOncoming [.inr (some (50, 0)), .inl ((sec : Int)), .inl o] lvR (VR S) sz (PR (some (.inl (b2i (isOnc S sec o)))) (S) sz) := by
  refine CT.of2 [some (.inr (some (50, 0))), some (.inl ((sec : Int))), some (.inl o), none, none, none] (by decide) (Nat.le_of_ble_eq_true rfl) rfl ?_
  refine aw_iconst dX6_isOncoming_0 ?_
  refine aw_istore_n dX6_isOncoming_1 rfl (by decide) ?_
  refine aw_iload_n dX6_isOncoming_2 rfl rfl ?_
  refine aw_istore dX6_isOncoming_3 (by decide) ?_
  exact lp1_X6_isOncoming hB hs ho sec (Nat.le_refl _) rfl
set_option maxRecDepth 100000 in
set_option maxHeartbeats 4000000 in
theorem c2_X6_cause {s : Int} {sec : Nat} (hB : BB S) (hs : 0 ≤ s ∧ s < 30) (hs2 : sec < 8) : AW l D cA A ad yX6_cause cX6_cause 6 (some .int) rm_X6_cause (PR (some (.inl (cause S s sec))) (S) sz) 0 0 lvR (VR S) sz 53 [some (.inr (some (50, 0))), some (.inl s), some (.inl (sec : Int)), some (.inl (2 * (sec : Int) + S 9 s)), some (.inl (hr S)), some (.inl (deep S sec))] [] := by
  have hm := hB.m
  simp only [bsm] at hm
  have hsh := hB.sh (s := s) (by omega) (by omega)
  simp only [bsh] at hsh
  have hsc := hB.sc (i := (sec : Int)) (by omega) (by omega)
  simp only [bsc] at hsc
  have hhr : 0 ≤ hr S ∧ hr S < 24 := by simp only [hr]; omega
  have htw := hB.tw (i := hr S) (by omega) (by omega)
  have hdp : 0 ≤ deep S sec ∧ deep S sec ≤ 100 := by simp only [deep]; split <;> omega
  have hiM := hB.iM (a := 2 * (sec : Int) + S 9 s) (by omega) (by omega)
  have hag := b2i_rg (isAgr S sec)
  have hon := b2i_rg (isOnc S sec (1 - S 9 s))
  refine aw_aload_n dX6_cause_53 rfl rfl ?_
  refine aw_iload_n dX6_cause_54 rfl rfl ?_
  refine aw_callV (c_X6_isAground hB (by omega)) mv_X6_isAground mlX6_133 dX6_cause_55 rfl rfl (by decide) rfl (Nat.le_of_ble_eq_true rfl) rfl ?_
  rintro _ _ _ _ ⟨rfl, rfl, rfl, rfl⟩
  refine aw_if_eq (tgt := 63) dX6_cause_58 (by decide) (by omega) (fun c_58 => ?_) (fun c_58 => ?_)
  · have a1 : ¬ isAgr S sec = true := by rw [b2i_zero c_58]; decide
    refine aw_aload_n dX6_cause_63 rfl rfl ?_
    refine rr_getA dX6_cause_64 flX6_20 rfl (by decide) ?_
    refine aw_iload_n dX6_cause_67 rfl rfl ?_
    refine rr_zald (n := 8) dX6_cause_68 rfl rfl rfl (by omega) (by omega) (fun _ => rfl) ?_
    refine aw_if_ne (tgt := 90) dX6_cause_69 (by decide) (by omega) (fun c_69 => ?_) (fun c_69 => ?_)
    · refine aw_aload_n dX6_cause_90 rfl rfl ?_
      refine rr_getA dX6_cause_91 flX6_99 rfl (by decide) ?_
      refine aw_iload_n dX6_cause_94 rfl rfl ?_
      refine rr_iald (n := 16) dX6_cause_95 rfl rfl rfl (by omega) (by omega) (fun _ => rfl) ?_
      refine aw_iconst dX6_cause_96 ?_
      refine aw_icmp_ne (tgt := 102) dX6_cause_97 (by decide) (by omega) (by omega) (fun c_97 => ?_) (fun c_97 => ?_)
      · refine aw_aload_n dX6_cause_102 rfl rfl ?_
        refine rr_getS dX6_cause_103 flX6_112 rfl (by decide) (fun _ => rfl) ?_
        refine aw_aload_n dX6_cause_106 rfl rfl ?_
        refine rr_getA dX6_cause_107 flX6_105 rfl (by decide) ?_
        refine aw_iload_n dX6_cause_110 rfl rfl ?_
        refine rr_iald (n := 16) dX6_cause_111 rfl rfl rfl (by omega) (by omega) (fun _ => rfl) ?_
        refine aw_isub dX6_cause_112 ?_
        refine aw_aload_n dX6_cause_113 rfl rfl ?_
        refine rr_getS dX6_cause_114 flX6_7 rfl (by decide) (fun _ => rfl) ?_
        refine aw_icmp_ge (tgt := 122) dX6_cause_117 (by decide) (by omega) (by omega) (fun c_117 => ?_) (fun c_117 => ?_)
        · refine aw_aload_n dX6_cause_122 rfl rfl ?_
          refine rr_getA dX6_cause_123 flX6_39 rfl (by decide) ?_
          refine aw_iload_n dX6_cause_126 rfl rfl ?_
          refine rr_iald (n := 30) dX6_cause_127 rfl rfl rfl (by omega) (by omega) (fun _ => rfl) ?_
          refine aw_iload dX6_cause_128 rfl ?_
          refine aw_icmp_le (tgt := 135) dX6_cause_130 (by decide) (by omega) (by omega) (fun c_130 => ?_) (fun c_130 => ?_)
          · refine aw_aload_n dX6_cause_135 rfl rfl ?_
            refine rr_getA dX6_cause_136 flX6_36 rfl (by decide) ?_
            refine aw_iload_n dX6_cause_139 rfl rfl ?_
            refine rr_zald (n := 30) dX6_cause_140 rfl rfl rfl (by omega) (by omega) (fun _ => rfl) ?_
            refine aw_if_eq (tgt := 179) dX6_cause_141 (by decide) (by omega) (fun c_141 => ?_) (fun c_141 => ?_)
            · refine aw_iconst dX6_cause_179 ?_
              refine aw_iret dX6_cause_180 rfl (Nat.zero_le _) (Nat.zero_le _) ?_
              have e5 : cause S s sec = if S 11 s ≠ 0 ∧ S 5 sec = 0 ∧ (S 7 (hr S) < 0 ∨ 6 < S 7 (hr S)) then 5 else -1 := by
                simp only [cause]
                rw [if_neg a1]
                first | rw [if_neg (fun h => absurd h.2 a2)] | rw [if_neg (fun h => absurd h.1 c_69)]
                rw [if_neg (by omega), if_neg (by omega), if_neg (by omega)]
              rw [e5]
              first | (rw [if_pos (by omega)]; exact ⟨rfl, rfl, rfl, rfl⟩) | (rw [if_neg (by omega)]; exact ⟨rfl, rfl, rfl, rfl⟩)
            · refine aw_aload_n dX6_cause_144 rfl rfl ?_
              refine rr_getA dX6_cause_145 flX6_20 rfl (by decide) ?_
              refine aw_iload_n dX6_cause_148 rfl rfl ?_
              refine rr_zald (n := 8) dX6_cause_149 rfl rfl rfl (by omega) (by omega) (fun _ => rfl) ?_
              refine aw_if_ne (tgt := 179) dX6_cause_150 (by decide) (by omega) (fun c_150 => ?_) (fun c_150 => ?_)
              · refine aw_iconst dX6_cause_179 ?_
                refine aw_iret dX6_cause_180 rfl (Nat.zero_le _) (Nat.zero_le _) ?_
                have e5 : cause S s sec = if S 11 s ≠ 0 ∧ S 5 sec = 0 ∧ (S 7 (hr S) < 0 ∨ 6 < S 7 (hr S)) then 5 else -1 := by
                  simp only [cause]
                  rw [if_neg a1]
                  first | rw [if_neg (fun h => absurd h.2 a2)] | rw [if_neg (fun h => absurd h.1 c_69)]
                  rw [if_neg (by omega), if_neg (by omega), if_neg (by omega)]
                rw [e5]
                first | (rw [if_pos (by omega)]; exact ⟨rfl, rfl, rfl, rfl⟩) | (rw [if_neg (by omega)]; exact ⟨rfl, rfl, rfl, rfl⟩)
              · refine aw_aload_n dX6_cause_153 rfl rfl ?_
                refine rr_getA dX6_cause_154 flX6_27 rfl (by decide) ?_
                refine aw_iload dX6_cause_157 rfl ?_
                refine rr_iald (n := 24) dX6_cause_159 rfl rfl rfl (by omega) (by omega) (fun _ => rfl) ?_
                refine aw_if_lt (tgt := 175) dX6_cause_160 (by decide) (by omega) (fun c_160 => ?_) (fun c_160 => ?_)
                · refine aw_iconst dX6_cause_175 ?_
                  refine aw_goto (tgt := 180) dX6_cause_176 (by decide) ?_
                  refine aw_iret dX6_cause_180 rfl (Nat.zero_le _) (Nat.zero_le _) ?_
                  have e5 : cause S s sec = if S 11 s ≠ 0 ∧ S 5 sec = 0 ∧ (S 7 (hr S) < 0 ∨ 6 < S 7 (hr S)) then 5 else -1 := by
                    simp only [cause]
                    rw [if_neg a1]
                    first | rw [if_neg (fun h => absurd h.2 a2)] | rw [if_neg (fun h => absurd h.1 c_69)]
                    rw [if_neg (by omega), if_neg (by omega), if_neg (by omega)]
                  rw [e5]
                  first | (rw [if_pos (by omega)]; exact ⟨rfl, rfl, rfl, rfl⟩) | (rw [if_neg (by omega)]; exact ⟨rfl, rfl, rfl, rfl⟩)
                · refine aw_aload_n dX6_cause_163 rfl rfl ?_
                  refine rr_getA dX6_cause_164 flX6_27 rfl (by decide) ?_
                  refine aw_iload dX6_cause_167 rfl ?_
                  refine rr_iald (n := 24) dX6_cause_169 rfl rfl rfl (by omega) (by omega) (fun _ => rfl) ?_
                  refine aw_bipush dX6_cause_170 (by decide) ?_
                  refine aw_icmp_le (tgt := 179) dX6_cause_172 (by decide) (by omega) (by omega) (fun c_172 => ?_) (fun c_172 => ?_)
                  · refine aw_iconst dX6_cause_179 ?_
                    refine aw_iret dX6_cause_180 rfl (Nat.zero_le _) (Nat.zero_le _) ?_
                    have e5 : cause S s sec = if S 11 s ≠ 0 ∧ S 5 sec = 0 ∧ (S 7 (hr S) < 0 ∨ 6 < S 7 (hr S)) then 5 else -1 := by
                      simp only [cause]
                      rw [if_neg a1]
                      first | rw [if_neg (fun h => absurd h.2 a2)] | rw [if_neg (fun h => absurd h.1 c_69)]
                      rw [if_neg (by omega), if_neg (by omega), if_neg (by omega)]
                    rw [e5]
                    first | (rw [if_pos (by omega)]; exact ⟨rfl, rfl, rfl, rfl⟩) | (rw [if_neg (by omega)]; exact ⟨rfl, rfl, rfl, rfl⟩)
                  · refine aw_iconst dX6_cause_175 ?_
                    refine aw_goto (tgt := 180) dX6_cause_176 (by decide) ?_
                    refine aw_iret dX6_cause_180 rfl (Nat.zero_le _) (Nat.zero_le _) ?_
                    have e5 : cause S s sec = if S 11 s ≠ 0 ∧ S 5 sec = 0 ∧ (S 7 (hr S) < 0 ∨ 6 < S 7 (hr S)) then 5 else -1 := by
                      simp only [cause]
                      rw [if_neg a1]
                      first | rw [if_neg (fun h => absurd h.2 a2)] | rw [if_neg (fun h => absurd h.1 c_69)]
                      rw [if_neg (by omega), if_neg (by omega), if_neg (by omega)]
                    rw [e5]
                    first | (rw [if_pos (by omega)]; exact ⟨rfl, rfl, rfl, rfl⟩) | (rw [if_neg (by omega)]; exact ⟨rfl, rfl, rfl, rfl⟩)
          · refine aw_iconst dX6_cause_133 ?_
            refine aw_iret dX6_cause_134 rfl (Nat.zero_le _) (Nat.zero_le _) ?_
            have e : cause S s sec = 4 := by
              simp only [cause]
              rw [if_neg a1]
              first | rw [if_neg (fun h => absurd h.2 a2)] | rw [if_neg (fun h => absurd h.1 c_69)]
              repeat (first | rw [if_pos (by omega)] | rw [if_neg (by omega)])
            rw [e]
            exact ⟨rfl, rfl, rfl, rfl⟩
        · refine aw_iconst dX6_cause_120 ?_
          refine aw_iret dX6_cause_121 rfl (Nat.zero_le _) (Nat.zero_le _) ?_
          have e : cause S s sec = 3 := by
            simp only [cause]
            rw [if_neg a1]
            first | rw [if_neg (fun h => absurd h.2 a2)] | rw [if_neg (fun h => absurd h.1 c_69)]
            repeat (first | rw [if_pos (by omega)] | rw [if_neg (by omega)])
          rw [e]
          exact ⟨rfl, rfl, rfl, rfl⟩
      · refine aw_iconst dX6_cause_100 ?_
        refine aw_iret dX6_cause_101 rfl (Nat.zero_le _) (Nat.zero_le _) ?_
        have e : cause S s sec = 2 := by
          simp only [cause]
          rw [if_neg a1]
          first | rw [if_neg (fun h => absurd h.2 a2)] | rw [if_neg (fun h => absurd h.1 c_69)]
          repeat (first | rw [if_pos (by omega)] | rw [if_neg (by omega)])
        rw [e]
        exact ⟨rfl, rfl, rfl, rfl⟩
    · refine aw_aload_n dX6_cause_72 rfl rfl ?_
      refine aw_iload_n dX6_cause_73 rfl rfl ?_
      refine aw_iconst dX6_cause_74 ?_
      refine aw_aload_n dX6_cause_75 rfl rfl ?_
      refine rr_getA dX6_cause_76 flX6_30 rfl (by decide) ?_
      refine aw_iload_n dX6_cause_79 rfl rfl ?_
      refine rr_iald (n := 30) dX6_cause_80 rfl rfl rfl (by omega) (by omega) (fun _ => rfl) ?_
      refine aw_isub dX6_cause_81 ?_
      refine aw_callV (c_X6_isOncoming hB hs2 (by omega)) mv_X6_isOncoming mlX6_137 dX6_cause_82 rfl rfl (by decide) rfl (Nat.le_of_ble_eq_true rfl) rfl ?_
      rintro _ _ _ _ ⟨rfl, rfl, rfl, rfl⟩
      refine aw_if_eq (tgt := 90) dX6_cause_85 (by decide) (by omega) (fun c_85 => ?_) (fun c_85 => ?_)
      · have a2 : ¬ isOnc S sec (1 - S 9 s) = true := by rw [b2i_zero c_85]; decide
        refine aw_aload_n dX6_cause_90 rfl rfl ?_
        refine rr_getA dX6_cause_91 flX6_99 rfl (by decide) ?_
        refine aw_iload_n dX6_cause_94 rfl rfl ?_
        refine rr_iald (n := 16) dX6_cause_95 rfl rfl rfl (by omega) (by omega) (fun _ => rfl) ?_
        refine aw_iconst dX6_cause_96 ?_
        refine aw_icmp_ne (tgt := 102) dX6_cause_97 (by decide) (by omega) (by omega) (fun c_97 => ?_) (fun c_97 => ?_)
        · refine aw_aload_n dX6_cause_102 rfl rfl ?_
          refine rr_getS dX6_cause_103 flX6_112 rfl (by decide) (fun _ => rfl) ?_
          refine aw_aload_n dX6_cause_106 rfl rfl ?_
          refine rr_getA dX6_cause_107 flX6_105 rfl (by decide) ?_
          refine aw_iload_n dX6_cause_110 rfl rfl ?_
          refine rr_iald (n := 16) dX6_cause_111 rfl rfl rfl (by omega) (by omega) (fun _ => rfl) ?_
          refine aw_isub dX6_cause_112 ?_
          refine aw_aload_n dX6_cause_113 rfl rfl ?_
          refine rr_getS dX6_cause_114 flX6_7 rfl (by decide) (fun _ => rfl) ?_
          refine aw_icmp_ge (tgt := 122) dX6_cause_117 (by decide) (by omega) (by omega) (fun c_117 => ?_) (fun c_117 => ?_)
          · refine aw_aload_n dX6_cause_122 rfl rfl ?_
            refine rr_getA dX6_cause_123 flX6_39 rfl (by decide) ?_
            refine aw_iload_n dX6_cause_126 rfl rfl ?_
            refine rr_iald (n := 30) dX6_cause_127 rfl rfl rfl (by omega) (by omega) (fun _ => rfl) ?_
            refine aw_iload dX6_cause_128 rfl ?_
            refine aw_icmp_le (tgt := 135) dX6_cause_130 (by decide) (by omega) (by omega) (fun c_130 => ?_) (fun c_130 => ?_)
            · refine aw_aload_n dX6_cause_135 rfl rfl ?_
              refine rr_getA dX6_cause_136 flX6_36 rfl (by decide) ?_
              refine aw_iload_n dX6_cause_139 rfl rfl ?_
              refine rr_zald (n := 30) dX6_cause_140 rfl rfl rfl (by omega) (by omega) (fun _ => rfl) ?_
              refine aw_if_eq (tgt := 179) dX6_cause_141 (by decide) (by omega) (fun c_141 => ?_) (fun c_141 => ?_)
              · refine aw_iconst dX6_cause_179 ?_
                refine aw_iret dX6_cause_180 rfl (Nat.zero_le _) (Nat.zero_le _) ?_
                have e5 : cause S s sec = if S 11 s ≠ 0 ∧ S 5 sec = 0 ∧ (S 7 (hr S) < 0 ∨ 6 < S 7 (hr S)) then 5 else -1 := by
                  simp only [cause]
                  rw [if_neg a1]
                  first | rw [if_neg (fun h => absurd h.2 a2)] | rw [if_neg (fun h => absurd h.1 c_69)]
                  rw [if_neg (by omega), if_neg (by omega), if_neg (by omega)]
                rw [e5]
                first | (rw [if_pos (by omega)]; exact ⟨rfl, rfl, rfl, rfl⟩) | (rw [if_neg (by omega)]; exact ⟨rfl, rfl, rfl, rfl⟩)
              · refine aw_aload_n dX6_cause_144 rfl rfl ?_
                refine rr_getA dX6_cause_145 flX6_20 rfl (by decide) ?_
                refine aw_iload_n dX6_cause_148 rfl rfl ?_
                refine rr_zald (n := 8) dX6_cause_149 rfl rfl rfl (by omega) (by omega) (fun _ => rfl) ?_
                refine aw_if_ne (tgt := 179) dX6_cause_150 (by decide) (by omega) (fun c_150 => ?_) (fun c_150 => ?_)
                · refine aw_iconst dX6_cause_179 ?_
                  refine aw_iret dX6_cause_180 rfl (Nat.zero_le _) (Nat.zero_le _) ?_
                  have e5 : cause S s sec = if S 11 s ≠ 0 ∧ S 5 sec = 0 ∧ (S 7 (hr S) < 0 ∨ 6 < S 7 (hr S)) then 5 else -1 := by
                    simp only [cause]
                    rw [if_neg a1]
                    first | rw [if_neg (fun h => absurd h.2 a2)] | rw [if_neg (fun h => absurd h.1 c_69)]
                    rw [if_neg (by omega), if_neg (by omega), if_neg (by omega)]
                  rw [e5]
                  first | (rw [if_pos (by omega)]; exact ⟨rfl, rfl, rfl, rfl⟩) | (rw [if_neg (by omega)]; exact ⟨rfl, rfl, rfl, rfl⟩)
                · refine aw_aload_n dX6_cause_153 rfl rfl ?_
                  refine rr_getA dX6_cause_154 flX6_27 rfl (by decide) ?_
                  refine aw_iload dX6_cause_157 rfl ?_
                  refine rr_iald (n := 24) dX6_cause_159 rfl rfl rfl (by omega) (by omega) (fun _ => rfl) ?_
                  refine aw_if_lt (tgt := 175) dX6_cause_160 (by decide) (by omega) (fun c_160 => ?_) (fun c_160 => ?_)
                  · refine aw_iconst dX6_cause_175 ?_
                    refine aw_goto (tgt := 180) dX6_cause_176 (by decide) ?_
                    refine aw_iret dX6_cause_180 rfl (Nat.zero_le _) (Nat.zero_le _) ?_
                    have e5 : cause S s sec = if S 11 s ≠ 0 ∧ S 5 sec = 0 ∧ (S 7 (hr S) < 0 ∨ 6 < S 7 (hr S)) then 5 else -1 := by
                      simp only [cause]
                      rw [if_neg a1]
                      first | rw [if_neg (fun h => absurd h.2 a2)] | rw [if_neg (fun h => absurd h.1 c_69)]
                      rw [if_neg (by omega), if_neg (by omega), if_neg (by omega)]
                    rw [e5]
                    first | (rw [if_pos (by omega)]; exact ⟨rfl, rfl, rfl, rfl⟩) | (rw [if_neg (by omega)]; exact ⟨rfl, rfl, rfl, rfl⟩)
                  · refine aw_aload_n dX6_cause_163 rfl rfl ?_
                    refine rr_getA dX6_cause_164 flX6_27 rfl (by decide) ?_
                    refine aw_iload dX6_cause_167 rfl ?_
                    refine rr_iald (n := 24) dX6_cause_169 rfl rfl rfl (by omega) (by omega) (fun _ => rfl) ?_
                    refine aw_bipush dX6_cause_170 (by decide) ?_
                    refine aw_icmp_le (tgt := 179) dX6_cause_172 (by decide) (by omega) (by omega) (fun c_172 => ?_) (fun c_172 => ?_)
                    · refine aw_iconst dX6_cause_179 ?_
                      refine aw_iret dX6_cause_180 rfl (Nat.zero_le _) (Nat.zero_le _) ?_
                      have e5 : cause S s sec = if S 11 s ≠ 0 ∧ S 5 sec = 0 ∧ (S 7 (hr S) < 0 ∨ 6 < S 7 (hr S)) then 5 else -1 := by
                        simp only [cause]
                        rw [if_neg a1]
                        first | rw [if_neg (fun h => absurd h.2 a2)] | rw [if_neg (fun h => absurd h.1 c_69)]
                        rw [if_neg (by omega), if_neg (by omega), if_neg (by omega)]
                      rw [e5]
                      first | (rw [if_pos (by omega)]; exact ⟨rfl, rfl, rfl, rfl⟩) | (rw [if_neg (by omega)]; exact ⟨rfl, rfl, rfl, rfl⟩)
                    · refine aw_iconst dX6_cause_175 ?_
                      refine aw_goto (tgt := 180) dX6_cause_176 (by decide) ?_
                      refine aw_iret dX6_cause_180 rfl (Nat.zero_le _) (Nat.zero_le _) ?_
                      have e5 : cause S s sec = if S 11 s ≠ 0 ∧ S 5 sec = 0 ∧ (S 7 (hr S) < 0 ∨ 6 < S 7 (hr S)) then 5 else -1 := by
                        simp only [cause]
                        rw [if_neg a1]
                        first | rw [if_neg (fun h => absurd h.2 a2)] | rw [if_neg (fun h => absurd h.1 c_69)]
                        rw [if_neg (by omega), if_neg (by omega), if_neg (by omega)]
                      rw [e5]
                      first | (rw [if_pos (by omega)]; exact ⟨rfl, rfl, rfl, rfl⟩) | (rw [if_neg (by omega)]; exact ⟨rfl, rfl, rfl, rfl⟩)
            · refine aw_iconst dX6_cause_133 ?_
              refine aw_iret dX6_cause_134 rfl (Nat.zero_le _) (Nat.zero_le _) ?_
              have e : cause S s sec = 4 := by
                simp only [cause]
                rw [if_neg a1]
                first | rw [if_neg (fun h => absurd h.2 a2)] | rw [if_neg (fun h => absurd h.1 c_69)]
                repeat (first | rw [if_pos (by omega)] | rw [if_neg (by omega)])
              rw [e]
              exact ⟨rfl, rfl, rfl, rfl⟩
          · refine aw_iconst dX6_cause_120 ?_
            refine aw_iret dX6_cause_121 rfl (Nat.zero_le _) (Nat.zero_le _) ?_
            have e : cause S s sec = 3 := by
              simp only [cause]
              rw [if_neg a1]
              first | rw [if_neg (fun h => absurd h.2 a2)] | rw [if_neg (fun h => absurd h.1 c_69)]
              repeat (first | rw [if_pos (by omega)] | rw [if_neg (by omega)])
            rw [e]
            exact ⟨rfl, rfl, rfl, rfl⟩
        · refine aw_iconst dX6_cause_100 ?_
          refine aw_iret dX6_cause_101 rfl (Nat.zero_le _) (Nat.zero_le _) ?_
          have e : cause S s sec = 2 := by
            simp only [cause]
            rw [if_neg a1]
            first | rw [if_neg (fun h => absurd h.2 a2)] | rw [if_neg (fun h => absurd h.1 c_69)]
            repeat (first | rw [if_pos (by omega)] | rw [if_neg (by omega)])
          rw [e]
          exact ⟨rfl, rfl, rfl, rfl⟩
      · have a2 : isOnc S sec (1 - S 9 s) = true := b2i_pos c_85
        refine aw_iconst dX6_cause_88 ?_
        refine aw_iret dX6_cause_89 rfl (Nat.zero_le _) (Nat.zero_le _) ?_
        have e : cause S s sec = 1 := by
          simp only [cause]
          rw [if_neg a1]
          rw [if_pos ⟨by omega, a2⟩]
        rw [e]
        exact ⟨rfl, rfl, rfl, rfl⟩
  · have a1 : isAgr S sec = true := b2i_pos c_58
    refine aw_iconst dX6_cause_61 ?_
    refine aw_iret dX6_cause_62 rfl (Nat.zero_le _) (Nat.zero_le _) ?_
    have e : cause S s sec = 0 := by
      simp only [cause]
      rw [if_pos a1]
    rw [e]
    exact ⟨rfl, rfl, rfl, rfl⟩
set_option maxRecDepth 100000 in
set_option maxHeartbeats 4000000 in
theorem c_X6_cause {s : Int} {sec : Nat} (hB : BB S) (hs : 0 ≤ s ∧ s < 30) (hs2 : sec < 8) : CT l D cA A ad yX6_cause cX6_cause 6 (some .int) rm_X6_cause [.inr (some (50, 0)), .inl s, .inl ((sec : Int))] lvR (VR S) sz (PR (some (.inl (cause S s sec))) (S) sz) := by
  refine CT.of2 [some (.inr (some (50, 0))), some (.inl s), some (.inl ((sec : Int))), none, none, none] (by decide) (Nat.le_of_ble_eq_true rfl) rfl ?_
  have hm := hB.m
  simp only [bsm] at hm
  have hsh := hB.sh (s := s) (by omega) (by omega)
  simp only [bsh] at hsh
  have hsc := hB.sc (i := (sec : Int)) (by omega) (by omega)
  simp only [bsc] at hsc
  refine aw_iconst dX6_cause_0 ?_
  refine aw_iload_n dX6_cause_1 rfl rfl ?_
  refine aw_imul dX6_cause_2 ?_
  refine aw_aload_n dX6_cause_3 rfl rfl ?_
  refine rr_getA dX6_cause_4 flX6_30 rfl (by decide) ?_
  refine aw_iload_n dX6_cause_7 rfl rfl ?_
  refine rr_iald (n := 30) dX6_cause_8 rfl rfl rfl (by omega) (by omega) (fun _ => rfl) ?_
  refine aw_iadd dX6_cause_9 ?_
  refine aw_istore_n dX6_cause_10 rfl (by decide) ?_
  refine aw_aload_n dX6_cause_11 rfl rfl ?_
  refine rr_getS dX6_cause_12 flX6_112 rfl (by decide) (fun _ => rfl) ?_
  refine aw_bipush dX6_cause_15 (by decide) ?_
  refine aw_idiv dX6_cause_17 (by omega) (by omega) (by omega) (by omega) ?_
  refine aw_bipush dX6_cause_18 (by decide) ?_
  refine aw_irem dX6_cause_20 (by omega) (by omega) (by omega) (by omega) ?_
  refine aw_istore dX6_cause_21 (by decide) ?_
  refine aw_aload_n dX6_cause_23 rfl rfl ?_
  refine rr_getA dX6_cause_24 flX6_17 rfl (by decide) ?_
  refine aw_iload_n dX6_cause_27 rfl rfl ?_
  refine rr_iald (n := 8) dX6_cause_28 rfl rfl rfl (by omega) (by omega) (fun _ => rfl) ?_
  refine aw_iload_n dX6_cause_29 rfl rfl ?_
  refine aw_if_eq (tgt := 39) dX6_cause_30 (by decide) (by omega) (fun c_30 => ?_) (fun c_30 => ?_)
  · refine aw_aload_n dX6_cause_39 rfl rfl ?_
    refine rr_getA dX6_cause_40 flX6_24 rfl (by decide) ?_
    refine aw_iload dX6_cause_43 rfl ?_
    refine rr_iald (n := 24) dX6_cause_45 rfl rfl rfl (by omega) (by omega) (fun _ => rfl) ?_
    refine aw_goto (tgt := 50) dX6_cause_46 (by decide) ?_
    refine aw_iadd dX6_cause_50 ?_
    refine aw_istore dX6_cause_51 (by decide) ?_
    refine AW.lss (c2_X6_cause hB hs hs2) (And.intro rfl (And.intro rfl (And.intro rfl (And.intro rfl (And.intro rfl (And.intro (congrArg Sum.inl ?_) trivial))))))
    rw [deep]
    first | rw [if_pos (by omega)] | rw [if_neg (by omega)]
    try rfl
  · refine aw_iload_n dX6_cause_33 rfl rfl ?_
    refine aw_bipush dX6_cause_34 (by decide) ?_
    refine aw_icmp_ne (tgt := 49) dX6_cause_36 (by decide) (by omega) (by omega) (fun c_36 => ?_) (fun c_36 => ?_)
    · refine aw_iconst dX6_cause_49 ?_
      refine aw_iadd dX6_cause_50 ?_
      refine aw_istore dX6_cause_51 (by decide) ?_
      refine AW.lss (c2_X6_cause hB hs hs2) (And.intro rfl (And.intro rfl (And.intro rfl (And.intro rfl (And.intro rfl (And.intro (congrArg Sum.inl ?_) trivial))))))
      rw [deep]
      first | rw [if_pos (by omega)] | rw [if_neg (by omega)]
      try rfl
    · refine aw_aload_n dX6_cause_39 rfl rfl ?_
      refine rr_getA dX6_cause_40 flX6_24 rfl (by decide) ?_
      refine aw_iload dX6_cause_43 rfl ?_
      refine rr_iald (n := 24) dX6_cause_45 rfl rfl rfl (by omega) (by omega) (fun _ => rfl) ?_
      refine aw_goto (tgt := 50) dX6_cause_46 (by decide) ?_
      refine aw_iadd dX6_cause_50 ?_
      refine aw_istore dX6_cause_51 (by decide) ?_
      refine AW.lss (c2_X6_cause hB hs hs2) (And.intro rfl (And.intro rfl (And.intro rfl (And.intro rfl (And.intro rfl (And.intro (congrArg Sum.inl ?_) trivial))))))
      rw [deep]
      first | rw [if_pos (by omega)] | rw [if_neg (by omega)]
      try rfl
set_option maxRecDepth 100000 in
set_option maxHeartbeats 4000000 in
theorem c_X6_enters {s sec : Int} (hs : 0 ≤ s ∧ s < 30) (h9 : S 9 s = 0 ∨ S 9 s = 1) (h13 : S 13 s = 0 ∨ S 13 s = 1) (hs2 : 0 ≤ sec ∧ sec < 8) (hM : 0 ≤ S 33 (2 * sec + S 9 s) ∧ S 33 (2 * sec + S 9 s) ≤ 3) : CT l D cA A ad yX6_enters cX6_enters 4 none rm_X6_enters [.inr (some (50, 0)), .inl s, .inl sec] lvR (VR S) sz (PR none (ent S s sec) sz) := by
  refine CT.of2 [some (.inr (some (50, 0))), some (.inl s), some (.inl sec), none] (by decide) (Nat.le_of_ble_eq_true rfl) rfl ?_
  refine aw_iconst dX6_enters_0 ?_
  refine aw_iload_n dX6_enters_1 rfl rfl ?_
  refine aw_imul dX6_enters_2 ?_
  refine aw_aload_n dX6_enters_3 rfl rfl ?_
  refine rr_getA dX6_enters_4 flX6_30 rfl (by decide) ?_
  refine aw_iload_n dX6_enters_7 rfl rfl ?_
  refine rr_iald (n := 30) dX6_enters_8 rfl rfl rfl (by omega) (by omega) (fun _ => rfl) ?_
  refine aw_iadd dX6_enters_9 ?_
  refine aw_istore_n dX6_enters_10 rfl (by decide) ?_
  refine aw_aload_n dX6_enters_11 rfl rfl ?_
  refine rr_getA dX6_enters_12 flX6_102 rfl (by decide) ?_
  refine aw_bipush dX6_enters_15 (by decide) ?_
  refine aw_iload_n dX6_enters_17 rfl rfl ?_
  refine aw_imul dX6_enters_18 ?_
  refine aw_aload_n dX6_enters_19 rfl rfl ?_
  refine rr_getA dX6_enters_20 flX6_99 rfl (by decide) ?_
  refine aw_iload_n dX6_enters_23 rfl rfl ?_
  refine rr_iald (n := 16) dX6_enters_24 rfl rfl rfl (by omega) (by omega) (fun _ => rfl) ?_
  refine aw_iadd dX6_enters_25 ?_
  refine aw_iload_n dX6_enters_26 rfl rfl ?_
  refine rr_iast (n := 480) dX6_enters_27 rfl rfl rfl (by omega) (by omega) ?_
  refine aw_aload_n dX6_enters_28 rfl rfl ?_
  refine rr_getA dX6_enters_29 flX6_99 rfl (by decide) ?_
  refine aw_iload_n dX6_enters_32 rfl rfl ?_
  refine aw_dup2 dX6_enters_33 ?_
  refine rr_iald (n := 16) (S0 := S) dX6_enters_34 rfl rfl rfl (by omega) (by omega) (fun _ => rfl) ?_
  refine aw_iconst dX6_enters_35 ?_
  refine aw_iadd dX6_enters_36 ?_
  refine rr_iast (n := 16) dX6_enters_37 rfl rfl rfl (by omega) (by omega) ?_
  refine aw_aload_n dX6_enters_38 rfl rfl ?_
  refine rr_getA dX6_enters_39 flX6_105 rfl (by decide) ?_
  refine aw_iload_n dX6_enters_42 rfl rfl ?_
  refine aw_aload_n dX6_enters_43 rfl rfl ?_
  refine rr_getS (S0 := S) dX6_enters_44 flX6_112 rfl (by decide) (fun _ => rfl) ?_
  refine rr_iast (n := 16) dX6_enters_47 rfl rfl rfl (by omega) (by omega) ?_
  refine aw_aload_n dX6_enters_48 rfl rfl ?_
  refine rr_getA dX6_enters_49 flX6_48 rfl (by decide) ?_
  refine aw_iload_n dX6_enters_52 rfl rfl ?_
  refine aw_iload_n dX6_enters_53 rfl rfl ?_
  refine rr_iast (n := 30) dX6_enters_54 rfl rfl rfl (by omega) (by omega) ?_
  refine aw_aload_n dX6_enters_55 rfl rfl ?_
  refine rr_getA dX6_enters_56 flX6_51 rfl (by decide) ?_
  refine aw_iload_n dX6_enters_59 rfl rfl ?_
  refine aw_aload_n dX6_enters_60 rfl rfl ?_
  refine rr_getA dX6_enters_61 flX6_42 rfl (by decide) ?_
  refine aw_iload_n dX6_enters_64 rfl rfl ?_
  refine rr_zald (n := 30) (S0 := S) dX6_enters_65 rfl rfl rfl (by omega) (by omega) (fun _ => rfl) ?_
  refine aw_if_eq (tgt := 80) dX6_enters_66 (by decide) (by omega) (fun c_66 => ?_) (fun c_66 => ?_)
  · refine aw_aload_n dX6_enters_80 rfl rfl ?_
    refine rr_getA dX6_enters_81 flX6_13 rfl (by decide) ?_
    refine aw_iload_n dX6_enters_84 rfl rfl ?_
    refine rr_iald (n := 8) (S0 := S) dX6_enters_85 rfl rfl rfl (by omega) (by omega) (fun _ => rfl) ?_
    refine rr_iast (n := 30) dX6_enters_86 rfl rfl rfl (by omega) (by omega) ?_
    refine aw_vret dX6_enters_87 rfl (Nat.zero_le _) (Nat.zero_le _) ?_
    first | (rw [ent, if_pos (by assumption)]; exact ⟨rfl, rfl, rfl, rfl⟩) | (rw [ent, if_neg (by assumption)]; exact ⟨rfl, rfl, rfl, rfl⟩)
  · refine aw_iconst dX6_enters_69 ?_
    refine aw_aload_n dX6_enters_70 rfl rfl ?_
    refine rr_getA dX6_enters_71 flX6_13 rfl (by decide) ?_
    refine aw_iload_n dX6_enters_74 rfl rfl ?_
    refine rr_iald (n := 8) (S0 := S) dX6_enters_75 rfl rfl rfl (by omega) (by omega) (fun _ => rfl) ?_
    refine aw_imul dX6_enters_76 ?_
    refine aw_goto (tgt := 86) dX6_enters_77 (by decide) ?_
    refine rr_iast (n := 30) dX6_enters_86 rfl rfl rfl (by omega) (by omega) ?_
    refine aw_vret dX6_enters_87 rfl (Nat.zero_le _) (Nat.zero_le _) ?_
    first | (rw [ent, if_pos (by assumption)]; exact ⟨rfl, rfl, rfl, rfl⟩) | (rw [ent, if_neg (by assumption)]; exact ⟨rfl, rfl, rfl, rfl⟩)
set_option maxRecDepth 100000 in
set_option maxHeartbeats 4000000 in
theorem lp_X6_leaves {sec w : Int} (hs : 0 ≤ sec ∧ sec < 8) (hw : w = 0 ∨ w = 1) (hM : 0 ≤ S 33 (2 * sec + w) ∧ S 33 (2 * sec + w) ≤ 3) : ∀ (f n : Nat), n + f = (S 33 (2 * sec + w) - 1).toNat → AW l D cA A ad yX6_leaves cX6_leaves 5 none rm_X6_leaves (PR none (lvs S sec w) sz) 0 0 lvR (VR (shf (u2 S 33 (2 * sec + w) (S 33 (2 * sec + w) - 1)) 34 (30 * (2 * sec + w)) n)) sz 19 [some (.inr (some (50, 0))), some (.inl sec), some (.inl w), some (.inl (2 * sec + w)), some (.inl (n : Int))] [] := by
  have e33 : ∀ (n : Nat), shf (u2 S 33 (2 * sec + w) (S 33 (2 * sec + w) - 1)) 34 (30 * (2 * sec + w)) n 33 (2 * sec + w) = S 33 (2 * sec + w) - 1 := fun n => by rw [shf_ne (by decide), u2_self]
  intro f
  induction f with
  | zero =>
    intro n hn
    have e := e33 n
    refine aw_iload dX6_leaves_19 rfl ?_
    refine aw_aload_n dX6_leaves_21 rfl rfl ?_
    refine rr_getA dX6_leaves_22 flX6_99 rfl (by decide) ?_
    refine aw_iload_n dX6_leaves_25 rfl rfl ?_
    refine rr_iald (n := 16) (S0 := shf (u2 S 33 (2 * sec + w) (S 33 (2 * sec + w) - 1)) 34 (30 * (2 * sec + w)) n) dX6_leaves_26 rfl rfl rfl (by omega) (by omega) (fun _ => rfl) ?_
    refine aw_icmp_ge (tgt := 62) dX6_leaves_27 (by decide) (by omega) (by omega) (fun c_27 => ?_) (fun c_27 => absurd c_27 (by omega))
    refine aw_vret dX6_leaves_62 rfl (Nat.zero_le _) (Nat.zero_le _) ?_
    rw [lvs, show (S 33 (2 * sec + w) - 1).toNat = n by omega]
    exact ⟨rfl, rfl, rfl, rfl⟩
  | succ f ih =>
    intro n hn
    have e := e33 n
    refine aw_iload dX6_leaves_19 rfl ?_
    refine aw_aload_n dX6_leaves_21 rfl rfl ?_
    refine rr_getA dX6_leaves_22 flX6_99 rfl (by decide) ?_
    refine aw_iload_n dX6_leaves_25 rfl rfl ?_
    refine rr_iald (n := 16) (S0 := shf (u2 S 33 (2 * sec + w) (S 33 (2 * sec + w) - 1)) 34 (30 * (2 * sec + w)) n) dX6_leaves_26 rfl rfl rfl (by omega) (by omega) (fun _ => rfl) ?_
    refine aw_icmp_ge (tgt := 62) dX6_leaves_27 (by decide) (by omega) (by omega) (fun c_27 => absurd c_27 (by omega)) (fun c_27 => ?_)
    refine aw_aload_n dX6_leaves_30 rfl rfl ?_
    refine rr_getA dX6_leaves_31 flX6_102 rfl (by decide) ?_
    refine aw_bipush dX6_leaves_34 (by decide) ?_
    refine aw_iload_n dX6_leaves_36 rfl rfl ?_
    refine aw_imul dX6_leaves_37 ?_
    refine aw_iload dX6_leaves_38 rfl ?_
    refine aw_iadd dX6_leaves_40 ?_
    refine aw_aload_n dX6_leaves_41 rfl rfl ?_
    refine rr_getA dX6_leaves_42 flX6_102 rfl (by decide) ?_
    refine aw_bipush dX6_leaves_45 (by decide) ?_
    refine aw_iload_n dX6_leaves_47 rfl rfl ?_
    refine aw_imul dX6_leaves_48 ?_
    refine aw_iload dX6_leaves_49 rfl ?_
    refine aw_iadd dX6_leaves_51 ?_
    refine aw_iconst dX6_leaves_52 ?_
    refine aw_iadd dX6_leaves_53 ?_
    refine rr_iald (n := 480) dX6_leaves_54 rfl rfl rfl (by omega) (by omega) (fun _ => rfl) ?_
    refine rr_iast (n := 480) dX6_leaves_55 rfl rfl rfl (by omega) (by omega) ?_
    refine aw_iinc dX6_leaves_56 rfl (by decide) ?_
    refine aw_goto (tgt := 19) dX6_leaves_59 (by decide) ?_
    exact AW.lss (ih (n + 1) (by omega)) (And.intro rfl (And.intro rfl (And.intro rfl (And.intro rfl (And.intro rfl trivial)))))
set_option maxRecDepth 100000 in
set_option maxHeartbeats 4000000 in
theorem c_X6_leaves {sec w : Int} (hs : 0 ≤ sec ∧ sec < 8) (hw : w = 0 ∨ w = 1) (hM : 0 ≤ S 33 (2 * sec + w) ∧ S 33 (2 * sec + w) ≤ 3) : CT l D cA A ad yX6_leaves cX6_leaves 5 none rm_X6_leaves [.inr (some (50, 0)), .inl sec, .inl w] lvR (VR S) sz (PR none (lvs S sec w) sz) := by
  refine CT.of2 [some (.inr (some (50, 0))), some (.inl sec), some (.inl w), none, none] (by decide) (Nat.le_of_ble_eq_true rfl) rfl ?_
  refine aw_iconst dX6_leaves_0 ?_
  refine aw_iload_n dX6_leaves_1 rfl rfl ?_
  refine aw_imul dX6_leaves_2 ?_
  refine aw_iload_n dX6_leaves_3 rfl rfl ?_
  refine aw_iadd dX6_leaves_4 ?_
  refine aw_istore_n dX6_leaves_5 rfl (by decide) ?_
  refine aw_aload_n dX6_leaves_6 rfl rfl ?_
  refine rr_getA dX6_leaves_7 flX6_99 rfl (by decide) ?_
  refine aw_iload_n dX6_leaves_10 rfl rfl ?_
  refine aw_dup2 dX6_leaves_11 ?_
  refine rr_iald (n := 16) dX6_leaves_12 rfl rfl rfl (by omega) (by omega) (fun _ => rfl) ?_
  refine aw_iconst dX6_leaves_13 ?_
  refine aw_isub dX6_leaves_14 ?_
  refine rr_iast (n := 16) dX6_leaves_15 rfl rfl rfl (by omega) (by omega) ?_
  refine aw_iconst dX6_leaves_16 ?_
  refine aw_istore dX6_leaves_17 (by decide) ?_
  exact lp_X6_leaves hs hw hM (S 33 (2 * sec + w) - 1).toNat 0 (by omega)
end REF2
