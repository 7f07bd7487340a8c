section REF4
variable {l : Launch} {D : va_G} {cA : Nat → ClassId} {A : Nat → Prop} {ad : Ad} {lv : Lw} {V : Vw} {sz : Nat} {S : SS}
def isLt (S : SS) (s : Int) : Prop := S 10 s = S 0 0 ∧ 0 ≤ S 22 s ∧ S 26 (S 22 s) < S 0 0
def okL (S : SS) (s : Int) : Prop := isLt S s → (S 2 0 = 1 → JOK S s) ∧ (S 2 0 ≠ 1 → 0 ≤ nx S (S 9 s) (S 24 0).toNat → S 29 (nx S (S 9 s) (S 24 0).toNat) < 30)
theorem JOK_u17 {S : SS} {s x : Int} (h : JOK S s) : JOK (u2 S 17 x 1) s := by
  simp only [JOK] at h ⊢
  rw [u2_ne (by decide), u2_ne (by decide)]
  exact h
theorem BB_lt1 {S : SS} {s : Int} (h : BB S) (hs : 0 ≤ s ∧ s < 30) (hok : okL S s) : BB (lt1 S s) := by
  simp only [lt1]
  have h17 : BB (u2 S 17 s 1) := BB_u2 h (fun _ _ => Or.inr rfl)
  split
  · rename_i hl
    obtain ⟨o1, o2⟩ := hok hl
    split
    · rename_i h1
      exact BB_jn h17 hs (JOK_u17 (o1 h1))
    · rename_i h1
      have hb := nx_bd S (S 9 s) (S 24 0).toNat
      have hm := h.m
      simp only [bsm] at hm
      simp only [ltT]
      split
      · exact BB_u2 h17 (fun _ _ => Or.inr rfl)
      · rename_i h2
        have h29 := o2 h1 (by omega)
        have hcv := h.cv (c := nx S (S 9 s) (S 24 0).toNat) (by omega) (by omega)
        simp only [bcv] at hcv
        refine BB_u2 (BB_u2 (BB_u2 h17 ?_) ?_) ?_ <;> intro _ _ <;> simp only [rng]
        · exact hs
        · rw [u2_ne (by decide)]; omega
        · omega
  · exact h
def okLs (S : SS) : Prop := ∀ n : Nat, (n : Int) < S 8 0 → okL (lts S n) n
theorem lt1_ne {S : SS} {s : Int} {k : Nat} (h1 : k ≠ 17) (h2 : k ≠ 18) (h3 : k ≠ 22) (h4 : k ≠ 29) (h5 : k ≠ 30) (h6 : k ≠ 31) (h7 : k ≠ 32) (x : Int) : lt1 S s k x = S k x := by
  simp only [lt1, ltT]
  split
  · split
    · rw [jn_ne h6 h7, u2_ne h1]
    · split
      · rw [u2_ne h2, u2_ne h1]
      · rw [u2_ne h3, u2_ne h4, u2_ne h5, u2_ne h1]
  · rfl
theorem lts_ne {S : SS} {k : Nat} (h1 : k ≠ 17) (h2 : k ≠ 18) (h3 : k ≠ 22) (h4 : k ≠ 29) (h5 : k ≠ 30) (h6 : k ≠ 31) (h7 : k ≠ 32) (n : Nat) (x : Int) : lts S n k x = S k x := by
  induction n with
  | zero => rfl
  | succ n ih => rw [lts, lt1_ne h1 h2 h3 h4 h5 h6 h7, ih]
theorem BB_lts {S : SS} (h : BB S) (hok : okLs S) (n : Nat) (hn : (n : Int) ≤ S 8 0) : BB (lts S n) := by
  have hm := h.m
  simp only [bsm] at hm
  induction n with
  | zero => exact h
  | succ n ih => exact BB_lt1 (ih (by omega)) (by omega) (hok n (by omega))
set_option maxRecDepth 100000 in
set_option maxHeartbeats 4000000 in
theorem bd_X6_lates {T S9 : SS} {n : Nat} (hB : BB T) (hn : n < 30) (hok : okL T n) (hk : AW l D cA A ad yX6_lates cX6_lates 3 none rm_X6_lates (PR none (S9) sz) 0 0 lvR (VR (lt1 T n)) sz 132 [some (.inr (some (50, 0))), some (.inl (n : Int)), none] []) : AW l D cA A ad yX6_lates cX6_lates 3 none rm_X6_lates (PR none (S9) sz) 0 0 lvR (VR T) sz 10 [some (.inr (some (50, 0))), some (.inl (n : Int)), none] [] := by
  have hm := hB.m
  simp only [bsm] at hm
  have hsh := hB.sh (s := (n : Int)) (by omega) (by omega)
  simp only [bsh] at hsh
  have h22 : 0 ≤ T 22 n → (0 ≤ T 26 (T 22 n) ∧ T 26 (T 22 n) ≤ 9999) := fun h => (hB.cv h (by omega)).2.1
  have hnx := nx_bd T (T 9 n) (T 24 0).toNat
  have h17 : BB (u2 T 17 n 1) := BB_u2 hB (fun _ _ => Or.inr rfl)
  refine aw_aload_n dX6_lates_10 rfl rfl ?_
  refine rr_getA dX6_lates_11 flX6_33 rfl (by decide) ?_
  refine aw_iload_n dX6_lates_14 rfl rfl ?_
  refine rr_iald (n := 30) dX6_lates_15 rfl rfl rfl (by omega) (by omega) (fun _ => rfl) ?_
  refine aw_aload_n dX6_lates_16 rfl rfl ?_
  refine rr_getS dX6_lates_17 flX6_112 rfl (by decide) (fun _ => rfl) ?_
  refine aw_icmp_ne (tgt := 132) dX6_lates_20 (by decide) (by omega) (by omega) (fun c_20 => ?_) (fun c_20 => ?_)
  · first
    | (refine AW.lsV hk (And.intro rfl (And.intro rfl trivial)) ?_
       congr 1
       rw [lt1, if_neg (by omega)]; done)
    | (refine AW.lsV hk (And.intro rfl (And.intro rfl trivial)) ?_
       congr 1
       rw [lt1, if_pos hlt2, if_pos (by omega)]; done)
    | (refine AW.lsV hk (And.intro rfl (And.intro rfl trivial)) ?_
       congr 1
       rw [lt1, if_pos hlt2, if_neg (by omega), ltT, if_pos (by omega)]; done)
    | (refine AW.lsV hk (And.intro rfl (And.intro rfl trivial)) ?_
       congr 1
       rw [lt1, if_pos hlt2, if_neg (by omega), ltT, if_neg (by omega), u2_ne (k := 17) (k' := 29) (by decide)]; done)
  · refine aw_aload_n dX6_lates_23 rfl rfl ?_
    refine rr_getA dX6_lates_24 flX6_69 rfl (by decide) ?_
    refine aw_iload_n dX6_lates_27 rfl rfl ?_
    refine rr_iald (n := 30) dX6_lates_28 rfl rfl rfl (by omega) (by omega) (fun _ => rfl) ?_
    refine aw_if_lt (tgt := 132) dX6_lates_29 (by decide) (by omega) (fun c_29 => ?_) (fun c_29 => ?_)
    · first
      | (refine AW.lsV hk (And.intro rfl (And.intro rfl trivial)) ?_
         congr 1
         rw [lt1, if_neg (by omega)]; done)
      | (refine AW.lsV hk (And.intro rfl (And.intro rfl trivial)) ?_
         congr 1
         rw [lt1, if_pos hlt2, if_pos (by omega)]; done)
      | (refine AW.lsV hk (And.intro rfl (And.intro rfl trivial)) ?_
         congr 1
         rw [lt1, if_pos hlt2, if_neg (by omega), ltT, if_pos (by omega)]; done)
      | (refine AW.lsV hk (And.intro rfl (And.intro rfl trivial)) ?_
         congr 1
         rw [lt1, if_pos hlt2, if_neg (by omega), ltT, if_neg (by omega), u2_ne (k := 17) (k' := 29) (by decide)]; done)
    · have h22b := h22 (by omega)
      refine aw_aload_n dX6_lates_32 rfl rfl ?_
      refine rr_getA dX6_lates_33 flX6_78 rfl (by decide) ?_
      refine aw_aload_n dX6_lates_36 rfl rfl ?_
      refine rr_getA dX6_lates_37 flX6_69 rfl (by decide) ?_
      refine aw_iload_n dX6_lates_40 rfl rfl ?_
      refine rr_iald (n := 30) dX6_lates_41 rfl rfl rfl (by omega) (by omega) (fun _ => rfl) ?_
      refine rr_iald (n := 12) dX6_lates_42 rfl rfl rfl (by omega) (by omega) (fun _ => rfl) ?_
      refine aw_aload_n dX6_lates_43 rfl rfl ?_
      refine rr_getS dX6_lates_44 flX6_112 rfl (by decide) (fun _ => rfl) ?_
      refine aw_icmp_ge (tgt := 132) dX6_lates_47 (by decide) (by omega) (by omega) (fun c_47 => ?_) (fun c_47 => ?_)
      · first
        | (refine AW.lsV hk (And.intro rfl (And.intro rfl trivial)) ?_
           congr 1
           rw [lt1, if_neg (by omega)]; done)
        | (refine AW.lsV hk (And.intro rfl (And.intro rfl trivial)) ?_
           congr 1
           rw [lt1, if_pos hlt2, if_pos (by omega)]; done)
        | (refine AW.lsV hk (And.intro rfl (And.intro rfl trivial)) ?_
           congr 1
           rw [lt1, if_pos hlt2, if_neg (by omega), ltT, if_pos (by omega)]; done)
        | (refine AW.lsV hk (And.intro rfl (And.intro rfl trivial)) ?_
           congr 1
           rw [lt1, if_pos hlt2, if_neg (by omega), ltT, if_neg (by omega), u2_ne (k := 17) (k' := 29) (by decide)]; done)
      · have hlt2 : T 10 n = T 0 0 ∧ 0 ≤ T 22 n ∧ T 26 (T 22 n) < T 0 0 := ⟨by omega, by omega, by omega⟩
        have ho := hok hlt2
        refine aw_aload_n dX6_lates_50 rfl rfl ?_
        refine rr_getA dX6_lates_51 flX6_54 rfl (by decide) ?_
        refine aw_iload_n dX6_lates_54 rfl rfl ?_
        refine aw_iconst dX6_lates_55 ?_
        refine rr_zast (n := 30) dX6_lates_56 rfl rfl rfl (by omega) (by omega) (Or.inr rfl) ?_
        refine aw_aload_n dX6_lates_57 rfl rfl ?_
        refine rr_getS (S0 := T) dX6_lates_58 flX6_115 rfl (by decide) (fun _ => rfl) ?_
        refine aw_iconst dX6_lates_61 ?_
        refine aw_icmp_ne (tgt := 73) dX6_lates_62 (by decide) (by omega) (by omega) (fun c_62 => ?_) (fun c_62 => ?_)
        · refine aw_aload_n dX6_lates_73 rfl rfl ?_
          refine aw_aload_n dX6_lates_74 rfl rfl ?_
          refine rr_getA dX6_lates_75 flX6_30 rfl (by decide) ?_
          refine aw_iload_n dX6_lates_78 rfl rfl ?_
          refine rr_iald (n := 30) (S0 := T) dX6_lates_79 rfl rfl rfl (by omega) (by omega) (fun _ => rfl) ?_
          refine aw_callV (c_X6_nextConvoy h17 (by omega)) mv_X6_nextConvoy mlX6_129 dX6_lates_80 rfl rfl (by decide) rfl (Nat.le_of_ble_eq_true rfl) rfl ?_
          rintro _ _ _ _ ⟨rfl, rfl, rfl, rfl⟩
          have hr2 : nx (u2 T 17 n 1) (T 9 n) (u2 T 17 n 1 24 0).toNat = nx T (T 9 n) (T 24 0).toNat := nx_congr (S := T) (T := u2 T 17 n 1) rfl (fun _ => rfl) (fun _ => rfl) _ _
          rw [hr2]
          have hcv : 0 ≤ nx T (T 9 n) (T 24 0).toNat → (0 ≤ T 29 (nx T (T 9 n) (T 24 0).toNat) ∧ T 29 (nx T (T 9 n) (T 24 0).toNat) ≤ 30) := fun h => (hB.cv h (by omega)).2.2.2
          refine aw_istore_n dX6_lates_83 rfl (by decide) ?_
          refine aw_iload_n dX6_lates_84 rfl rfl ?_
          refine aw_if_ge (tgt := 98) dX6_lates_85 (by decide) (by omega) (fun c_85 => ?_) (fun c_85 => ?_)
          · have h29 := ho.2 (by omega) (by omega)
            have hcv2 := hcv (by omega)
            refine aw_aload_n dX6_lates_98 rfl rfl ?_
            refine rr_getA dX6_lates_99 flX6_90 rfl (by decide) ?_
            refine aw_bipush dX6_lates_102 (by decide) ?_
            refine aw_iload_n dX6_lates_104 rfl rfl ?_
            refine aw_imul dX6_lates_105 ?_
            refine aw_aload_n dX6_lates_106 rfl rfl ?_
            refine rr_getA dX6_lates_107 flX6_87 rfl (by decide) ?_
            refine aw_iload_n dX6_lates_110 rfl rfl ?_
            refine rr_iald (n := 12) (S0 := T) dX6_lates_111 rfl rfl rfl (by omega) (by omega) (fun _ => rfl) ?_
            refine aw_iadd dX6_lates_112 ?_
            refine aw_iload_n dX6_lates_113 rfl rfl ?_
            refine rr_iast (n := 360) dX6_lates_114 rfl rfl rfl (by omega) (by omega) ?_
            refine aw_aload_n dX6_lates_115 rfl rfl ?_
            refine rr_getA dX6_lates_116 flX6_87 rfl (by decide) ?_
            refine aw_iload_n dX6_lates_119 rfl rfl ?_
            refine aw_dup2 dX6_lates_120 ?_
            refine rr_iald (n := 12) (S0 := T) dX6_lates_121 rfl rfl rfl (by omega) (by omega) (fun _ => rfl) ?_
            refine aw_iconst dX6_lates_122 ?_
            refine aw_iadd dX6_lates_123 ?_
            refine rr_iast (n := 12) dX6_lates_124 rfl rfl rfl (by omega) (by omega) ?_
            refine aw_aload_n dX6_lates_125 rfl rfl ?_
            refine rr_getA dX6_lates_126 flX6_69 rfl (by decide) ?_
            refine aw_iload_n dX6_lates_129 rfl rfl ?_
            refine aw_iload_n dX6_lates_130 rfl rfl ?_
            refine rr_iast (n := 30) dX6_lates_131 rfl rfl rfl (by omega) (by omega) ?_
            first
            | (refine AW.lsV hk (And.intro rfl (And.intro rfl trivial)) ?_
               congr 1
               rw [lt1, if_neg (by omega)]; done)
            | (refine AW.lsV hk (And.intro rfl (And.intro rfl trivial)) ?_
               congr 1
               rw [lt1, if_pos hlt2, if_pos (by omega)]; done)
            | (refine AW.lsV hk (And.intro rfl (And.intro rfl trivial)) ?_
               congr 1
               rw [lt1, if_pos hlt2, if_neg (by omega), ltT, if_pos (by omega)]; done)
            | (refine AW.lsV hk (And.intro rfl (And.intro rfl trivial)) ?_
               congr 1
               rw [lt1, if_pos hlt2, if_neg (by omega), ltT, if_neg (by omega), u2_ne (k := 17) (k' := 29) (by decide)]; done)
          · refine aw_aload_n dX6_lates_88 rfl rfl ?_
            refine rr_getA dX6_lates_89 flX6_57 rfl (by decide) ?_
            refine aw_iload_n dX6_lates_92 rfl rfl ?_
            refine aw_iconst dX6_lates_93 ?_
            refine rr_zast (n := 30) dX6_lates_94 rfl rfl rfl (by omega) (by omega) (Or.inr rfl) ?_
            refine aw_goto (tgt := 132) dX6_lates_95 (by decide) ?_
            first
            | (refine AW.lsV hk (And.intro rfl (And.intro rfl trivial)) ?_
               congr 1
               rw [lt1, if_neg (by omega)]; done)
            | (refine AW.lsV hk (And.intro rfl (And.intro rfl trivial)) ?_
               congr 1
               rw [lt1, if_pos hlt2, if_pos (by omega)]; done)
            | (refine AW.lsV hk (And.intro rfl (And.intro rfl trivial)) ?_
               congr 1
               rw [lt1, if_pos hlt2, if_neg (by omega), ltT, if_pos (by omega)]; done)
            | (refine AW.lsV hk (And.intro rfl (And.intro rfl trivial)) ?_
               congr 1
               rw [lt1, if_pos hlt2, if_neg (by omega), ltT, if_neg (by omega), u2_ne (k := 17) (k' := 29) (by decide)]; done)
        · refine aw_aload_n dX6_lates_65 rfl rfl ?_
          refine aw_iload_n dX6_lates_66 rfl rfl ?_
          refine aw_callV (c_X6_joins (by omega) (by rw [u2_ne (by decide)]; omega) (JOK_u17 (ho.1 (by omega)))) mv_X6_joins mlX6_125 dX6_lates_67 rfl rfl (by decide) rfl (Nat.le_of_ble_eq_true rfl) rfl ?_
          rintro _ _ _ _ ⟨rfl, rfl, rfl, rfl⟩
          refine aw_goto (tgt := 132) dX6_lates_70 (by decide) ?_
          first
          | (refine AW.lsV hk (And.intro rfl (And.intro rfl trivial)) ?_
             congr 1
             rw [lt1, if_neg (by omega)]; done)
          | (refine AW.lsV hk (And.intro rfl (And.intro rfl trivial)) ?_
             congr 1
             rw [lt1, if_pos hlt2, if_pos (by omega)]; done)
          | (refine AW.lsV hk (And.intro rfl (And.intro rfl trivial)) ?_
             congr 1
             rw [lt1, if_pos hlt2, if_neg (by omega), ltT, if_pos (by omega)]; done)
          | (refine AW.lsV hk (And.intro rfl (And.intro rfl trivial)) ?_
             congr 1
             rw [lt1, if_pos hlt2, if_neg (by omega), ltT, if_neg (by omega), u2_ne (k := 17) (k' := 29) (by decide)]; done)
set_option maxRecDepth 100000 in
set_option maxHeartbeats 4000000 in
theorem lp_X6_lates {S9 : SS} (hB : BB S) (hok : okLs S) (h9 : S9 = lts S (S 8 0).toNat) : ∀ (f n : Nat), n + f = (S 8 0).toNat → AW l D cA A ad yX6_lates cX6_lates 3 none rm_X6_lates (PR none (S9) sz) 0 0 lvR (VR (lts S n)) sz 2 [some (.inr (some (50, 0))), some (.inl (n : Int)), none] [] := by
  have hm := hB.m
  simp only [bsm] at hm
  have e8 : ∀ n : Nat, lts S n 8 0 = S 8 0 := fun n => lts_ne (by decide) (by decide) (by decide) (by decide) (by decide) (by decide) (by decide) _ _
  intro f
  induction f with
  | zero =>
    intro n hn
    have e := e8 n
    refine aw_iload_n dX6_lates_2 rfl rfl ?_
    refine aw_aload_n dX6_lates_3 rfl rfl ?_
    refine rr_getS dX6_lates_4 flX6_119 rfl (by decide) (fun _ => rfl) ?_
    refine aw_icmp_ge (tgt := 138) dX6_lates_7 (by decide) (by omega) (by omega) (fun c_7 => ?_) (fun c_7 => absurd c_7 (by omega))
    refine aw_vret dX6_lates_138 rfl (Nat.zero_le _) (Nat.zero_le _) ?_
    rw [h9, show (S 8 0).toNat = n by omega]
    exact ⟨rfl, rfl, rfl, rfl⟩
  | succ f ih =>
    intro n hn
    have e := e8 n
    have ih2 := ih (n + 1) (by omega)
    refine aw_iload_n dX6_lates_2 rfl rfl ?_
    refine aw_aload_n dX6_lates_3 rfl rfl ?_
    refine rr_getS dX6_lates_4 flX6_119 rfl (by decide) (fun _ => rfl) ?_
    refine aw_icmp_ge (tgt := 138) dX6_lates_7 (by decide) (by omega) (by omega) (fun c_7 => absurd c_7 (by omega)) (fun c_7 => ?_)
    refine bd_X6_lates (BB_lts hB hok n (by omega)) (by omega) (hok n (by omega)) ?_
    refine aw_iinc dX6_lates_132 rfl (by decide) ?_
    refine aw_goto (tgt := 2) dX6_lates_135 (by decide) ?_
    exact AW.lss ih2 (And.intro rfl (And.intro rfl trivial))
set_option maxRecDepth 100000 in
set_option maxHeartbeats 4000000 in
theorem c_X6_lates (hB : BB S) (hok : okLs S) : CT l D cA A ad yX6_lates cX6_lates 3 none rm_X6_lates [.inr (some (50, 0))] lvR (VR S) sz (PR none (lts S (S 8 0).toNat) sz) := by
  refine CT.of2 [some (.inr (some (50, 0))), none, none] (by decide) (Nat.le_of_ble_eq_true rfl) rfl ?_
  refine aw_iconst dX6_lates_0 ?_
  refine aw_istore_n dX6_lates_1 rfl (by decide) ?_
  exact AW.lss (lp_X6_lates hB hok rfl (S 8 0).toNat 0 (by omega)) (And.intro rfl (And.intro rfl trivial))
set_option maxRecDepth 100000 in
set_option maxHeartbeats 4000000 in
theorem c_X6_goes {s : Int} {sec : Nat} (hB : BB S) (hs : 0 ≤ s ∧ s < 30) (hs2 : sec < 8) : CT l D cA A ad yX6_goes cX6_goes 6 (some .boolean) rm_X6_goes [.inr (some (50, 0)), .inl s, .inl ((sec : Int))] lvR (VR S) sz (PR (some (.inl (b2i (gos S s sec).1))) ((gos S s sec).2) sz) := by
  refine CT.of2 [some (.inr (some (50, 0))), some (.inl s), some (.inl ((sec : Int))), none, none, none] (by decide) (Nat.le_of_ble_eq_true rfl) rfl ?_
  have hm := hB.m
  simp only [bsm] at hm
  have hsh := hB.sh hs.1 hs.2
  simp only [bsh] at hsh
  have hi := hB.iM (a := 2 * (sec : Int) + S 9 s) (by omega) (by omega)
  rcases hsh.1 with hw | hw
  · refine aw_aload_n dX6_goes_0 rfl rfl ?_
    refine rr_getA dX6_goes_1 flX6_30 rfl (by decide) ?_
    refine aw_iload_n dX6_goes_4 rfl rfl ?_
    refine rr_iald (n := 30) dX6_goes_5 rfl rfl rfl (by omega) (by omega) (fun _ => rfl) ?_
    refine aw_istore_n dX6_goes_6 rfl (by decide) ?_
    refine aw_iload_n dX6_goes_7 rfl rfl ?_
    refine aw_iload_n dX6_goes_8 rfl rfl ?_
    refine aw_if_ne (tgt := 17) dX6_goes_9 (by decide) (by omega) (fun c_9 => absurd c_9 (by omega)) (fun c_9 => ?_)
    refine aw_bipush dX6_goes_12 (by decide) ?_
    refine aw_goto (tgt := 18) dX6_goes_14 (by decide) ?_
    refine aw_icmp_ne (tgt := 47) dX6_goes_18 (by decide) (by omega) (by omega) (fun c_18 => ?_) (fun c_18 => ?_)
    · refine aw_iload_n dX6_goes_47 rfl rfl ?_
      refine aw_if_ne (tgt := 57) dX6_goes_48 (by decide) (by omega) (fun c_48 => absurd c_48 (by omega)) (fun c_48 => ?_)
      refine aw_iload_n dX6_goes_51 rfl rfl ?_
      refine aw_iconst dX6_goes_52 ?_
      refine aw_iadd dX6_goes_53 ?_
      refine aw_goto (tgt := 60) dX6_goes_54 (by decide) ?_
      rw [show (sec : Int) + 1 = ((sec + 1 : Nat) : Int) by omega]
      refine aw_istore dX6_goes_60 (by decide) ?_
      refine aw_aload_n dX6_goes_62 rfl rfl ?_
      refine aw_iload_n dX6_goes_63 rfl rfl ?_
      refine aw_iload dX6_goes_64 rfl ?_
      refine aw_callV (c_X6_cause (sec := sec + 1) hB hs (by omega)) mv_X6_cause mlX6_148 dX6_goes_66 rfl rfl (by decide) rfl (Nat.le_of_ble_eq_true rfl) rfl ?_
      rintro _ _ _ _ ⟨rfl, rfl, rfl, rfl⟩
      have hcb := cause_bd S s (sec + 1)
      refine aw_istore dX6_goes_69 (by decide) ?_
      refine aw_iload dX6_goes_71 rfl ?_
      refine aw_if_lt (tgt := 94) dX6_goes_73 (by decide) (by omega) (fun c_73 => ?_) (fun c_73 => ?_)
      · refine aw_aload_n dX6_goes_94 rfl rfl ?_
        refine aw_iload_n dX6_goes_95 rfl rfl ?_
        refine aw_iload_n dX6_goes_96 rfl rfl ?_
        refine aw_callV (c_X6_leaves (by omega) (by omega) (by omega)) mv_X6_leaves mlX6_144 dX6_goes_97 rfl rfl (by decide) rfl (Nat.le_of_ble_eq_true rfl) rfl ?_
        rintro _ _ _ _ ⟨rfl, rfl, rfl, rfl⟩
        refine aw_aload_n dX6_goes_100 rfl rfl ?_
        refine aw_iload_n dX6_goes_101 rfl rfl ?_
        refine aw_iload dX6_goes_102 rfl ?_
        have hi2 := hB.iM (a := 2 * ((sec + 1 : Nat) : Int) + S 9 s) (by omega) (by omega)
        refine aw_callV (c_X6_enters hs (by rw [lvs_ne (by decide) (by decide)]; omega) (by rw [lvs_ne (by decide) (by decide)]; omega) (by omega) (by rw [lvs_ne (k := 9) (by decide) (by decide), lvs_33, if_neg (by omega)]; omega)) mv_X6_enters mlX6_152 dX6_goes_104 rfl rfl (by decide) rfl (Nat.le_of_ble_eq_true rfl) rfl ?_
        rintro _ _ _ _ ⟨rfl, rfl, rfl, rfl⟩
        refine aw_iconst dX6_goes_107 ?_
        refine aw_zret dX6_goes_108 rfl (Or.inr rfl) (Nat.zero_le _) (Nat.zero_le _) ?_
        have e : gos S s sec = (true, ent (lvs S sec (S 9 s)) s ((sec + 1 : Nat) : Int)) := by
          rw [gos, if_neg (by rw [if_pos (by omega)]; omega), if_pos (c := S 9 s = 0) (by omega), if_neg (by omega), if_pos (c := S 9 s = 0) (by omega)]
          rfl
        rw [e]
        exact ⟨rfl, rfl, rfl, rfl⟩
      · refine aw_aload_n dX6_goes_76 rfl rfl ?_
        refine rr_getA dX6_goes_77 flX6_72 rfl (by decide) ?_
        refine aw_bipush dX6_goes_80 (by decide) ?_
        refine aw_iload_n dX6_goes_82 rfl rfl ?_
        refine aw_imul dX6_goes_83 ?_
        refine aw_iload dX6_goes_84 rfl ?_
        refine aw_iadd dX6_goes_86 ?_
        refine aw_dup2 dX6_goes_87 ?_
        refine rr_iald (n := 210) dX6_goes_88 rfl rfl rfl (by omega) (by omega) (fun _ => rfl) ?_
        refine aw_iconst dX6_goes_89 ?_
        refine aw_iadd dX6_goes_90 ?_
        refine rr_iast (n := 210) dX6_goes_91 rfl rfl rfl (by omega) (by omega) ?_
        refine aw_iconst dX6_goes_92 ?_
        refine aw_zret dX6_goes_93 rfl (Or.inl rfl) (Nat.zero_le _) (Nat.zero_le _) ?_
        have e : gos S s sec = (false, wt S (7 * s + cause S s (sec + 1))) := by
          rw [gos, if_neg (by rw [if_pos (by omega)]; omega), if_pos (c := S 9 s = 0) (by omega), if_pos (by omega)]
        rw [e]
        exact ⟨rfl, rfl, rfl, rfl⟩
    · refine aw_aload_n dX6_goes_21 rfl rfl ?_
      refine aw_iload_n dX6_goes_22 rfl rfl ?_
      refine aw_iload_n dX6_goes_23 rfl rfl ?_
      refine aw_callV (c_X6_leaves (by omega) (by omega) (by omega)) mv_X6_leaves mlX6_144 dX6_goes_24 rfl rfl (by decide) rfl (Nat.le_of_ble_eq_true rfl) rfl ?_
      rintro _ _ _ _ ⟨rfl, rfl, rfl, rfl⟩
      refine aw_aload_n dX6_goes_27 rfl rfl ?_
      refine rr_getA dX6_goes_28 flX6_48 rfl (by decide) ?_
      refine aw_iload_n dX6_goes_31 rfl rfl ?_
      refine aw_bipush dX6_goes_32 (by decide) ?_
      refine rr_iast (n := 30) dX6_goes_34 rfl rfl rfl (by omega) (by omega) ?_
      refine aw_aload_n dX6_goes_35 rfl rfl ?_
      refine rr_getA dX6_goes_36 flX6_63 rfl (by decide) ?_
      refine aw_iload_n dX6_goes_39 rfl rfl ?_
      refine aw_aload_n dX6_goes_40 rfl rfl ?_
      refine rr_getS (S0 := S) dX6_goes_41 flX6_112 rfl (by decide) (fun _ => by rw [u2_ne (by decide), lvs_ne (by decide) (by decide)]) ?_
      refine rr_iast (n := 30) dX6_goes_44 rfl rfl rfl (by omega) (by omega) ?_
      refine aw_iconst dX6_goes_45 ?_
      refine aw_zret dX6_goes_46 rfl (Or.inr rfl) (Nat.zero_le _) (Nat.zero_le _) ?_
      have e : gos S s sec = (true, goE S sec s) := by
        rw [gos, if_pos (by rw [if_pos (by omega)]; omega)]
      rw [e]
      exact ⟨rfl, rfl, rfl, rfl⟩
  · refine aw_aload_n dX6_goes_0 rfl rfl ?_
    refine rr_getA dX6_goes_1 flX6_30 rfl (by decide) ?_
    refine aw_iload_n dX6_goes_4 rfl rfl ?_
    refine rr_iald (n := 30) dX6_goes_5 rfl rfl rfl (by omega) (by omega) (fun _ => rfl) ?_
    refine aw_istore_n dX6_goes_6 rfl (by decide) ?_
    refine aw_iload_n dX6_goes_7 rfl rfl ?_
    refine aw_iload_n dX6_goes_8 rfl rfl ?_
    refine aw_if_ne (tgt := 17) dX6_goes_9 (by decide) (by omega) (fun c_9 => ?_) (fun c_9 => absurd c_9 (by omega))
    refine aw_iconst dX6_goes_17 ?_
    refine aw_icmp_ne (tgt := 47) dX6_goes_18 (by decide) (by omega) (by omega) (fun c_18 => ?_) (fun c_18 => ?_)
    · refine aw_iload_n dX6_goes_47 rfl rfl ?_
      refine aw_if_ne (tgt := 57) dX6_goes_48 (by decide) (by omega) (fun c_48 => ?_) (fun c_48 => absurd c_48 (by omega))
      refine aw_iload_n dX6_goes_57 rfl rfl ?_
      refine aw_iconst dX6_goes_58 ?_
      refine aw_isub dX6_goes_59 ?_
      rw [show (sec : Int) - 1 = ((sec - 1 : Nat) : Int) by omega]
      refine aw_istore dX6_goes_60 (by decide) ?_
      refine aw_aload_n dX6_goes_62 rfl rfl ?_
      refine aw_iload_n dX6_goes_63 rfl rfl ?_
      refine aw_iload dX6_goes_64 rfl ?_
      refine aw_callV (c_X6_cause (sec := sec - 1) hB hs (by omega)) mv_X6_cause mlX6_148 dX6_goes_66 rfl rfl (by decide) rfl (Nat.le_of_ble_eq_true rfl) rfl ?_
      rintro _ _ _ _ ⟨rfl, rfl, rfl, rfl⟩
      have hcb := cause_bd S s (sec - 1)
      refine aw_istore dX6_goes_69 (by decide) ?_
      refine aw_iload dX6_goes_71 rfl ?_
      refine aw_if_lt (tgt := 94) dX6_goes_73 (by decide) (by omega) (fun c_73 => ?_) (fun c_73 => ?_)
      · refine aw_aload_n dX6_goes_94 rfl rfl ?_
        refine aw_iload_n dX6_goes_95 rfl rfl ?_
        refine aw_iload_n dX6_goes_96 rfl rfl ?_
        refine aw_callV (c_X6_leaves (by omega) (by omega) (by omega)) mv_X6_leaves mlX6_144 dX6_goes_97 rfl rfl (by decide) rfl (Nat.le_of_ble_eq_true rfl) rfl ?_
        rintro _ _ _ _ ⟨rfl, rfl, rfl, rfl⟩
        refine aw_aload_n dX6_goes_100 rfl rfl ?_
        refine aw_iload_n dX6_goes_101 rfl rfl ?_
        refine aw_iload dX6_goes_102 rfl ?_
        have hi2 := hB.iM (a := 2 * ((sec - 1 : Nat) : Int) + S 9 s) (by omega) (by omega)
        refine aw_callV (c_X6_enters hs (by rw [lvs_ne (by decide) (by decide)]; omega) (by rw [lvs_ne (by decide) (by decide)]; omega) (by omega) (by rw [lvs_ne (k := 9) (by decide) (by decide), lvs_33, if_neg (by omega)]; omega)) mv_X6_enters mlX6_152 dX6_goes_104 rfl rfl (by decide) rfl (Nat.le_of_ble_eq_true rfl) rfl ?_
        rintro _ _ _ _ ⟨rfl, rfl, rfl, rfl⟩
        refine aw_iconst dX6_goes_107 ?_
        refine aw_zret dX6_goes_108 rfl (Or.inr rfl) (Nat.zero_le _) (Nat.zero_le _) ?_
        have e : gos S s sec = (true, ent (lvs S sec (S 9 s)) s ((sec - 1 : Nat) : Int)) := by
          rw [gos, if_neg (by rw [if_neg (by omega)]; omega), if_neg (c := S 9 s = 0) (by omega), if_neg (by omega), if_neg (c := S 9 s = 0) (by omega)]
          rw [show (sec : Int) - 1 = ((sec - 1 : Nat) : Int) by omega]
        rw [e]
        exact ⟨rfl, rfl, rfl, rfl⟩
      · refine aw_aload_n dX6_goes_76 rfl rfl ?_
        refine rr_getA dX6_goes_77 flX6_72 rfl (by decide) ?_
        refine aw_bipush dX6_goes_80 (by decide) ?_
        refine aw_iload_n dX6_goes_82 rfl rfl ?_
        refine aw_imul dX6_goes_83 ?_
        refine aw_iload dX6_goes_84 rfl ?_
        refine aw_iadd dX6_goes_86 ?_
        refine aw_dup2 dX6_goes_87 ?_
        refine rr_iald (n := 210) dX6_goes_88 rfl rfl rfl (by omega) (by omega) (fun _ => rfl) ?_
        refine aw_iconst dX6_goes_89 ?_
        refine aw_iadd dX6_goes_90 ?_
        refine rr_iast (n := 210) dX6_goes_91 rfl rfl rfl (by omega) (by omega) ?_
        refine aw_iconst dX6_goes_92 ?_
        refine aw_zret dX6_goes_93 rfl (Or.inl rfl) (Nat.zero_le _) (Nat.zero_le _) ?_
        have e : gos S s sec = (false, wt S (7 * s + cause S s (sec - 1))) := by
          rw [gos, if_neg (by rw [if_neg (by omega)]; omega), if_neg (c := S 9 s = 0) (by omega), if_pos (by omega)]
        rw [e]
        exact ⟨rfl, rfl, rfl, rfl⟩
    · refine aw_aload_n dX6_goes_21 rfl rfl ?_
      refine aw_iload_n dX6_goes_22 rfl rfl ?_
      refine aw_iload_n dX6_goes_23 rfl rfl ?_
      refine aw_callV (c_X6_leaves (by omega) (by omega) (by omega)) mv_X6_leaves mlX6_144 dX6_goes_24 rfl rfl (by decide) rfl (Nat.le_of_ble_eq_true rfl) rfl ?_
      rintro _ _ _ _ ⟨rfl, rfl, rfl, rfl⟩
      refine aw_aload_n dX6_goes_27 rfl rfl ?_
      refine rr_getA dX6_goes_28 flX6_48 rfl (by decide) ?_
      refine aw_iload_n dX6_goes_31 rfl rfl ?_
      refine aw_bipush dX6_goes_32 (by decide) ?_
      refine rr_iast (n := 30) dX6_goes_34 rfl rfl rfl (by omega) (by omega) ?_
      refine aw_aload_n dX6_goes_35 rfl rfl ?_
      refine rr_getA dX6_goes_36 flX6_63 rfl (by decide) ?_
      refine aw_iload_n dX6_goes_39 rfl rfl ?_
      refine aw_aload_n dX6_goes_40 rfl rfl ?_
      refine rr_getS (S0 := S) dX6_goes_41 flX6_112 rfl (by decide) (fun _ => by rw [u2_ne (by decide), lvs_ne (by decide) (by decide)]) ?_
      refine rr_iast (n := 30) dX6_goes_44 rfl rfl rfl (by omega) (by omega) ?_
      refine aw_iconst dX6_goes_45 ?_
      refine aw_zret dX6_goes_46 rfl (Or.inr rfl) (Nat.zero_le _) (Nat.zero_le _) ?_
      have e : gos S s sec = (true, goE S sec s) := by
        rw [gos, if_pos (by rw [if_neg (by omega)]; omega)]
      rw [e]
      exact ⟨rfl, rfl, rfl, rfl⟩
end REF4
