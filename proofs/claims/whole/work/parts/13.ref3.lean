section REF3
variable {l : Launch} {D : va_G} {cA : Nat → ClassId} {A : Nat → Prop} {ad : Ad} {lv : Lw} {V : Vw} {sz : Nat} {S : SS}
/-- a ship may come behind its line: there is a place -/
def JOK (S : SS) (s : Int) : Prop := 0 ≤ S 31 (S 9 s) ∧ S 31 (S 9 s) < 30
def okC (S : SS) (c : Int) : Prop := S 26 c = S 0 0 → (∀ k : Nat, k < (S 27 c).toNat → S 10 (S 28 (8 * c + k)) ≤ S 0 0 → JOK (stB S c k) (S 28 (8 * c + k))) ∧ ∀ k : Nat, k < (S 29 c).toNat → JOK (stP (stB S c (S 27 c).toNat) c k) (S 30 (30 * c + k))
def okS (S : SS) : Prop := ∀ n : Nat, (n : Int) < S 24 0 → okC (sts S n) n
set_option maxRecDepth 100000 in
set_option maxHeartbeats 4000000 in
theorem lpB_X6_starts {T S9 : SS} {c : Nat} (hB : BB T) (hc : (c : Int) < T 24 0) (he : T 26 c = T 0 0) (hok : okC T c) (hk : AW l D cA A ad yX6_starts cX6_starts 3 none rm_X6_starts (PR none (S9) sz) 0 0 lvR (VR (stB T c (T 27 c).toNat)) sz 79 [some (.inr (some (50, 0))), some (.inl (c : Int)), none] []) : ∀ (f k : Nat), k + f = (T 27 c).toNat → AW l D cA A ad yX6_starts cX6_starts 3 none rm_X6_starts (PR none (S9) sz) 0 0 lvR (VR (stB T c k)) sz 25 [some (.inr (some (50, 0))), some (.inl (c : Int)), some (.inl (k : Int))] [] := by
  have hm := hB.m
  simp only [bsm] at hm
  have hcv := hB.cv (c := (c : Int)) (by omega) (by omega)
  simp only [bcv] at hcv
  intro f
  induction f with
  | zero =>
    intro k hkf
    refine aw_iload_n dX6_starts_25 rfl rfl ?_
    refine aw_aload_n dX6_starts_26 rfl rfl ?_
    refine rr_getA dX6_starts_27 flX6_81 rfl (by decide) ?_
    refine aw_iload_n dX6_starts_30 rfl rfl ?_
    refine rr_iald (n := 12) (S0 := T) dX6_starts_31 rfl rfl rfl (by omega) (by omega) (fun _ => stB_ne (by decide) (by decide) _ _) ?_
    refine aw_icmp_ge (tgt := 79) dX6_starts_32 (by decide) (by omega) (by omega) (fun c_32 => ?_) (fun c_32 => absurd c_32 (by omega))
    rw [show k = (T 27 c).toNat by omega]
    exact AW.lss hk (And.intro rfl (And.intro rfl trivial))
  | succ f ih =>
    intro k hkf
    have hb := hB.bk (x := 8 * (c : Int) + k) (by omega) (by omega)
    have hsh := hB.sh hb.1 hb.2
    simp only [bsh] at hsh
    refine aw_iload_n dX6_starts_25 rfl rfl ?_
    refine aw_aload_n dX6_starts_26 rfl rfl ?_
    refine rr_getA dX6_starts_27 flX6_81 rfl (by decide) ?_
    refine aw_iload_n dX6_starts_30 rfl rfl ?_
    refine rr_iald (n := 12) (S0 := T) dX6_starts_31 rfl rfl rfl (by omega) (by omega) (fun _ => stB_ne (by decide) (by decide) _ _) ?_
    refine aw_icmp_ge (tgt := 79) dX6_starts_32 (by decide) (by omega) (by omega) (fun c_32 => absurd c_32 (by omega)) (fun c_32 => ?_)
    refine aw_aload_n dX6_starts_35 rfl rfl ?_
    refine rr_getA dX6_starts_36 flX6_33 rfl (by decide) ?_
    refine aw_aload_n dX6_starts_39 rfl rfl ?_
    refine rr_getA dX6_starts_40 flX6_84 rfl (by decide) ?_
    refine aw_bipush dX6_starts_43 (by decide) ?_
    refine aw_iload_n dX6_starts_45 rfl rfl ?_
    refine aw_imul dX6_starts_46 ?_
    refine aw_iload_n dX6_starts_47 rfl rfl ?_
    refine aw_iadd dX6_starts_48 ?_
    refine rr_iald (n := 96) (S0 := T) dX6_starts_49 rfl rfl rfl (by omega) (by omega) (fun _ => stB_ne (by decide) (by decide) _ _) ?_
    refine rr_iald (n := 30) (S0 := T) dX6_starts_50 rfl rfl rfl (by omega) (by omega) (fun _ => stB_ne (by decide) (by decide) _ _) ?_
    refine aw_aload_n dX6_starts_51 rfl rfl ?_
    refine rr_getS (S0 := T) dX6_starts_52 flX6_112 rfl (by decide) (fun _ => stB_ne (by decide) (by decide) _ _) ?_
    refine aw_icmp_gt (tgt := 73) dX6_starts_55 (by decide) (by omega) (by omega) (fun c_55 => ?_) (fun c_55 => ?_)
    · refine aw_iinc dX6_starts_73 rfl (by decide) ?_
      refine aw_goto (tgt := 25) dX6_starts_76 (by decide) ?_
      refine AW.lsV (ih (k + 1) (by omega)) (And.intro rfl (And.intro rfl (And.intro rfl trivial))) ?_
      congr 1
      simp only [stB]
      first | rw [if_pos c_55] | rw [if_neg (by omega)]
    · have hj := (hok he).1 k (by omega) c_55
      refine aw_aload_n dX6_starts_58 rfl rfl ?_
      refine aw_aload_n dX6_starts_59 rfl rfl ?_
      refine rr_getA dX6_starts_60 flX6_84 rfl (by decide) ?_
      refine aw_bipush dX6_starts_63 (by decide) ?_
      refine aw_iload_n dX6_starts_65 rfl rfl ?_
      refine aw_imul dX6_starts_66 ?_
      refine aw_iload_n dX6_starts_67 rfl rfl ?_
      refine aw_iadd dX6_starts_68 ?_
      refine rr_iald (n := 96) (S0 := T) dX6_starts_69 rfl rfl rfl (by omega) (by omega) (fun _ => stB_ne (by decide) (by decide) _ _) ?_
      refine aw_callV (c_X6_joins (by omega) (by rw [stB_ne (by decide) (by decide)]; omega) hj) mv_X6_joins mlX6_125 dX6_starts_70 rfl rfl (by decide) rfl (Nat.le_of_ble_eq_true rfl) rfl ?_
      rintro _ _ _ _ ⟨rfl, rfl, rfl, rfl⟩
      refine aw_iinc dX6_starts_73 rfl (by decide) ?_
      refine aw_goto (tgt := 25) dX6_starts_76 (by decide) ?_
      refine AW.lsV (ih (k + 1) (by omega)) (And.intro rfl (And.intro rfl (And.intro rfl trivial))) ?_
      congr 1
      simp only [stB]
      first | rw [if_pos c_55] | rw [if_neg (by omega)]
set_option maxRecDepth 100000 in
set_option maxHeartbeats 4000000 in
theorem lpP_X6_starts {T S9 : SS} {c : Nat} (hB : BB T) (hc : (c : Int) < T 24 0) (hok : ∀ k : Nat, k < (T 29 c).toNat → JOK (stP T c k) (T 30 (30 * (c : Int) + k))) (hk : AW l D cA A ad yX6_starts cX6_starts 3 none rm_X6_starts (PR none (S9) sz) 0 0 lvR (VR (stP T c (T 29 c).toNat)) sz 112 [some (.inr (some (50, 0))), some (.inl (c : Int)), none] []) : ∀ (f k : Nat), k + f = (T 29 c).toNat → AW l D cA A ad yX6_starts cX6_starts 3 none rm_X6_starts (PR none (S9) sz) 0 0 lvR (VR (stP T c k)) sz 81 [some (.inr (some (50, 0))), some (.inl (c : Int)), some (.inl (k : Int))] [] := by
  have hm := hB.m
  simp only [bsm] at hm
  have hcv := hB.cv (c := (c : Int)) (by omega) (by omega)
  simp only [bcv] at hcv
  intro f
  induction f with
  | zero =>
    intro k hkf
    refine aw_iload_n dX6_starts_81 rfl rfl ?_
    refine aw_aload_n dX6_starts_82 rfl rfl ?_
    refine rr_getA dX6_starts_83 flX6_87 rfl (by decide) ?_
    refine aw_iload_n dX6_starts_86 rfl rfl ?_
    refine rr_iald (n := 12) (S0 := T) dX6_starts_87 rfl rfl rfl (by omega) (by omega) (fun _ => stP_ne (by decide) (by decide) _ _) ?_
    refine aw_icmp_ge (tgt := 112) dX6_starts_88 (by decide) (by omega) (by omega) (fun c_88 => ?_) (fun c_88 => absurd c_88 (by omega))
    rw [show k = (T 29 c).toNat by omega]
    exact AW.lss hk (And.intro rfl (And.intro rfl trivial))
  | succ f ih =>
    intro k hkf
    have hb := hB.pt (x := 30 * (c : Int) + k) (by omega) (by omega)
    have hsh := hB.sh hb.1 hb.2
    simp only [bsh] at hsh
    have hj := hok k (by omega)
    refine aw_iload_n dX6_starts_81 rfl rfl ?_
    refine aw_aload_n dX6_starts_82 rfl rfl ?_
    refine rr_getA dX6_starts_83 flX6_87 rfl (by decide) ?_
    refine aw_iload_n dX6_starts_86 rfl rfl ?_
    refine rr_iald (n := 12) (S0 := T) dX6_starts_87 rfl rfl rfl (by omega) (by omega) (fun _ => stP_ne (by decide) (by decide) _ _) ?_
    refine aw_icmp_ge (tgt := 112) dX6_starts_88 (by decide) (by omega) (by omega) (fun c_88 => absurd c_88 (by omega)) (fun c_88 => ?_)
    refine aw_aload_n dX6_starts_91 rfl rfl ?_
    refine aw_aload_n dX6_starts_92 rfl rfl ?_
    refine rr_getA dX6_starts_93 flX6_90 rfl (by decide) ?_
    refine aw_bipush dX6_starts_96 (by decide) ?_
    refine aw_iload_n dX6_starts_98 rfl rfl ?_
    refine aw_imul dX6_starts_99 ?_
    refine aw_iload_n dX6_starts_100 rfl rfl ?_
    refine aw_iadd dX6_starts_101 ?_
    refine rr_iald (n := 360) (S0 := T) dX6_starts_102 rfl rfl rfl (by omega) (by omega) (fun _ => stP_ne (by decide) (by decide) _ _) ?_
    refine aw_callV (c_X6_joins (by omega) (by rw [stP_ne (by decide) (by decide)]; omega) hj) mv_X6_joins mlX6_125 dX6_starts_103 rfl rfl (by decide) rfl (Nat.le_of_ble_eq_true rfl) rfl ?_
    rintro _ _ _ _ ⟨rfl, rfl, rfl, rfl⟩
    refine aw_iinc dX6_starts_106 rfl (by decide) ?_
    refine aw_goto (tgt := 81) dX6_starts_109 (by decide) ?_
    exact AW.lss (ih (k + 1) (by omega)) (And.intro rfl (And.intro rfl (And.intro rfl trivial)))
theorem BB_eq {S T : SS} (h : BB S) (h31 : ∀ w, 0 ≤ w → w < 2 → 0 ≤ T 31 w ∧ T 31 w ≤ 30) (h32 : ∀ x, 0 ≤ x → x < 60 → 0 ≤ T 32 x ∧ T 32 x < 30) (he : ∀ k, k ≠ 31 → k ≠ 32 → ∀ x, T k x = S k x) : BB T := by
  obtain ⟨b1, b2, b3, b4, b5, b6, b7, b8, b9, b10, b11⟩ := h
  refine ⟨?_, fun s h0 h1 => ?_, fun s h0 h1 => ?_, fun s h0 h1 => ?_, fun s h0 h1 => ?_, h31, fun s h0 h1 => ?_, h32, fun s h0 h1 => ?_, fun s h0 h1 => ?_, fun s h0 h1 => ?_⟩
  · simp only [bsm] at b1 ⊢; simp only [he 0 (by decide) (by decide), he 1 (by decide) (by decide), he 2 (by decide) (by decide), he 8 (by decide) (by decide), he 24 (by decide) (by decide)]; exact b1
  · have := b2 s h0 h1; simp only [bsh] at this ⊢; simp only [he 9 (by decide) (by decide), he 10 (by decide) (by decide), he 11 (by decide) (by decide), he 12 (by decide) (by decide), he 13 (by decide) (by decide), he 14 (by decide) (by decide), he 15 (by decide) (by decide), he 16 (by decide) (by decide), he 17 (by decide) (by decide), he 18 (by decide) (by decide), he 21 (by decide) (by decide), he 22 (by decide) (by decide)]; exact this
  · have := b3 s h0 h1; simp only [bcv] at this ⊢; simp only [he 25 (by decide) (by decide), he 26 (by decide) (by decide), he 27 (by decide) (by decide), he 29 (by decide) (by decide)]; exact this
  · have := b4 s h0 h1; simp only [bsc] at this ⊢; simp only [he 3 (by decide) (by decide), he 4 (by decide) (by decide), he 5 (by decide) (by decide)]; exact this
  · have := b5 s h0 h1; simp only [he 6 (by decide) (by decide), he 7 (by decide) (by decide)]; exact this
  · have := b7 s h0 h1; simp only [he 33 (by decide) (by decide), he 35 (by decide) (by decide)]; exact this
  · have := b9 s h0 h1; simp only [he 34 (by decide) (by decide)]; exact this
  · have := b10 s h0 h1; simp only [he 28 (by decide) (by decide)]; exact this
  · have := b11 s h0 h1; simp only [he 30 (by decide) (by decide)]; exact this
theorem BB_jn {S : SS} {s : Int} (h : BB S) (hs : 0 ≤ s ∧ s < 30) (hj : JOK S s) : BB (jn S s) := by
  have hsh := h.sh hs.1 hs.2
  simp only [bsh] at hsh
  simp only [JOK] at hj
  refine BB_eq h (fun w h0 h1 => ?_) (fun x h0 h1 => ?_) (fun k h1 h2 x => jn_ne h1 h2 x)
  · have := h.ln h0 h1
    simp only [jn]
    rw [u2_at, u2_ne (by decide)]
    split <;> omega
  · have := h.li h0 h1
    simp only [jn]
    rw [u2_ne (by decide), u2_at]
    split <;> omega
theorem BB_stB {S : SS} {c : Int} (h : BB S) (hc : 0 ≤ c ∧ c < 12) (n : Nat) (hn : n ≤ (S 27 c).toNat) (hok : ∀ k : Nat, k < n → S 10 (S 28 (8 * c + k)) ≤ S 0 0 → JOK (stB S c k) (S 28 (8 * c + k))) : BB (stB S c n) := by
  have hcv := h.cv hc.1 hc.2
  simp only [bcv] at hcv
  induction n with
  | zero => exact h
  | succ n ih =>
    have i1 := ih (by omega) (fun k hk => hok k (by omega))
    simp only [stB]
    split
    · rename_i h1
      exact BB_jn i1 (h.bk (by omega) (by omega)) (hok n (by omega) h1)
    · exact i1
theorem BB_stP {S : SS} {c : Int} (h : BB S) (hc : 0 ≤ c ∧ c < 12) (n : Nat) (hn : n ≤ (S 29 c).toNat) (hok : ∀ k : Nat, k < n → JOK (stP S c k) (S 30 (30 * c + k))) : BB (stP S c n) := by
  have hcv := h.cv hc.1 hc.2
  simp only [bcv] at hcv
  induction n with
  | zero => exact h
  | succ n ih =>
    have i1 := ih (by omega) (fun k hk => hok k (by omega))
    simp only [stP]
    exact BB_jn i1 (h.pt (by omega) (by omega)) (hok n (by omega))
theorem BB_stC {S : SS} {c : Int} (h : BB S) (hc : 0 ≤ c ∧ c < 12) (hok : okC S c) : BB (stC S c) := by
  simp only [stC]
  split
  · rename_i h1
    obtain ⟨o1, o2⟩ := hok h1
    have b1 := BB_stB h hc _ (Nat.le_refl _) o1
    refine BB_stP b1 hc _ (by rw [stB_ne (by decide) (by decide)]; exact Nat.le_refl _) (fun k hk => ?_)
    rw [stB_ne (by decide) (by decide)]
    exact o2 k hk
  · exact h
theorem BB_sts {S : SS} (h : BB S) (hok : okS S) (n : Nat) (hn : (n : Int) ≤ S 24 0) : BB (sts S n) := by
  have hm := h.m
  simp only [bsm] at hm
  induction n with
  | zero => exact h
  | succ n ih => exact BB_stC (ih (by omega)) (by omega) (hok n (by omega))
set_option maxRecDepth 100000 in
set_option maxHeartbeats 4000000 in
theorem lp_X6_starts {S9 : SS} (hB : BB S) (hok : okS S) (h9 : S9 = sts S (S 24 0).toNat) : ∀ (f n : Nat), n + f = (S 24 0).toNat → AW l D cA A ad yX6_starts cX6_starts 3 none rm_X6_starts (PR none (S9) sz) 0 0 lvR (VR (sts S n)) sz 2 [some (.inr (some (50, 0))), some (.inl (n : Int)), none] [] := by
  have hm := hB.m
  simp only [bsm] at hm
  intro f
  induction f with
  | zero =>
    intro n hn
    refine aw_iload_n dX6_starts_2 rfl rfl ?_
    refine aw_aload_n dX6_starts_3 rfl rfl ?_
    refine rr_getS (S0 := S) dX6_starts_4 flX6_122 rfl (by decide) (fun _ => sts_ne (by decide) (by decide) _ _) ?_
    refine aw_icmp_ge (tgt := 118) dX6_starts_7 (by decide) (by omega) (by omega) (fun c_7 => ?_) (fun c_7 => absurd c_7 (by omega))
    refine aw_vret dX6_starts_118 rfl (Nat.zero_le _) (Nat.zero_le _) ?_
    rw [h9, show (S 24 0).toNat = n by omega]
    exact ⟨rfl, rfl, rfl, rfl⟩
  | succ f ih =>
    intro n hn
    have hcv := hB.cv (c := (n : Int)) (by omega) (by omega)
    simp only [bcv] at hcv
    have ih2 := ih (n + 1) (by omega)
    have hbT := BB_sts hB hok n (by omega)
    have hoc := hok n (by omega)
    have e24 : sts S n 24 0 = S 24 0 := sts_ne (by decide) (by decide) _ _
    have e26 : sts S n 26 n = S 26 n := sts_ne (by decide) (by decide) _ _
    have e0 : sts S n 0 0 = S 0 0 := sts_ne (by decide) (by decide) _ _
    refine aw_iload_n dX6_starts_2 rfl rfl ?_
    refine aw_aload_n dX6_starts_3 rfl rfl ?_
    refine rr_getS (S0 := S) dX6_starts_4 flX6_122 rfl (by decide) (fun _ => sts_ne (by decide) (by decide) _ _) ?_
    refine aw_icmp_ge (tgt := 118) dX6_starts_7 (by decide) (by omega) (by omega) (fun c_7 => absurd c_7 (by omega)) (fun c_7 => ?_)
    refine aw_aload_n dX6_starts_10 rfl rfl ?_
    refine rr_getA dX6_starts_11 flX6_78 rfl (by decide) ?_
    refine aw_iload_n dX6_starts_14 rfl rfl ?_
    refine rr_iald (n := 12) (S0 := S) dX6_starts_15 rfl rfl rfl (by omega) (by omega) (fun _ => sts_ne (by decide) (by decide) _ _) ?_
    refine aw_aload_n dX6_starts_16 rfl rfl ?_
    refine rr_getS (S0 := S) dX6_starts_17 flX6_112 rfl (by decide) (fun _ => sts_ne (by decide) (by decide) _ _) ?_
    refine aw_icmp_ne (tgt := 112) dX6_starts_20 (by decide) (by omega) (by omega) (fun c_20 => ?_) (fun c_20 => ?_)
    · refine aw_iinc dX6_starts_112 rfl (by decide) ?_
      refine aw_goto (tgt := 2) dX6_starts_115 (by decide) ?_
      refine AW.lsV ih2 (And.intro rfl (And.intro rfl trivial)) ?_
      congr 1
      simp only [sts, stC]
      rw [if_neg (by omega)]
    · refine aw_iconst dX6_starts_23 ?_
      refine aw_istore_n dX6_starts_24 rfl (by decide) ?_
      have o12 := hoc (by omega)
      have hbB := BB_stB hbT (by omega) _ (Nat.le_refl _) o12.1
      have eB : stB (sts S n) n (sts S n 27 n).toNat 29 n = sts S n 29 n := stB_ne (by decide) (by decide) _ _
      refine AW.lss (lpB_X6_starts (T := sts S n) (c := n) hbT (by omega) (by omega) hoc ?_ (sts S n 27 n).toNat 0 (by omega)) (And.intro rfl (And.intro rfl (And.intro rfl trivial)))
      refine aw_iconst dX6_starts_79 ?_
      refine aw_istore_n dX6_starts_80 rfl (by decide) ?_
      refine AW.lss (lpP_X6_starts (T := stB (sts S n) n (sts S n 27 n).toNat) (c := n) hbB (by rw [stB_ne (by decide) (by decide)]; omega) (fun k hk => by rw [stB_ne (by decide) (by decide)]; exact o12.2 k (by omega)) ?_ (stB (sts S n) n (sts S n 27 n).toNat 29 n).toNat 0 (by omega)) (And.intro rfl (And.intro rfl (And.intro rfl trivial)))
      refine aw_iinc dX6_starts_112 rfl (by decide) ?_
      refine aw_goto (tgt := 2) dX6_starts_115 (by decide) ?_
      refine AW.lsV ih2 (And.intro rfl (And.intro rfl trivial)) ?_
      congr 1
      simp only [sts, stC]
      rw [if_pos (by omega), stB_ne (by decide) (by decide)]
set_option maxRecDepth 100000 in
set_option maxHeartbeats 4000000 in
theorem c_X6_starts (hB : BB S) (hok : okS S) : CT l D cA A ad yX6_starts cX6_starts 3 none rm_X6_starts [.inr (some (50, 0))] lvR (VR S) sz (PR none (sts S (S 24 0).toNat) sz) := by
  refine CT.of2 [some (.inr (some (50, 0))), none, none] (by decide) (Nat.le_of_ble_eq_true rfl) rfl ?_
  refine aw_iconst dX6_starts_0 ?_
  refine aw_istore_n dX6_starts_1 rfl (by decide) ?_
  exact AW.lss (lp_X6_starts hB hok rfl (S 24 0).toNat 0 (by omega)) (And.intro rfl (And.intro rfl trivial))
end REF3
