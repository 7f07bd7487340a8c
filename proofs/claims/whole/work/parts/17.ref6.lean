section REF6
variable {l : Launch} {D : va_G} {cA : Nat → ClassId} {A : Nat → Prop} {ad : Ad} {lv : Lw} {V : Vw} {sz : Nat} {S : SS}
theorem aw_icmp_leW {y : MethodName} {cc : ByteArray} {nL : Nat} {ret : Option FieldType} {R : Room} {Post : Pst} {cells slots pc : Nat} {L : List (Option AV)} {st : List AV} {a b : Int} {off : Int} {tgt : Nat} (hd : decode cc pc = .ok (.if_icmp .le off, 3)) (ht : (pc : Int) + off = (tgt : Int)) (kt : Int32.ofInt a ≤ Int32.ofInt b → AW l D cA A ad y cc nL ret R Post cells slots lv V sz tgt L st) (kf : ¬ Int32.ofInt a ≤ Int32.ofInt b → AW l D cA A ad y cc nL ret R Post cells slots lv V sz (pc + 3) L st) : AW l D cA A ad y cc nL ret R Post cells slots lv V sz pc L (.inl b :: .inl a :: st) := by
  intro p e s m args below meth c H locs ls X hA hH hS hL
  exact lv_icmp_le X.1 X.2.1 hd ht (fun h => kt h p e s m args below meth c H locs ls X hA hH hS hL) (fun h => kf h p e s m args below meth c H locs ls X hA hH hS hL)
def okT (S : SS) : Prop := BB S ∧ okS S ∧ BB (mt1 S) ∧ okLs (mt1 S) ∧ (∀ n : Nat, n < 8 → okM (7 - n) 0 (mvN (mt2 S) n 33 (2 * ((7 - n : Nat) : Int) + 0)).toNat (mvN (mt2 S) n) 0 false) ∧ (∀ n : Nat, n < 8 → okM n 1 (mvS (mt3 S) n 33 (2 * (n : Int) + 1)).toNat (mvS (mt3 S) n) 0 false) ∧ BB (mt4 S) ∧ BB (mt5 S) ∧ BB (mt6 S) ∧ (∀ x, mt6 S 0 x = S 0 x) ∧ ∀ x, mt6 S 8 x = S 8 x
def opMin (S : SS) (n : Int) : Int × SS := if ¬ (1 ≤ n ∧ n ≤ 300) then (-1, S) else if 10000 < S 0 0 + n then (-3, S) else (mts S n.toNat 0 0, mts S n.toNat)
def opTold (S : SS) (s w : Int) : Int := if ¬ ((0 ≤ s ∧ s ≤ S 8 0 - 1) ∧ (0 ≤ w ∧ w ≤ 8)) then -9 else if w = 0 then S 15 s else if w = 1 then (if 0 ≤ S 15 s ∧ S 15 s ≤ 7 then S 16 s else 0) else if w = 2 then (if S 17 s = 0 then 0 else 1) else if w = 3 then (if S 18 s = 0 then 0 else 1) else if w = 4 then S 19 s else if w = 5 then S 20 s else if w = 6 then dues S s else if w = 7 then S 21 s else S 22 s
def opWaited (S : SS) (s c : Int) : Int := if ¬ ((0 ≤ s ∧ s ≤ S 8 0 - 1) ∧ (-1 ≤ c ∧ c ≤ 6)) then -1 else wsum S s c 7
def opLine (S : SS) (w i : Int) : Int := if ¬ (0 ≤ w ∧ w ≤ 1) ∨ i < 0 then -1 else if i < S 31 w then S 32 (30 * w + i) else -4
def opIn (S : SS) (s w i : Int) : Int := if ¬ (0 ≤ s ∧ s ≤ 7) ∨ ¬ (0 ≤ w ∧ w ≤ 1) ∨ i < 0 then -1 else if i < S 33 (2 * s + w) then S 34 (30 * (2 * s + w) + i) else -4
def pOut (S : SS) (n : Nat) : Bool := decide (S 15 n = 8)
def pLeft (S : SS) (n : Nat) : Bool := decide (S 18 n ≠ 0)
def pLate (S : SS) (n : Nat) : Bool := decide (S 17 n ≠ 0)
def pIn (S : SS) (n : Nat) : Bool := decide (0 ≤ S 15 n ∧ S 15 n < 8)
def opCnt (S : SS) (w : Int) : Int := if w = 0 then S 8 0 else if w = 1 then S 24 0 else if w = 2 then S 0 0 else if w = 3 then cnt (pOut S) (S 8 0).toNat else if w = 4 then cnt (pLeft S) (S 8 0).toNat else if w = 5 then cnt (pLate S) (S 8 0).toNat else if w = 6 then cnt (pIn S) (S 8 0).toNat else if w = 7 then sev S 8 else -1
theorem mt2_eq (S : SS) : lts (mt1 S) (mt1 S 8 0).toNat = mt2 S := by
  rw [mt2, mt1, sts_ne (k := 8) (by decide) (by decide)]
set_option maxRecDepth 100000 in
set_option maxHeartbeats 4000000 in
theorem lp4_X6_minutes {T S9 : SS} {n : Int} {k : Nat} (hB : BB T) (hk : AW l D cA A ad yX6_minutes cX6_minutes 4 (some .int) rm_X6_minutes (PR (some (.inl (S9 0 0))) (S9) sz) 0 0 lvR (VR (agd T (T 8 0).toNat)) sz 131 [some (.inr (some (50, 0))), some (.inl n), some (.inl (k : Int)), none] []) : ∀ (f j : Nat), j + f = (T 8 0).toNat → AW l D cA A ad yX6_minutes cX6_minutes 4 (some .int) rm_X6_minutes (PR (some (.inl (S9 0 0))) (S9) sz) 0 0 lvR (VR (agd T j)) sz 94 [some (.inr (some (50, 0))), some (.inl n), some (.inl (k : Int)), some (.inl ((j : Int)))] [] := by
  have hm := hB.m
  simp only [bsm] at hm
  intro f
  induction f with
  | zero =>
    intro j hj
    refine aw_iload_n dX6_minutes_94 rfl rfl ?_
    refine aw_aload_n dX6_minutes_95 rfl rfl ?_
    refine rr_getS (S0 := T) dX6_minutes_96 flX6_119 rfl (by decide) (fun _ => agd_ne (by decide) _ _) ?_
    refine aw_icmp_ge (tgt := 131) dX6_minutes_99 (by decide) (by omega) (by omega) (fun c_99 => ?_) (fun c_99 => absurd c_99 (by omega))
    rw [show j = (T 8 0).toNat by omega]
    exact AW.lss hk (And.intro rfl (And.intro rfl (And.intro rfl trivial)))
  | succ f ih =>
    intro j hj
    have hsh := hB.sh (s := (j : Int)) (by omega) (by omega)
    simp only [bsh] at hsh
    have e21 : agd T j 21 j = T 21 j := agd_hi j j (by omega)
    have hr21 : Rg (agd T j 21 j) := by rw [e21]; omega
    refine aw_iload_n dX6_minutes_94 rfl rfl ?_
    refine aw_aload_n dX6_minutes_95 rfl rfl ?_
    refine rr_getS (S0 := T) dX6_minutes_96 flX6_119 rfl (by decide) (fun _ => agd_ne (by decide) _ _) ?_
    refine aw_icmp_ge (tgt := 131) dX6_minutes_99 (by decide) (by omega) (by omega) (fun c_99 => absurd c_99 (by omega)) (fun c_99 => ?_)
    refine aw_aload_n dX6_minutes_102 rfl rfl ?_
    refine rr_getA dX6_minutes_103 flX6_66 rfl (by decide) ?_
    refine aw_iload_n dX6_minutes_106 rfl rfl ?_
    refine aw_dup2 dX6_minutes_107 ?_
    refine rr_iald (n := 30) (S0 := agd T j) dX6_minutes_108 rfl rfl rfl (by omega) (by omega) (fun _ => rfl) ?_
    refine aw_aload_n dX6_minutes_109 rfl rfl ?_
    refine rr_getA dX6_minutes_110 flX6_66 rfl (by decide) ?_
    refine aw_iload_n dX6_minutes_113 rfl rfl ?_
    refine rr_iald (n := 30) (S0 := agd T j) dX6_minutes_114 rfl rfl rfl (by omega) (by omega) (fun _ => rfl) ?_
    refine aw_if_le (tgt := 122) dX6_minutes_115 (by decide) (by omega) (fun c_115 => ?_) (fun c_115 => ?_)
    · refine aw_iconst dX6_minutes_122 ?_
      refine aw_isub dX6_minutes_123 ?_
      refine rr_iast (n := 30) dX6_minutes_124 rfl rfl rfl (by omega) (by omega) ?_
      refine aw_iinc dX6_minutes_125 rfl (by decide) ?_
      refine aw_goto (tgt := 94) dX6_minutes_128 (by decide) ?_
      refine AW.lsV (ih (j + 1) (by omega)) (And.intro rfl (And.intro rfl (And.intro rfl (And.intro rfl trivial)))) ?_
      congr 1
      rw [agd, e21]
      first | rw [if_pos (by omega)] | rw [if_neg (by omega)]
    · refine aw_iconst dX6_minutes_118 ?_
      refine aw_goto (tgt := 123) dX6_minutes_119 (by decide) ?_
      refine aw_isub dX6_minutes_123 ?_
      refine rr_iast (n := 30) dX6_minutes_124 rfl rfl rfl (by omega) (by omega) ?_
      refine aw_iinc dX6_minutes_125 rfl (by decide) ?_
      refine aw_goto (tgt := 94) dX6_minutes_128 (by decide) ?_
      refine AW.lsV (ih (j + 1) (by omega)) (And.intro rfl (And.intro rfl (And.intro rfl (And.intro rfl trivial)))) ?_
      congr 1
      rw [agd, e21]
      first | rw [if_pos (by omega)] | rw [if_neg (by omega)]
set_option maxRecDepth 100000 in
set_option maxHeartbeats 4000000 in
theorem lp3_X6_minutes {T S9 : SS} {n : Int} {k : Nat} (hok : ∀ j : Nat, j < 8 → okM j 1 (mvS T j 33 (2 * (j : Int) + 1)).toNat (mvS T j) 0 false) (hk : AW l D cA A ad yX6_minutes cX6_minutes 4 (some .int) rm_X6_minutes (PR (some (.inl (S9 0 0))) (S9) sz) 0 0 lvR (VR (mvS T 8)) sz 82 [some (.inr (some (50, 0))), some (.inl n), some (.inl (k : Int)), none] []) : ∀ (f j : Nat), j + f = 8 → AW l D cA A ad yX6_minutes cX6_minutes 4 (some .int) rm_X6_minutes (PR (some (.inl (S9 0 0))) (S9) sz) 0 0 lvR (VR (mvS T j)) sz 64 [some (.inr (some (50, 0))), some (.inl n), some (.inl (k : Int)), some (.inl ((j : Int)))] [] := by
  intro f
  induction f with
  | zero =>
    intro j hj
    refine aw_iload_n dX6_minutes_64 rfl rfl ?_
    refine aw_bipush dX6_minutes_65 (by decide) ?_
    refine aw_icmp_ge (tgt := 82) dX6_minutes_67 (by decide) (by omega) (by omega) (fun c_67 => ?_) (fun c_67 => absurd c_67 (by omega))
    rw [show j = 8 by omega]
    exact AW.lss hk (And.intro rfl (And.intro rfl (And.intro rfl trivial)))
  | succ f ih =>
    intro j hj
    refine aw_iload_n dX6_minutes_64 rfl rfl ?_
    refine aw_bipush dX6_minutes_65 (by decide) ?_
    refine aw_icmp_ge (tgt := 82) dX6_minutes_67 (by decide) (by omega) (by omega) (fun c_67 => absurd c_67 (by omega)) (fun c_67 => ?_)
    refine aw_aload_n dX6_minutes_70 rfl rfl ?_
    refine aw_iload_n dX6_minutes_71 rfl rfl ?_
    refine aw_iconst dX6_minutes_72 ?_
    refine aw_callV (c_X6_moves (sec := j) (w := 1) (by omega) (Or.inr rfl) (hok j (by omega))) mv_X6_moves mlX6_161 dX6_minutes_73 rfl rfl (by decide) rfl (Nat.le_of_ble_eq_true rfl) rfl ?_
    rintro _ _ _ _ ⟨rfl, rfl, rfl, rfl⟩
    refine aw_iinc dX6_minutes_76 rfl (by decide) ?_
    refine aw_goto (tgt := 64) dX6_minutes_79 (by decide) ?_
    exact AW.lss (ih (j + 1) (by omega)) (And.intro rfl (And.intro rfl (And.intro rfl (And.intro rfl trivial))))
set_option maxRecDepth 100000 in
set_option maxHeartbeats 4000000 in
theorem lp2_X6_minutes {T S9 : SS} {n : Int} {k : Nat} (hok : ∀ j : Nat, j < 8 → okM (7 - j) 0 (mvN T j 33 (2 * ((7 - j : Nat) : Int) + 0)).toNat (mvN T j) 0 false) (hk : AW l D cA A ad yX6_minutes cX6_minutes 4 (some .int) rm_X6_minutes (PR (some (.inl (S9 0 0))) (S9) sz) 0 0 lvR (VR (mvN T 8)) sz 62 [some (.inr (some (50, 0))), some (.inl n), some (.inl (k : Int)), none] []) : ∀ (f j : Nat), j + f = 8 → AW l D cA A ad yX6_minutes cX6_minutes 4 (some .int) rm_X6_minutes (PR (some (.inl (S9 0 0))) (S9) sz) 0 0 lvR (VR (mvN T j)) sz 46 [some (.inr (some (50, 0))), some (.inl n), some (.inl (k : Int)), some (.inl (7 - (j : Int)))] [] := by
  intro f
  induction f with
  | zero =>
    intro j hj
    refine aw_iload_n dX6_minutes_46 rfl rfl ?_
    refine aw_if_lt (tgt := 62) dX6_minutes_47 (by decide) (by omega) (fun c_47 => ?_) (fun c_47 => absurd c_47 (by omega))
    rw [show j = 8 by omega]
    exact AW.lss hk (And.intro rfl (And.intro rfl (And.intro rfl trivial)))
  | succ f ih =>
    intro j hj
    have ej : (7 : Int) - j = ((7 - j : Nat) : Int) := by omega
    refine aw_iload_n dX6_minutes_46 rfl rfl ?_
    refine aw_if_lt (tgt := 62) dX6_minutes_47 (by decide) (by omega) (fun c_47 => absurd c_47 (by omega)) (fun c_47 => ?_)
    refine aw_aload_n dX6_minutes_50 rfl rfl ?_
    refine aw_iload_n dX6_minutes_51 rfl rfl ?_
    refine aw_iconst dX6_minutes_52 ?_
    rw [ej]
    refine aw_callV (c_X6_moves (sec := 7 - j) (w := 0) (by omega) (Or.inl rfl) (hok j (by omega))) mv_X6_moves mlX6_161 dX6_minutes_53 rfl rfl (by decide) rfl (Nat.le_of_ble_eq_true rfl) rfl ?_
    rintro _ _ _ _ ⟨rfl, rfl, rfl, rfl⟩
    refine aw_iinc dX6_minutes_56 rfl (by decide) ?_
    refine aw_goto (tgt := 46) dX6_minutes_59 (by decide) ?_
    exact AW.lss (ih (j + 1) (by omega)) (And.intro rfl (And.intro rfl (And.intro rfl (And.intro (congrArg Sum.inl (by omega)) trivial))))
set_option maxRecDepth 100000 in
set_option maxHeartbeats 4000000 in
theorem md_X6_minutes {T S9 : SS} {n : Int} {k : Nat} (hok : okT T) (hk : AW l D cA A ad yX6_minutes cX6_minutes 4 (some .int) rm_X6_minutes (PR (some (.inl (S9 0 0))) (S9) sz) 0 0 lvR (VR (mt T)) sz 141 [some (.inr (some (50, 0))), some (.inl n), some (.inl (k : Int)), none] []) : AW l D cA A ad yX6_minutes cX6_minutes 4 (some .int) rm_X6_minutes (PR (some (.inl (S9 0 0))) (S9) sz) 0 0 lvR (VR T) sz 35 [some (.inr (some (50, 0))), some (.inl n), some (.inl (k : Int)), none] [] := by
  obtain ⟨hB, o1, hB1, o2, o3, o4, b4, b5, b6, e0, e8⟩ := hok
  refine aw_aload_n dX6_minutes_35 rfl rfl ?_
  refine aw_callV (c_X6_starts hB o1) mv_X6_starts mlX6_155 dX6_minutes_36 rfl rfl (by decide) rfl (Nat.le_of_ble_eq_true rfl) rfl ?_
  rintro _ _ _ _ ⟨rfl, rfl, rfl, rfl⟩
  refine aw_aload_n dX6_minutes_39 rfl rfl ?_
  refine aw_callV (c_X6_lates hB1 o2) mv_X6_lates mlX6_158 dX6_minutes_40 rfl rfl (by decide) rfl (Nat.le_of_ble_eq_true rfl) rfl ?_
  rintro _ _ _ _ ⟨rfl, rfl, rfl, rfl⟩
  rw [show lts (sts T (T 24 0).toNat) (sts T (T 24 0).toNat 8 0).toNat = mt2 T from mt2_eq T]
  refine aw_bipush dX6_minutes_43 (by decide) ?_
  refine aw_istore_n dX6_minutes_45 rfl (by decide) ?_
  refine AW.lss (lp2_X6_minutes (T := mt2 T) o3 ?_ 8 0 (by omega)) (And.intro rfl (And.intro rfl (And.intro rfl (And.intro rfl trivial))))
  refine aw_iconst dX6_minutes_62 ?_
  refine aw_istore_n dX6_minutes_63 rfl (by decide) ?_
  refine AW.lss (lp3_X6_minutes (T := mt3 T) o4 ?_ 8 0 (by omega)) (And.intro rfl (And.intro rfl (And.intro rfl (And.intro rfl trivial))))
  refine aw_aload_n dX6_minutes_82 rfl rfl ?_
  refine aw_iconst dX6_minutes_83 ?_
  refine aw_callV (c0_X6_comesIn b4) mv_X6_comesIn mlX6_164 dX6_minutes_84 rfl rfl (by decide) rfl (Nat.le_of_ble_eq_true rfl) rfl ?_
  rintro _ _ _ _ ⟨rfl, rfl, rfl, rfl⟩
  refine aw_aload_n dX6_minutes_87 rfl rfl ?_
  refine aw_iconst dX6_minutes_88 ?_
  refine aw_callV (c1_X6_comesIn b5) mv_X6_comesIn mlX6_164 dX6_minutes_89 rfl rfl (by decide) rfl (Nat.le_of_ble_eq_true rfl) rfl ?_
  rintro _ _ _ _ ⟨rfl, rfl, rfl, rfl⟩
  refine aw_iconst dX6_minutes_92 ?_
  refine aw_istore_n dX6_minutes_93 rfl (by decide) ?_
  refine AW.lss (lp4_X6_minutes (T := mt6 T) b6 ?_ (mt6 T 8 0).toNat 0 (by omega)) (And.intro rfl (And.intro rfl (And.intro rfl (And.intro rfl trivial))))
  rw [e8]
  refine aw_aload_n dX6_minutes_131 rfl rfl ?_
  refine aw_dup dX6_minutes_132 ?_
  refine rr_getS (S0 := T) dX6_minutes_133 flX6_112 rfl (by decide) (fun _ => by rw [agd_ne (by decide)]; exact e0 _) ?_
  refine aw_iconst dX6_minutes_136 ?_
  refine aw_iadd dX6_minutes_137 ?_
  refine rr_put dX6_minutes_138 flX6_112 rfl (by decide) rfl trivial ?_
  exact AW.lss hk (And.intro rfl (And.intro rfl (And.intro rfl trivial)))
set_option maxRecDepth 100000 in
set_option maxHeartbeats 4000000 in
theorem lp_X6_minutes {S9 : SS} {n : Int} (hn : 0 ≤ n ∧ n ≤ 300) (hok : ∀ j : Nat, j < n.toNat → okT (mts S j)) (h9 : S9 = mts S n.toNat) : ∀ (f k : Nat), k + f = n.toNat → AW l D cA A ad yX6_minutes cX6_minutes 4 (some .int) rm_X6_minutes (PR (some (.inl (S9 0 0))) (S9) sz) 0 0 lvR (VR (mts S k)) sz 30 [some (.inr (some (50, 0))), some (.inl n), some (.inl (k : Int)), none] [] := by
  intro f
  induction f with
  | zero =>
    intro k hk
    refine aw_iload_n dX6_minutes_30 rfl rfl ?_
    refine aw_iload_n dX6_minutes_31 rfl rfl ?_
    refine aw_icmp_ge (tgt := 147) dX6_minutes_32 (by decide) (by omega) (by omega) (fun c_32 => ?_) (fun c_32 => absurd c_32 (by omega))
    refine aw_aload_n dX6_minutes_147 rfl rfl ?_
    refine rr_getS dX6_minutes_148 flX6_112 rfl (by decide) (fun _ => rfl) ?_
    refine aw_iret dX6_minutes_151 rfl (Nat.zero_le _) (Nat.zero_le _) ?_
    rw [h9, show n.toNat = k by omega]
    exact ⟨rfl, rfl, rfl, rfl⟩
  | succ f ih =>
    intro k hk
    have ih2 := ih (k + 1) (by omega)
    refine aw_iload_n dX6_minutes_30 rfl rfl ?_
    refine aw_iload_n dX6_minutes_31 rfl rfl ?_
    refine aw_icmp_ge (tgt := 147) dX6_minutes_32 (by decide) (by omega) (by omega) (fun c_32 => absurd c_32 (by omega)) (fun c_32 => ?_)
    refine md_X6_minutes (hok k (by omega)) ?_
    refine aw_iinc dX6_minutes_141 rfl (by decide) ?_
    refine aw_goto (tgt := 30) dX6_minutes_144 (by decide) ?_
    exact AW.lss ih2 (And.intro rfl (And.intro rfl (And.intro rfl trivial)))
set_option maxRecDepth 100000 in
set_option maxHeartbeats 4000000 in
theorem c_X6_minutes {n : Int} (hB : BB S) (hn : Rg n) (hok : 1 ≤ n ∧ n ≤ 300 → S 0 0 + n ≤ 10000 → ∀ j : Nat, j < n.toNat → okT (mts S j)) : CT l D cA A ad yX6_minutes cX6_minutes 4 (some .int) rm_X6_minutes [.inr (some (50, 0)), .inl n] lvR (VR S) sz (PR (some (.inl (opMin S n).1)) ((opMin S n).2) sz) := by
  refine CT.of2 [some (.inr (some (50, 0))), some (.inl n), none, none] (by decide) (Nat.le_of_ble_eq_true rfl) rfl ?_
  have hm := hB.m
  simp only [bsm] at hm
  refine aw_iload_n dX6_minutes_0 rfl rfl ?_
  refine aw_iconst dX6_minutes_1 ?_
  refine aw_sipush dX6_minutes_2 (by decide) ?_
  refine aw_callS (c_X6_isIn (by omega) (by omega) (by omega)) mv_X6_isIn mlX6_108 dX6_minutes_5 (by decide) rfl (Nat.le_of_ble_eq_true rfl) rfl ?_
  rintro _ _ _ _ ⟨⟨rfl, h1⟩ | ⟨rfl, h1⟩, rfl, rfl, rfl⟩
  · refine aw_if_ne (tgt := 13) dX6_minutes_8 (by decide) (by omega) (fun _ => ?_) (fun c_8 => absurd c_8 (by decide))
    refine aw_aload_n dX6_minutes_13 rfl rfl ?_
    refine rr_getS dX6_minutes_14 flX6_112 rfl (by decide) (fun _ => rfl) ?_
    refine aw_iload_n dX6_minutes_17 rfl rfl ?_
    refine aw_iadd dX6_minutes_18 ?_
    refine aw_sipush dX6_minutes_19 (by decide) ?_
    refine aw_icmp_le (tgt := 28) dX6_minutes_22 (by decide) (by omega) (by omega) (fun c_22 => ?_) (fun c_22 => ?_)
    · refine aw_iconst dX6_minutes_28 ?_
      refine aw_istore_n dX6_minutes_29 rfl (by decide) ?_
      have e : opMin S n = (mts S n.toNat 0 0, mts S n.toNat) := by
        unfold opMin
        rw [if_neg (by omega), if_neg (by omega)]
      rw [e]
      exact AW.lss (lp_X6_minutes (by omega) (hok (by omega) (by omega)) rfl n.toNat 0 (by omega)) (And.intro rfl (And.intro rfl (And.intro rfl trivial)))
    · refine aw_bipush dX6_minutes_25 (by decide) ?_
      refine aw_iret dX6_minutes_27 rfl (Nat.zero_le _) (Nat.zero_le _) ?_
      have e : opMin S n = (-3, S) := by
        unfold opMin
        repeat (first | rw [if_pos (by omega)] | rw [if_neg (by omega)])
      rw [e]
      exact ⟨rfl, rfl, rfl, rfl⟩
  · refine aw_if_ne (tgt := 13) dX6_minutes_8 (by decide) (by omega) (fun c_8 => absurd c_8 (by decide)) (fun _ => ?_)
    refine aw_iconst dX6_minutes_11 ?_
    refine aw_iret dX6_minutes_12 rfl (Nat.zero_le _) (Nat.zero_le _) ?_
    have e : opMin S n = (-1, S) := by
      unfold opMin
      repeat (first | rw [if_pos (by omega)] | rw [if_neg (by omega)])
    rw [e]
    exact ⟨rfl, rfl, rfl, rfl⟩
set_option maxRecDepth 100000 in
set_option maxHeartbeats 4000000 in
theorem t2_X6_dues {s : Int} (hB : BB S) (hs : 0 ≤ s ∧ s < 30) : AW l D cA A ad yX6_dues cX6_dues 4 (some .int) rm_X6_dues (PR (some (.inl (dues S s))) (S) sz) 0 0 lvR (VR S) sz 70 [some (.inr (some (50, 0))), some (.inl s), some (.inl (S 14 s)), some (.inl (due1 (S 14 s) (S 17 s)))] [] := by
  have hsh := hB.sh hs.1 hs.2
  simp only [bsh] at hsh
  have h0 : 0 ≤ due0 (S 14 s) ∧ due0 (S 14 s) ≤ 1000000 := by simp only [due0]; split <;> (try split) <;> omega
  have h1 : 0 ≤ due1 (S 14 s) (S 17 s) ∧ due1 (S 14 s) (S 17 s) ≤ 2000000 := by simp only [due1]; split <;> omega
  refine aw_iload_n dX6_dues_70 rfl rfl ?_
  refine aw_aload_n dX6_dues_71 rfl rfl ?_
  refine rr_getA dX6_dues_72 flX6_72 rfl (by decide) ?_
  refine aw_bipush dX6_dues_75 (by decide) ?_
  refine aw_iload_n dX6_dues_77 rfl rfl ?_
  refine aw_imul dX6_dues_78 ?_
  refine rr_iald (n := 210) dX6_dues_79 rfl rfl rfl (by omega) (by omega) (fun _ => rfl) ?_
  refine aw_bipush dX6_dues_80 (by decide) ?_
  refine aw_icmp_leW (tgt := 92) dX6_dues_82 (by decide) (fun c_82 => ?_) (fun c_82 => ?_)
  · refine aw_iconst dX6_dues_92 ?_
    refine aw_isub dX6_dues_93 ?_
    refine aw_istore_n dX6_dues_94 rfl (by decide) ?_
    refine aw_iload_n dX6_dues_95 rfl rfl ?_
    refine aw_iret dX6_dues_96 rfl (Nat.zero_le _) (Nat.zero_le _) ?_
    rw [dues, if_pos c_82]
    exact ⟨rfl, rfl, rfl, rfl⟩
  · refine aw_iload_n dX6_dues_85 rfl rfl ?_
    refine aw_bipush dX6_dues_86 (by decide) ?_
    refine aw_idiv dX6_dues_88 (by omega) (by omega) (by omega) (by omega) ?_
    refine aw_goto (tgt := 93) dX6_dues_89 (by decide) ?_
    refine aw_isub dX6_dues_93 ?_
    refine aw_istore_n dX6_dues_94 rfl (by decide) ?_
    refine aw_iload_n dX6_dues_95 rfl rfl ?_
    refine aw_iret dX6_dues_96 rfl (Nat.zero_le _) (Nat.zero_le _) ?_
    rw [dues, if_neg c_82]
    exact ⟨rfl, rfl, rfl, rfl⟩
set_option maxRecDepth 100000 in
set_option maxHeartbeats 4000000 in
theorem t1_X6_dues {s : Int} (hB : BB S) (hs : 0 ≤ s ∧ s < 30) : AW l D cA A ad yX6_dues cX6_dues 4 (some .int) rm_X6_dues (PR (some (.inl (dues S s))) (S) sz) 0 0 lvR (VR S) sz 50 [some (.inr (some (50, 0))), some (.inl s), some (.inl (S 14 s)), some (.inl (due0 (S 14 s)))] [] := by
  have hsh := hB.sh hs.1 hs.2
  simp only [bsh] at hsh
  have h0 : 0 ≤ due0 (S 14 s) ∧ due0 (S 14 s) ≤ 1000000 := by simp only [due0]; split <;> (try split) <;> omega
  refine aw_iload_n dX6_dues_50 rfl rfl ?_
  refine aw_aload_n dX6_dues_51 rfl rfl ?_
  refine rr_getA dX6_dues_52 flX6_54 rfl (by decide) ?_
  refine aw_iload_n dX6_dues_55 rfl rfl ?_
  refine rr_zald (n := 30) dX6_dues_56 rfl rfl rfl (by omega) (by omega) (fun _ => rfl) ?_
  refine aw_if_eq (tgt := 67) dX6_dues_57 (by decide) (by omega) (fun c_57 => ?_) (fun c_57 => ?_)
  · refine aw_iconst dX6_dues_67 ?_
    refine aw_iadd dX6_dues_68 ?_
    refine aw_istore_n dX6_dues_69 rfl (by decide) ?_
    refine AW.lss (t2_X6_dues hB hs) (And.intro rfl (And.intro rfl (And.intro rfl (And.intro (congrArg Sum.inl ?_) trivial))))
    rw [due1]
    first | rw [if_pos (by omega)] | rw [if_neg (by omega)]
  · refine aw_iload_n dX6_dues_60 rfl rfl ?_
    refine aw_bipush dX6_dues_61 (by decide) ?_
    refine aw_idiv dX6_dues_63 (by omega) (by omega) (by omega) (by omega) ?_
    refine aw_goto (tgt := 68) dX6_dues_64 (by decide) ?_
    refine aw_iadd dX6_dues_68 ?_
    refine aw_istore_n dX6_dues_69 rfl (by decide) ?_
    refine AW.lss (t2_X6_dues hB hs) (And.intro rfl (And.intro rfl (And.intro rfl (And.intro (congrArg Sum.inl ?_) trivial))))
    rw [due1]
    first | rw [if_pos (by omega)] | rw [if_neg (by omega)]
set_option maxRecDepth 100000 in
set_option maxHeartbeats 4000000 in
theorem c_X6_dues {s : Int} (hB : BB S) (hs : 0 ≤ s ∧ s < 30) : CT l D cA A ad yX6_dues cX6_dues 4 (some .int) rm_X6_dues [.inr (some (50, 0)), .inl s] lvR (VR S) sz (PR (some (.inl (dues S s))) (S) sz) := by
  refine CT.of2 [some (.inr (some (50, 0))), some (.inl s), none, none] (by decide) (Nat.le_of_ble_eq_true rfl) rfl ?_
  have hsh := hB.sh hs.1 hs.2
  simp only [bsh] at hsh
  refine aw_aload_n dX6_dues_0 rfl rfl ?_
  refine rr_getA dX6_dues_1 flX6_45 rfl (by decide) ?_
  refine aw_iload_n dX6_dues_4 rfl rfl ?_
  refine rr_iald (n := 30) dX6_dues_5 rfl rfl rfl (by omega) (by omega) (fun _ => rfl) ?_
  refine aw_istore_n dX6_dues_6 rfl (by decide) ?_
  refine aw_iload_n dX6_dues_7 rfl rfl ?_
  refine aw_sipush dX6_dues_8 (by decide) ?_
  refine aw_icmp_gt (tgt := 20) dX6_dues_11 (by decide) (by omega) (by omega) (fun c_11 => ?_) (fun c_11 => ?_)
  · refine aw_iload_n dX6_dues_20 rfl rfl ?_
    refine aw_sipush dX6_dues_21 (by decide) ?_
    refine aw_icmp_gt (tgt := 41) dX6_dues_24 (by decide) (by omega) (by omega) (fun c_24 => ?_) (fun c_24 => ?_)
    · refine aw_ldc (n := 45000) dX6_dues_41 ctX6_167 (by decide) ?_
      refine aw_iload_n dX6_dues_43 rfl rfl ?_
      refine aw_iadd dX6_dues_44 ?_
      refine aw_sipush dX6_dues_45 (by decide) ?_
      refine aw_isub dX6_dues_48 ?_
      refine aw_istore_n dX6_dues_49 rfl (by decide) ?_
      refine AW.lss (t1_X6_dues hB hs) (And.intro rfl (And.intro rfl (And.intro rfl (And.intro (congrArg Sum.inl ?_) trivial))))
      rw [due0]
      first | rw [if_pos (by omega)] | rw [if_neg (by omega), if_pos (by omega)] | rw [if_neg (by omega), if_neg (by omega)]
    · refine aw_sipush dX6_dues_27 (by decide) ?_
      refine aw_iconst dX6_dues_30 ?_
      refine aw_iload_n dX6_dues_31 rfl rfl ?_
      refine aw_sipush dX6_dues_32 (by decide) ?_
      refine aw_isub dX6_dues_35 ?_
      refine aw_imul dX6_dues_36 ?_
      refine aw_iadd dX6_dues_37 ?_
      refine aw_goto (tgt := 49) dX6_dues_38 (by decide) ?_
      refine aw_istore_n dX6_dues_49 rfl (by decide) ?_
      refine AW.lss (t1_X6_dues hB hs) (And.intro rfl (And.intro rfl (And.intro rfl (And.intro (congrArg Sum.inl ?_) trivial))))
      rw [due0]
      first | rw [if_pos (by omega)] | rw [if_neg (by omega), if_pos (by omega)] | rw [if_neg (by omega), if_neg (by omega)]
  · refine aw_iconst dX6_dues_14 ?_
    refine aw_iload_n dX6_dues_15 rfl rfl ?_
    refine aw_imul dX6_dues_16 ?_
    refine aw_goto (tgt := 49) dX6_dues_17 (by decide) ?_
    refine aw_istore_n dX6_dues_49 rfl (by decide) ?_
    refine AW.lss (t1_X6_dues hB hs) (And.intro rfl (And.intro rfl (And.intro rfl (And.intro (congrArg Sum.inl ?_) trivial))))
    rw [due0]
    first | rw [if_pos (by omega)] | rw [if_neg (by omega), if_pos (by omega)] | rw [if_neg (by omega), if_neg (by omega)]
set_option maxRecDepth 100000 in
set_option maxHeartbeats 4000000 in
theorem c_X6_told {s w : Int} (hB : BB S) (hs : Rg s) (hw : Rg w) : CT l D cA A ad yX6_told cX6_told 3 (some .int) rm_X6_told [.inr (some (50, 0)), .inl s, .inl w] lvR (VR S) sz (PR (some (.inl (opTold S s w))) (S) sz) := by
  refine CT.of2 [some (.inr (some (50, 0))), some (.inl s), some (.inl w)] (by decide) (Nat.le_of_ble_eq_true rfl) rfl ?_
  have hm := hB.m
  simp only [bsm] at hm
  refine aw_iload_n dX6_told_0 rfl rfl ?_
  refine aw_iconst dX6_told_1 ?_
  refine aw_aload_n dX6_told_2 rfl rfl ?_
  refine rr_getS dX6_told_3 flX6_119 rfl (by decide) (fun _ => rfl) ?_
  refine aw_iconst dX6_told_6 ?_
  refine aw_isub dX6_told_7 ?_
  refine aw_callS (c_X6_isIn (by omega) (by omega) (by omega)) mv_X6_isIn mlX6_108 dX6_told_8 (by decide) rfl (Nat.le_of_ble_eq_true rfl) rfl ?_
  rintro _ _ _ _ ⟨⟨rfl, h1⟩ | ⟨rfl, h1⟩, rfl, rfl, rfl⟩
  · refine aw_if_eq (tgt := 24) dX6_told_11 (by decide) (by omega) (fun c_11 => absurd c_11 (by decide)) (fun _ => ?_)
    refine aw_iload_n dX6_told_14 rfl rfl ?_
    refine aw_iconst dX6_told_15 ?_
    refine aw_bipush dX6_told_16 (by decide) ?_
    refine aw_callS (c_X6_isIn (by omega) (by omega) (by omega)) mv_X6_isIn mlX6_108 dX6_told_18 (by decide) rfl (Nat.le_of_ble_eq_true rfl) rfl ?_
    rintro _ _ _ _ ⟨⟨rfl, h2⟩ | ⟨rfl, h2⟩, rfl, rfl, rfl⟩
    · refine aw_if_ne (tgt := 27) dX6_told_21 (by decide) (by omega) (fun _ => ?_) (fun c_21 => absurd c_21 (by decide))
      have hsh := hB.sh (s := s) (by omega) (by omega)
      simp only [bsh] at hsh
      rcases (show w = 0 ∨ w = 1 ∨ w = 2 ∨ w = 3 ∨ w = 4 ∨ w = 5 ∨ w = 6 ∨ w = 7 ∨ w = 8 by omega) with rfl | rfl | rfl | rfl | rfl | rfl | rfl | rfl | rfl
      · refine aw_iload_n dX6_told_27 rfl rfl ?_
        refine aw_tableIn (off := 48) (tgt := 76) dX6_told_28 (by decide) (by decide) (by decide) rfl (by decide) ?_
        refine aw_aload_n dX6_told_76 rfl rfl ?_
        refine rr_getA dX6_told_77 flX6_48 rfl (by decide) ?_
        refine aw_iload_n dX6_told_80 rfl rfl ?_
        refine rr_iald (n := 30) dX6_told_81 rfl rfl rfl (by omega) (by omega) (fun _ => rfl) ?_
        refine aw_iret dX6_told_82 rfl (Nat.zero_le _) (Nat.zero_le _) ?_
        unfold opTold
        rw [if_neg (by omega)]
        rw [if_pos rfl]
        exact ⟨rfl, rfl, rfl, rfl⟩
      · refine aw_iload_n dX6_told_27 rfl rfl ?_
        refine aw_tableIn (off := 55) (tgt := 83) dX6_told_28 (by decide) (by decide) (by decide) rfl (by decide) ?_
        refine aw_aload_n dX6_told_83 rfl rfl ?_
        refine rr_getA dX6_told_84 flX6_48 rfl (by decide) ?_
        refine aw_iload_n dX6_told_87 rfl rfl ?_
        refine rr_iald (n := 30) dX6_told_88 rfl rfl rfl (by omega) (by omega) (fun _ => rfl) ?_
        refine aw_iconst dX6_told_89 ?_
        refine aw_bipush dX6_told_90 (by decide) ?_
        refine aw_callS (c_X6_isIn (by omega) (by omega) (by omega)) mv_X6_isIn mlX6_108 dX6_told_92 (by decide) rfl (Nat.le_of_ble_eq_true rfl) rfl ?_
        rintro _ _ _ _ ⟨⟨rfl, h3⟩ | ⟨rfl, h3⟩, rfl, rfl, rfl⟩
        · refine aw_if_eq (tgt := 107) dX6_told_95 (by decide) (by omega) (fun c_95 => absurd c_95 (by decide)) (fun _ => ?_)
          refine aw_aload_n dX6_told_98 rfl rfl ?_
          refine rr_getA dX6_told_99 flX6_51 rfl (by decide) ?_
          refine aw_iload_n dX6_told_102 rfl rfl ?_
          refine rr_iald (n := 30) dX6_told_103 rfl rfl rfl (by omega) (by omega) (fun _ => rfl) ?_
          refine aw_goto (tgt := 108) dX6_told_104 (by decide) ?_
          refine aw_iret dX6_told_108 rfl (Nat.zero_le _) (Nat.zero_le _) ?_
          unfold opTold
          rw [if_neg (by omega)]
          rw [if_neg (by decide)]
          rw [if_pos rfl]
          first | rw [if_pos (by omega)] | rw [if_neg (by omega)]
          exact ⟨rfl, rfl, rfl, rfl⟩
        · refine aw_if_eq (tgt := 107) dX6_told_95 (by decide) (by omega) (fun _ => ?_) (fun c_95 => absurd c_95 (by decide))
          refine aw_iconst dX6_told_107 ?_
          refine aw_iret dX6_told_108 rfl (Nat.zero_le _) (Nat.zero_le _) ?_
          unfold opTold
          rw [if_neg (by omega)]
          rw [if_neg (by decide)]
          rw [if_pos rfl]
          first | rw [if_pos (by omega)] | rw [if_neg (by omega)]
          exact ⟨rfl, rfl, rfl, rfl⟩
      · refine aw_iload_n dX6_told_27 rfl rfl ?_
        refine aw_tableIn (off := 81) (tgt := 109) dX6_told_28 (by decide) (by decide) (by decide) rfl (by decide) ?_
        refine aw_aload_n dX6_told_109 rfl rfl ?_
        refine rr_getA dX6_told_110 flX6_54 rfl (by decide) ?_
        refine aw_iload_n dX6_told_113 rfl rfl ?_
        refine rr_zald (n := 30) dX6_told_114 rfl rfl rfl (by omega) (by omega) (fun _ => rfl) ?_
        refine aw_if_eq (tgt := 122) dX6_told_115 (by decide) (by omega) (fun c_115 => ?_) (fun c_115 => ?_)
        · refine aw_iconst dX6_told_122 ?_
          refine aw_iret dX6_told_123 rfl (Nat.zero_le _) (Nat.zero_le _) ?_
          unfold opTold
          rw [if_neg (by omega)]
          rw [if_neg (by decide)]
          rw [if_neg (by decide)]
          rw [if_pos rfl]
          first | rw [if_pos (by omega)] | rw [if_neg (by omega)]
          exact ⟨rfl, rfl, rfl, rfl⟩
        · refine aw_iconst dX6_told_118 ?_
          refine aw_goto (tgt := 123) dX6_told_119 (by decide) ?_
          refine aw_iret dX6_told_123 rfl (Nat.zero_le _) (Nat.zero_le _) ?_
          unfold opTold
          rw [if_neg (by omega)]
          rw [if_neg (by decide)]
          rw [if_neg (by decide)]
          rw [if_pos rfl]
          first | rw [if_pos (by omega)] | rw [if_neg (by omega)]
          exact ⟨rfl, rfl, rfl, rfl⟩
      · refine aw_iload_n dX6_told_27 rfl rfl ?_
        refine aw_tableIn (off := 96) (tgt := 124) dX6_told_28 (by decide) (by decide) (by decide) rfl (by decide) ?_
        refine aw_aload_n dX6_told_124 rfl rfl ?_
        refine rr_getA dX6_told_125 flX6_57 rfl (by decide) ?_
        refine aw_iload_n dX6_told_128 rfl rfl ?_
        refine rr_zald (n := 30) dX6_told_129 rfl rfl rfl (by omega) (by omega) (fun _ => rfl) ?_
        refine aw_if_eq (tgt := 137) dX6_told_130 (by decide) (by omega) (fun c_130 => ?_) (fun c_130 => ?_)
        · refine aw_iconst dX6_told_137 ?_
          refine aw_iret dX6_told_138 rfl (Nat.zero_le _) (Nat.zero_le _) ?_
          unfold opTold
          rw [if_neg (by omega)]
          rw [if_neg (by decide)]
          rw [if_neg (by decide)]
          rw [if_neg (by decide)]
          rw [if_pos rfl]
          first | rw [if_pos (by omega)] | rw [if_neg (by omega)]
          exact ⟨rfl, rfl, rfl, rfl⟩
        · refine aw_iconst dX6_told_133 ?_
          refine aw_goto (tgt := 138) dX6_told_134 (by decide) ?_
          refine aw_iret dX6_told_138 rfl (Nat.zero_le _) (Nat.zero_le _) ?_
          unfold opTold
          rw [if_neg (by omega)]
          rw [if_neg (by decide)]
          rw [if_neg (by decide)]
          rw [if_neg (by decide)]
          rw [if_pos rfl]
          first | rw [if_pos (by omega)] | rw [if_neg (by omega)]
          exact ⟨rfl, rfl, rfl, rfl⟩
      · refine aw_iload_n dX6_told_27 rfl rfl ?_
        refine aw_tableIn (off := 111) (tgt := 139) dX6_told_28 (by decide) (by decide) (by decide) rfl (by decide) ?_
        refine aw_aload_n dX6_told_139 rfl rfl ?_
        refine rr_getA dX6_told_140 flX6_60 rfl (by decide) ?_
        refine aw_iload_n dX6_told_143 rfl rfl ?_
        refine rr_iald (n := 30) dX6_told_144 rfl rfl rfl (by omega) (by omega) (fun _ => rfl) ?_
        refine aw_iret dX6_told_145 rfl (Nat.zero_le _) (Nat.zero_le _) ?_
        unfold opTold
        rw [if_neg (by omega)]
        rw [if_neg (by decide)]
        rw [if_neg (by decide)]
        rw [if_neg (by decide)]
        rw [if_neg (by decide)]
        rw [if_pos rfl]
        exact ⟨rfl, rfl, rfl, rfl⟩
      · refine aw_iload_n dX6_told_27 rfl rfl ?_
        refine aw_tableIn (off := 118) (tgt := 146) dX6_told_28 (by decide) (by decide) (by decide) rfl (by decide) ?_
        refine aw_aload_n dX6_told_146 rfl rfl ?_
        refine rr_getA dX6_told_147 flX6_63 rfl (by decide) ?_
        refine aw_iload_n dX6_told_150 rfl rfl ?_
        refine rr_iald (n := 30) dX6_told_151 rfl rfl rfl (by omega) (by omega) (fun _ => rfl) ?_
        refine aw_iret dX6_told_152 rfl (Nat.zero_le _) (Nat.zero_le _) ?_
        unfold opTold
        rw [if_neg (by omega)]
        rw [if_neg (by decide)]
        rw [if_neg (by decide)]
        rw [if_neg (by decide)]
        rw [if_neg (by decide)]
        rw [if_neg (by decide)]
        rw [if_pos rfl]
        exact ⟨rfl, rfl, rfl, rfl⟩
      · refine aw_iload_n dX6_told_27 rfl rfl ?_
        refine aw_tableIn (off := 125) (tgt := 153) dX6_told_28 (by decide) (by decide) (by decide) rfl (by decide) ?_
        refine aw_aload_n dX6_told_153 rfl rfl ?_
        refine aw_iload_n dX6_told_154 rfl rfl ?_
        refine aw_callV (c_X6_dues hB (by omega)) mv_X6_dues mlX6_168 dX6_told_155 rfl rfl (by decide) rfl (Nat.le_of_ble_eq_true rfl) rfl ?_
        rintro _ _ _ _ ⟨rfl, rfl, rfl, rfl⟩
        refine aw_iret dX6_told_158 rfl (Nat.zero_le _) (Nat.zero_le _) ?_
        unfold opTold
        rw [if_neg (by omega)]
        rw [if_neg (by decide)]
        rw [if_neg (by decide)]
        rw [if_neg (by decide)]
        rw [if_neg (by decide)]
        rw [if_neg (by decide)]
        rw [if_neg (by decide)]
        rw [if_pos rfl]
        exact ⟨rfl, rfl, rfl, rfl⟩
      · refine aw_iload_n dX6_told_27 rfl rfl ?_
        refine aw_tableIn (off := 131) (tgt := 159) dX6_told_28 (by decide) (by decide) (by decide) rfl (by decide) ?_
        refine aw_aload_n dX6_told_159 rfl rfl ?_
        refine rr_getA dX6_told_160 flX6_66 rfl (by decide) ?_
        refine aw_iload_n dX6_told_163 rfl rfl ?_
        refine rr_iald (n := 30) dX6_told_164 rfl rfl rfl (by omega) (by omega) (fun _ => rfl) ?_
        refine aw_iret dX6_told_165 rfl (Nat.zero_le _) (Nat.zero_le _) ?_
        unfold opTold
        rw [if_neg (by omega)]
        rw [if_neg (by decide)]
        rw [if_neg (by decide)]
        rw [if_neg (by decide)]
        rw [if_neg (by decide)]
        rw [if_neg (by decide)]
        rw [if_neg (by decide)]
        rw [if_neg (by decide)]
        rw [if_pos rfl]
        exact ⟨rfl, rfl, rfl, rfl⟩
      · refine aw_iload_n dX6_told_27 rfl rfl ?_
        refine aw_tableOut (tgt := 166) dX6_told_28 (by omega) (by omega) (by decide) ?_
        refine aw_aload_n dX6_told_166 rfl rfl ?_
        refine rr_getA dX6_told_167 flX6_69 rfl (by decide) ?_
        refine aw_iload_n dX6_told_170 rfl rfl ?_
        refine rr_iald (n := 30) dX6_told_171 rfl rfl rfl (by omega) (by omega) (fun _ => rfl) ?_
        refine aw_iret dX6_told_172 rfl (Nat.zero_le _) (Nat.zero_le _) ?_
        unfold opTold
        rw [if_neg (by omega)]
        rw [if_neg (by decide)]
        rw [if_neg (by decide)]
        rw [if_neg (by decide)]
        rw [if_neg (by decide)]
        rw [if_neg (by decide)]
        rw [if_neg (by decide)]
        rw [if_neg (by decide)]
        rw [if_neg (by decide)]
        exact ⟨rfl, rfl, rfl, rfl⟩
    · refine aw_if_ne (tgt := 27) dX6_told_21 (by decide) (by omega) (fun c_21 => absurd c_21 (by decide)) (fun _ => ?_)
      refine aw_bipush dX6_told_24 (by decide) ?_
      refine aw_iret dX6_told_26 rfl (Nat.zero_le _) (Nat.zero_le _) ?_
      have e : opTold S s w = -9 := by
        unfold opTold
        rw [if_pos (by omega)]
      rw [e]
      exact ⟨rfl, rfl, rfl, rfl⟩
  · refine aw_if_eq (tgt := 24) dX6_told_11 (by decide) (by omega) (fun _ => ?_) (fun c_11 => absurd c_11 (by decide))
    refine aw_bipush dX6_told_24 (by decide) ?_
    refine aw_iret dX6_told_26 rfl (Nat.zero_le _) (Nat.zero_le _) ?_
    have e : opTold S s w = -9 := by
      unfold opTold
      rw [if_pos (by omega)]
    rw [e]
    exact ⟨rfl, rfl, rfl, rfl⟩
set_option maxRecDepth 100000 in
set_option maxHeartbeats 4000000 in
theorem lp_X6_waited {s c : Int} (hs : 0 ≤ s ∧ s < 30) (hc : -1 ≤ c ∧ c ≤ 6) : ∀ (f n : Nat), n + f = 7 → AW l D cA A ad yX6_waited cX6_waited 5 (some .int) rm_X6_waited (PR (some (.inl (wsum S s c 7))) (S) sz) 0 0 lvR (VR S) sz 31 [some (.inr (some (50, 0))), some (.inl s), some (.inl c), some (.inl (wsum S s c n)), some (.inl (n : Int))] [] := by
  intro f
  induction f with
  | zero =>
    intro n hn
    refine aw_iload dX6_waited_31 rfl ?_
    refine aw_bipush dX6_waited_33 (by decide) ?_
    refine aw_icmp_ge (tgt := 73) dX6_waited_35 (by decide) (by omega) (by omega) (fun c_35 => ?_) (fun c_35 => absurd c_35 (by omega))
    refine aw_iload_n dX6_waited_73 rfl rfl ?_
    refine aw_iret dX6_waited_74 rfl (Nat.zero_le _) (Nat.zero_le _) ?_
    rw [show n = 7 by omega]
    exact ⟨rfl, rfl, rfl, rfl⟩
  | succ f ih =>
    intro n hn
    refine aw_iload dX6_waited_31 rfl ?_
    refine aw_bipush dX6_waited_33 (by decide) ?_
    refine aw_icmp_ge (tgt := 73) dX6_waited_35 (by decide) (by omega) (by omega) (fun c_35 => absurd c_35 (by omega)) (fun c_35 => ?_)
    refine aw_iload_n dX6_waited_38 rfl rfl ?_
    refine aw_iload_n dX6_waited_39 rfl rfl ?_
    refine aw_if_lt (tgt := 49) dX6_waited_40 (by decide) (by omega) (fun c_40 => ?_) (fun c_40 => ?_)
    · refine aw_aload_n dX6_waited_49 rfl rfl ?_
      refine rr_getA dX6_waited_50 flX6_72 rfl (by decide) ?_
      refine aw_bipush dX6_waited_53 (by decide) ?_
      refine aw_iload_n dX6_waited_55 rfl rfl ?_
      refine aw_imul dX6_waited_56 ?_
      refine aw_iload dX6_waited_57 rfl ?_
      refine aw_iadd dX6_waited_59 ?_
      refine rr_iald (n := 210) dX6_waited_60 rfl rfl rfl (by omega) (by omega) (fun _ => rfl) ?_
      refine aw_goto (tgt := 65) dX6_waited_61 (by decide) ?_
      refine aw_iadd dX6_waited_65 ?_
      refine aw_istore_n dX6_waited_66 rfl (by decide) ?_
      refine aw_iinc dX6_waited_67 rfl (by decide) ?_
      refine aw_goto (tgt := 31) dX6_waited_70 (by decide) ?_
      refine AW.lss (ih (n + 1) (by omega)) (And.intro rfl (And.intro rfl (And.intro rfl (And.intro (congrArg Sum.inl ?_) (And.intro rfl trivial)))))
      rw [wsum]
      first | rw [if_pos (by omega)] | rw [if_neg (by omega)]
    · refine aw_iload_n dX6_waited_43 rfl rfl ?_
      refine aw_iload dX6_waited_44 rfl ?_
      refine aw_icmp_ne (tgt := 64) dX6_waited_46 (by decide) (by omega) (by omega) (fun c_46 => ?_) (fun c_46 => ?_)
      · refine aw_iconst dX6_waited_64 ?_
        refine aw_iadd dX6_waited_65 ?_
        refine aw_istore_n dX6_waited_66 rfl (by decide) ?_
        refine aw_iinc dX6_waited_67 rfl (by decide) ?_
        refine aw_goto (tgt := 31) dX6_waited_70 (by decide) ?_
        refine AW.lss (ih (n + 1) (by omega)) (And.intro rfl (And.intro rfl (And.intro rfl (And.intro (congrArg Sum.inl ?_) (And.intro rfl trivial)))))
        rw [wsum]
        first | rw [if_pos (by omega)] | rw [if_neg (by omega)]
      · refine aw_aload_n dX6_waited_49 rfl rfl ?_
        refine rr_getA dX6_waited_50 flX6_72 rfl (by decide) ?_
        refine aw_bipush dX6_waited_53 (by decide) ?_
        refine aw_iload_n dX6_waited_55 rfl rfl ?_
        refine aw_imul dX6_waited_56 ?_
        refine aw_iload dX6_waited_57 rfl ?_
        refine aw_iadd dX6_waited_59 ?_
        refine rr_iald (n := 210) dX6_waited_60 rfl rfl rfl (by omega) (by omega) (fun _ => rfl) ?_
        refine aw_goto (tgt := 65) dX6_waited_61 (by decide) ?_
        refine aw_iadd dX6_waited_65 ?_
        refine aw_istore_n dX6_waited_66 rfl (by decide) ?_
        refine aw_iinc dX6_waited_67 rfl (by decide) ?_
        refine aw_goto (tgt := 31) dX6_waited_70 (by decide) ?_
        refine AW.lss (ih (n + 1) (by omega)) (And.intro rfl (And.intro rfl (And.intro rfl (And.intro (congrArg Sum.inl ?_) (And.intro rfl trivial)))))
        rw [wsum]
        first | rw [if_pos (by omega)] | rw [if_neg (by omega)]
set_option maxRecDepth 100000 in
set_option maxHeartbeats 4000000 in
theorem c_X6_waited {s c : Int} (hB : BB S) (hs : Rg s) (hc : Rg c) : CT l D cA A ad yX6_waited cX6_waited 5 (some .int) rm_X6_waited [.inr (some (50, 0)), .inl s, .inl c] lvR (VR S) sz (PR (some (.inl (opWaited S s c))) (S) sz) := by
  refine CT.of2 [some (.inr (some (50, 0))), some (.inl s), some (.inl c), none, none] (by decide) (Nat.le_of_ble_eq_true rfl) rfl ?_
  have hm := hB.m
  simp only [bsm] at hm
  refine aw_iload_n dX6_waited_0 rfl rfl ?_
  refine aw_iconst dX6_waited_1 ?_
  refine aw_aload_n dX6_waited_2 rfl rfl ?_
  refine rr_getS dX6_waited_3 flX6_119 rfl (by decide) (fun _ => rfl) ?_
  refine aw_iconst dX6_waited_6 ?_
  refine aw_isub dX6_waited_7 ?_
  refine aw_callS (c_X6_isIn (by omega) (by omega) (by omega)) mv_X6_isIn mlX6_108 dX6_waited_8 (by decide) rfl (Nat.le_of_ble_eq_true rfl) rfl ?_
  rintro _ _ _ _ ⟨⟨rfl, h1⟩ | ⟨rfl, h1⟩, rfl, rfl, rfl⟩
  · refine aw_if_eq (tgt := 24) dX6_waited_11 (by decide) (by omega) (fun c_11 => absurd c_11 (by decide)) (fun _ => ?_)
    refine aw_iload_n dX6_waited_14 rfl rfl ?_
    refine aw_iconst dX6_waited_15 ?_
    refine aw_bipush dX6_waited_16 (by decide) ?_
    refine aw_callS (c_X6_isIn (by omega) (by omega) (by omega)) mv_X6_isIn mlX6_108 dX6_waited_18 (by decide) rfl (Nat.le_of_ble_eq_true rfl) rfl ?_
    rintro _ _ _ _ ⟨⟨rfl, h2⟩ | ⟨rfl, h2⟩, rfl, rfl, rfl⟩
    · refine aw_if_ne (tgt := 26) dX6_waited_21 (by decide) (by omega) (fun _ => ?_) (fun c_21 => absurd c_21 (by decide))
      refine aw_iconst dX6_waited_26 ?_
      refine aw_istore_n dX6_waited_27 rfl (by decide) ?_
      refine aw_iconst dX6_waited_28 ?_
      refine aw_istore dX6_waited_29 (by decide) ?_
      have e : opWaited S s c = wsum S s c 7 := by
        unfold opWaited
        rw [if_neg (by omega)]
      rw [e]
      exact AW.lss (lp_X6_waited (by omega) (by omega) 7 0 (by omega)) (And.intro rfl (And.intro rfl (And.intro rfl (And.intro rfl (And.intro rfl trivial)))))
    · refine aw_if_ne (tgt := 26) dX6_waited_21 (by decide) (by omega) (fun c_21 => absurd c_21 (by decide)) (fun _ => ?_)
      refine aw_iconst dX6_waited_24 ?_
      refine aw_iret dX6_waited_25 rfl (Nat.zero_le _) (Nat.zero_le _) ?_
      have e : opWaited S s c = -1 := by
        unfold opWaited
        rw [if_pos (by omega)]
      rw [e]
      exact ⟨rfl, rfl, rfl, rfl⟩
  · refine aw_if_eq (tgt := 24) dX6_waited_11 (by decide) (by omega) (fun _ => ?_) (fun c_11 => absurd c_11 (by decide))
    refine aw_iconst dX6_waited_24 ?_
    refine aw_iret dX6_waited_25 rfl (Nat.zero_le _) (Nat.zero_le _) ?_
    have e : opWaited S s c = -1 := by
      unfold opWaited
      rw [if_pos (by omega)]
    rw [e]
    exact ⟨rfl, rfl, rfl, rfl⟩
set_option maxRecDepth 100000 in
set_option maxHeartbeats 4000000 in
theorem c_X6_line {w i : Int} (hB : BB S) (hw : Rg w) (hi : Rg i) : CT l D cA A ad yX6_line cX6_line 3 (some .int) rm_X6_line [.inr (some (50, 0)), .inl w, .inl i] lvR (VR S) sz (PR (some (.inl (opLine S w i))) (S) sz) := by
  refine CT.of2 [some (.inr (some (50, 0))), some (.inl w), some (.inl i)] (by decide) (Nat.le_of_ble_eq_true rfl) rfl ?_
  refine aw_iload_n dX6_line_0 rfl rfl ?_
  refine aw_iconst dX6_line_1 ?_
  refine aw_iconst dX6_line_2 ?_
  refine aw_callS (c_X6_isIn (by omega) (by omega) (by omega)) mv_X6_isIn mlX6_108 dX6_line_3 (by decide) rfl (Nat.le_of_ble_eq_true rfl) rfl ?_
  rintro _ _ _ _ ⟨⟨rfl, h1⟩ | ⟨rfl, h1⟩, rfl, rfl, rfl⟩
  · refine aw_if_eq (tgt := 13) dX6_line_6 (by decide) (by omega) (fun c_6 => absurd c_6 (by decide)) (fun _ => ?_)
    refine aw_iload_n dX6_line_9 rfl rfl ?_
    refine aw_if_ge (tgt := 15) dX6_line_10 (by decide) (by omega) (fun c_10 => ?_) (fun c_10 => ?_)
    · have hln := hB.ln (w := w) (by omega) (by omega)
      refine aw_iload_n dX6_line_15 rfl rfl ?_
      refine aw_aload_n dX6_line_16 rfl rfl ?_
      refine rr_getA dX6_line_17 flX6_93 rfl (by decide) ?_
      refine aw_iload_n dX6_line_20 rfl rfl ?_
      refine rr_iald (n := 2) dX6_line_21 rfl rfl rfl (by omega) (by omega) (fun _ => rfl) ?_
      refine aw_icmp_ge (tgt := 39) dX6_line_22 (by decide) (by omega) (by omega) (fun c_22 => ?_) (fun c_22 => ?_)
      · refine aw_bipush dX6_line_39 (by decide) ?_
        refine aw_iret dX6_line_41 rfl (Nat.zero_le _) (Nat.zero_le _) ?_
        unfold opLine
        rw [if_neg (by omega)]
        first | rw [if_pos (by omega)] | rw [if_neg (by omega)]
        exact ⟨rfl, rfl, rfl, rfl⟩
      · refine aw_aload_n dX6_line_25 rfl rfl ?_
        refine rr_getA dX6_line_26 flX6_96 rfl (by decide) ?_
        refine aw_bipush dX6_line_29 (by decide) ?_
        refine aw_iload_n dX6_line_31 rfl rfl ?_
        refine aw_imul dX6_line_32 ?_
        refine aw_iload_n dX6_line_33 rfl rfl ?_
        refine aw_iadd dX6_line_34 ?_
        refine rr_iald (n := 60) dX6_line_35 rfl rfl rfl (by omega) (by omega) (fun _ => rfl) ?_
        refine aw_goto (tgt := 41) dX6_line_36 (by decide) ?_
        refine aw_iret dX6_line_41 rfl (Nat.zero_le _) (Nat.zero_le _) ?_
        unfold opLine
        rw [if_neg (by omega)]
        first | rw [if_pos (by omega)] | rw [if_neg (by omega)]
        exact ⟨rfl, rfl, rfl, rfl⟩
    · refine aw_iconst dX6_line_13 ?_
      refine aw_iret dX6_line_14 rfl (Nat.zero_le _) (Nat.zero_le _) ?_
      unfold opLine
      rw [if_pos (by omega)]
      exact ⟨rfl, rfl, rfl, rfl⟩
  · refine aw_if_eq (tgt := 13) dX6_line_6 (by decide) (by omega) (fun _ => ?_) (fun c_6 => absurd c_6 (by decide))
    refine aw_iconst dX6_line_13 ?_
    refine aw_iret dX6_line_14 rfl (Nat.zero_le _) (Nat.zero_le _) ?_
    unfold opLine
    rw [if_pos (by omega)]
    exact ⟨rfl, rfl, rfl, rfl⟩
set_option maxRecDepth 100000 in
set_option maxHeartbeats 4000000 in
theorem c_X6_in {s w i : Int} (hB : BB S) (hs : Rg s) (hw : Rg w) (hi : Rg i) : CT l D cA A ad yX6_in cX6_in 4 (some .int) rm_X6_in [.inr (some (50, 0)), .inl s, .inl w, .inl i] lvR (VR S) sz (PR (some (.inl (opIn S s w i))) (S) sz) := by
  refine CT.of2 [some (.inr (some (50, 0))), some (.inl s), some (.inl w), some (.inl i)] (by decide) (Nat.le_of_ble_eq_true rfl) rfl ?_
  refine aw_iload_n dX6_in_0 rfl rfl ?_
  refine aw_iconst dX6_in_1 ?_
  refine aw_bipush dX6_in_2 (by decide) ?_
  refine aw_callS (c_X6_isIn (by omega) (by omega) (by omega)) mv_X6_isIn mlX6_108 dX6_in_4 (by decide) rfl (Nat.le_of_ble_eq_true rfl) rfl ?_
  rintro _ _ _ _ ⟨⟨rfl, h1⟩ | ⟨rfl, h1⟩, rfl, rfl, rfl⟩
  · refine aw_if_eq (tgt := 23) dX6_in_7 (by decide) (by omega) (fun c_7 => absurd c_7 (by decide)) (fun _ => ?_)
    refine aw_iload_n dX6_in_10 rfl rfl ?_
    refine aw_iconst dX6_in_11 ?_
    refine aw_iconst dX6_in_12 ?_
    refine aw_callS (c_X6_isIn (by omega) (by omega) (by omega)) mv_X6_isIn mlX6_108 dX6_in_13 (by decide) rfl (Nat.le_of_ble_eq_true rfl) rfl ?_
    rintro _ _ _ _ ⟨⟨rfl, h2⟩ | ⟨rfl, h2⟩, rfl, rfl, rfl⟩
    · refine aw_if_eq (tgt := 23) dX6_in_16 (by decide) (by omega) (fun c_16 => absurd c_16 (by decide)) (fun _ => ?_)
      refine aw_iload_n dX6_in_19 rfl rfl ?_
      refine aw_if_ge (tgt := 25) dX6_in_20 (by decide) (by omega) (fun c_20 => ?_) (fun c_20 => ?_)
      · have hln := hB.iM (a := 2 * s + w) (by omega) (by omega)
        refine aw_iload_n dX6_in_25 rfl rfl ?_
        refine aw_aload_n dX6_in_26 rfl rfl ?_
        refine rr_getA dX6_in_27 flX6_99 rfl (by decide) ?_
        refine aw_iconst dX6_in_30 ?_
        refine aw_iload_n dX6_in_31 rfl rfl ?_
        refine aw_imul dX6_in_32 ?_
        refine aw_iload_n dX6_in_33 rfl rfl ?_
        refine aw_iadd dX6_in_34 ?_
        refine rr_iald (n := 16) dX6_in_35 rfl rfl rfl (by omega) (by omega) (fun _ => rfl) ?_
        refine aw_icmp_ge (tgt := 57) dX6_in_36 (by decide) (by omega) (by omega) (fun c_36 => ?_) (fun c_36 => ?_)
        · refine aw_bipush dX6_in_57 (by decide) ?_
          refine aw_iret dX6_in_59 rfl (Nat.zero_le _) (Nat.zero_le _) ?_
          unfold opIn
          rw [if_neg (by omega)]
          first | rw [if_pos (by omega)] | rw [if_neg (by omega)]
          exact ⟨rfl, rfl, rfl, rfl⟩
        · refine aw_aload_n dX6_in_39 rfl rfl ?_
          refine rr_getA dX6_in_40 flX6_102 rfl (by decide) ?_
          refine aw_bipush dX6_in_43 (by decide) ?_
          refine aw_iconst dX6_in_45 ?_
          refine aw_iload_n dX6_in_46 rfl rfl ?_
          refine aw_imul dX6_in_47 ?_
          refine aw_iload_n dX6_in_48 rfl rfl ?_
          refine aw_iadd dX6_in_49 ?_
          refine aw_imul dX6_in_50 ?_
          refine aw_iload_n dX6_in_51 rfl rfl ?_
          refine aw_iadd dX6_in_52 ?_
          refine rr_iald (n := 480) dX6_in_53 rfl rfl rfl (by omega) (by omega) (fun _ => rfl) ?_
          refine aw_goto (tgt := 59) dX6_in_54 (by decide) ?_
          refine aw_iret dX6_in_59 rfl (Nat.zero_le _) (Nat.zero_le _) ?_
          unfold opIn
          rw [if_neg (by omega)]
          first | rw [if_pos (by omega)] | rw [if_neg (by omega)]
          exact ⟨rfl, rfl, rfl, rfl⟩
      · refine aw_iconst dX6_in_23 ?_
        refine aw_iret dX6_in_24 rfl (Nat.zero_le _) (Nat.zero_le _) ?_
        unfold opIn
        rw [if_pos (by omega)]
        exact ⟨rfl, rfl, rfl, rfl⟩
    · refine aw_if_eq (tgt := 23) dX6_in_16 (by decide) (by omega) (fun _ => ?_) (fun c_16 => absurd c_16 (by decide))
      refine aw_iconst dX6_in_23 ?_
      refine aw_iret dX6_in_24 rfl (Nat.zero_le _) (Nat.zero_le _) ?_
      unfold opIn
      rw [if_pos (by omega)]
      exact ⟨rfl, rfl, rfl, rfl⟩
  · refine aw_if_eq (tgt := 23) dX6_in_7 (by decide) (by omega) (fun _ => ?_) (fun c_7 => absurd c_7 (by decide))
    refine aw_iconst dX6_in_23 ?_
    refine aw_iret dX6_in_24 rfl (Nat.zero_le _) (Nat.zero_le _) ?_
    unfold opIn
    rw [if_pos (by omega)]
    exact ⟨rfl, rfl, rfl, rfl⟩
theorem sev1_bd (S : SS) (x : Int) : 0 ≤ sev1 S x ∧ sev1 S x ≤ 2 := by
  have h1 := b2i_01 (decide (0 < S 33 (2 * x)))
  have h2 := b2i_01 (decide (0 < S 33 (2 * x + 1)))
  simp only [sev1]
  omega
theorem sev_bd (S : SS) (n : Nat) : 0 ≤ sev S n ∧ sev S n ≤ 2 := by
  induction n with
  | zero => simp [sev]
  | succ n ih =>
    have := sev1_bd S n
    simp only [sev]
    split <;> omega
set_option maxRecDepth 100000 in
set_option maxHeartbeats 4000000 in
theorem lp_X6_several (hB : BB S) : ∀ (f n : Nat), n + f = 8 → AW l D cA A ad yX6_several cX6_several 4 (some .int) rm_X6_several (PR (some (.inl (sev S 8))) (S) sz) 0 0 lvR (VR S) sz 4 [some (.inr (some (50, 0))), some (.inl (sev S n)), some (.inl (n : Int)), none] [] := by
  intro f
  induction f with
  | zero =>
    intro n hn
    have hb := sev_bd S n
    refine aw_iload_n dX6_several_4 rfl rfl ?_
    refine aw_bipush dX6_several_5 (by decide) ?_
    refine aw_icmp_ge (tgt := 72) dX6_several_7 (by decide) (by omega) (by omega) (fun c_7 => ?_) (fun c_7 => absurd c_7 (by omega))
    refine aw_iload_n dX6_several_72 rfl rfl ?_
    refine aw_iret dX6_several_73 rfl (Nat.zero_le _) (Nat.zero_le _) ?_
    rw [show n = 8 by omega]
    exact ⟨rfl, rfl, rfl, rfl⟩
  | succ f ih =>
    intro n hn
    have hb := sev_bd S n
    have hb1 := sev1_bd S n
    have hsc := hB.sc (i := (n : Int)) (by omega) (by omega)
    simp only [bsc] at hsc
    have hi1 := hB.iM (a := 2 * (n : Int)) (by omega) (by omega)
    have hi2 := hB.iM (a := 2 * (n : Int) + 1) (by omega) (by omega)
    refine aw_iload_n dX6_several_4 rfl rfl ?_
    refine aw_bipush dX6_several_5 (by decide) ?_
    refine aw_icmp_ge (tgt := 72) dX6_several_7 (by decide) (by omega) (by omega) (fun c_7 => absurd c_7 (by omega)) (fun c_7 => ?_)
    refine aw_aload_n dX6_several_10 rfl rfl ?_
    refine rr_getA dX6_several_11 flX6_99 rfl (by decide) ?_
    refine aw_iconst dX6_several_14 ?_
    refine aw_iload_n dX6_several_15 rfl rfl ?_
    refine aw_imul dX6_several_16 ?_
    refine rr_iald (n := 16) dX6_several_17 rfl rfl rfl (by omega) (by omega) (fun _ => rfl) ?_
    refine aw_if_le (tgt := 25) dX6_several_18 (by decide) (by omega) (fun c_18 => ?_) (fun c_18 => ?_)
    · refine aw_iconst dX6_several_25 ?_
      refine aw_aload_n dX6_several_26 rfl rfl ?_
      refine rr_getA dX6_several_27 flX6_99 rfl (by decide) ?_
      refine aw_iconst dX6_several_30 ?_
      refine aw_iload_n dX6_several_31 rfl rfl ?_
      refine aw_imul dX6_several_32 ?_
      refine aw_iconst dX6_several_33 ?_
      refine aw_iadd dX6_several_34 ?_
      refine rr_iald (n := 16) dX6_several_35 rfl rfl rfl (by omega) (by omega) (fun _ => rfl) ?_
      refine aw_if_le (tgt := 43) dX6_several_36 (by decide) (by omega) (fun c_36 => ?_) (fun c_36 => ?_)
      · refine aw_iconst dX6_several_43 ?_
        refine aw_iadd dX6_several_44 ?_
        refine aw_istore_n dX6_several_45 rfl (by decide) ?_
        refine aw_aload_n dX6_several_46 rfl rfl ?_
        refine rr_getA dX6_several_47 flX6_20 rfl (by decide) ?_
        refine aw_iload_n dX6_several_50 rfl rfl ?_
        refine rr_zald (n := 8) dX6_several_51 rfl rfl rfl (by omega) (by omega) (fun _ => rfl) ?_
        refine aw_if_ne (tgt := 64) dX6_several_52 (by decide) (by omega) (fun c_52 => ?_) (fun c_52 => ?_)
        · refine aw_iload_n dX6_several_64 rfl rfl ?_
          refine aw_istore_n dX6_several_65 rfl (by decide) ?_
          refine aw_iinc dX6_several_66 rfl (by decide) ?_
          refine aw_goto (tgt := 4) dX6_several_69 (by decide) ?_
          first
          | (exfalso; omega)
          | (have es : sev1 S n = 1 + 1 := by (unfold sev1; rw [decide_eq_true (show 0 < S 33 (2 * (n : Int)) by omega), decide_eq_true (show 0 < S 33 (2 * (n : Int) + 1) by omega)]; rfl)
             refine AW.lss (ih (n + 1) (by omega)) (And.intro rfl (And.intro (congrArg Sum.inl ?_) (And.intro rfl trivial)))
             rw [sev, es]
             first | (rw [if_pos (by omega)]; done) | (rw [if_neg (by omega)]; done))
          | (have es : sev1 S n = 1 + 0 := by (unfold sev1; rw [decide_eq_true (show 0 < S 33 (2 * (n : Int)) by omega), decide_eq_false (show ¬ 0 < S 33 (2 * (n : Int) + 1) by omega)]; rfl)
             refine AW.lss (ih (n + 1) (by omega)) (And.intro rfl (And.intro (congrArg Sum.inl ?_) (And.intro rfl trivial)))
             rw [sev, es]
             first | (rw [if_pos (by omega)]; done) | (rw [if_neg (by omega)]; done))
          | (have es : sev1 S n = 0 + 1 := by (unfold sev1; rw [decide_eq_false (show ¬ 0 < S 33 (2 * (n : Int)) by omega), decide_eq_true (show 0 < S 33 (2 * (n : Int) + 1) by omega)]; rfl)
             refine AW.lss (ih (n + 1) (by omega)) (And.intro rfl (And.intro (congrArg Sum.inl ?_) (And.intro rfl trivial)))
             rw [sev, es]
             first | (rw [if_pos (by omega)]; done) | (rw [if_neg (by omega)]; done))
          | (have es : sev1 S n = 0 + 0 := by (unfold sev1; rw [decide_eq_false (show ¬ 0 < S 33 (2 * (n : Int)) by omega), decide_eq_false (show ¬ 0 < S 33 (2 * (n : Int) + 1) by omega)]; rfl)
             refine AW.lss (ih (n + 1) (by omega)) (And.intro rfl (And.intro (congrArg Sum.inl ?_) (And.intro rfl trivial)))
             rw [sev, es]
             first | (rw [if_pos (by omega)]; done) | (rw [if_neg (by omega)]; done))
        · refine aw_iload_n dX6_several_55 rfl rfl ?_
          refine aw_iload_n dX6_several_56 rfl rfl ?_
          refine aw_icmp_le (tgt := 64) dX6_several_57 (by decide) (by omega) (by omega) (fun c_57 => ?_) (fun c_57 => ?_)
          · refine aw_iload_n dX6_several_64 rfl rfl ?_
            refine aw_istore_n dX6_several_65 rfl (by decide) ?_
            refine aw_iinc dX6_several_66 rfl (by decide) ?_
            refine aw_goto (tgt := 4) dX6_several_69 (by decide) ?_
            first
            | (exfalso; omega)
            | (have es : sev1 S n = 1 + 1 := by (unfold sev1; rw [decide_eq_true (show 0 < S 33 (2 * (n : Int)) by omega), decide_eq_true (show 0 < S 33 (2 * (n : Int) + 1) by omega)]; rfl)
               refine AW.lss (ih (n + 1) (by omega)) (And.intro rfl (And.intro (congrArg Sum.inl ?_) (And.intro rfl trivial)))
               rw [sev, es]
               first | (rw [if_pos (by omega)]; done) | (rw [if_neg (by omega)]; done))
            | (have es : sev1 S n = 1 + 0 := by (unfold sev1; rw [decide_eq_true (show 0 < S 33 (2 * (n : Int)) by omega), decide_eq_false (show ¬ 0 < S 33 (2 * (n : Int) + 1) by omega)]; rfl)
               refine AW.lss (ih (n + 1) (by omega)) (And.intro rfl (And.intro (congrArg Sum.inl ?_) (And.intro rfl trivial)))
               rw [sev, es]
               first | (rw [if_pos (by omega)]; done) | (rw [if_neg (by omega)]; done))
            | (have es : sev1 S n = 0 + 1 := by (unfold sev1; rw [decide_eq_false (show ¬ 0 < S 33 (2 * (n : Int)) by omega), decide_eq_true (show 0 < S 33 (2 * (n : Int) + 1) by omega)]; rfl)
               refine AW.lss (ih (n + 1) (by omega)) (And.intro rfl (And.intro (congrArg Sum.inl ?_) (And.intro rfl trivial)))
               rw [sev, es]
               first | (rw [if_pos (by omega)]; done) | (rw [if_neg (by omega)]; done))
            | (have es : sev1 S n = 0 + 0 := by (unfold sev1; rw [decide_eq_false (show ¬ 0 < S 33 (2 * (n : Int)) by omega), decide_eq_false (show ¬ 0 < S 33 (2 * (n : Int) + 1) by omega)]; rfl)
               refine AW.lss (ih (n + 1) (by omega)) (And.intro rfl (And.intro (congrArg Sum.inl ?_) (And.intro rfl trivial)))
               rw [sev, es]
               first | (rw [if_pos (by omega)]; done) | (rw [if_neg (by omega)]; done))
          · refine aw_iload_n dX6_several_60 rfl rfl ?_
            refine aw_goto (tgt := 65) dX6_several_61 (by decide) ?_
            refine aw_istore_n dX6_several_65 rfl (by decide) ?_
            refine aw_iinc dX6_several_66 rfl (by decide) ?_
            refine aw_goto (tgt := 4) dX6_several_69 (by decide) ?_
            first
            | (exfalso; omega)
            | (have es : sev1 S n = 1 + 1 := by (unfold sev1; rw [decide_eq_true (show 0 < S 33 (2 * (n : Int)) by omega), decide_eq_true (show 0 < S 33 (2 * (n : Int) + 1) by omega)]; rfl)
               refine AW.lss (ih (n + 1) (by omega)) (And.intro rfl (And.intro (congrArg Sum.inl ?_) (And.intro rfl trivial)))
               rw [sev, es]
               first | (rw [if_pos (by omega)]; done) | (rw [if_neg (by omega)]; done))
            | (have es : sev1 S n = 1 + 0 := by (unfold sev1; rw [decide_eq_true (show 0 < S 33 (2 * (n : Int)) by omega), decide_eq_false (show ¬ 0 < S 33 (2 * (n : Int) + 1) by omega)]; rfl)
               refine AW.lss (ih (n + 1) (by omega)) (And.intro rfl (And.intro (congrArg Sum.inl ?_) (And.intro rfl trivial)))
               rw [sev, es]
               first | (rw [if_pos (by omega)]; done) | (rw [if_neg (by omega)]; done))
            | (have es : sev1 S n = 0 + 1 := by (unfold sev1; rw [decide_eq_false (show ¬ 0 < S 33 (2 * (n : Int)) by omega), decide_eq_true (show 0 < S 33 (2 * (n : Int) + 1) by omega)]; rfl)
               refine AW.lss (ih (n + 1) (by omega)) (And.intro rfl (And.intro (congrArg Sum.inl ?_) (And.intro rfl trivial)))
               rw [sev, es]
               first | (rw [if_pos (by omega)]; done) | (rw [if_neg (by omega)]; done))
            | (have es : sev1 S n = 0 + 0 := by (unfold sev1; rw [decide_eq_false (show ¬ 0 < S 33 (2 * (n : Int)) by omega), decide_eq_false (show ¬ 0 < S 33 (2 * (n : Int) + 1) by omega)]; rfl)
               refine AW.lss (ih (n + 1) (by omega)) (And.intro rfl (And.intro (congrArg Sum.inl ?_) (And.intro rfl trivial)))
               rw [sev, es]
               first | (rw [if_pos (by omega)]; done) | (rw [if_neg (by omega)]; done))
      · refine aw_iconst dX6_several_39 ?_
        refine aw_goto (tgt := 44) dX6_several_40 (by decide) ?_
        refine aw_iadd dX6_several_44 ?_
        refine aw_istore_n dX6_several_45 rfl (by decide) ?_
        refine aw_aload_n dX6_several_46 rfl rfl ?_
        refine rr_getA dX6_several_47 flX6_20 rfl (by decide) ?_
        refine aw_iload_n dX6_several_50 rfl rfl ?_
        refine rr_zald (n := 8) dX6_several_51 rfl rfl rfl (by omega) (by omega) (fun _ => rfl) ?_
        refine aw_if_ne (tgt := 64) dX6_several_52 (by decide) (by omega) (fun c_52 => ?_) (fun c_52 => ?_)
        · refine aw_iload_n dX6_several_64 rfl rfl ?_
          refine aw_istore_n dX6_several_65 rfl (by decide) ?_
          refine aw_iinc dX6_several_66 rfl (by decide) ?_
          refine aw_goto (tgt := 4) dX6_several_69 (by decide) ?_
          first
          | (exfalso; omega)
          | (have es : sev1 S n = 1 + 1 := by (unfold sev1; rw [decide_eq_true (show 0 < S 33 (2 * (n : Int)) by omega), decide_eq_true (show 0 < S 33 (2 * (n : Int) + 1) by omega)]; rfl)
             refine AW.lss (ih (n + 1) (by omega)) (And.intro rfl (And.intro (congrArg Sum.inl ?_) (And.intro rfl trivial)))
             rw [sev, es]
             first | (rw [if_pos (by omega)]; done) | (rw [if_neg (by omega)]; done))
          | (have es : sev1 S n = 1 + 0 := by (unfold sev1; rw [decide_eq_true (show 0 < S 33 (2 * (n : Int)) by omega), decide_eq_false (show ¬ 0 < S 33 (2 * (n : Int) + 1) by omega)]; rfl)
             refine AW.lss (ih (n + 1) (by omega)) (And.intro rfl (And.intro (congrArg Sum.inl ?_) (And.intro rfl trivial)))
             rw [sev, es]
             first | (rw [if_pos (by omega)]; done) | (rw [if_neg (by omega)]; done))
          | (have es : sev1 S n = 0 + 1 := by (unfold sev1; rw [decide_eq_false (show ¬ 0 < S 33 (2 * (n : Int)) by omega), decide_eq_true (show 0 < S 33 (2 * (n : Int) + 1) by omega)]; rfl)
             refine AW.lss (ih (n + 1) (by omega)) (And.intro rfl (And.intro (congrArg Sum.inl ?_) (And.intro rfl trivial)))
             rw [sev, es]
             first | (rw [if_pos (by omega)]; done) | (rw [if_neg (by omega)]; done))
          | (have es : sev1 S n = 0 + 0 := by (unfold sev1; rw [decide_eq_false (show ¬ 0 < S 33 (2 * (n : Int)) by omega), decide_eq_false (show ¬ 0 < S 33 (2 * (n : Int) + 1) by omega)]; rfl)
             refine AW.lss (ih (n + 1) (by omega)) (And.intro rfl (And.intro (congrArg Sum.inl ?_) (And.intro rfl trivial)))
             rw [sev, es]
             first | (rw [if_pos (by omega)]; done) | (rw [if_neg (by omega)]; done))
        · refine aw_iload_n dX6_several_55 rfl rfl ?_
          refine aw_iload_n dX6_several_56 rfl rfl ?_
          refine aw_icmp_le (tgt := 64) dX6_several_57 (by decide) (by omega) (by omega) (fun c_57 => ?_) (fun c_57 => ?_)
          · refine aw_iload_n dX6_several_64 rfl rfl ?_
            refine aw_istore_n dX6_several_65 rfl (by decide) ?_
            refine aw_iinc dX6_several_66 rfl (by decide) ?_
            refine aw_goto (tgt := 4) dX6_several_69 (by decide) ?_
            first
            | (exfalso; omega)
            | (have es : sev1 S n = 1 + 1 := by (unfold sev1; rw [decide_eq_true (show 0 < S 33 (2 * (n : Int)) by omega), decide_eq_true (show 0 < S 33 (2 * (n : Int) + 1) by omega)]; rfl)
               refine AW.lss (ih (n + 1) (by omega)) (And.intro rfl (And.intro (congrArg Sum.inl ?_) (And.intro rfl trivial)))
               rw [sev, es]
               first | (rw [if_pos (by omega)]; done) | (rw [if_neg (by omega)]; done))
            | (have es : sev1 S n = 1 + 0 := by (unfold sev1; rw [decide_eq_true (show 0 < S 33 (2 * (n : Int)) by omega), decide_eq_false (show ¬ 0 < S 33 (2 * (n : Int) + 1) by omega)]; rfl)
               refine AW.lss (ih (n + 1) (by omega)) (And.intro rfl (And.intro (congrArg Sum.inl ?_) (And.intro rfl trivial)))
               rw [sev, es]
               first | (rw [if_pos (by omega)]; done) | (rw [if_neg (by omega)]; done))
            | (have es : sev1 S n = 0 + 1 := by (unfold sev1; rw [decide_eq_false (show ¬ 0 < S 33 (2 * (n : Int)) by omega), decide_eq_true (show 0 < S 33 (2 * (n : Int) + 1) by omega)]; rfl)
               refine AW.lss (ih (n + 1) (by omega)) (And.intro rfl (And.intro (congrArg Sum.inl ?_) (And.intro rfl trivial)))
               rw [sev, es]
               first | (rw [if_pos (by omega)]; done) | (rw [if_neg (by omega)]; done))
            | (have es : sev1 S n = 0 + 0 := by (unfold sev1; rw [decide_eq_false (show ¬ 0 < S 33 (2 * (n : Int)) by omega), decide_eq_false (show ¬ 0 < S 33 (2 * (n : Int) + 1) by omega)]; rfl)
               refine AW.lss (ih (n + 1) (by omega)) (And.intro rfl (And.intro (congrArg Sum.inl ?_) (And.intro rfl trivial)))
               rw [sev, es]
               first | (rw [if_pos (by omega)]; done) | (rw [if_neg (by omega)]; done))
          · refine aw_iload_n dX6_several_60 rfl rfl ?_
            refine aw_goto (tgt := 65) dX6_several_61 (by decide) ?_
            refine aw_istore_n dX6_several_65 rfl (by decide) ?_
            refine aw_iinc dX6_several_66 rfl (by decide) ?_
            refine aw_goto (tgt := 4) dX6_several_69 (by decide) ?_
            first
            | (exfalso; omega)
            | (have es : sev1 S n = 1 + 1 := by (unfold sev1; rw [decide_eq_true (show 0 < S 33 (2 * (n : Int)) by omega), decide_eq_true (show 0 < S 33 (2 * (n : Int) + 1) by omega)]; rfl)
               refine AW.lss (ih (n + 1) (by omega)) (And.intro rfl (And.intro (congrArg Sum.inl ?_) (And.intro rfl trivial)))
               rw [sev, es]
               first | (rw [if_pos (by omega)]; done) | (rw [if_neg (by omega)]; done))
            | (have es : sev1 S n = 1 + 0 := by (unfold sev1; rw [decide_eq_true (show 0 < S 33 (2 * (n : Int)) by omega), decide_eq_false (show ¬ 0 < S 33 (2 * (n : Int) + 1) by omega)]; rfl)
               refine AW.lss (ih (n + 1) (by omega)) (And.intro rfl (And.intro (congrArg Sum.inl ?_) (And.intro rfl trivial)))
               rw [sev, es]
               first | (rw [if_pos (by omega)]; done) | (rw [if_neg (by omega)]; done))
            | (have es : sev1 S n = 0 + 1 := by (unfold sev1; rw [decide_eq_false (show ¬ 0 < S 33 (2 * (n : Int)) by omega), decide_eq_true (show 0 < S 33 (2 * (n : Int) + 1) by omega)]; rfl)
               refine AW.lss (ih (n + 1) (by omega)) (And.intro rfl (And.intro (congrArg Sum.inl ?_) (And.intro rfl trivial)))
               rw [sev, es]
               first | (rw [if_pos (by omega)]; done) | (rw [if_neg (by omega)]; done))
            | (have es : sev1 S n = 0 + 0 := by (unfold sev1; rw [decide_eq_false (show ¬ 0 < S 33 (2 * (n : Int)) by omega), decide_eq_false (show ¬ 0 < S 33 (2 * (n : Int) + 1) by omega)]; rfl)
               refine AW.lss (ih (n + 1) (by omega)) (And.intro rfl (And.intro (congrArg Sum.inl ?_) (And.intro rfl trivial)))
               rw [sev, es]
               first | (rw [if_pos (by omega)]; done) | (rw [if_neg (by omega)]; done))
    · refine aw_iconst dX6_several_21 ?_
      refine aw_goto (tgt := 26) dX6_several_22 (by decide) ?_
      refine aw_aload_n dX6_several_26 rfl rfl ?_
      refine rr_getA dX6_several_27 flX6_99 rfl (by decide) ?_
      refine aw_iconst dX6_several_30 ?_
      refine aw_iload_n dX6_several_31 rfl rfl ?_
      refine aw_imul dX6_several_32 ?_
      refine aw_iconst dX6_several_33 ?_
      refine aw_iadd dX6_several_34 ?_
      refine rr_iald (n := 16) dX6_several_35 rfl rfl rfl (by omega) (by omega) (fun _ => rfl) ?_
      refine aw_if_le (tgt := 43) dX6_several_36 (by decide) (by omega) (fun c_36 => ?_) (fun c_36 => ?_)
      · refine aw_iconst dX6_several_43 ?_
        refine aw_iadd dX6_several_44 ?_
        refine aw_istore_n dX6_several_45 rfl (by decide) ?_
        refine aw_aload_n dX6_several_46 rfl rfl ?_
        refine rr_getA dX6_several_47 flX6_20 rfl (by decide) ?_
        refine aw_iload_n dX6_several_50 rfl rfl ?_
        refine rr_zald (n := 8) dX6_several_51 rfl rfl rfl (by omega) (by omega) (fun _ => rfl) ?_
        refine aw_if_ne (tgt := 64) dX6_several_52 (by decide) (by omega) (fun c_52 => ?_) (fun c_52 => ?_)
        · refine aw_iload_n dX6_several_64 rfl rfl ?_
          refine aw_istore_n dX6_several_65 rfl (by decide) ?_
          refine aw_iinc dX6_several_66 rfl (by decide) ?_
          refine aw_goto (tgt := 4) dX6_several_69 (by decide) ?_
          first
          | (exfalso; omega)
          | (have es : sev1 S n = 1 + 1 := by (unfold sev1; rw [decide_eq_true (show 0 < S 33 (2 * (n : Int)) by omega), decide_eq_true (show 0 < S 33 (2 * (n : Int) + 1) by omega)]; rfl)
             refine AW.lss (ih (n + 1) (by omega)) (And.intro rfl (And.intro (congrArg Sum.inl ?_) (And.intro rfl trivial)))
             rw [sev, es]
             first | (rw [if_pos (by omega)]; done) | (rw [if_neg (by omega)]; done))
          | (have es : sev1 S n = 1 + 0 := by (unfold sev1; rw [decide_eq_true (show 0 < S 33 (2 * (n : Int)) by omega), decide_eq_false (show ¬ 0 < S 33 (2 * (n : Int) + 1) by omega)]; rfl)
             refine AW.lss (ih (n + 1) (by omega)) (And.intro rfl (And.intro (congrArg Sum.inl ?_) (And.intro rfl trivial)))
             rw [sev, es]
             first | (rw [if_pos (by omega)]; done) | (rw [if_neg (by omega)]; done))
          | (have es : sev1 S n = 0 + 1 := by (unfold sev1; rw [decide_eq_false (show ¬ 0 < S 33 (2 * (n : Int)) by omega), decide_eq_true (show 0 < S 33 (2 * (n : Int) + 1) by omega)]; rfl)
             refine AW.lss (ih (n + 1) (by omega)) (And.intro rfl (And.intro (congrArg Sum.inl ?_) (And.intro rfl trivial)))
             rw [sev, es]
             first | (rw [if_pos (by omega)]; done) | (rw [if_neg (by omega)]; done))
          | (have es : sev1 S n = 0 + 0 := by (unfold sev1; rw [decide_eq_false (show ¬ 0 < S 33 (2 * (n : Int)) by omega), decide_eq_false (show ¬ 0 < S 33 (2 * (n : Int) + 1) by omega)]; rfl)
             refine AW.lss (ih (n + 1) (by omega)) (And.intro rfl (And.intro (congrArg Sum.inl ?_) (And.intro rfl trivial)))
             rw [sev, es]
             first | (rw [if_pos (by omega)]; done) | (rw [if_neg (by omega)]; done))
        · refine aw_iload_n dX6_several_55 rfl rfl ?_
          refine aw_iload_n dX6_several_56 rfl rfl ?_
          refine aw_icmp_le (tgt := 64) dX6_several_57 (by decide) (by omega) (by omega) (fun c_57 => ?_) (fun c_57 => ?_)
          · refine aw_iload_n dX6_several_64 rfl rfl ?_
            refine aw_istore_n dX6_several_65 rfl (by decide) ?_
            refine aw_iinc dX6_several_66 rfl (by decide) ?_
            refine aw_goto (tgt := 4) dX6_several_69 (by decide) ?_
            first
            | (exfalso; omega)
            | (have es : sev1 S n = 1 + 1 := by (unfold sev1; rw [decide_eq_true (show 0 < S 33 (2 * (n : Int)) by omega), decide_eq_true (show 0 < S 33 (2 * (n : Int) + 1) by omega)]; rfl)
               refine AW.lss (ih (n + 1) (by omega)) (And.intro rfl (And.intro (congrArg Sum.inl ?_) (And.intro rfl trivial)))
               rw [sev, es]
               first | (rw [if_pos (by omega)]; done) | (rw [if_neg (by omega)]; done))
            | (have es : sev1 S n = 1 + 0 := by (unfold sev1; rw [decide_eq_true (show 0 < S 33 (2 * (n : Int)) by omega), decide_eq_false (show ¬ 0 < S 33 (2 * (n : Int) + 1) by omega)]; rfl)
               refine AW.lss (ih (n + 1) (by omega)) (And.intro rfl (And.intro (congrArg Sum.inl ?_) (And.intro rfl trivial)))
               rw [sev, es]
               first | (rw [if_pos (by omega)]; done) | (rw [if_neg (by omega)]; done))
            | (have es : sev1 S n = 0 + 1 := by (unfold sev1; rw [decide_eq_false (show ¬ 0 < S 33 (2 * (n : Int)) by omega), decide_eq_true (show 0 < S 33 (2 * (n : Int) + 1) by omega)]; rfl)
               refine AW.lss (ih (n + 1) (by omega)) (And.intro rfl (And.intro (congrArg Sum.inl ?_) (And.intro rfl trivial)))
               rw [sev, es]
               first | (rw [if_pos (by omega)]; done) | (rw [if_neg (by omega)]; done))
            | (have es : sev1 S n = 0 + 0 := by (unfold sev1; rw [decide_eq_false (show ¬ 0 < S 33 (2 * (n : Int)) by omega), decide_eq_false (show ¬ 0 < S 33 (2 * (n : Int) + 1) by omega)]; rfl)
               refine AW.lss (ih (n + 1) (by omega)) (And.intro rfl (And.intro (congrArg Sum.inl ?_) (And.intro rfl trivial)))
               rw [sev, es]
               first | (rw [if_pos (by omega)]; done) | (rw [if_neg (by omega)]; done))
          · refine aw_iload_n dX6_several_60 rfl rfl ?_
            refine aw_goto (tgt := 65) dX6_several_61 (by decide) ?_
            refine aw_istore_n dX6_several_65 rfl (by decide) ?_
            refine aw_iinc dX6_several_66 rfl (by decide) ?_
            refine aw_goto (tgt := 4) dX6_several_69 (by decide) ?_
            first
            | (exfalso; omega)
            | (have es : sev1 S n = 1 + 1 := by (unfold sev1; rw [decide_eq_true (show 0 < S 33 (2 * (n : Int)) by omega), decide_eq_true (show 0 < S 33 (2 * (n : Int) + 1) by omega)]; rfl)
               refine AW.lss (ih (n + 1) (by omega)) (And.intro rfl (And.intro (congrArg Sum.inl ?_) (And.intro rfl trivial)))
               rw [sev, es]
               first | (rw [if_pos (by omega)]; done) | (rw [if_neg (by omega)]; done))
            | (have es : sev1 S n = 1 + 0 := by (unfold sev1; rw [decide_eq_true (show 0 < S 33 (2 * (n : Int)) by omega), decide_eq_false (show ¬ 0 < S 33 (2 * (n : Int) + 1) by omega)]; rfl)
               refine AW.lss (ih (n + 1) (by omega)) (And.intro rfl (And.intro (congrArg Sum.inl ?_) (And.intro rfl trivial)))
               rw [sev, es]
               first | (rw [if_pos (by omega)]; done) | (rw [if_neg (by omega)]; done))
            | (have es : sev1 S n = 0 + 1 := by (unfold sev1; rw [decide_eq_false (show ¬ 0 < S 33 (2 * (n : Int)) by omega), decide_eq_true (show 0 < S 33 (2 * (n : Int) + 1) by omega)]; rfl)
               refine AW.lss (ih (n + 1) (by omega)) (And.intro rfl (And.intro (congrArg Sum.inl ?_) (And.intro rfl trivial)))
               rw [sev, es]
               first | (rw [if_pos (by omega)]; done) | (rw [if_neg (by omega)]; done))
            | (have es : sev1 S n = 0 + 0 := by (unfold sev1; rw [decide_eq_false (show ¬ 0 < S 33 (2 * (n : Int)) by omega), decide_eq_false (show ¬ 0 < S 33 (2 * (n : Int) + 1) by omega)]; rfl)
               refine AW.lss (ih (n + 1) (by omega)) (And.intro rfl (And.intro (congrArg Sum.inl ?_) (And.intro rfl trivial)))
               rw [sev, es]
               first | (rw [if_pos (by omega)]; done) | (rw [if_neg (by omega)]; done))
      · refine aw_iconst dX6_several_39 ?_
        refine aw_goto (tgt := 44) dX6_several_40 (by decide) ?_
        refine aw_iadd dX6_several_44 ?_
        refine aw_istore_n dX6_several_45 rfl (by decide) ?_
        refine aw_aload_n dX6_several_46 rfl rfl ?_
        refine rr_getA dX6_several_47 flX6_20 rfl (by decide) ?_
        refine aw_iload_n dX6_several_50 rfl rfl ?_
        refine rr_zald (n := 8) dX6_several_51 rfl rfl rfl (by omega) (by omega) (fun _ => rfl) ?_
        refine aw_if_ne (tgt := 64) dX6_several_52 (by decide) (by omega) (fun c_52 => ?_) (fun c_52 => ?_)
        · refine aw_iload_n dX6_several_64 rfl rfl ?_
          refine aw_istore_n dX6_several_65 rfl (by decide) ?_
          refine aw_iinc dX6_several_66 rfl (by decide) ?_
          refine aw_goto (tgt := 4) dX6_several_69 (by decide) ?_
          first
          | (exfalso; omega)
          | (have es : sev1 S n = 1 + 1 := by (unfold sev1; rw [decide_eq_true (show 0 < S 33 (2 * (n : Int)) by omega), decide_eq_true (show 0 < S 33 (2 * (n : Int) + 1) by omega)]; rfl)
             refine AW.lss (ih (n + 1) (by omega)) (And.intro rfl (And.intro (congrArg Sum.inl ?_) (And.intro rfl trivial)))
             rw [sev, es]
             first | (rw [if_pos (by omega)]; done) | (rw [if_neg (by omega)]; done))
          | (have es : sev1 S n = 1 + 0 := by (unfold sev1; rw [decide_eq_true (show 0 < S 33 (2 * (n : Int)) by omega), decide_eq_false (show ¬ 0 < S 33 (2 * (n : Int) + 1) by omega)]; rfl)
             refine AW.lss (ih (n + 1) (by omega)) (And.intro rfl (And.intro (congrArg Sum.inl ?_) (And.intro rfl trivial)))
             rw [sev, es]
             first | (rw [if_pos (by omega)]; done) | (rw [if_neg (by omega)]; done))
          | (have es : sev1 S n = 0 + 1 := by (unfold sev1; rw [decide_eq_false (show ¬ 0 < S 33 (2 * (n : Int)) by omega), decide_eq_true (show 0 < S 33 (2 * (n : Int) + 1) by omega)]; rfl)
             refine AW.lss (ih (n + 1) (by omega)) (And.intro rfl (And.intro (congrArg Sum.inl ?_) (And.intro rfl trivial)))
             rw [sev, es]
             first | (rw [if_pos (by omega)]; done) | (rw [if_neg (by omega)]; done))
          | (have es : sev1 S n = 0 + 0 := by (unfold sev1; rw [decide_eq_false (show ¬ 0 < S 33 (2 * (n : Int)) by omega), decide_eq_false (show ¬ 0 < S 33 (2 * (n : Int) + 1) by omega)]; rfl)
             refine AW.lss (ih (n + 1) (by omega)) (And.intro rfl (And.intro (congrArg Sum.inl ?_) (And.intro rfl trivial)))
             rw [sev, es]
             first | (rw [if_pos (by omega)]; done) | (rw [if_neg (by omega)]; done))
        · refine aw_iload_n dX6_several_55 rfl rfl ?_
          refine aw_iload_n dX6_several_56 rfl rfl ?_
          refine aw_icmp_le (tgt := 64) dX6_several_57 (by decide) (by omega) (by omega) (fun c_57 => ?_) (fun c_57 => ?_)
          · refine aw_iload_n dX6_several_64 rfl rfl ?_
            refine aw_istore_n dX6_several_65 rfl (by decide) ?_
            refine aw_iinc dX6_several_66 rfl (by decide) ?_
            refine aw_goto (tgt := 4) dX6_several_69 (by decide) ?_
            first
            | (exfalso; omega)
            | (have es : sev1 S n = 1 + 1 := by (unfold sev1; rw [decide_eq_true (show 0 < S 33 (2 * (n : Int)) by omega), decide_eq_true (show 0 < S 33 (2 * (n : Int) + 1) by omega)]; rfl)
               refine AW.lss (ih (n + 1) (by omega)) (And.intro rfl (And.intro (congrArg Sum.inl ?_) (And.intro rfl trivial)))
               rw [sev, es]
               first | (rw [if_pos (by omega)]; done) | (rw [if_neg (by omega)]; done))
            | (have es : sev1 S n = 1 + 0 := by (unfold sev1; rw [decide_eq_true (show 0 < S 33 (2 * (n : Int)) by omega), decide_eq_false (show ¬ 0 < S 33 (2 * (n : Int) + 1) by omega)]; rfl)
               refine AW.lss (ih (n + 1) (by omega)) (And.intro rfl (And.intro (congrArg Sum.inl ?_) (And.intro rfl trivial)))
               rw [sev, es]
               first | (rw [if_pos (by omega)]; done) | (rw [if_neg (by omega)]; done))
            | (have es : sev1 S n = 0 + 1 := by (unfold sev1; rw [decide_eq_false (show ¬ 0 < S 33 (2 * (n : Int)) by omega), decide_eq_true (show 0 < S 33 (2 * (n : Int) + 1) by omega)]; rfl)
               refine AW.lss (ih (n + 1) (by omega)) (And.intro rfl (And.intro (congrArg Sum.inl ?_) (And.intro rfl trivial)))
               rw [sev, es]
               first | (rw [if_pos (by omega)]; done) | (rw [if_neg (by omega)]; done))
            | (have es : sev1 S n = 0 + 0 := by (unfold sev1; rw [decide_eq_false (show ¬ 0 < S 33 (2 * (n : Int)) by omega), decide_eq_false (show ¬ 0 < S 33 (2 * (n : Int) + 1) by omega)]; rfl)
               refine AW.lss (ih (n + 1) (by omega)) (And.intro rfl (And.intro (congrArg Sum.inl ?_) (And.intro rfl trivial)))
               rw [sev, es]
               first | (rw [if_pos (by omega)]; done) | (rw [if_neg (by omega)]; done))
          · refine aw_iload_n dX6_several_60 rfl rfl ?_
            refine aw_goto (tgt := 65) dX6_several_61 (by decide) ?_
            refine aw_istore_n dX6_several_65 rfl (by decide) ?_
            refine aw_iinc dX6_several_66 rfl (by decide) ?_
            refine aw_goto (tgt := 4) dX6_several_69 (by decide) ?_
            first
            | (exfalso; omega)
            | (have es : sev1 S n = 1 + 1 := by (unfold sev1; rw [decide_eq_true (show 0 < S 33 (2 * (n : Int)) by omega), decide_eq_true (show 0 < S 33 (2 * (n : Int) + 1) by omega)]; rfl)
               refine AW.lss (ih (n + 1) (by omega)) (And.intro rfl (And.intro (congrArg Sum.inl ?_) (And.intro rfl trivial)))
               rw [sev, es]
               first | (rw [if_pos (by omega)]; done) | (rw [if_neg (by omega)]; done))
            | (have es : sev1 S n = 1 + 0 := by (unfold sev1; rw [decide_eq_true (show 0 < S 33 (2 * (n : Int)) by omega), decide_eq_false (show ¬ 0 < S 33 (2 * (n : Int) + 1) by omega)]; rfl)
               refine AW.lss (ih (n + 1) (by omega)) (And.intro rfl (And.intro (congrArg Sum.inl ?_) (And.intro rfl trivial)))
               rw [sev, es]
               first | (rw [if_pos (by omega)]; done) | (rw [if_neg (by omega)]; done))
            | (have es : sev1 S n = 0 + 1 := by (unfold sev1; rw [decide_eq_false (show ¬ 0 < S 33 (2 * (n : Int)) by omega), decide_eq_true (show 0 < S 33 (2 * (n : Int) + 1) by omega)]; rfl)
               refine AW.lss (ih (n + 1) (by omega)) (And.intro rfl (And.intro (congrArg Sum.inl ?_) (And.intro rfl trivial)))
               rw [sev, es]
               first | (rw [if_pos (by omega)]; done) | (rw [if_neg (by omega)]; done))
            | (have es : sev1 S n = 0 + 0 := by (unfold sev1; rw [decide_eq_false (show ¬ 0 < S 33 (2 * (n : Int)) by omega), decide_eq_false (show ¬ 0 < S 33 (2 * (n : Int) + 1) by omega)]; rfl)
               refine AW.lss (ih (n + 1) (by omega)) (And.intro rfl (And.intro (congrArg Sum.inl ?_) (And.intro rfl trivial)))
               rw [sev, es]
               first | (rw [if_pos (by omega)]; done) | (rw [if_neg (by omega)]; done))
set_option maxRecDepth 100000 in
set_option maxHeartbeats 4000000 in
theorem c_X6_several (hB : BB S) : CT l D cA A ad yX6_several cX6_several 4 (some .int) rm_X6_several [.inr (some (50, 0))] lvR (VR S) sz (PR (some (.inl (sev S 8))) (S) sz) := by
  refine CT.of2 [some (.inr (some (50, 0))), none, none, none] (by decide) (Nat.le_of_ble_eq_true rfl) rfl ?_
  refine aw_iconst dX6_several_0 ?_
  refine aw_istore_n dX6_several_1 rfl (by decide) ?_
  refine aw_iconst dX6_several_2 ?_
  refine aw_istore_n dX6_several_3 rfl (by decide) ?_
  exact AW.lss (lp_X6_several hB 8 0 (by omega)) (And.intro rfl (And.intro rfl (And.intro rfl trivial)))
set_option maxRecDepth 100000 in
set_option maxHeartbeats 4000000 in
theorem t_X6_count {w : Int} (hB : BB S) (hw : Rg w) {n : Nat} (hn : n = (S 8 0).toNat) : AW l D cA A ad yX6_count cX6_count 7 (some .int) rm_X6_count (PR (some (.inl (opCnt S w))) (S) sz) 0 0 lvR (VR S) sz 118 [some (.inr (some (50, 0))), some (.inl w), some (.inl (cnt (pOut S) n)), some (.inl (cnt (pLeft S) n)), some (.inl (cnt (pLate S) n)), some (.inl (cnt (pIn S) n)), some (.inl (n : Int))] [] := by
  subst hn
  rcases (show w = 0 ∨ w = 1 ∨ w = 2 ∨ w = 3 ∨ w = 4 ∨ w = 5 ∨ w = 6 ∨ w = 7 ∨ (w < 0 ∨ 7 < w) by omega) with rfl | rfl | rfl | rfl | rfl | rfl | rfl | rfl | hw2
  · refine aw_iload_n dX6_count_118 rfl rfl ?_
    refine aw_tableIn (off := 45) (tgt := 164) dX6_count_119 (by decide) (by decide) (by decide) rfl (by decide) ?_
    refine aw_aload_n dX6_count_164 rfl rfl ?_
    refine rr_getS dX6_count_165 flX6_119 rfl (by decide) (fun _ => rfl) ?_
    refine aw_iret dX6_count_168 rfl (Nat.zero_le _) (Nat.zero_le _) ?_
    unfold opCnt
    rw [if_pos rfl]
    exact ⟨rfl, rfl, rfl, rfl⟩
  · refine aw_iload_n dX6_count_118 rfl rfl ?_
    refine aw_tableIn (off := 50) (tgt := 169) dX6_count_119 (by decide) (by decide) (by decide) rfl (by decide) ?_
    refine aw_aload_n dX6_count_169 rfl rfl ?_
    refine rr_getS dX6_count_170 flX6_122 rfl (by decide) (fun _ => rfl) ?_
    refine aw_iret dX6_count_173 rfl (Nat.zero_le _) (Nat.zero_le _) ?_
    unfold opCnt
    rw [if_neg (by decide)]
    rw [if_pos rfl]
    exact ⟨rfl, rfl, rfl, rfl⟩
  · refine aw_iload_n dX6_count_118 rfl rfl ?_
    refine aw_tableIn (off := 55) (tgt := 174) dX6_count_119 (by decide) (by decide) (by decide) rfl (by decide) ?_
    refine aw_aload_n dX6_count_174 rfl rfl ?_
    refine rr_getS dX6_count_175 flX6_112 rfl (by decide) (fun _ => rfl) ?_
    refine aw_iret dX6_count_178 rfl (Nat.zero_le _) (Nat.zero_le _) ?_
    unfold opCnt
    rw [if_neg (by decide)]
    rw [if_neg (by decide)]
    rw [if_pos rfl]
    exact ⟨rfl, rfl, rfl, rfl⟩
  · refine aw_iload_n dX6_count_118 rfl rfl ?_
    refine aw_tableIn (off := 60) (tgt := 179) dX6_count_119 (by decide) (by decide) (by decide) rfl (by decide) ?_
    refine aw_iload_n dX6_count_179 rfl rfl ?_
    refine aw_iret dX6_count_180 rfl (Nat.zero_le _) (Nat.zero_le _) ?_
    unfold opCnt
    rw [if_neg (by decide)]
    rw [if_neg (by decide)]
    rw [if_neg (by decide)]
    rw [if_pos rfl]
    exact ⟨rfl, rfl, rfl, rfl⟩
  · refine aw_iload_n dX6_count_118 rfl rfl ?_
    refine aw_tableIn (off := 62) (tgt := 181) dX6_count_119 (by decide) (by decide) (by decide) rfl (by decide) ?_
    refine aw_iload_n dX6_count_181 rfl rfl ?_
    refine aw_iret dX6_count_182 rfl (Nat.zero_le _) (Nat.zero_le _) ?_
    unfold opCnt
    rw [if_neg (by decide)]
    rw [if_neg (by decide)]
    rw [if_neg (by decide)]
    rw [if_neg (by decide)]
    rw [if_pos rfl]
    exact ⟨rfl, rfl, rfl, rfl⟩
  · refine aw_iload_n dX6_count_118 rfl rfl ?_
    refine aw_tableIn (off := 64) (tgt := 183) dX6_count_119 (by decide) (by decide) (by decide) rfl (by decide) ?_
    refine aw_iload dX6_count_183 rfl ?_
    refine aw_iret dX6_count_185 rfl (Nat.zero_le _) (Nat.zero_le _) ?_
    unfold opCnt
    rw [if_neg (by decide)]
    rw [if_neg (by decide)]
    rw [if_neg (by decide)]
    rw [if_neg (by decide)]
    rw [if_neg (by decide)]
    rw [if_pos rfl]
    exact ⟨rfl, rfl, rfl, rfl⟩
  · refine aw_iload_n dX6_count_118 rfl rfl ?_
    refine aw_tableIn (off := 67) (tgt := 186) dX6_count_119 (by decide) (by decide) (by decide) rfl (by decide) ?_
    refine aw_iload dX6_count_186 rfl ?_
    refine aw_iret dX6_count_188 rfl (Nat.zero_le _) (Nat.zero_le _) ?_
    unfold opCnt
    rw [if_neg (by decide)]
    rw [if_neg (by decide)]
    rw [if_neg (by decide)]
    rw [if_neg (by decide)]
    rw [if_neg (by decide)]
    rw [if_neg (by decide)]
    rw [if_pos rfl]
    exact ⟨rfl, rfl, rfl, rfl⟩
  · refine aw_iload_n dX6_count_118 rfl rfl ?_
    refine aw_tableIn (off := 70) (tgt := 189) dX6_count_119 (by decide) (by decide) (by decide) rfl (by decide) ?_
    refine aw_aload_n dX6_count_189 rfl rfl ?_
    refine aw_callV (c_X6_several hB) mv_X6_several mlX6_171 dX6_count_190 rfl rfl (by decide) rfl (Nat.le_of_ble_eq_true rfl) rfl ?_
    rintro _ _ _ _ ⟨rfl, rfl, rfl, rfl⟩
    refine aw_iret dX6_count_193 rfl (Nat.zero_le _) (Nat.zero_le _) ?_
    unfold opCnt
    rw [if_neg (by decide)]
    rw [if_neg (by decide)]
    rw [if_neg (by decide)]
    rw [if_neg (by decide)]
    rw [if_neg (by decide)]
    rw [if_neg (by decide)]
    rw [if_neg (by decide)]
    rw [if_pos rfl]
    exact ⟨rfl, rfl, rfl, rfl⟩
  · refine aw_iload_n dX6_count_118 rfl rfl ?_
    refine aw_tableOut (tgt := 194) dX6_count_119 (by omega) (by omega) (by decide) ?_
    refine aw_iconst dX6_count_194 ?_
    refine aw_iret dX6_count_195 rfl (Nat.zero_le _) (Nat.zero_le _) ?_
    unfold opCnt
    rw [if_neg (by omega)]
    rw [if_neg (by omega)]
    rw [if_neg (by omega)]
    rw [if_neg (by omega)]
    rw [if_neg (by omega)]
    rw [if_neg (by omega)]
    rw [if_neg (by omega)]
    rw [if_neg (by omega)]
    exact ⟨rfl, rfl, rfl, rfl⟩
set_option maxRecDepth 100000 in
set_option maxHeartbeats 4000000 in
theorem lp_X6_count {w : Int} (hB : BB S) (hw : Rg w) : ∀ (f n : Nat), n + f = (S 8 0).toNat → AW l D cA A ad yX6_count cX6_count 7 (some .int) rm_X6_count (PR (some (.inl (opCnt S w))) (S) sz) 0 0 lvR (VR S) sz 13 [some (.inr (some (50, 0))), some (.inl w), some (.inl (cnt (pOut S) n)), some (.inl (cnt (pLeft S) n)), some (.inl (cnt (pLate S) n)), some (.inl (cnt (pIn S) n)), some (.inl (n : Int))] [] := by
  have hm := hB.m
  simp only [bsm] at hm
  intro f
  induction f with
  | zero =>
    intro n hn
    refine aw_iload dX6_count_13 rfl ?_
    refine aw_aload_n dX6_count_15 rfl rfl ?_
    refine rr_getS dX6_count_16 flX6_119 rfl (by decide) (fun _ => rfl) ?_
    refine aw_icmp_ge (tgt := 118) dX6_count_19 (by decide) (by omega) (by omega) (fun c_19 => ?_) (fun c_19 => absurd c_19 (by omega))
    exact t_X6_count hB hw (by omega)
  | succ f ih =>
    intro n hn
    have hsh := hB.sh (s := (n : Int)) (by omega) (by omega)
    simp only [bsh] at hsh
    refine aw_iload dX6_count_13 rfl ?_
    refine aw_aload_n dX6_count_15 rfl rfl ?_
    refine rr_getS dX6_count_16 flX6_119 rfl (by decide) (fun _ => rfl) ?_
    refine aw_icmp_ge (tgt := 118) dX6_count_19 (by decide) (by omega) (by omega) (fun c_19 => absurd c_19 (by omega)) (fun c_19 => ?_)
    refine aw_iload_n dX6_count_22 rfl rfl ?_
    refine aw_aload_n dX6_count_23 rfl rfl ?_
    refine rr_getA dX6_count_24 flX6_48 rfl (by decide) ?_
    refine aw_iload dX6_count_27 rfl ?_
    refine rr_iald (n := 30) dX6_count_29 rfl rfl rfl (by omega) (by omega) (fun _ => rfl) ?_
    refine aw_bipush dX6_count_30 (by decide) ?_
    refine aw_icmp_ne (tgt := 39) dX6_count_32 (by decide) (by omega) (by omega) (fun c_32 => ?_) (fun c_32 => ?_)
    · refine aw_iconst dX6_count_39 ?_
      refine aw_iadd dX6_count_40 ?_
      refine aw_istore_n dX6_count_41 rfl (by decide) ?_
      refine aw_iload_n dX6_count_42 rfl rfl ?_
      refine aw_aload_n dX6_count_43 rfl rfl ?_
      refine rr_getA dX6_count_44 flX6_57 rfl (by decide) ?_
      refine aw_iload dX6_count_47 rfl ?_
      refine rr_zald (n := 30) dX6_count_49 rfl rfl rfl (by omega) (by omega) (fun _ => rfl) ?_
      refine aw_if_eq (tgt := 57) dX6_count_50 (by decide) (by omega) (fun c_50 => ?_) (fun c_50 => ?_)
      · refine aw_iconst dX6_count_57 ?_
        refine aw_iadd dX6_count_58 ?_
        refine aw_istore_n dX6_count_59 rfl (by decide) ?_
        refine aw_iload dX6_count_60 rfl ?_
        refine aw_aload_n dX6_count_62 rfl rfl ?_
        refine rr_getA dX6_count_63 flX6_54 rfl (by decide) ?_
        refine aw_iload dX6_count_66 rfl ?_
        refine rr_zald (n := 30) dX6_count_68 rfl rfl rfl (by omega) (by omega) (fun _ => rfl) ?_
        refine aw_if_eq (tgt := 76) dX6_count_69 (by decide) (by omega) (fun c_69 => ?_) (fun c_69 => ?_)
        · refine aw_iconst dX6_count_76 ?_
          refine aw_iadd dX6_count_77 ?_
          refine aw_istore dX6_count_78 (by decide) ?_
          refine aw_iload dX6_count_80 rfl ?_
          refine aw_aload_n dX6_count_82 rfl rfl ?_
          refine rr_getA dX6_count_83 flX6_48 rfl (by decide) ?_
          refine aw_iload dX6_count_86 rfl ?_
          refine rr_iald (n := 30) dX6_count_88 rfl rfl rfl (by omega) (by omega) (fun _ => rfl) ?_
          refine aw_if_lt (tgt := 108) dX6_count_89 (by decide) (by omega) (fun c_89 => ?_) (fun c_89 => ?_)
          · refine aw_iconst dX6_count_108 ?_
            refine aw_iadd dX6_count_109 ?_
            refine aw_istore dX6_count_110 (by decide) ?_
            refine aw_iinc dX6_count_112 rfl (by decide) ?_
            refine aw_goto (tgt := 13) dX6_count_115 (by decide) ?_
            refine AW.lss (ih (n + 1) (by omega)) (And.intro rfl (And.intro rfl (And.intro (congrArg Sum.inl ?_) (And.intro (congrArg Sum.inl ?_) (And.intro (congrArg Sum.inl ?_) (And.intro (congrArg Sum.inl ?_) (And.intro rfl trivial)))))))
            · rw [cnt, pOut]
              first | (rw [decide_eq_true (by omega)]; rfl) | (rw [decide_eq_false (by omega)]; rfl)
            · rw [cnt, pLeft]
              first | (rw [decide_eq_true (by omega)]; rfl) | (rw [decide_eq_false (by omega)]; rfl)
            · rw [cnt, pLate]
              first | (rw [decide_eq_true (by omega)]; rfl) | (rw [decide_eq_false (by omega)]; rfl)
            · rw [cnt, pIn]
              first | (rw [decide_eq_true (by omega)]; rfl) | (rw [decide_eq_false (by omega)]; rfl)
          · refine aw_aload_n dX6_count_92 rfl rfl ?_
            refine rr_getA dX6_count_93 flX6_48 rfl (by decide) ?_
            refine aw_iload dX6_count_96 rfl ?_
            refine rr_iald (n := 30) dX6_count_98 rfl rfl rfl (by omega) (by omega) (fun _ => rfl) ?_
            refine aw_bipush dX6_count_99 (by decide) ?_
            refine aw_icmp_ge (tgt := 108) dX6_count_101 (by decide) (by omega) (by omega) (fun c_101 => ?_) (fun c_101 => ?_)
            · refine aw_iconst dX6_count_108 ?_
              refine aw_iadd dX6_count_109 ?_
              refine aw_istore dX6_count_110 (by decide) ?_
              refine aw_iinc dX6_count_112 rfl (by decide) ?_
              refine aw_goto (tgt := 13) dX6_count_115 (by decide) ?_
              refine AW.lss (ih (n + 1) (by omega)) (And.intro rfl (And.intro rfl (And.intro (congrArg Sum.inl ?_) (And.intro (congrArg Sum.inl ?_) (And.intro (congrArg Sum.inl ?_) (And.intro (congrArg Sum.inl ?_) (And.intro rfl trivial)))))))
              · rw [cnt, pOut]
                first | (rw [decide_eq_true (by omega)]; rfl) | (rw [decide_eq_false (by omega)]; rfl)
              · rw [cnt, pLeft]
                first | (rw [decide_eq_true (by omega)]; rfl) | (rw [decide_eq_false (by omega)]; rfl)
              · rw [cnt, pLate]
                first | (rw [decide_eq_true (by omega)]; rfl) | (rw [decide_eq_false (by omega)]; rfl)
              · rw [cnt, pIn]
                first | (rw [decide_eq_true (by omega)]; rfl) | (rw [decide_eq_false (by omega)]; rfl)
            · refine aw_iconst dX6_count_104 ?_
              refine aw_goto (tgt := 109) dX6_count_105 (by decide) ?_
              refine aw_iadd dX6_count_109 ?_
              refine aw_istore dX6_count_110 (by decide) ?_
              refine aw_iinc dX6_count_112 rfl (by decide) ?_
              refine aw_goto (tgt := 13) dX6_count_115 (by decide) ?_
              refine AW.lss (ih (n + 1) (by omega)) (And.intro rfl (And.intro rfl (And.intro (congrArg Sum.inl ?_) (And.intro (congrArg Sum.inl ?_) (And.intro (congrArg Sum.inl ?_) (And.intro (congrArg Sum.inl ?_) (And.intro rfl trivial)))))))
              · rw [cnt, pOut]
                first | (rw [decide_eq_true (by omega)]; rfl) | (rw [decide_eq_false (by omega)]; rfl)
              · rw [cnt, pLeft]
                first | (rw [decide_eq_true (by omega)]; rfl) | (rw [decide_eq_false (by omega)]; rfl)
              · rw [cnt, pLate]
                first | (rw [decide_eq_true (by omega)]; rfl) | (rw [decide_eq_false (by omega)]; rfl)
              · rw [cnt, pIn]
                first | (rw [decide_eq_true (by omega)]; rfl) | (rw [decide_eq_false (by omega)]; rfl)
        · refine aw_iconst dX6_count_72 ?_
          refine aw_goto (tgt := 77) dX6_count_73 (by decide) ?_
          refine aw_iadd dX6_count_77 ?_
          refine aw_istore dX6_count_78 (by decide) ?_
          refine aw_iload dX6_count_80 rfl ?_
          refine aw_aload_n dX6_count_82 rfl rfl ?_
          refine rr_getA dX6_count_83 flX6_48 rfl (by decide) ?_
          refine aw_iload dX6_count_86 rfl ?_
          refine rr_iald (n := 30) dX6_count_88 rfl rfl rfl (by omega) (by omega) (fun _ => rfl) ?_
          refine aw_if_lt (tgt := 108) dX6_count_89 (by decide) (by omega) (fun c_89 => ?_) (fun c_89 => ?_)
          · refine aw_iconst dX6_count_108 ?_
            refine aw_iadd dX6_count_109 ?_
            refine aw_istore dX6_count_110 (by decide) ?_
            refine aw_iinc dX6_count_112 rfl (by decide) ?_
            refine aw_goto (tgt := 13) dX6_count_115 (by decide) ?_
            refine AW.lss (ih (n + 1) (by omega)) (And.intro rfl (And.intro rfl (And.intro (congrArg Sum.inl ?_) (And.intro (congrArg Sum.inl ?_) (And.intro (congrArg Sum.inl ?_) (And.intro (congrArg Sum.inl ?_) (And.intro rfl trivial)))))))
            · rw [cnt, pOut]
              first | (rw [decide_eq_true (by omega)]; rfl) | (rw [decide_eq_false (by omega)]; rfl)
            · rw [cnt, pLeft]
              first | (rw [decide_eq_true (by omega)]; rfl) | (rw [decide_eq_false (by omega)]; rfl)
            · rw [cnt, pLate]
              first | (rw [decide_eq_true (by omega)]; rfl) | (rw [decide_eq_false (by omega)]; rfl)
            · rw [cnt, pIn]
              first | (rw [decide_eq_true (by omega)]; rfl) | (rw [decide_eq_false (by omega)]; rfl)
          · refine aw_aload_n dX6_count_92 rfl rfl ?_
            refine rr_getA dX6_count_93 flX6_48 rfl (by decide) ?_
            refine aw_iload dX6_count_96 rfl ?_
            refine rr_iald (n := 30) dX6_count_98 rfl rfl rfl (by omega) (by omega) (fun _ => rfl) ?_
            refine aw_bipush dX6_count_99 (by decide) ?_
            refine aw_icmp_ge (tgt := 108) dX6_count_101 (by decide) (by omega) (by omega) (fun c_101 => ?_) (fun c_101 => ?_)
            · refine aw_iconst dX6_count_108 ?_
              refine aw_iadd dX6_count_109 ?_
              refine aw_istore dX6_count_110 (by decide) ?_
              refine aw_iinc dX6_count_112 rfl (by decide) ?_
              refine aw_goto (tgt := 13) dX6_count_115 (by decide) ?_
              refine AW.lss (ih (n + 1) (by omega)) (And.intro rfl (And.intro rfl (And.intro (congrArg Sum.inl ?_) (And.intro (congrArg Sum.inl ?_) (And.intro (congrArg Sum.inl ?_) (And.intro (congrArg Sum.inl ?_) (And.intro rfl trivial)))))))
              · rw [cnt, pOut]
                first | (rw [decide_eq_true (by omega)]; rfl) | (rw [decide_eq_false (by omega)]; rfl)
              · rw [cnt, pLeft]
                first | (rw [decide_eq_true (by omega)]; rfl) | (rw [decide_eq_false (by omega)]; rfl)
              · rw [cnt, pLate]
                first | (rw [decide_eq_true (by omega)]; rfl) | (rw [decide_eq_false (by omega)]; rfl)
              · rw [cnt, pIn]
                first | (rw [decide_eq_true (by omega)]; rfl) | (rw [decide_eq_false (by omega)]; rfl)
            · refine aw_iconst dX6_count_104 ?_
              refine aw_goto (tgt := 109) dX6_count_105 (by decide) ?_
              refine aw_iadd dX6_count_109 ?_
              refine aw_istore dX6_count_110 (by decide) ?_
              refine aw_iinc dX6_count_112 rfl (by decide) ?_
              refine aw_goto (tgt := 13) dX6_count_115 (by decide) ?_
              refine AW.lss (ih (n + 1) (by omega)) (And.intro rfl (And.intro rfl (And.intro (congrArg Sum.inl ?_) (And.intro (congrArg Sum.inl ?_) (And.intro (congrArg Sum.inl ?_) (And.intro (congrArg Sum.inl ?_) (And.intro rfl trivial)))))))
              · rw [cnt, pOut]
                first | (rw [decide_eq_true (by omega)]; rfl) | (rw [decide_eq_false (by omega)]; rfl)
              · rw [cnt, pLeft]
                first | (rw [decide_eq_true (by omega)]; rfl) | (rw [decide_eq_false (by omega)]; rfl)
              · rw [cnt, pLate]
                first | (rw [decide_eq_true (by omega)]; rfl) | (rw [decide_eq_false (by omega)]; rfl)
              · rw [cnt, pIn]
                first | (rw [decide_eq_true (by omega)]; rfl) | (rw [decide_eq_false (by omega)]; rfl)
      · refine aw_iconst dX6_count_53 ?_
        refine aw_goto (tgt := 58) dX6_count_54 (by decide) ?_
        refine aw_iadd dX6_count_58 ?_
        refine aw_istore_n dX6_count_59 rfl (by decide) ?_
        refine aw_iload dX6_count_60 rfl ?_
        refine aw_aload_n dX6_count_62 rfl rfl ?_
        refine rr_getA dX6_count_63 flX6_54 rfl (by decide) ?_
        refine aw_iload dX6_count_66 rfl ?_
        refine rr_zald (n := 30) dX6_count_68 rfl rfl rfl (by omega) (by omega) (fun _ => rfl) ?_
        refine aw_if_eq (tgt := 76) dX6_count_69 (by decide) (by omega) (fun c_69 => ?_) (fun c_69 => ?_)
        · refine aw_iconst dX6_count_76 ?_
          refine aw_iadd dX6_count_77 ?_
          refine aw_istore dX6_count_78 (by decide) ?_
          refine aw_iload dX6_count_80 rfl ?_
          refine aw_aload_n dX6_count_82 rfl rfl ?_
          refine rr_getA dX6_count_83 flX6_48 rfl (by decide) ?_
          refine aw_iload dX6_count_86 rfl ?_
          refine rr_iald (n := 30) dX6_count_88 rfl rfl rfl (by omega) (by omega) (fun _ => rfl) ?_
          refine aw_if_lt (tgt := 108) dX6_count_89 (by decide) (by omega) (fun c_89 => ?_) (fun c_89 => ?_)
          · refine aw_iconst dX6_count_108 ?_
            refine aw_iadd dX6_count_109 ?_
            refine aw_istore dX6_count_110 (by decide) ?_
            refine aw_iinc dX6_count_112 rfl (by decide) ?_
            refine aw_goto (tgt := 13) dX6_count_115 (by decide) ?_
            refine AW.lss (ih (n + 1) (by omega)) (And.intro rfl (And.intro rfl (And.intro (congrArg Sum.inl ?_) (And.intro (congrArg Sum.inl ?_) (And.intro (congrArg Sum.inl ?_) (And.intro (congrArg Sum.inl ?_) (And.intro rfl trivial)))))))
            · rw [cnt, pOut]
              first | (rw [decide_eq_true (by omega)]; rfl) | (rw [decide_eq_false (by omega)]; rfl)
            · rw [cnt, pLeft]
              first | (rw [decide_eq_true (by omega)]; rfl) | (rw [decide_eq_false (by omega)]; rfl)
            · rw [cnt, pLate]
              first | (rw [decide_eq_true (by omega)]; rfl) | (rw [decide_eq_false (by omega)]; rfl)
            · rw [cnt, pIn]
              first | (rw [decide_eq_true (by omega)]; rfl) | (rw [decide_eq_false (by omega)]; rfl)
          · refine aw_aload_n dX6_count_92 rfl rfl ?_
            refine rr_getA dX6_count_93 flX6_48 rfl (by decide) ?_
            refine aw_iload dX6_count_96 rfl ?_
            refine rr_iald (n := 30) dX6_count_98 rfl rfl rfl (by omega) (by omega) (fun _ => rfl) ?_
            refine aw_bipush dX6_count_99 (by decide) ?_
            refine aw_icmp_ge (tgt := 108) dX6_count_101 (by decide) (by omega) (by omega) (fun c_101 => ?_) (fun c_101 => ?_)
            · refine aw_iconst dX6_count_108 ?_
              refine aw_iadd dX6_count_109 ?_
              refine aw_istore dX6_count_110 (by decide) ?_
              refine aw_iinc dX6_count_112 rfl (by decide) ?_
              refine aw_goto (tgt := 13) dX6_count_115 (by decide) ?_
              refine AW.lss (ih (n + 1) (by omega)) (And.intro rfl (And.intro rfl (And.intro (congrArg Sum.inl ?_) (And.intro (congrArg Sum.inl ?_) (And.intro (congrArg Sum.inl ?_) (And.intro (congrArg Sum.inl ?_) (And.intro rfl trivial)))))))
              · rw [cnt, pOut]
                first | (rw [decide_eq_true (by omega)]; rfl) | (rw [decide_eq_false (by omega)]; rfl)
              · rw [cnt, pLeft]
                first | (rw [decide_eq_true (by omega)]; rfl) | (rw [decide_eq_false (by omega)]; rfl)
              · rw [cnt, pLate]
                first | (rw [decide_eq_true (by omega)]; rfl) | (rw [decide_eq_false (by omega)]; rfl)
              · rw [cnt, pIn]
                first | (rw [decide_eq_true (by omega)]; rfl) | (rw [decide_eq_false (by omega)]; rfl)
            · refine aw_iconst dX6_count_104 ?_
              refine aw_goto (tgt := 109) dX6_count_105 (by decide) ?_
              refine aw_iadd dX6_count_109 ?_
              refine aw_istore dX6_count_110 (by decide) ?_
              refine aw_iinc dX6_count_112 rfl (by decide) ?_
              refine aw_goto (tgt := 13) dX6_count_115 (by decide) ?_
              refine AW.lss (ih (n + 1) (by omega)) (And.intro rfl (And.intro rfl (And.intro (congrArg Sum.inl ?_) (And.intro (congrArg Sum.inl ?_) (And.intro (congrArg Sum.inl ?_) (And.intro (congrArg Sum.inl ?_) (And.intro rfl trivial)))))))
              · rw [cnt, pOut]
                first | (rw [decide_eq_true (by omega)]; rfl) | (rw [decide_eq_false (by omega)]; rfl)
              · rw [cnt, pLeft]
                first | (rw [decide_eq_true (by omega)]; rfl) | (rw [decide_eq_false (by omega)]; rfl)
              · rw [cnt, pLate]
                first | (rw [decide_eq_true (by omega)]; rfl) | (rw [decide_eq_false (by omega)]; rfl)
              · rw [cnt, pIn]
                first | (rw [decide_eq_true (by omega)]; rfl) | (rw [decide_eq_false (by omega)]; rfl)
        · refine aw_iconst dX6_count_72 ?_
          refine aw_goto (tgt := 77) dX6_count_73 (by decide) ?_
          refine aw_iadd dX6_count_77 ?_
          refine aw_istore dX6_count_78 (by decide) ?_
          refine aw_iload dX6_count_80 rfl ?_
          refine aw_aload_n dX6_count_82 rfl rfl ?_
          refine rr_getA dX6_count_83 flX6_48 rfl (by decide) ?_
          refine aw_iload dX6_count_86 rfl ?_
          refine rr_iald (n := 30) dX6_count_88 rfl rfl rfl (by omega) (by omega) (fun _ => rfl) ?_
          refine aw_if_lt (tgt := 108) dX6_count_89 (by decide) (by omega) (fun c_89 => ?_) (fun c_89 => ?_)
          · refine aw_iconst dX6_count_108 ?_
            refine aw_iadd dX6_count_109 ?_
            refine aw_istore dX6_count_110 (by decide) ?_
            refine aw_iinc dX6_count_112 rfl (by decide) ?_
            refine aw_goto (tgt := 13) dX6_count_115 (by decide) ?_
            refine AW.lss (ih (n + 1) (by omega)) (And.intro rfl (And.intro rfl (And.intro (congrArg Sum.inl ?_) (And.intro (congrArg Sum.inl ?_) (And.intro (congrArg Sum.inl ?_) (And.intro (congrArg Sum.inl ?_) (And.intro rfl trivial)))))))
            · rw [cnt, pOut]
              first | (rw [decide_eq_true (by omega)]; rfl) | (rw [decide_eq_false (by omega)]; rfl)
            · rw [cnt, pLeft]
              first | (rw [decide_eq_true (by omega)]; rfl) | (rw [decide_eq_false (by omega)]; rfl)
            · rw [cnt, pLate]
              first | (rw [decide_eq_true (by omega)]; rfl) | (rw [decide_eq_false (by omega)]; rfl)
            · rw [cnt, pIn]
              first | (rw [decide_eq_true (by omega)]; rfl) | (rw [decide_eq_false (by omega)]; rfl)
          · refine aw_aload_n dX6_count_92 rfl rfl ?_
            refine rr_getA dX6_count_93 flX6_48 rfl (by decide) ?_
            refine aw_iload dX6_count_96 rfl ?_
            refine rr_iald (n := 30) dX6_count_98 rfl rfl rfl (by omega) (by omega) (fun _ => rfl) ?_
            refine aw_bipush dX6_count_99 (by decide) ?_
            refine aw_icmp_ge (tgt := 108) dX6_count_101 (by decide) (by omega) (by omega) (fun c_101 => ?_) (fun c_101 => ?_)
            · refine aw_iconst dX6_count_108 ?_
              refine aw_iadd dX6_count_109 ?_
              refine aw_istore dX6_count_110 (by decide) ?_
              refine aw_iinc dX6_count_112 rfl (by decide) ?_
              refine aw_goto (tgt := 13) dX6_count_115 (by decide) ?_
              refine AW.lss (ih (n + 1) (by omega)) (And.intro rfl (And.intro rfl (And.intro (congrArg Sum.inl ?_) (And.intro (congrArg Sum.inl ?_) (And.intro (congrArg Sum.inl ?_) (And.intro (congrArg Sum.inl ?_) (And.intro rfl trivial)))))))
              · rw [cnt, pOut]
                first | (rw [decide_eq_true (by omega)]; rfl) | (rw [decide_eq_false (by omega)]; rfl)
              · rw [cnt, pLeft]
                first | (rw [decide_eq_true (by omega)]; rfl) | (rw [decide_eq_false (by omega)]; rfl)
              · rw [cnt, pLate]
                first | (rw [decide_eq_true (by omega)]; rfl) | (rw [decide_eq_false (by omega)]; rfl)
              · rw [cnt, pIn]
                first | (rw [decide_eq_true (by omega)]; rfl) | (rw [decide_eq_false (by omega)]; rfl)
            · refine aw_iconst dX6_count_104 ?_
              refine aw_goto (tgt := 109) dX6_count_105 (by decide) ?_
              refine aw_iadd dX6_count_109 ?_
              refine aw_istore dX6_count_110 (by decide) ?_
              refine aw_iinc dX6_count_112 rfl (by decide) ?_
              refine aw_goto (tgt := 13) dX6_count_115 (by decide) ?_
              refine AW.lss (ih (n + 1) (by omega)) (And.intro rfl (And.intro rfl (And.intro (congrArg Sum.inl ?_) (And.intro (congrArg Sum.inl ?_) (And.intro (congrArg Sum.inl ?_) (And.intro (congrArg Sum.inl ?_) (And.intro rfl trivial)))))))
              · rw [cnt, pOut]
                first | (rw [decide_eq_true (by omega)]; rfl) | (rw [decide_eq_false (by omega)]; rfl)
              · rw [cnt, pLeft]
                first | (rw [decide_eq_true (by omega)]; rfl) | (rw [decide_eq_false (by omega)]; rfl)
              · rw [cnt, pLate]
                first | (rw [decide_eq_true (by omega)]; rfl) | (rw [decide_eq_false (by omega)]; rfl)
              · rw [cnt, pIn]
                first | (rw [decide_eq_true (by omega)]; rfl) | (rw [decide_eq_false (by omega)]; rfl)
    · refine aw_iconst dX6_count_35 ?_
      refine aw_goto (tgt := 40) dX6_count_36 (by decide) ?_
      refine aw_iadd dX6_count_40 ?_
      refine aw_istore_n dX6_count_41 rfl (by decide) ?_
      refine aw_iload_n dX6_count_42 rfl rfl ?_
      refine aw_aload_n dX6_count_43 rfl rfl ?_
      refine rr_getA dX6_count_44 flX6_57 rfl (by decide) ?_
      refine aw_iload dX6_count_47 rfl ?_
      refine rr_zald (n := 30) dX6_count_49 rfl rfl rfl (by omega) (by omega) (fun _ => rfl) ?_
      refine aw_if_eq (tgt := 57) dX6_count_50 (by decide) (by omega) (fun c_50 => ?_) (fun c_50 => ?_)
      · refine aw_iconst dX6_count_57 ?_
        refine aw_iadd dX6_count_58 ?_
        refine aw_istore_n dX6_count_59 rfl (by decide) ?_
        refine aw_iload dX6_count_60 rfl ?_
        refine aw_aload_n dX6_count_62 rfl rfl ?_
        refine rr_getA dX6_count_63 flX6_54 rfl (by decide) ?_
        refine aw_iload dX6_count_66 rfl ?_
        refine rr_zald (n := 30) dX6_count_68 rfl rfl rfl (by omega) (by omega) (fun _ => rfl) ?_
        refine aw_if_eq (tgt := 76) dX6_count_69 (by decide) (by omega) (fun c_69 => ?_) (fun c_69 => ?_)
        · refine aw_iconst dX6_count_76 ?_
          refine aw_iadd dX6_count_77 ?_
          refine aw_istore dX6_count_78 (by decide) ?_
          refine aw_iload dX6_count_80 rfl ?_
          refine aw_aload_n dX6_count_82 rfl rfl ?_
          refine rr_getA dX6_count_83 flX6_48 rfl (by decide) ?_
          refine aw_iload dX6_count_86 rfl ?_
          refine rr_iald (n := 30) dX6_count_88 rfl rfl rfl (by omega) (by omega) (fun _ => rfl) ?_
          refine aw_if_lt (tgt := 108) dX6_count_89 (by decide) (by omega) (fun c_89 => ?_) (fun c_89 => ?_)
          · refine aw_iconst dX6_count_108 ?_
            refine aw_iadd dX6_count_109 ?_
            refine aw_istore dX6_count_110 (by decide) ?_
            refine aw_iinc dX6_count_112 rfl (by decide) ?_
            refine aw_goto (tgt := 13) dX6_count_115 (by decide) ?_
            refine AW.lss (ih (n + 1) (by omega)) (And.intro rfl (And.intro rfl (And.intro (congrArg Sum.inl ?_) (And.intro (congrArg Sum.inl ?_) (And.intro (congrArg Sum.inl ?_) (And.intro (congrArg Sum.inl ?_) (And.intro rfl trivial)))))))
            · rw [cnt, pOut]
              first | (rw [decide_eq_true (by omega)]; rfl) | (rw [decide_eq_false (by omega)]; rfl)
            · rw [cnt, pLeft]
              first | (rw [decide_eq_true (by omega)]; rfl) | (rw [decide_eq_false (by omega)]; rfl)
            · rw [cnt, pLate]
              first | (rw [decide_eq_true (by omega)]; rfl) | (rw [decide_eq_false (by omega)]; rfl)
            · rw [cnt, pIn]
              first | (rw [decide_eq_true (by omega)]; rfl) | (rw [decide_eq_false (by omega)]; rfl)
          · refine aw_aload_n dX6_count_92 rfl rfl ?_
            refine rr_getA dX6_count_93 flX6_48 rfl (by decide) ?_
            refine aw_iload dX6_count_96 rfl ?_
            refine rr_iald (n := 30) dX6_count_98 rfl rfl rfl (by omega) (by omega) (fun _ => rfl) ?_
            refine aw_bipush dX6_count_99 (by decide) ?_
            refine aw_icmp_ge (tgt := 108) dX6_count_101 (by decide) (by omega) (by omega) (fun c_101 => ?_) (fun c_101 => ?_)
            · refine aw_iconst dX6_count_108 ?_
              refine aw_iadd dX6_count_109 ?_
              refine aw_istore dX6_count_110 (by decide) ?_
              refine aw_iinc dX6_count_112 rfl (by decide) ?_
              refine aw_goto (tgt := 13) dX6_count_115 (by decide) ?_
              refine AW.lss (ih (n + 1) (by omega)) (And.intro rfl (And.intro rfl (And.intro (congrArg Sum.inl ?_) (And.intro (congrArg Sum.inl ?_) (And.intro (congrArg Sum.inl ?_) (And.intro (congrArg Sum.inl ?_) (And.intro rfl trivial)))))))
              · rw [cnt, pOut]
                first | (rw [decide_eq_true (by omega)]; rfl) | (rw [decide_eq_false (by omega)]; rfl)
              · rw [cnt, pLeft]
                first | (rw [decide_eq_true (by omega)]; rfl) | (rw [decide_eq_false (by omega)]; rfl)
              · rw [cnt, pLate]
                first | (rw [decide_eq_true (by omega)]; rfl) | (rw [decide_eq_false (by omega)]; rfl)
              · rw [cnt, pIn]
                first | (rw [decide_eq_true (by omega)]; rfl) | (rw [decide_eq_false (by omega)]; rfl)
            · refine aw_iconst dX6_count_104 ?_
              refine aw_goto (tgt := 109) dX6_count_105 (by decide) ?_
              refine aw_iadd dX6_count_109 ?_
              refine aw_istore dX6_count_110 (by decide) ?_
              refine aw_iinc dX6_count_112 rfl (by decide) ?_
              refine aw_goto (tgt := 13) dX6_count_115 (by decide) ?_
              refine AW.lss (ih (n + 1) (by omega)) (And.intro rfl (And.intro rfl (And.intro (congrArg Sum.inl ?_) (And.intro (congrArg Sum.inl ?_) (And.intro (congrArg Sum.inl ?_) (And.intro (congrArg Sum.inl ?_) (And.intro rfl trivial)))))))
              · rw [cnt, pOut]
                first | (rw [decide_eq_true (by omega)]; rfl) | (rw [decide_eq_false (by omega)]; rfl)
              · rw [cnt, pLeft]
                first | (rw [decide_eq_true (by omega)]; rfl) | (rw [decide_eq_false (by omega)]; rfl)
              · rw [cnt, pLate]
                first | (rw [decide_eq_true (by omega)]; rfl) | (rw [decide_eq_false (by omega)]; rfl)
              · rw [cnt, pIn]
                first | (rw [decide_eq_true (by omega)]; rfl) | (rw [decide_eq_false (by omega)]; rfl)
        · refine aw_iconst dX6_count_72 ?_
          refine aw_goto (tgt := 77) dX6_count_73 (by decide) ?_
          refine aw_iadd dX6_count_77 ?_
          refine aw_istore dX6_count_78 (by decide) ?_
          refine aw_iload dX6_count_80 rfl ?_
          refine aw_aload_n dX6_count_82 rfl rfl ?_
          refine rr_getA dX6_count_83 flX6_48 rfl (by decide) ?_
          refine aw_iload dX6_count_86 rfl ?_
          refine rr_iald (n := 30) dX6_count_88 rfl rfl rfl (by omega) (by omega) (fun _ => rfl) ?_
          refine aw_if_lt (tgt := 108) dX6_count_89 (by decide) (by omega) (fun c_89 => ?_) (fun c_89 => ?_)
          · refine aw_iconst dX6_count_108 ?_
            refine aw_iadd dX6_count_109 ?_
            refine aw_istore dX6_count_110 (by decide) ?_
            refine aw_iinc dX6_count_112 rfl (by decide) ?_
            refine aw_goto (tgt := 13) dX6_count_115 (by decide) ?_
            refine AW.lss (ih (n + 1) (by omega)) (And.intro rfl (And.intro rfl (And.intro (congrArg Sum.inl ?_) (And.intro (congrArg Sum.inl ?_) (And.intro (congrArg Sum.inl ?_) (And.intro (congrArg Sum.inl ?_) (And.intro rfl trivial)))))))
            · rw [cnt, pOut]
              first | (rw [decide_eq_true (by omega)]; rfl) | (rw [decide_eq_false (by omega)]; rfl)
            · rw [cnt, pLeft]
              first | (rw [decide_eq_true (by omega)]; rfl) | (rw [decide_eq_false (by omega)]; rfl)
            · rw [cnt, pLate]
              first | (rw [decide_eq_true (by omega)]; rfl) | (rw [decide_eq_false (by omega)]; rfl)
            · rw [cnt, pIn]
              first | (rw [decide_eq_true (by omega)]; rfl) | (rw [decide_eq_false (by omega)]; rfl)
          · refine aw_aload_n dX6_count_92 rfl rfl ?_
            refine rr_getA dX6_count_93 flX6_48 rfl (by decide) ?_
            refine aw_iload dX6_count_96 rfl ?_
            refine rr_iald (n := 30) dX6_count_98 rfl rfl rfl (by omega) (by omega) (fun _ => rfl) ?_
            refine aw_bipush dX6_count_99 (by decide) ?_
            refine aw_icmp_ge (tgt := 108) dX6_count_101 (by decide) (by omega) (by omega) (fun c_101 => ?_) (fun c_101 => ?_)
            · refine aw_iconst dX6_count_108 ?_
              refine aw_iadd dX6_count_109 ?_
              refine aw_istore dX6_count_110 (by decide) ?_
              refine aw_iinc dX6_count_112 rfl (by decide) ?_
              refine aw_goto (tgt := 13) dX6_count_115 (by decide) ?_
              refine AW.lss (ih (n + 1) (by omega)) (And.intro rfl (And.intro rfl (And.intro (congrArg Sum.inl ?_) (And.intro (congrArg Sum.inl ?_) (And.intro (congrArg Sum.inl ?_) (And.intro (congrArg Sum.inl ?_) (And.intro rfl trivial)))))))
              · rw [cnt, pOut]
                first | (rw [decide_eq_true (by omega)]; rfl) | (rw [decide_eq_false (by omega)]; rfl)
              · rw [cnt, pLeft]
                first | (rw [decide_eq_true (by omega)]; rfl) | (rw [decide_eq_false (by omega)]; rfl)
              · rw [cnt, pLate]
                first | (rw [decide_eq_true (by omega)]; rfl) | (rw [decide_eq_false (by omega)]; rfl)
              · rw [cnt, pIn]
                first | (rw [decide_eq_true (by omega)]; rfl) | (rw [decide_eq_false (by omega)]; rfl)
            · refine aw_iconst dX6_count_104 ?_
              refine aw_goto (tgt := 109) dX6_count_105 (by decide) ?_
              refine aw_iadd dX6_count_109 ?_
              refine aw_istore dX6_count_110 (by decide) ?_
              refine aw_iinc dX6_count_112 rfl (by decide) ?_
              refine aw_goto (tgt := 13) dX6_count_115 (by decide) ?_
              refine AW.lss (ih (n + 1) (by omega)) (And.intro rfl (And.intro rfl (And.intro (congrArg Sum.inl ?_) (And.intro (congrArg Sum.inl ?_) (And.intro (congrArg Sum.inl ?_) (And.intro (congrArg Sum.inl ?_) (And.intro rfl trivial)))))))
              · rw [cnt, pOut]
                first | (rw [decide_eq_true (by omega)]; rfl) | (rw [decide_eq_false (by omega)]; rfl)
              · rw [cnt, pLeft]
                first | (rw [decide_eq_true (by omega)]; rfl) | (rw [decide_eq_false (by omega)]; rfl)
              · rw [cnt, pLate]
                first | (rw [decide_eq_true (by omega)]; rfl) | (rw [decide_eq_false (by omega)]; rfl)
              · rw [cnt, pIn]
                first | (rw [decide_eq_true (by omega)]; rfl) | (rw [decide_eq_false (by omega)]; rfl)
      · refine aw_iconst dX6_count_53 ?_
        refine aw_goto (tgt := 58) dX6_count_54 (by decide) ?_
        refine aw_iadd dX6_count_58 ?_
        refine aw_istore_n dX6_count_59 rfl (by decide) ?_
        refine aw_iload dX6_count_60 rfl ?_
        refine aw_aload_n dX6_count_62 rfl rfl ?_
        refine rr_getA dX6_count_63 flX6_54 rfl (by decide) ?_
        refine aw_iload dX6_count_66 rfl ?_
        refine rr_zald (n := 30) dX6_count_68 rfl rfl rfl (by omega) (by omega) (fun _ => rfl) ?_
        refine aw_if_eq (tgt := 76) dX6_count_69 (by decide) (by omega) (fun c_69 => ?_) (fun c_69 => ?_)
        · refine aw_iconst dX6_count_76 ?_
          refine aw_iadd dX6_count_77 ?_
          refine aw_istore dX6_count_78 (by decide) ?_
          refine aw_iload dX6_count_80 rfl ?_
          refine aw_aload_n dX6_count_82 rfl rfl ?_
          refine rr_getA dX6_count_83 flX6_48 rfl (by decide) ?_
          refine aw_iload dX6_count_86 rfl ?_
          refine rr_iald (n := 30) dX6_count_88 rfl rfl rfl (by omega) (by omega) (fun _ => rfl) ?_
          refine aw_if_lt (tgt := 108) dX6_count_89 (by decide) (by omega) (fun c_89 => ?_) (fun c_89 => ?_)
          · refine aw_iconst dX6_count_108 ?_
            refine aw_iadd dX6_count_109 ?_
            refine aw_istore dX6_count_110 (by decide) ?_
            refine aw_iinc dX6_count_112 rfl (by decide) ?_
            refine aw_goto (tgt := 13) dX6_count_115 (by decide) ?_
            refine AW.lss (ih (n + 1) (by omega)) (And.intro rfl (And.intro rfl (And.intro (congrArg Sum.inl ?_) (And.intro (congrArg Sum.inl ?_) (And.intro (congrArg Sum.inl ?_) (And.intro (congrArg Sum.inl ?_) (And.intro rfl trivial)))))))
            · rw [cnt, pOut]
              first | (rw [decide_eq_true (by omega)]; rfl) | (rw [decide_eq_false (by omega)]; rfl)
            · rw [cnt, pLeft]
              first | (rw [decide_eq_true (by omega)]; rfl) | (rw [decide_eq_false (by omega)]; rfl)
            · rw [cnt, pLate]
              first | (rw [decide_eq_true (by omega)]; rfl) | (rw [decide_eq_false (by omega)]; rfl)
            · rw [cnt, pIn]
              first | (rw [decide_eq_true (by omega)]; rfl) | (rw [decide_eq_false (by omega)]; rfl)
          · refine aw_aload_n dX6_count_92 rfl rfl ?_
            refine rr_getA dX6_count_93 flX6_48 rfl (by decide) ?_
            refine aw_iload dX6_count_96 rfl ?_
            refine rr_iald (n := 30) dX6_count_98 rfl rfl rfl (by omega) (by omega) (fun _ => rfl) ?_
            refine aw_bipush dX6_count_99 (by decide) ?_
            refine aw_icmp_ge (tgt := 108) dX6_count_101 (by decide) (by omega) (by omega) (fun c_101 => ?_) (fun c_101 => ?_)
            · refine aw_iconst dX6_count_108 ?_
              refine aw_iadd dX6_count_109 ?_
              refine aw_istore dX6_count_110 (by decide) ?_
              refine aw_iinc dX6_count_112 rfl (by decide) ?_
              refine aw_goto (tgt := 13) dX6_count_115 (by decide) ?_
              refine AW.lss (ih (n + 1) (by omega)) (And.intro rfl (And.intro rfl (And.intro (congrArg Sum.inl ?_) (And.intro (congrArg Sum.inl ?_) (And.intro (congrArg Sum.inl ?_) (And.intro (congrArg Sum.inl ?_) (And.intro rfl trivial)))))))
              · rw [cnt, pOut]
                first | (rw [decide_eq_true (by omega)]; rfl) | (rw [decide_eq_false (by omega)]; rfl)
              · rw [cnt, pLeft]
                first | (rw [decide_eq_true (by omega)]; rfl) | (rw [decide_eq_false (by omega)]; rfl)
              · rw [cnt, pLate]
                first | (rw [decide_eq_true (by omega)]; rfl) | (rw [decide_eq_false (by omega)]; rfl)
              · rw [cnt, pIn]
                first | (rw [decide_eq_true (by omega)]; rfl) | (rw [decide_eq_false (by omega)]; rfl)
            · refine aw_iconst dX6_count_104 ?_
              refine aw_goto (tgt := 109) dX6_count_105 (by decide) ?_
              refine aw_iadd dX6_count_109 ?_
              refine aw_istore dX6_count_110 (by decide) ?_
              refine aw_iinc dX6_count_112 rfl (by decide) ?_
              refine aw_goto (tgt := 13) dX6_count_115 (by decide) ?_
              refine AW.lss (ih (n + 1) (by omega)) (And.intro rfl (And.intro rfl (And.intro (congrArg Sum.inl ?_) (And.intro (congrArg Sum.inl ?_) (And.intro (congrArg Sum.inl ?_) (And.intro (congrArg Sum.inl ?_) (And.intro rfl trivial)))))))
              · rw [cnt, pOut]
                first | (rw [decide_eq_true (by omega)]; rfl) | (rw [decide_eq_false (by omega)]; rfl)
              · rw [cnt, pLeft]
                first | (rw [decide_eq_true (by omega)]; rfl) | (rw [decide_eq_false (by omega)]; rfl)
              · rw [cnt, pLate]
                first | (rw [decide_eq_true (by omega)]; rfl) | (rw [decide_eq_false (by omega)]; rfl)
              · rw [cnt, pIn]
                first | (rw [decide_eq_true (by omega)]; rfl) | (rw [decide_eq_false (by omega)]; rfl)
        · refine aw_iconst dX6_count_72 ?_
          refine aw_goto (tgt := 77) dX6_count_73 (by decide) ?_
          refine aw_iadd dX6_count_77 ?_
          refine aw_istore dX6_count_78 (by decide) ?_
          refine aw_iload dX6_count_80 rfl ?_
          refine aw_aload_n dX6_count_82 rfl rfl ?_
          refine rr_getA dX6_count_83 flX6_48 rfl (by decide) ?_
          refine aw_iload dX6_count_86 rfl ?_
          refine rr_iald (n := 30) dX6_count_88 rfl rfl rfl (by omega) (by omega) (fun _ => rfl) ?_
          refine aw_if_lt (tgt := 108) dX6_count_89 (by decide) (by omega) (fun c_89 => ?_) (fun c_89 => ?_)
          · refine aw_iconst dX6_count_108 ?_
            refine aw_iadd dX6_count_109 ?_
            refine aw_istore dX6_count_110 (by decide) ?_
            refine aw_iinc dX6_count_112 rfl (by decide) ?_
            refine aw_goto (tgt := 13) dX6_count_115 (by decide) ?_
            refine AW.lss (ih (n + 1) (by omega)) (And.intro rfl (And.intro rfl (And.intro (congrArg Sum.inl ?_) (And.intro (congrArg Sum.inl ?_) (And.intro (congrArg Sum.inl ?_) (And.intro (congrArg Sum.inl ?_) (And.intro rfl trivial)))))))
            · rw [cnt, pOut]
              first | (rw [decide_eq_true (by omega)]; rfl) | (rw [decide_eq_false (by omega)]; rfl)
            · rw [cnt, pLeft]
              first | (rw [decide_eq_true (by omega)]; rfl) | (rw [decide_eq_false (by omega)]; rfl)
            · rw [cnt, pLate]
              first | (rw [decide_eq_true (by omega)]; rfl) | (rw [decide_eq_false (by omega)]; rfl)
            · rw [cnt, pIn]
              first | (rw [decide_eq_true (by omega)]; rfl) | (rw [decide_eq_false (by omega)]; rfl)
          · refine aw_aload_n dX6_count_92 rfl rfl ?_
            refine rr_getA dX6_count_93 flX6_48 rfl (by decide) ?_
            refine aw_iload dX6_count_96 rfl ?_
            refine rr_iald (n := 30) dX6_count_98 rfl rfl rfl (by omega) (by omega) (fun _ => rfl) ?_
            refine aw_bipush dX6_count_99 (by decide) ?_
            refine aw_icmp_ge (tgt := 108) dX6_count_101 (by decide) (by omega) (by omega) (fun c_101 => ?_) (fun c_101 => ?_)
            · refine aw_iconst dX6_count_108 ?_
              refine aw_iadd dX6_count_109 ?_
              refine aw_istore dX6_count_110 (by decide) ?_
              refine aw_iinc dX6_count_112 rfl (by decide) ?_
              refine aw_goto (tgt := 13) dX6_count_115 (by decide) ?_
              refine AW.lss (ih (n + 1) (by omega)) (And.intro rfl (And.intro rfl (And.intro (congrArg Sum.inl ?_) (And.intro (congrArg Sum.inl ?_) (And.intro (congrArg Sum.inl ?_) (And.intro (congrArg Sum.inl ?_) (And.intro rfl trivial)))))))
              · rw [cnt, pOut]
                first | (rw [decide_eq_true (by omega)]; rfl) | (rw [decide_eq_false (by omega)]; rfl)
              · rw [cnt, pLeft]
                first | (rw [decide_eq_true (by omega)]; rfl) | (rw [decide_eq_false (by omega)]; rfl)
              · rw [cnt, pLate]
                first | (rw [decide_eq_true (by omega)]; rfl) | (rw [decide_eq_false (by omega)]; rfl)
              · rw [cnt, pIn]
                first | (rw [decide_eq_true (by omega)]; rfl) | (rw [decide_eq_false (by omega)]; rfl)
            · refine aw_iconst dX6_count_104 ?_
              refine aw_goto (tgt := 109) dX6_count_105 (by decide) ?_
              refine aw_iadd dX6_count_109 ?_
              refine aw_istore dX6_count_110 (by decide) ?_
              refine aw_iinc dX6_count_112 rfl (by decide) ?_
              refine aw_goto (tgt := 13) dX6_count_115 (by decide) ?_
              refine AW.lss (ih (n + 1) (by omega)) (And.intro rfl (And.intro rfl (And.intro (congrArg Sum.inl ?_) (And.intro (congrArg Sum.inl ?_) (And.intro (congrArg Sum.inl ?_) (And.intro (congrArg Sum.inl ?_) (And.intro rfl trivial)))))))
              · rw [cnt, pOut]
                first | (rw [decide_eq_true (by omega)]; rfl) | (rw [decide_eq_false (by omega)]; rfl)
              · rw [cnt, pLeft]
                first | (rw [decide_eq_true (by omega)]; rfl) | (rw [decide_eq_false (by omega)]; rfl)
              · rw [cnt, pLate]
                first | (rw [decide_eq_true (by omega)]; rfl) | (rw [decide_eq_false (by omega)]; rfl)
              · rw [cnt, pIn]
                first | (rw [decide_eq_true (by omega)]; rfl) | (rw [decide_eq_false (by omega)]; rfl)
set_option maxRecDepth 100000 in
set_option maxHeartbeats 4000000 in
theorem c_X6_count {w : Int} (hB : BB S) (hw : Rg w) : CT l D cA A ad yX6_count cX6_count 7 (some .int) rm_X6_count [.inr (some (50, 0)), .inl w] lvR (VR S) sz (PR (some (.inl (opCnt S w))) (S) sz) := by
  refine CT.of2 [some (.inr (some (50, 0))), some (.inl w), none, none, none, none, none] (by decide) (Nat.le_of_ble_eq_true rfl) rfl ?_
  refine aw_iconst dX6_count_0 ?_
  refine aw_istore_n dX6_count_1 rfl (by decide) ?_
  refine aw_iconst dX6_count_2 ?_
  refine aw_istore_n dX6_count_3 rfl (by decide) ?_
  refine aw_iconst dX6_count_4 ?_
  refine aw_istore dX6_count_5 (by decide) ?_
  refine aw_iconst dX6_count_7 ?_
  refine aw_istore dX6_count_8 (by decide) ?_
  refine aw_iconst dX6_count_10 ?_
  refine aw_istore dX6_count_11 (by decide) ?_
  exact AW.lss (lp_X6_count hB hw (S 8 0).toNat 0 (by omega)) (And.intro rfl (And.intro rfl (And.intro rfl (And.intro rfl (And.intro rfl (And.intro rfl (And.intro rfl trivial)))))))
end REF6
