section CLS7
variable {l : Launch} {D : va_G} {cA : Nat → ClassId} {A : Nat → Prop} {ad : Ad} {ns nc : Int} {V : Vw} {sz : Nat} {S : SS}
def nxs (S : SS) (b : Int) : Int := if b < 0 then 10000 else S 26 b
set_option maxRecDepth 100000 in
set_option maxHeartbeats 4000000 in
theorem lp_X5_nextConvoy {w : Int} (hB : BB S) (hC : RC ns nc S V) (hw : Rg w) : ∀ (f n : Nat), n + f = nc.toNat → AW l D cA A ad yX5_nextConvoy cX5_nextConvoy 6 (some .int) rm_X5_nextConvoy (PP (some (.inl (nx S w nc.toNat))) (lvC ns nc) V sz) 0 0 (lvC ns nc) V sz 10 [some (.inr (some (0, 0))), some (.inl w), some (.inl (nx S w n)), some (.inl (nxs S (nx S w n))), some (.inl (n : Int)), none] [] := by
  obtain ⟨hR, h8, h24⟩ := id hC
  have hm := hB.m
  simp only [bsm] at hm
  intro f
  induction f with
  | zero =>
    intro n hn
    refine aw_iload dX5_nextConvoy_10 rfl ?_
    refine aw_aload_n dX5_nextConvoy_12 rfl rfl ?_
    refine aw_get dX5_nextConvoy_13 flX5_37 (by decide) (by decide) rfl rfl (rc_0_5 hR) ?_
    refine aw_icmp_ge (tgt := 77) dX5_nextConvoy_16 (by decide) (by omega) (by omega) (fun c_16 => ?_) (fun c_16 => absurd c_16 (by omega))
    refine aw_iload_n dX5_nextConvoy_77 rfl rfl ?_
    refine aw_iret dX5_nextConvoy_78 rfl (Nat.zero_le _) (Nat.zero_le _) ?_
    rw [show nc.toNat = n by omega]
    exact ⟨rfl, rfl, rfl, rfl⟩
  | succ f ih =>
    intro n hn
    have hnx := nx_bd S w n
    have hc := hB.cv (c := (n : Int)) (by omega) (by omega)
    simp only [bcv] at hc
    have hns : 0 ≤ nxs S (nx S w n) ∧ nxs S (nx S w n) ≤ 10000 := by
      rw [nxs]
      split
      · omega
      · have := (hB.cv (c := nx S w n) (by omega) (by omega)).2.1
        omega
    refine aw_iload dX5_nextConvoy_10 rfl ?_
    refine aw_aload_n dX5_nextConvoy_12 rfl rfl ?_
    refine aw_get dX5_nextConvoy_13 flX5_37 (by decide) (by decide) rfl rfl (rc_0_5 hR) ?_
    refine aw_icmp_ge (tgt := 77) dX5_nextConvoy_16 (by decide) (by omega) (by omega) (fun c_16 => absurd c_16 (by omega)) (fun c_16 => ?_)
    refine aw_aload_n dX5_nextConvoy_19 rfl rfl ?_
    refine aw_iload dX5_nextConvoy_20 rfl ?_
    refine aw_callV (c_X5_convoyAt (c := n) hB hC (by omega)) mv_X5_convoyAt mlX5_99 dX5_nextConvoy_22 rfl rfl (by decide) rfl (Nat.le_of_ble_eq_true rfl) rfl ?_
    rintro _ _ _ _ ⟨rfl, rfl, rfl, rfl⟩
    refine aw_astore dX5_nextConvoy_25 (by decide) ?_
    refine aw_aload dX5_nextConvoy_27 rfl ?_
    refine aw_ifnull_S dX5_nextConvoy_29 ?_
    refine aw_aload dX5_nextConvoy_32 rfl ?_
    refine aw_getN dX5_nextConvoy_34 fnX5_107 (by decide) (by decide) rfl (decide_eq_true (by omega)) (rc_7_0 hR (by omega)) ?_
    refine aw_iload_n dX5_nextConvoy_37 rfl rfl ?_
    refine aw_icmp_ne (tgt := 71) dX5_nextConvoy_38 (by decide) (by omega) (by omega) (fun c_38 => ?_) (fun c_38 => ?_)
    · refine aw_iinc dX5_nextConvoy_71 rfl (by decide) ?_
      refine aw_goto (tgt := 10) dX5_nextConvoy_74 (by decide) ?_
      first
      | (have en : nx S w (n + 1) = nx S w n := by
           rw [nx, if_neg (by first | omega | (intro q; rw [nxs] at c_59; split at c_59 <;> omega))]
         exact AW.lss (ih (n + 1) (by omega)) (And.intro rfl (And.intro rfl (And.intro (congrArg Sum.inl en) (And.intro (congrArg Sum.inl (by rw [en])) (And.intro rfl trivial))))))
      | (have en : nx S w (n + 1) = n := by
           rw [nx, if_pos (by rw [nxs] at c_59; split at c_59 <;> omega)]
         exact AW.lss (ih (n + 1) (by omega)) (And.intro rfl (And.intro rfl (And.intro (congrArg Sum.inl en) (And.intro (congrArg Sum.inl (by rw [en, nxs, if_neg (by omega)])) (And.intro rfl trivial))))))
    · refine aw_aload dX5_nextConvoy_41 rfl ?_
      refine aw_getN dX5_nextConvoy_43 fnX5_114 (by decide) (by decide) rfl (decide_eq_true (by omega)) (rc_7_1 hR (by omega)) ?_
      refine aw_aload_n dX5_nextConvoy_46 rfl rfl ?_
      refine aw_get dX5_nextConvoy_47 flX5_53 (by decide) (by decide) rfl rfl (rc_0_10 hR) ?_
      refine aw_icmp_le (tgt := 71) dX5_nextConvoy_50 (by decide) (by omega) (by omega) (fun c_50 => ?_) (fun c_50 => ?_)
      · refine aw_iinc dX5_nextConvoy_71 rfl (by decide) ?_
        refine aw_goto (tgt := 10) dX5_nextConvoy_74 (by decide) ?_
        first
        | (have en : nx S w (n + 1) = nx S w n := by
             rw [nx, if_neg (by first | omega | (intro q; rw [nxs] at c_59; split at c_59 <;> omega))]
           exact AW.lss (ih (n + 1) (by omega)) (And.intro rfl (And.intro rfl (And.intro (congrArg Sum.inl en) (And.intro (congrArg Sum.inl (by rw [en])) (And.intro rfl trivial))))))
        | (have en : nx S w (n + 1) = n := by
             rw [nx, if_pos (by rw [nxs] at c_59; split at c_59 <;> omega)]
           exact AW.lss (ih (n + 1) (by omega)) (And.intro rfl (And.intro rfl (And.intro (congrArg Sum.inl en) (And.intro (congrArg Sum.inl (by rw [en, nxs, if_neg (by omega)])) (And.intro rfl trivial))))))
      · refine aw_aload dX5_nextConvoy_53 rfl ?_
        refine aw_getN dX5_nextConvoy_55 fnX5_114 (by decide) (by decide) rfl (decide_eq_true (by omega)) (rc_7_1 hR (by omega)) ?_
        refine aw_iload_n dX5_nextConvoy_58 rfl rfl ?_
        refine aw_icmp_ge (tgt := 71) dX5_nextConvoy_59 (by decide) (by omega) (by omega) (fun c_59 => ?_) (fun c_59 => ?_)
        · refine aw_iinc dX5_nextConvoy_71 rfl (by decide) ?_
          refine aw_goto (tgt := 10) dX5_nextConvoy_74 (by decide) ?_
          first
          | (have en : nx S w (n + 1) = nx S w n := by
               rw [nx, if_neg (by first | omega | (intro q; rw [nxs] at c_59; split at c_59 <;> omega))]
             exact AW.lss (ih (n + 1) (by omega)) (And.intro rfl (And.intro rfl (And.intro (congrArg Sum.inl en) (And.intro (congrArg Sum.inl (by rw [en])) (And.intro rfl trivial))))))
          | (have en : nx S w (n + 1) = n := by
               rw [nx, if_pos (by rw [nxs] at c_59; split at c_59 <;> omega)]
             exact AW.lss (ih (n + 1) (by omega)) (And.intro rfl (And.intro rfl (And.intro (congrArg Sum.inl en) (And.intro (congrArg Sum.inl (by rw [en, nxs, if_neg (by omega)])) (And.intro rfl trivial))))))
        · refine aw_iload dX5_nextConvoy_62 rfl ?_
          refine aw_istore_n dX5_nextConvoy_64 rfl (by decide) ?_
          refine aw_aload dX5_nextConvoy_65 rfl ?_
          refine aw_getN dX5_nextConvoy_67 fnX5_114 (by decide) (by decide) rfl (decide_eq_true (by omega)) (rc_7_1 hR (by omega)) ?_
          refine aw_istore_n dX5_nextConvoy_70 rfl (by decide) ?_
          refine aw_iinc dX5_nextConvoy_71 rfl (by decide) ?_
          refine aw_goto (tgt := 10) dX5_nextConvoy_74 (by decide) ?_
          first
          | (have en : nx S w (n + 1) = nx S w n := by
               rw [nx, if_neg (by first | omega | (intro q; rw [nxs] at c_59; split at c_59 <;> omega))]
             exact AW.lss (ih (n + 1) (by omega)) (And.intro rfl (And.intro rfl (And.intro (congrArg Sum.inl en) (And.intro (congrArg Sum.inl (by rw [en])) (And.intro rfl trivial))))))
          | (have en : nx S w (n + 1) = n := by
               rw [nx, if_pos (by rw [nxs] at c_59; split at c_59 <;> omega)]
             exact AW.lss (ih (n + 1) (by omega)) (And.intro rfl (And.intro rfl (And.intro (congrArg Sum.inl en) (And.intro (congrArg Sum.inl (by rw [en, nxs, if_neg (by omega)])) (And.intro rfl trivial))))))
set_option maxRecDepth 100000 in
set_option maxHeartbeats 4000000 in
theorem c_X5_nextConvoy {w : Int} (hB : BB S) (hC : RC ns nc S V) (hw : Rg w) : CT l D cA A ad yX5_nextConvoy cX5_nextConvoy 6 (some .int) rm_X5_nextConvoy [.inr (some (0, 0)), .inl w] (lvC ns nc) V sz (PP (some (.inl (nx S w nc.toNat))) (lvC ns nc) V sz) := by
  refine CT.of2 [some (.inr (some (0, 0))), some (.inl w), none, none, none, none] (by decide) (Nat.le_of_ble_eq_true rfl) rfl ?_
  have hm := hB.m
  simp only [bsm] at hm
  have h24 := hC.2.2
  refine aw_bipush dX5_nextConvoy_0 (by decide) ?_
  refine aw_istore_n dX5_nextConvoy_2 rfl (by decide) ?_
  refine aw_sipush dX5_nextConvoy_3 (by decide) ?_
  refine aw_istore_n dX5_nextConvoy_6 rfl (by decide) ?_
  refine aw_iconst dX5_nextConvoy_7 ?_
  refine aw_istore dX5_nextConvoy_8 (by decide) ?_
  exact AW.lss (lp_X5_nextConvoy hB hC hw nc.toNat 0 (by omega)) (And.intro rfl (And.intro rfl (And.intro rfl (And.intro rfl (And.intro rfl trivial)))))
set_option maxRecDepth 100000 in
set_option maxHeartbeats 4000000 in
theorem c_X5_missedConvoy {s : Nat} (hB : BB S) (hC : RC ns nc S V) (hs : (s : Int) < ns) (h22 : S 22 s < nc) : CT l D cA A ad yX5_missedConvoy cX5_missedConvoy 3 (some .boolean) rm_X5_missedConvoy [.inr (some (0, 0)), .inr (some (5, s))] (lvC ns nc) V sz (PB (0 ≤ S 22 s ∧ S 26 (S 22 s) < S 0 0) (lvC ns nc) V sz) := by
  refine CT.of2 [some (.inr (some (0, 0))), some (.inr (some (5, s))), none] (by decide) (Nat.le_of_ble_eq_true rfl) rfl ?_
  obtain ⟨hR, h8, h24⟩ := id hC
  have hm := hB.m
  simp only [bsm] at hm
  have hsh := hB.sh (s := (s : Int)) (by omega) (by omega)
  simp only [bsh] at hsh
  by_cases h0 : 0 ≤ S 22 s
  · have hcv := hB.cv h0 hsh.2.2.2.2.2.2.2.2.2.2.2.2
    simp only [bcv] at hcv
    have e26 : V 7 (S 22 s).toNat 1 = .inl (S 26 (S 22 s)) := by
      have := rc_7_1 (i := (S 22 s).toNat) hR (by omega)
      rw [Int.toNat_of_nonneg h0] at this
      exact this
    refine aw_aload_n dX5_missedConvoy_0 rfl rfl ?_
    refine aw_aload_n dX5_missedConvoy_1 rfl rfl ?_
    refine aw_getN dX5_missedConvoy_2 fnX5_111 (by decide) (by decide) rfl (decide_eq_true (by omega)) (rc_5_14 hR (by omega)) ?_
    rw [show Sum.inl (S 22 s) = (Sum.inl (((S 22 s).toNat : Nat) : Int) : AV) from congrArg Sum.inl (by omega)]
    refine aw_callV (c_X5_convoyAt (c := (S 22 s).toNat) hB hC (by omega)) mv_X5_convoyAt mlX5_99 dX5_missedConvoy_5 rfl rfl (by decide) rfl (Nat.le_of_ble_eq_true rfl) rfl ?_
    rintro _ _ _ _ ⟨rfl, rfl, rfl, rfl⟩
    refine aw_astore_n dX5_missedConvoy_8 rfl (by decide) ?_
    refine aw_aload_n dX5_missedConvoy_9 rfl rfl ?_
    refine aw_ifnull_S dX5_missedConvoy_10 ?_
    refine aw_aload_n dX5_missedConvoy_13 rfl rfl ?_
    refine aw_getN dX5_missedConvoy_14 fnX5_114 (by decide) (by decide) rfl (decide_eq_true (show (((S 22 s).toNat : Nat) : Int) < nc by omega)) e26 ?_
    refine aw_aload_n dX5_missedConvoy_17 rfl rfl ?_
    refine aw_get dX5_missedConvoy_18 flX5_53 (by decide) (by decide) rfl rfl (rc_0_10 hR) ?_
    refine aw_icmp_ge (tgt := 28) dX5_missedConvoy_21 (by decide) (by omega) (by omega) (fun c_21 => ?_) (fun c_21 => ?_)
    · refine aw_iconst dX5_missedConvoy_28 ?_
      refine aw_zret dX5_missedConvoy_29 rfl (by decide) (Nat.zero_le _) (Nat.zero_le _) ?_
      first | exact ⟨Or.inl ⟨rfl, by omega⟩, rfl, rfl, rfl⟩ | exact ⟨Or.inr ⟨rfl, by omega⟩, rfl, rfl, rfl⟩
    · refine aw_iconst dX5_missedConvoy_24 ?_
      refine aw_goto (tgt := 29) dX5_missedConvoy_25 (by decide) ?_
      refine aw_zret dX5_missedConvoy_29 rfl (by decide) (Nat.zero_le _) (Nat.zero_le _) ?_
      first | exact ⟨Or.inl ⟨rfl, by omega⟩, rfl, rfl, rfl⟩ | exact ⟨Or.inr ⟨rfl, by omega⟩, rfl, rfl, rfl⟩
  · refine aw_aload_n dX5_missedConvoy_0 rfl rfl ?_
    refine aw_aload_n dX5_missedConvoy_1 rfl rfl ?_
    refine aw_getN dX5_missedConvoy_2 fnX5_111 (by decide) (by decide) rfl (decide_eq_true (by omega)) (rc_5_14 hR (by omega)) ?_
    refine aw_callV (c_X5_convoyAt_out hB hC (by omega) (Or.inl (by omega))) mv_X5_convoyAt mlX5_99 dX5_missedConvoy_5 rfl rfl (by decide) rfl (Nat.le_of_ble_eq_true rfl) rfl ?_
    rintro _ _ _ _ ⟨rfl, rfl, rfl, rfl⟩
    refine aw_astore_n dX5_missedConvoy_8 rfl (by decide) ?_
    refine aw_aload_n dX5_missedConvoy_9 rfl rfl ?_
    refine aw_ifnull_N (tgt := 28) dX5_missedConvoy_10 (by decide) ?_
    refine aw_iconst dX5_missedConvoy_28 ?_
    refine aw_zret dX5_missedConvoy_29 rfl (by decide) (Nat.zero_le _) (Nat.zero_le _) ?_
    first | exact ⟨Or.inl ⟨rfl, by omega⟩, rfl, rfl, rfl⟩ | exact ⟨Or.inr ⟨rfl, by omega⟩, rfl, rfl, rfl⟩
theorem RC.jn {s : Nat} (hC : RC ns nc S V) (hB : BB S) (hs : (s : Int) < ns) (hj : JOK S s) : RC ns nc (jn S s) (s3 (s3 V 41 (S 9 s).toNat (S 31 ((S 9 s).toNat : Int)).toNat (.inr (some (5, s)))) 31 (S 9 s).toNat 1 (.inl (S 31 ((S 9 s).toNat : Int) + 1))) := by
  obtain ⟨hR, h8, h24⟩ := id hC
  have hm := hB.m
  simp only [bsm] at hm
  have hsh := hB.sh (s := (s : Int)) (by omega) (by omega)
  simp only [bsh] at hsh
  simp only [JOK] at hj
  have e : ((S 9 s).toNat : Int) = S 9 s := by omega
  have := hR.pushLine (i := (S 9 s).toNat) (by omega) (by rw [e]; exact hj) (s : Int)
  rw [e] at this ⊢
  exact ⟨this, h8, h24⟩
def tkl (S : SS) (s : Int) : SS := if S 2 0 = 1 then jn (u2 S 17 s 1) s else ltT (u2 S 17 s 1) s (nx S (S 9 s) (S 24 0).toNat)
set_option maxRecDepth 100000 in
set_option maxHeartbeats 4000000 in
theorem c_X5_takeLateShip {s : Nat} (hB : BB S) (hC : RC ns nc S V) (hs : (s : Int) < ns) (ho1 : S 2 0 = 1 → JOK S s) (ho2 : S 2 0 ≠ 1 → 0 ≤ nx S (S 9 s) (S 24 0).toNat → S 29 (nx S (S 9 s) (S 24 0).toNat) < 30) : CT l D cA A ad yX5_takeLateShip cX5_takeLateShip 4 none rm_X5_takeLateShip [.inr (some (0, 0)), .inr (some (5, s))] (lvC ns nc) V sz (PC none ns nc (tkl S s) sz) := by
  refine CT.of2 [some (.inr (some (0, 0))), some (.inr (some (5, s))), none, none] (by decide) (Nat.le_of_ble_eq_true rfl) rfl ?_
  obtain ⟨hR, h8, h24⟩ := id hC
  have hm := hB.m
  simp only [bsm] at hm
  have hsh := hB.sh (s := (s : Int)) (by omega) (by omega)
  simp only [bsh] at hsh
  have hB1 : BB (u2 S 17 s 1) := BB_u2 hB (fun _ _ => Or.inr rfl)
  have hnx := nx_bd S (S 9 s) (S 24 0).toNat
  have enx : nx (u2 S 17 s 1) (S 9 s) nc.toNat = nx S (S 9 s) (S 24 0).toNat := by rw [← h24]; exact nx_congr (S := S) (T := u2 S 17 s 1) rfl (fun _ => rfl) (fun _ => rfl) _ _
  refine aw_aload_n dX5_takeLateShip_0 rfl rfl ?_
  refine aw_iconst dX5_takeLateShip_1 ?_
  refine aw_putN dX5_takeLateShip_2 fnX5_162 (by decide) (by decide) rfl rfl (decide_eq_true hs) (Or.inr rfl) ?_
  have hC : RC ns nc (u2 S 17 s 1) _ := hC.set 1 (show src 5 s 10 = some (false, 17, (s : Int)) from rfl) (by decide) (And.intro (show (s : Int) < S 8 0 by omega) (by decide))
  have hR := hC.1
  refine aw_aload_n dX5_takeLateShip_5 rfl rfl ?_
  refine aw_get (v := .inl (S 2 0)) dX5_takeLateShip_6 flX5_50 (by decide) (by decide) rfl rfl ((rc_0_9 hR).trans rfl) ?_
  refine aw_iconst dX5_takeLateShip_9 ?_
  refine aw_icmp_ne (tgt := 26) dX5_takeLateShip_10 (by decide) (by omega) (by omega) (fun c_10 => ?_) (fun c_10 => ?_)
  · refine aw_aload_n dX5_takeLateShip_26 rfl rfl ?_
    refine aw_aload_n dX5_takeLateShip_27 rfl rfl ?_
    refine aw_getN (v := .inl (S 9 s)) dX5_takeLateShip_28 fnX5_110 (by decide) (by decide) rfl (decide_eq_true hs) ((rc_5_1 hR (show (s : Int) < S 8 0 by omega)).trans rfl) ?_
    refine aw_callV (c_X5_nextConvoy hB1 hC (by omega)) mv_X5_nextConvoy mlX5_165 dX5_takeLateShip_31 rfl rfl (by decide) rfl (Nat.le_of_ble_eq_true rfl) rfl ?_
    rintro _ _ _ _ ⟨rfl, rfl, rfl, rfl⟩
    rw [enx]
    refine aw_istore_n dX5_takeLateShip_34 rfl (by decide) ?_
    refine aw_aload_n dX5_takeLateShip_35 rfl rfl ?_
    refine aw_iload_n dX5_takeLateShip_36 rfl rfl ?_
    by_cases h0 : 0 ≤ nx S (S 9 s) (S 24 0).toNat
    · obtain ⟨c, hc⟩ : ∃ c : Nat, nx S (S 9 s) (S 24 0).toNat = (c : Int) := ⟨(nx S (S 9 s) (S 24 0).toNat).toNat, by omega⟩
      have ho3 := ho2 c_10 h0
      rw [hc] at hnx ho3 ⊢
      have hcv := hB.cv (c := (c : Int)) (by omega) (by omega)
      simp only [bcv] at hcv
      refine aw_callV (c_X5_convoyAt (c := c) hB1 hC (by omega)) mv_X5_convoyAt mlX5_99 dX5_takeLateShip_37 rfl rfl (by decide) rfl (Nat.le_of_ble_eq_true rfl) rfl ?_
      rintro _ _ _ _ ⟨rfl, rfl, rfl, rfl⟩
      refine aw_astore_n dX5_takeLateShip_40 rfl (by decide) ?_
      refine aw_aload_n dX5_takeLateShip_41 rfl rfl ?_
      refine aw_ifnonnull_S (tgt := 51) dX5_takeLateShip_42 (by decide) ?_
      refine aw_aload_n dX5_takeLateShip_51 rfl rfl ?_
      refine aw_getN dX5_takeLateShip_52 fnX5_148 (by decide) (by decide) rfl (decide_eq_true (show (c : Int) < nc by omega)) (rc_7_3 hR (show (c : Int) < S 24 0 by omega)) ?_
      refine aw_aload_n dX5_takeLateShip_55 rfl rfl ?_
      refine aw_callV (c_X2_add (s := s) (hC.put hB1 (j := c) (by omega)) (show S 29 c < 30 by omega) (by decide) (decide_eq_true hs)) mv_X2_add mlX5_92 dX5_takeLateShip_56 rfl (decide_eq_true (show (c : Int) < nc by omega)) (by decide) rfl (Nat.le_of_ble_eq_true rfl) rfl ?_
      rintro _ _ _ _ ⟨rfl, rfl, rfl, rfl⟩
      have hC3 : RC ns nc (u2 (u2 (u2 S 17 s 1) 30 (30 * (c : Int) + S 29 c) s) 29 c (S 29 c + 1)) _ := RC.mk2 (S := S) (hR.pushPut (i := c) (show (c : Int) < S 24 0 by omega) (show 0 ≤ S 29 c ∧ S 29 c < 30 by omega) (s : Int)) h8 h24
      refine aw_aload_n dX5_takeLateShip_59 rfl rfl ?_
      refine aw_iload_n dX5_takeLateShip_60 rfl rfl ?_
      refine aw_putN dX5_takeLateShip_61 fnX5_111 (by decide) (by decide) rfl rfl (decide_eq_true hs) trivial ?_
      refine aw_vret dX5_takeLateShip_64 rfl (Nat.zero_le _) (Nat.zero_le _) ?_
      have hC4 := hC3.set (c : Int) (show src 5 s 14 = some (false, 22, (s : Int)) from rfl) (by decide) (And.intro (show (s : Int) < S 8 0 by omega) (by decide))
      rw [tkl, if_neg c_10, hc, ltT, if_neg (by omega)]
      exact ⟨rfl, rfl, rfl, hC4⟩
    · refine aw_callV (c_X5_convoyAt_out hB1 hC (by omega) (Or.inl (by omega))) mv_X5_convoyAt mlX5_99 dX5_takeLateShip_37 rfl rfl (by decide) rfl (Nat.le_of_ble_eq_true rfl) rfl ?_
      rintro _ _ _ _ ⟨rfl, rfl, rfl, rfl⟩
      refine aw_astore_n dX5_takeLateShip_40 rfl (by decide) ?_
      refine aw_aload_n dX5_takeLateShip_41 rfl rfl ?_
      refine aw_ifnonnull_N dX5_takeLateShip_42 ?_
      refine aw_aload_n dX5_takeLateShip_45 rfl rfl ?_
      refine aw_iconst dX5_takeLateShip_46 ?_
      refine aw_putN dX5_takeLateShip_47 fnX5_169 (by decide) (by decide) rfl rfl (decide_eq_true hs) (Or.inr rfl) ?_
      refine aw_vret dX5_takeLateShip_50 rfl (Nat.zero_le _) (Nat.zero_le _) ?_
      have hC3 := hC.set 1 (show src 5 s 11 = some (false, 18, (s : Int)) from rfl) (by decide) (And.intro (show (s : Int) < S 8 0 by omega) (by decide))
      rw [tkl, if_neg c_10, ltT, if_pos (by omega)]
      exact ⟨rfl, rfl, rfl, hC3⟩
  · refine aw_aload_n dX5_takeLateShip_13 rfl rfl ?_
    refine aw_aload_n dX5_takeLateShip_14 rfl rfl ?_
    refine aw_getN (v := .inl (S 9 s)) dX5_takeLateShip_15 fnX5_110 (by decide) (by decide) rfl (decide_eq_true hs) ((rc_5_1 hR (show (s : Int) < S 8 0 by omega)).trans rfl) ?_
    refine aw_callV (c_X5_lineOf hC hsh.1) mv_X5_lineOf mlX5_151 dX5_takeLateShip_18 rfl rfl (by decide) rfl (Nat.le_of_ble_eq_true rfl) rfl ?_
    rintro _ _ _ _ ⟨rfl, rfl, rfl, rfl⟩
    refine aw_aload_n dX5_takeLateShip_21 rfl rfl ?_
    refine aw_callV (c_X2_add (s := s) (hC.line hB1 (j := (S 9 s).toNat) (by omega)) (show S 31 (((S 9 s).toNat : Nat) : Int) < 30 by have hj := ho1 c_10; simp only [JOK] at hj; rw [show (((S 9 s).toNat : Nat) : Int) = S 9 s by omega]; exact hj.2) (by decide) (decide_eq_true hs)) mv_X2_add mlX5_92 dX5_takeLateShip_22 rfl (decide_eq_true (show (S 9 s).toNat < 2 by omega)) (by decide) rfl (Nat.le_of_ble_eq_true rfl) rfl ?_
    rintro _ _ _ _ ⟨rfl, rfl, rfl, rfl⟩
    have hC2 := hC.jn hB1 hs (JOK_u17 (ho1 c_10))
    refine aw_vret dX5_takeLateShip_25 rfl (Nat.zero_le _) (Nat.zero_le _) ?_
    rw [tkl, if_pos c_10]
    exact ⟨rfl, rfl, rfl, hC2⟩
set_option maxRecDepth 100000 in
set_option maxHeartbeats 4000000 in
theorem lp_X5_findLateShips (hB : BB S) (hok : okLs S) (h22 : ∀ n : Nat, (n : Int) < S 8 0 → lts S n 22 n < S 24 0) : ∀ (f n : Nat) (V : Vw), n + f = ns.toNat → RC ns nc (lts S n) V → AW l D cA A ad yX5_findLateShips cX5_findLateShips 3 none rm_X5_findLateShips (PC none ns nc (lts S ns.toNat) sz) 0 0 (lvC ns nc) V sz 2 [some (.inr (some (0, 0))), some (.inl (n : Int)), none] [] := by
  have e8 : ∀ n : Nat, lts S n 8 0 = S 8 0 := fun n => lts_ne (by decide) (by decide) (by decide) (by decide) (by decide) (by decide) (by decide) _ _
  have e24 : ∀ n : Nat, lts S n 24 0 = S 24 0 := fun n => lts_ne (by decide) (by decide) (by decide) (by decide) (by decide) (by decide) (by decide) _ _
  have hm := hB.m
  simp only [bsm] at hm
  intro f
  induction f with
  | zero =>
    intro n V hn hC
    obtain ⟨hR, h8, h24⟩ := id hC
    have q8 := e8 n
    refine aw_iload_n dX5_findLateShips_2 rfl rfl ?_
    refine aw_aload_n dX5_findLateShips_3 rfl rfl ?_
    refine aw_get dX5_findLateShips_4 flX5_27 (by decide) (by decide) rfl rfl (rc_0_3 hR) ?_
    refine aw_getN dX5_findLateShips_7 fnX5_84 (by decide) (by decide) rfl rfl (rc_32_1 hR) ?_
    refine aw_icmp_ge (tgt := 56) dX5_findLateShips_10 (by decide) (by omega) (by omega) (fun c_10 => ?_) (fun c_10 => absurd c_10 (by omega))
    refine aw_vret dX5_findLateShips_56 rfl (Nat.zero_le _) (Nat.zero_le _) ?_
    rw [show ns.toNat = n by omega]
    exact ⟨rfl, rfl, rfl, hC⟩
  | succ f ih =>
    intro n V hn hC
    obtain ⟨hR, h8, h24⟩ := id hC
    have q8 := e8 n
    have q24 := e24 n
    have hb := BB_lts hB hok n (by omega)
    have ho := hok n (by omega)
    have h2 := h22 n (by omega)
    have el : lts S (n + 1) = lt1 (lts S n) n := rfl
    have hm2 := hb.m
    simp only [bsm] at hm2
    have hsh := hb.sh (s := (n : Int)) (by omega) (by omega)
    simp only [bsh] at hsh
    have hships := hC.ships hb
    have e42 : V 42 0 ((n : Int)).toNat = .inr (some (5, n)) := rc_42 hR (by omega) (by omega)
    generalize hT : lts S n = T at hC hR h8 h24 q8 q24 hb ho h2 el hm2 hsh hships
    refine aw_iload_n dX5_findLateShips_2 rfl rfl ?_
    refine aw_aload_n dX5_findLateShips_3 rfl rfl ?_
    refine aw_get dX5_findLateShips_4 flX5_27 (by decide) (by decide) rfl rfl (rc_0_3 hR) ?_
    refine aw_getN dX5_findLateShips_7 fnX5_84 (by decide) (by decide) rfl rfl (rc_32_1 hR) ?_
    refine aw_icmp_ge (tgt := 56) dX5_findLateShips_10 (by decide) (by omega) (by omega) (fun c_10 => absurd c_10 (by omega)) (fun c_10 => ?_)
    refine aw_aload_n dX5_findLateShips_13 rfl rfl ?_
    refine aw_get dX5_findLateShips_14 flX5_27 (by decide) (by decide) rfl rfl (rc_0_3 hR) ?_
    refine aw_iload_n dX5_findLateShips_17 rfl rfl ?_
    refine aw_callV (c_X2_at (x := (n : Int)) hships (by omega) (by omega) e42) mv_X2_at mlX5_103 dX5_findLateShips_18 rfl rfl (by decide) rfl (Nat.le_of_ble_eq_true rfl) rfl ?_
    rintro _ _ _ _ ⟨rfl, rfl, rfl, rfl⟩
    refine aw_astore_n dX5_findLateShips_21 rfl (by decide) ?_
    refine aw_aload_n dX5_findLateShips_22 rfl rfl ?_
    refine aw_ifnull_S dX5_findLateShips_23 ?_
    refine aw_aload_n dX5_findLateShips_26 rfl rfl ?_
    refine aw_getN dX5_findLateShips_27 fnX5_117 (by decide) (by decide) rfl (decide_eq_true (by omega)) (rc_5_2 hR (by omega)) ?_
    refine aw_aload_n dX5_findLateShips_30 rfl rfl ?_
    refine aw_get dX5_findLateShips_31 flX5_53 (by decide) (by decide) rfl rfl (rc_0_10 hR) ?_
    refine aw_icmp_ne (tgt := 50) dX5_findLateShips_34 (by decide) (by omega) (by omega) (fun c_34 => ?_) (fun c_34 => ?_)
    · refine aw_iinc dX5_findLateShips_50 rfl (by decide) ?_
      refine aw_goto (tgt := 2) dX5_findLateShips_53 (by decide) ?_
      first
      | (have e1 : lts S (n + 1) = T := by rw [el, lt1, if_neg (by omega)]
         exact AW.lss (ih (n + 1) _ (by omega) (by rw [e1]; exact hC)) (And.intro rfl (And.intro rfl trivial)))
      | (have e1 : lts S (n + 1) = tkl T n := by rw [el, lt1, if_pos ⟨by omega, hM.1, hM.2⟩, tkl]
         exact AW.lss (ih (n + 1) _ (by omega) (by rw [e1]; exact hC2)) (And.intro rfl (And.intro rfl trivial)))
    · refine aw_aload_n dX5_findLateShips_37 rfl rfl ?_
      refine aw_aload_n dX5_findLateShips_38 rfl rfl ?_
      refine aw_callV (c_X5_missedConvoy (s := n) hb hC (by omega) (by omega)) mv_X5_missedConvoy mlX5_155 dX5_findLateShips_39 rfl rfl (by decide) rfl (Nat.le_of_ble_eq_true rfl) rfl ?_
      rintro _ _ _ _ ⟨⟨rfl, hM⟩ | ⟨rfl, hM⟩, rfl, rfl, rfl⟩
      · refine aw_if_eq (tgt := 50) dX5_findLateShips_42 (by decide) (by omega) (fun c_42 => absurd c_42 (by decide)) (fun _ => ?_)
        refine aw_aload_n dX5_findLateShips_45 rfl rfl ?_
        refine aw_aload_n dX5_findLateShips_46 rfl rfl ?_
        refine aw_callV (c_X5_takeLateShip (s := n) hb hC (by omega) (ho ⟨by omega, hM.1, hM.2⟩).1 (ho ⟨by omega, hM.1, hM.2⟩).2) mv_X5_takeLateShip mlX5_159 dX5_findLateShips_47 rfl rfl (by decide) rfl (Nat.le_of_ble_eq_true rfl) rfl ?_
        rintro _ _ _ _ ⟨rfl, rfl, rfl, hC2⟩
        refine aw_iinc dX5_findLateShips_50 rfl (by decide) ?_
        refine aw_goto (tgt := 2) dX5_findLateShips_53 (by decide) ?_
        first
        | (have e1 : lts S (n + 1) = T := by rw [el, lt1, if_neg (by omega)]
           exact AW.lss (ih (n + 1) _ (by omega) (by rw [e1]; exact hC)) (And.intro rfl (And.intro rfl trivial)))
        | (have e1 : lts S (n + 1) = tkl T n := by rw [el, lt1, if_pos ⟨by omega, hM.1, hM.2⟩, tkl]
           exact AW.lss (ih (n + 1) _ (by omega) (by rw [e1]; exact hC2)) (And.intro rfl (And.intro rfl trivial)))
      · refine aw_if_eq (tgt := 50) dX5_findLateShips_42 (by decide) (by omega) (fun _ => ?_) (fun c_42 => absurd c_42 (by decide))
        refine aw_iinc dX5_findLateShips_50 rfl (by decide) ?_
        refine aw_goto (tgt := 2) dX5_findLateShips_53 (by decide) ?_
        first
        | (have e1 : lts S (n + 1) = T := by rw [el, lt1, if_neg (by omega)]
           exact AW.lss (ih (n + 1) _ (by omega) (by rw [e1]; exact hC)) (And.intro rfl (And.intro rfl trivial)))
        | (have e1 : lts S (n + 1) = tkl T n := by rw [el, lt1, if_pos ⟨by omega, hM.1, hM.2⟩, tkl]
           exact AW.lss (ih (n + 1) _ (by omega) (by rw [e1]; exact hC2)) (And.intro rfl (And.intro rfl trivial)))
set_option maxRecDepth 100000 in
set_option maxHeartbeats 4000000 in
theorem c_X5_findLateShips (hB : BB S) (hok : okLs S) (h22 : ∀ n : Nat, (n : Int) < S 8 0 → lts S n 22 n < S 24 0) (hC : RC ns nc S V) : CT l D cA A ad yX5_findLateShips cX5_findLateShips 3 none rm_X5_findLateShips [.inr (some (0, 0))] (lvC ns nc) V sz (PC none ns nc (lts S ns.toNat) sz) := by
  refine CT.of2 [some (.inr (some (0, 0))), none, none] (by decide) (Nat.le_of_ble_eq_true rfl) rfl ?_
  refine aw_iconst dX5_findLateShips_0 ?_
  refine aw_istore_n dX5_findLateShips_1 rfl (by decide) ?_
  exact AW.lss (lp_X5_findLateShips hB hok h22 ns.toNat 0 _ (by omega) hC) (And.intro rfl (And.intro rfl trivial))
set_option maxRecDepth 100000 in
set_option maxHeartbeats 4000000 in
theorem lpB_X5_joinLine {c : Nat} (hB : BB S) (hc : (c : Int) < nc) (h24 : S 24 0 = nc) (h8 : S 8 0 = ns) (hv : ∀ k : Nat, (k : Int) < S 27 c → S 28 (8 * (c : Int) + k) < S 8 0) (hj : ∀ k : Nat, k < (S 27 c).toNat → S 10 (S 28 (8 * (c : Int) + k)) ≤ S 0 0 → JOK (stB S c k) (S 28 (8 * (c : Int) + k))) : ∀ (f k : Nat) (V : Vw), k + f = (S 27 c).toNat → RC ns nc (stB S c k) V → AW l D cA A ad yX5_joinLine cX5_joinLine 4 none rm_X5_joinLine (PC none ns nc (stB S c (S 27 c).toNat) sz) 0 0 (lvC ns nc) V sz 2 [some (.inr (some (0, 0))), some (.inr (some (33, c))), some (.inl (k : Int)), none] [] := by
  have hm := hB.m
  simp only [bsm] at hm
  have hcv := hB.cv (c := (c : Int)) (by omega) (by omega)
  simp only [bcv] at hcv
  intro f
  induction f with
  | zero =>
    intro k V hk hC
    have eK : V 33 c 1 = .inl (S 27 c) := (rc_33_1 hC.1 (by rw [stB_ne (by decide) (by decide)]; omega)).trans (by rw [stB_ne (by decide) (by decide)])
    refine aw_iload_n dX5_joinLine_2 rfl rfl ?_
    refine aw_aload_n dX5_joinLine_3 rfl rfl ?_
    refine aw_getN dX5_joinLine_4 fnX5_84 (by decide) (by decide) rfl (decide_eq_true (show (c : Int) < nc by omega)) eK ?_
    refine aw_icmp_ge (tgt := 49) dX5_joinLine_7 (by decide) (by omega) (by omega) (fun c_7 => ?_) (fun c_7 => absurd c_7 (by omega))
    refine aw_vret dX5_joinLine_49 rfl (Nat.zero_le _) (Nat.zero_le _) ?_
    rw [show (S 27 c).toNat = k by omega]
    exact ⟨rfl, rfl, rfl, hC⟩
  | succ f ih =>
    intro k V hk hC
    have hR := hC.1
    have eK : V 33 c 1 = .inl (S 27 c) := (rc_33_1 hR (by rw [stB_ne (by decide) (by decide)]; omega)).trans (by rw [stB_ne (by decide) (by decide)])
    have hW : RW (lvC ns nc) V 33 c 43 c (S 27 c) := ⟨rfl, decide_eq_true hc, rc_33_0 hR (by rw [stB_ne (by decide) (by decide)]; omega), rfl, decide_eq_true hc, eK, hcv.2.2.1.1, hcv.2.2.1.2⟩
    have hvk := hv k (by omega)
    have hin := hB.bk (x := 8 * (c : Int) + k) (by omega) (by omega)
    have hA : V 43 c ((k : Int)).toNat = .inr (some (5, (S 28 (8 * (c : Int) + k)).toNat)) := by
      have := rc_43 (i := c) (k := k) hR (by rw [stB_ne (by decide) (by decide)]; omega) (by omega) (by rw [stB_ne (by decide) (by decide)]; omega)
      rw [stB_ne (by decide) (by decide)] at this
      exact this
    have hbk : BB (stB S c k) := BB_stB hB (by omega) k (by omega) (fun q hq => hj q (by omega))
    have hjk := hj k (by omega)
    skip
    have esu : stB S c (k + 1) = if S 10 (S 28 (8 * (c : Int) + k)) ≤ S 0 0 then jn (stB S c k) (S 28 (8 * (c : Int) + k)) else stB S c k := rfl
    generalize hse : S 28 (8 * (c : Int) + k) = s1 at hvk hin hA hjk esu 
    obtain ⟨s, rfl⟩ : ∃ t : Nat, s1 = (t : Int) := ⟨s1.toNat, by omega⟩
    rw [Int.toNat_natCast] at hA
    have hs : (s : Int) < ns := by omega
    have hsh := hB.sh (s := (s : Int)) (by omega) (by omega)
    simp only [bsh] at hsh
    have q9 : stB S c k 9 s = S 9 s := stB_ne (by decide) (by decide) _ _
    have e10 : V 5 s 2 = .inl (S 10 s) := (rc_5_2 hR (by rw [stB_ne (by decide) (by decide)]; omega)).trans (by rw [stB_ne (by decide) (by decide)])
    have e0 : V 0 0 10 = .inl (S 0 0) := (rc_0_10 hR).trans (by rw [stB_ne (by decide) (by decide)])
    have e9 : V 5 s 1 = .inl (stB S c k 9 s) := rc_5_1 hR (by rw [stB_ne (by decide) (by decide)]; omega)
    refine aw_iload_n dX5_joinLine_2 rfl rfl ?_
    refine aw_aload_n dX5_joinLine_3 rfl rfl ?_
    refine aw_getN dX5_joinLine_4 fnX5_84 (by decide) (by decide) rfl (decide_eq_true (show (c : Int) < nc by omega)) eK ?_
    refine aw_icmp_ge (tgt := 49) dX5_joinLine_7 (by decide) (by omega) (by omega) (fun c_7 => absurd c_7 (by omega)) (fun c_7 => ?_)
    refine aw_aload_n dX5_joinLine_10 rfl rfl ?_
    refine aw_iload_n dX5_joinLine_11 rfl rfl ?_
    refine aw_callV (c_X2_at (x := (k : Int)) hW (by omega) (by omega) hA) mv_X2_at mlX5_103 dX5_joinLine_12 rfl (decide_eq_true (show (c : Int) < nc by omega)) (by decide) rfl (Nat.le_of_ble_eq_true rfl) rfl ?_
    rintro _ _ _ _ ⟨rfl, rfl, rfl, rfl⟩
    refine aw_astore_n dX5_joinLine_15 rfl (by decide) ?_
    refine aw_aload_n dX5_joinLine_16 rfl rfl ?_
    refine aw_ifnull_S dX5_joinLine_17 ?_
    refine aw_aload_n dX5_joinLine_20 rfl rfl ?_
    refine aw_getN dX5_joinLine_21 fnX5_117 (by decide) (by decide) rfl (decide_eq_true hs) e10 ?_
    refine aw_aload_n dX5_joinLine_24 rfl rfl ?_
    refine aw_get dX5_joinLine_25 flX5_53 (by decide) (by decide) rfl rfl e0 ?_
    refine aw_icmp_gt (tgt := 43) dX5_joinLine_28 (by decide) (by omega) (by omega) (fun c_28 => ?_) (fun c_28 => ?_)
    · refine aw_iinc dX5_joinLine_43 rfl (by decide) ?_
      refine aw_goto (tgt := 2) dX5_joinLine_46 (by decide) ?_
      first
      | (rw [if_pos c_28] at esu
         exact AW.lss (ih (k + 1) _ (by omega) (by rw [esu]; exact hC2)) (And.intro rfl (And.intro rfl (And.intro rfl trivial))))
      | (rw [if_neg (by omega)] at esu
         exact AW.lss (ih (k + 1) _ (by omega) (by rw [esu]; exact hC)) (And.intro rfl (And.intro rfl (And.intro rfl trivial))))
    · refine aw_aload_n dX5_joinLine_31 rfl rfl ?_
      refine aw_aload_n dX5_joinLine_32 rfl rfl ?_
      refine aw_getN dX5_joinLine_33 fnX5_110 (by decide) (by decide) rfl (decide_eq_true hs) e9 ?_
      refine aw_callV (c_X5_lineOf hC (by omega)) mv_X5_lineOf mlX5_151 dX5_joinLine_36 rfl rfl (by decide) rfl (Nat.le_of_ble_eq_true rfl) rfl ?_
      rintro _ _ _ _ ⟨rfl, rfl, rfl, rfl⟩
      refine aw_aload_n dX5_joinLine_39 rfl rfl ?_
      refine aw_callV (c_X2_add (s := s) (hC.line hbk (j := (stB S c k 9 s).toNat) (by omega)) (show stB S c k 31 (((stB S c k 9 s).toNat : Nat) : Int) < 30 by have hj3 := (hjk c_28); simp only [JOK] at hj3; rw [show (((stB S c k 9 s).toNat : Nat) : Int) = stB S c k 9 s by omega]; exact hj3.2) (by decide) (decide_eq_true hs)) mv_X2_add mlX5_92 dX5_joinLine_40 rfl (decide_eq_true (show (stB S c k 9 s).toNat < 2 by omega)) (by decide) rfl (Nat.le_of_ble_eq_true rfl) rfl ?_
      rintro _ _ _ _ ⟨rfl, rfl, rfl, rfl⟩
      have hC2 := hC.jn hbk hs (hjk c_28)
      refine aw_iinc dX5_joinLine_43 rfl (by decide) ?_
      refine aw_goto (tgt := 2) dX5_joinLine_46 (by decide) ?_
      first
      | (rw [if_pos c_28] at esu
         exact AW.lss (ih (k + 1) _ (by omega) (by rw [esu]; exact hC2)) (And.intro rfl (And.intro rfl (And.intro rfl trivial))))
      | (rw [if_neg (by omega)] at esu
         exact AW.lss (ih (k + 1) _ (by omega) (by rw [esu]; exact hC)) (And.intro rfl (And.intro rfl (And.intro rfl trivial))))
set_option maxRecDepth 100000 in
set_option maxHeartbeats 4000000 in
theorem cB_X5_joinLine {c : Nat} (hB : BB S) (hc : (c : Int) < nc) (h24 : S 24 0 = nc) (h8 : S 8 0 = ns) (hv : ∀ k : Nat, (k : Int) < S 27 c → S 28 (8 * (c : Int) + k) < S 8 0) (hj : ∀ k : Nat, k < (S 27 c).toNat → S 10 (S 28 (8 * (c : Int) + k)) ≤ S 0 0 → JOK (stB S c k) (S 28 (8 * (c : Int) + k))) (hC : RC ns nc S V) : CT l D cA A ad yX5_joinLine cX5_joinLine 4 none rm_X5_joinLine [.inr (some (0, 0)), .inr (some (33, c))] (lvC ns nc) V sz (PC none ns nc (stB S c (S 27 c).toNat) sz) := by
  refine CT.of2 [some (.inr (some (0, 0))), some (.inr (some (33, c))), none, none] (by decide) (Nat.le_of_ble_eq_true rfl) rfl ?_
  refine aw_iconst dX5_joinLine_0 ?_
  refine aw_istore_n dX5_joinLine_1 rfl (by decide) ?_
  exact AW.lss (lpB_X5_joinLine hB hc h24 h8 hv hj (S 27 c).toNat 0 _ (by omega) hC) (And.intro rfl (And.intro rfl (And.intro rfl trivial)))
set_option maxRecDepth 100000 in
set_option maxHeartbeats 4000000 in
theorem lpP_X5_joinLine {c : Nat} (hB : BB S) (hc : (c : Int) < nc) (h24 : S 24 0 = nc) (h8 : S 8 0 = ns) (hv : ∀ k : Nat, (k : Int) < S 29 c → S 30 (30 * (c : Int) + k) < S 8 0) (hj : ∀ k : Nat, k < (S 29 c).toNat → JOK (stP S c k) (S 30 (30 * (c : Int) + k))) (ht : ∀ k : Nat, (k : Int) < S 29 c → S 10 (S 30 (30 * (c : Int) + k)) ≤ S 0 0) : ∀ (f k : Nat) (V : Vw), k + f = (S 29 c).toNat → RC ns nc (stP S c k) V → AW l D cA A ad yX5_joinLine cX5_joinLine 4 none rm_X5_joinLine (PC none ns nc (stP S c (S 29 c).toNat) sz) 0 0 (lvC ns nc) V sz 2 [some (.inr (some (0, 0))), some (.inr (some (34, c))), some (.inl (k : Int)), none] [] := by
  have hm := hB.m
  simp only [bsm] at hm
  have hcv := hB.cv (c := (c : Int)) (by omega) (by omega)
  simp only [bcv] at hcv
  intro f
  induction f with
  | zero =>
    intro k V hk hC
    have eK : V 34 c 1 = .inl (S 29 c) := (rc_34_1 hC.1 (by rw [stP_ne (by decide) (by decide)]; omega)).trans (by rw [stP_ne (by decide) (by decide)])
    refine aw_iload_n dX5_joinLine_2 rfl rfl ?_
    refine aw_aload_n dX5_joinLine_3 rfl rfl ?_
    refine aw_getN dX5_joinLine_4 fnX5_84 (by decide) (by decide) rfl (decide_eq_true (show (c : Int) < nc by omega)) eK ?_
    refine aw_icmp_ge (tgt := 49) dX5_joinLine_7 (by decide) (by omega) (by omega) (fun c_7 => ?_) (fun c_7 => absurd c_7 (by omega))
    refine aw_vret dX5_joinLine_49 rfl (Nat.zero_le _) (Nat.zero_le _) ?_
    rw [show (S 29 c).toNat = k by omega]
    exact ⟨rfl, rfl, rfl, hC⟩
  | succ f ih =>
    intro k V hk hC
    have hR := hC.1
    have eK : V 34 c 1 = .inl (S 29 c) := (rc_34_1 hR (by rw [stP_ne (by decide) (by decide)]; omega)).trans (by rw [stP_ne (by decide) (by decide)])
    have hW : RW (lvC ns nc) V 34 c 44 c (S 29 c) := ⟨rfl, decide_eq_true hc, rc_34_0 hR (by rw [stP_ne (by decide) (by decide)]; omega), rfl, decide_eq_true hc, eK, hcv.2.2.2.1, hcv.2.2.2.2⟩
    have hvk := hv k (by omega)
    have hin := hB.pt (x := 30 * (c : Int) + k) (by omega) (by omega)
    have hA : V 44 c ((k : Int)).toNat = .inr (some (5, (S 30 (30 * (c : Int) + k)).toNat)) := by
      have := rc_44 (i := c) (k := k) hR (by rw [stP_ne (by decide) (by decide)]; omega) (by omega) (by rw [stP_ne (by decide) (by decide)]; omega)
      rw [stP_ne (by decide) (by decide)] at this
      exact this
    have hbk : BB (stP S c k) := BB_stP hB (by omega) k (by omega) (fun q hq => hj q (by omega))
    have hjk := hj k (by omega)
    have htk := ht k (by omega)
    have esu : stP S c (k + 1) = jn (stP S c k) (S 30 (30 * (c : Int) + k)) := rfl
    generalize hse : S 30 (30 * (c : Int) + k) = s1 at hvk hin hA hjk esu htk
    obtain ⟨s, rfl⟩ : ∃ t : Nat, s1 = (t : Int) := ⟨s1.toNat, by omega⟩
    rw [Int.toNat_natCast] at hA
    have hs : (s : Int) < ns := by omega
    have hsh := hB.sh (s := (s : Int)) (by omega) (by omega)
    simp only [bsh] at hsh
    have q9 : stP S c k 9 s = S 9 s := stP_ne (by decide) (by decide) _ _
    have e10 : V 5 s 2 = .inl (S 10 s) := (rc_5_2 hR (by rw [stP_ne (by decide) (by decide)]; omega)).trans (by rw [stP_ne (by decide) (by decide)])
    have e0 : V 0 0 10 = .inl (S 0 0) := (rc_0_10 hR).trans (by rw [stP_ne (by decide) (by decide)])
    have e9 : V 5 s 1 = .inl (stP S c k 9 s) := rc_5_1 hR (by rw [stP_ne (by decide) (by decide)]; omega)
    refine aw_iload_n dX5_joinLine_2 rfl rfl ?_
    refine aw_aload_n dX5_joinLine_3 rfl rfl ?_
    refine aw_getN dX5_joinLine_4 fnX5_84 (by decide) (by decide) rfl (decide_eq_true (show (c : Int) < nc by omega)) eK ?_
    refine aw_icmp_ge (tgt := 49) dX5_joinLine_7 (by decide) (by omega) (by omega) (fun c_7 => absurd c_7 (by omega)) (fun c_7 => ?_)
    refine aw_aload_n dX5_joinLine_10 rfl rfl ?_
    refine aw_iload_n dX5_joinLine_11 rfl rfl ?_
    refine aw_callV (c_X2_at (x := (k : Int)) hW (by omega) (by omega) hA) mv_X2_at mlX5_103 dX5_joinLine_12 rfl (decide_eq_true (show (c : Int) < nc by omega)) (by decide) rfl (Nat.le_of_ble_eq_true rfl) rfl ?_
    rintro _ _ _ _ ⟨rfl, rfl, rfl, rfl⟩
    refine aw_astore_n dX5_joinLine_15 rfl (by decide) ?_
    refine aw_aload_n dX5_joinLine_16 rfl rfl ?_
    refine aw_ifnull_S dX5_joinLine_17 ?_
    refine aw_aload_n dX5_joinLine_20 rfl rfl ?_
    refine aw_getN dX5_joinLine_21 fnX5_117 (by decide) (by decide) rfl (decide_eq_true hs) e10 ?_
    refine aw_aload_n dX5_joinLine_24 rfl rfl ?_
    refine aw_get dX5_joinLine_25 flX5_53 (by decide) (by decide) rfl rfl e0 ?_
    refine aw_icmp_gt (tgt := 43) dX5_joinLine_28 (by decide) (by omega) (by omega) (fun c_28 => absurd c_28 (by omega)) (fun c_28 => ?_)
    refine aw_aload_n dX5_joinLine_31 rfl rfl ?_
    refine aw_aload_n dX5_joinLine_32 rfl rfl ?_
    refine aw_getN dX5_joinLine_33 fnX5_110 (by decide) (by decide) rfl (decide_eq_true hs) e9 ?_
    refine aw_callV (c_X5_lineOf hC (by omega)) mv_X5_lineOf mlX5_151 dX5_joinLine_36 rfl rfl (by decide) rfl (Nat.le_of_ble_eq_true rfl) rfl ?_
    rintro _ _ _ _ ⟨rfl, rfl, rfl, rfl⟩
    refine aw_aload_n dX5_joinLine_39 rfl rfl ?_
    refine aw_callV (c_X2_add (s := s) (hC.line hbk (j := (stP S c k 9 s).toNat) (by omega)) (show stP S c k 31 (((stP S c k 9 s).toNat : Nat) : Int) < 30 by have hj3 := hjk; simp only [JOK] at hj3; rw [show (((stP S c k 9 s).toNat : Nat) : Int) = stP S c k 9 s by omega]; exact hj3.2) (by decide) (decide_eq_true hs)) mv_X2_add mlX5_92 dX5_joinLine_40 rfl (decide_eq_true (show (stP S c k 9 s).toNat < 2 by omega)) (by decide) rfl (Nat.le_of_ble_eq_true rfl) rfl ?_
    rintro _ _ _ _ ⟨rfl, rfl, rfl, rfl⟩
    have hC2 := hC.jn hbk hs hjk
    refine aw_iinc dX5_joinLine_43 rfl (by decide) ?_
    refine aw_goto (tgt := 2) dX5_joinLine_46 (by decide) ?_
    exact AW.lss (ih (k + 1) _ (by omega) (by rw [esu]; exact hC2)) (And.intro rfl (And.intro rfl (And.intro rfl trivial)))
set_option maxRecDepth 100000 in
set_option maxHeartbeats 4000000 in
theorem cP_X5_joinLine {c : Nat} (hB : BB S) (hc : (c : Int) < nc) (h24 : S 24 0 = nc) (h8 : S 8 0 = ns) (hv : ∀ k : Nat, (k : Int) < S 29 c → S 30 (30 * (c : Int) + k) < S 8 0) (hj : ∀ k : Nat, k < (S 29 c).toNat → JOK (stP S c k) (S 30 (30 * (c : Int) + k))) (ht : ∀ k : Nat, (k : Int) < S 29 c → S 10 (S 30 (30 * (c : Int) + k)) ≤ S 0 0) (hC : RC ns nc S V) : CT l D cA A ad yX5_joinLine cX5_joinLine 4 none rm_X5_joinLine [.inr (some (0, 0)), .inr (some (34, c))] (lvC ns nc) V sz (PC none ns nc (stP S c (S 29 c).toNat) sz) := by
  refine CT.of2 [some (.inr (some (0, 0))), some (.inr (some (34, c))), none, none] (by decide) (Nat.le_of_ble_eq_true rfl) rfl ?_
  refine aw_iconst dX5_joinLine_0 ?_
  refine aw_istore_n dX5_joinLine_1 rfl (by decide) ?_
  exact AW.lss (lpP_X5_joinLine hB hc h24 h8 hv hj ht (S 29 c).toNat 0 _ (by omega) hC) (And.intro rfl (And.intro rfl (And.intro rfl trivial)))
/-- what the class needs besides: those of a convoy that starts are ships that there are, and those put off are there -/
def okV (S : SS) : Prop := ∀ n : Nat, (n : Int) < S 24 0 → S 26 n = S 0 0 → (∀ k : Nat, (k : Int) < S 27 n → S 28 (8 * (n : Int) + k) < S 8 0) ∧ ∀ k : Nat, (k : Int) < S 29 n → S 30 (30 * (n : Int) + k) < S 8 0 ∧ S 10 (S 30 (30 * (n : Int) + k)) ≤ S 0 0
set_option maxRecDepth 100000 in
set_option maxHeartbeats 4000000 in
theorem lp_X5_startConvoys (hB : BB S) (hok : okS S) (hv : okV S) (h8 : S 8 0 = ns) (h24 : S 24 0 = nc) : ∀ (f n : Nat) (V : Vw), n + f = nc.toNat → RC ns nc (sts S n) V → AW l D cA A ad yX5_startConvoys cX5_startConvoys 3 none rm_X5_startConvoys (PC none ns nc (sts S nc.toNat) sz) 0 0 (lvC ns nc) V sz 2 [some (.inr (some (0, 0))), some (.inl (n : Int)), none] [] := by
  have hm := hB.m
  simp only [bsm] at hm
  intro f
  induction f with
  | zero =>
    intro n V hn hC
    have e5 : V 0 0 5 = .inl (S 24 0) := (rc_0_5 hC.1).trans (by rw [sts_ne (by decide) (by decide)])
    refine aw_iload_n dX5_startConvoys_2 rfl rfl ?_
    refine aw_aload_n dX5_startConvoys_3 rfl rfl ?_
    refine aw_get dX5_startConvoys_4 flX5_37 (by decide) (by decide) rfl rfl e5 ?_
    refine aw_icmp_ge (tgt := 53) dX5_startConvoys_7 (by decide) (by omega) (by omega) (fun c_7 => ?_) (fun c_7 => absurd c_7 (by omega))
    refine aw_vret dX5_startConvoys_53 rfl (Nat.zero_le _) (Nat.zero_le _) ?_
    rw [show nc.toNat = n by omega]
    exact ⟨rfl, rfl, rfl, hC⟩
  | succ f ih =>
    intro n V hn hC
    have hR := hC.1
    have e5 : V 0 0 5 = .inl (S 24 0) := (rc_0_5 hR).trans (by rw [sts_ne (by decide) (by decide)])
    have e10 : V 0 0 10 = .inl (S 0 0) := (rc_0_10 hR).trans (by rw [sts_ne (by decide) (by decide)])
    have e26 : V 7 n 1 = .inl (S 26 n) := (rc_7_1 hR (by rw [sts_ne (by decide) (by decide)]; omega)).trans (by rw [sts_ne (by decide) (by decide)])
    have hcv := hB.cv (c := (n : Int)) (by omega) (by omega)
    simp only [bcv] at hcv
    have hb := BB_sts hB hok n (by omega)
    have hoc := hok n (by omega)
    have hvn := hv n (by omega)
    have q : ∀ k, k ≠ 31 → k ≠ 32 → ∀ x, sts S n k x = S k x := fun k h1 h2 x => sts_ne h1 h2 _ _
    have el : sts S (n + 1) = stC (sts S n) n := rfl
    refine aw_iload_n dX5_startConvoys_2 rfl rfl ?_
    refine aw_aload_n dX5_startConvoys_3 rfl rfl ?_
    refine aw_get dX5_startConvoys_4 flX5_37 (by decide) (by decide) rfl rfl e5 ?_
    refine aw_icmp_ge (tgt := 53) dX5_startConvoys_7 (by decide) (by omega) (by omega) (fun c_7 => absurd c_7 (by omega)) (fun c_7 => ?_)
    refine aw_aload_n dX5_startConvoys_10 rfl rfl ?_
    refine aw_iload_n dX5_startConvoys_11 rfl rfl ?_
    refine aw_callV (c_X5_convoyAt (c := n) hb hC (by omega)) mv_X5_convoyAt mlX5_99 dX5_startConvoys_12 rfl rfl (by decide) rfl (Nat.le_of_ble_eq_true rfl) rfl ?_
    rintro _ _ _ _ ⟨rfl, rfl, rfl, rfl⟩
    refine aw_astore_n dX5_startConvoys_15 rfl (by decide) ?_
    refine aw_aload_n dX5_startConvoys_16 rfl rfl ?_
    refine aw_ifnull_S dX5_startConvoys_17 ?_
    refine aw_aload_n dX5_startConvoys_20 rfl rfl ?_
    refine aw_getN dX5_startConvoys_21 fnX5_114 (by decide) (by decide) rfl (decide_eq_true (show (n : Int) < nc by omega)) e26 ?_
    refine aw_aload_n dX5_startConvoys_24 rfl rfl ?_
    refine aw_get dX5_startConvoys_25 flX5_53 (by decide) (by decide) rfl rfl e10 ?_
    refine aw_icmp_ne (tgt := 47) dX5_startConvoys_28 (by decide) (by omega) (by omega) (fun c_28 => ?_) (fun c_28 => ?_)
    · refine aw_iinc dX5_startConvoys_47 rfl (by decide) ?_
      refine aw_goto (tgt := 2) dX5_startConvoys_50 (by decide) ?_
      first
      | (have e1 : sts S (n + 1) = sts S n := by rw [el, stC, if_neg (by rw [q 26 (by decide) (by decide), q 0 (by decide) (by decide)]; exact c_28)]
         exact AW.lss (ih (n + 1) _ (by omega) (by rw [e1]; exact hC)) (And.intro rfl (And.intro rfl trivial)))
      | (have e1 : sts S (n + 1) = stP (stB (sts S n) n (sts S n 27 n).toNat) n ((stB (sts S n) n (sts S n 27 n).toNat) 29 n).toNat := by rw [el, stC, if_pos (by rw [q 26 (by decide) (by decide), q 0 (by decide) (by decide)]; exact c_28), stB_ne (k := 29) (by decide) (by decide)]
         exact AW.lss (ih (n + 1) _ (by omega) (by rw [e1]; exact hC3)) (And.intro rfl (And.intro rfl trivial)))
    · have hoo := hoc (by rw [q 26 (by decide) (by decide), q 0 (by decide) (by decide)]; exact c_28)
      obtain ⟨hoB, hoP⟩ := hoo
      have hbB := BB_stB hb (by omega) _ (Nat.le_refl _) hoB
      have qB : ∀ k, k ≠ 31 → k ≠ 32 → ∀ x, (stB (sts S n) n (sts S n 27 n).toNat) k x = S k x := fun k h1 h2 x => by rw [stB_ne h1 h2, q k h1 h2]
      refine aw_aload_n dX5_startConvoys_31 rfl rfl ?_
      refine aw_aload_n dX5_startConvoys_32 rfl rfl ?_
      refine aw_getN dX5_startConvoys_33 fnX5_120 (by decide) (by decide) rfl (decide_eq_true (show (n : Int) < nc by omega)) (rc_7_2 hR (by rw [sts_ne (by decide) (by decide)]; omega)) ?_
      refine aw_callV (cB_X5_joinLine (S := sts S n) (c := n) hb (by omega) (by rw [q 24 (by decide) (by decide)]; exact h24) (by rw [q 8 (by decide) (by decide)]; exact h8) (fun k hk => by rw [q 28 (by decide) (by decide), q 8 (by decide) (by decide)]; exact (hvn c_28).1 k (by rw [q 27 (by decide) (by decide)] at hk; exact hk)) hoB hC) mv_X5_joinLine mlX5_144 dX5_startConvoys_36 rfl rfl (by decide) rfl (Nat.le_of_ble_eq_true rfl) rfl ?_
      rintro _ _ _ _ ⟨rfl, rfl, rfl, hC2⟩
      refine aw_aload_n dX5_startConvoys_39 rfl rfl ?_
      refine aw_aload_n dX5_startConvoys_40 rfl rfl ?_
      refine aw_getN dX5_startConvoys_41 fnX5_148 (by decide) (by decide) rfl (decide_eq_true (show (n : Int) < nc by omega)) (rc_7_3 hC2.1 (by rw [qB 24 (by decide) (by decide)]; omega)) ?_
      refine aw_callV (cP_X5_joinLine (S := (stB (sts S n) n (sts S n 27 n).toNat)) (c := n) hbB (by omega) (by rw [qB 24 (by decide) (by decide)]; exact h24) (by rw [qB 8 (by decide) (by decide)]; exact h8) (fun k hk => by rw [qB 30 (by decide) (by decide), qB 8 (by decide) (by decide)]; exact ((hvn c_28).2 k (by rw [qB 29 (by decide) (by decide)] at hk; exact hk)).1) (fun k hk => by rw [qB 30 (by decide) (by decide)]; have h3 := hoP k (by rw [qB 29 (by decide) (by decide)] at hk; rw [q 29 (by decide) (by decide)]; exact hk); rw [q 30 (by decide) (by decide)] at h3; exact h3) (fun k hk => by rw [qB 30 (by decide) (by decide), qB 10 (by decide) (by decide), qB 0 (by decide) (by decide)]; exact ((hvn c_28).2 k (by rw [qB 29 (by decide) (by decide)] at hk; exact hk)).2) hC2) mv_X5_joinLine mlX5_144 dX5_startConvoys_44 rfl rfl (by decide) rfl (Nat.le_of_ble_eq_true rfl) rfl ?_
      rintro _ _ _ _ ⟨rfl, rfl, rfl, hC3⟩
      refine aw_iinc dX5_startConvoys_47 rfl (by decide) ?_
      refine aw_goto (tgt := 2) dX5_startConvoys_50 (by decide) ?_
      first
      | (have e1 : sts S (n + 1) = sts S n := by rw [el, stC, if_neg (by rw [q 26 (by decide) (by decide), q 0 (by decide) (by decide)]; exact c_28)]
         exact AW.lss (ih (n + 1) _ (by omega) (by rw [e1]; exact hC)) (And.intro rfl (And.intro rfl trivial)))
      | (have e1 : sts S (n + 1) = stP (stB (sts S n) n (sts S n 27 n).toNat) n ((stB (sts S n) n (sts S n 27 n).toNat) 29 n).toNat := by rw [el, stC, if_pos (by rw [q 26 (by decide) (by decide), q 0 (by decide) (by decide)]; exact c_28), stB_ne (k := 29) (by decide) (by decide)]
         exact AW.lss (ih (n + 1) _ (by omega) (by rw [e1]; exact hC3)) (And.intro rfl (And.intro rfl trivial)))
set_option maxRecDepth 100000 in
set_option maxHeartbeats 4000000 in
theorem c_X5_startConvoys (hB : BB S) (hok : okS S) (hv : okV S) (hC : RC ns nc S V) : CT l D cA A ad yX5_startConvoys cX5_startConvoys 3 none rm_X5_startConvoys [.inr (some (0, 0))] (lvC ns nc) V sz (PC none ns nc (sts S nc.toNat) sz) := by
  refine CT.of2 [some (.inr (some (0, 0))), none, none] (by decide) (Nat.le_of_ble_eq_true rfl) rfl ?_
  refine aw_iconst dX5_startConvoys_0 ?_
  refine aw_istore_n dX5_startConvoys_1 rfl (by decide) ?_
  exact AW.lss (lp_X5_startConvoys hB hok hv hC.2.1 hC.2.2 nc.toNat 0 _ (by omega) hC) (And.intro rfl (And.intro rfl trivial))
end CLS7
