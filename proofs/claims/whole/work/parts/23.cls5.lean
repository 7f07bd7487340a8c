section CLS5
variable {l : Launch} {D : va_G} {cA : Nat → ClassId} {A : Nat → Prop} {ad : Ad} {ns nc : Int} {V : Vw} {sz : Nat} {S : SS}
/-- as okM, with what the class needs -/
def okMC (sec : Nat) (w : Int) : Nat → SS → Nat → Bool → Prop
  | 0, S, _, _ => CI S
  | f + 1, S, k, stuck => CI S ∧ ((k : Int) < S 33 (2 * sec + w) → S 9 (S 34 (30 * (2 * sec + w) + k)) = w ∧ CI (tk S (S 34 (30 * (2 * sec + w) + k))) ∧
      (if (stuck || decide (0 < S 21 (S 34 (30 * (2 * sec + w) + k)))) = true then okMC sec w f (wt S (7 * S 34 (30 * (2 * sec + w) + k))) (k + 1) true
      else if tk S (S 34 (30 * (2 * sec + w) + k)) 16 (S 34 (30 * (2 * sec + w) + k)) = 0 then
        (if k = 0 then okMC sec w f (gos (tk S (S 34 (30 * (2 * sec + w) + k))) (S 34 (30 * (2 * sec + w) + k)) sec).2 (if (gos (tk S (S 34 (30 * (2 * sec + w) + k))) (S 34 (30 * (2 * sec + w) + k)) sec).1 = true then 0 else 1) false
        else okMC sec w f (wt (tk S (S 34 (30 * (2 * sec + w) + k))) (7 * S 34 (30 * (2 * sec + w) + k) + 6)) (k + 1) false)
      else okMC sec w f (tk S (S 34 (30 * (2 * sec + w) + k))) (k + 1) false))
theorem okMC.ci {sec : Nat} {w : Int} {f : Nat} {S : SS} {k : Nat} {stuck : Bool} (h : okMC sec w f S k stuck) : CI S := by
  cases f with
  | zero => exact h
  | succ f => exact h.1
theorem okMC.ok {sec : Nat} {w : Int} : ∀ {f : Nat} {S : SS} {k : Nat} {stuck : Bool}, okMC sec w f S k stuck → okM sec w f S k stuck := by
  intro f
  induction f with
  | zero =>
    intro S k stuck h
    exact h.1
  | succ f ih =>
    intro S k stuck h
    refine ⟨h.1.1, fun hk => ?_⟩
    obtain ⟨h1, h2, h3⟩ := h.2 hk
    refine ⟨h1, ?_⟩
    split
    · rename_i c
      rw [if_pos c] at h3
      exact ih h3
    · rename_i c
      rw [if_neg c] at h3
      split
      · rename_i c2
        rw [if_pos c2] at h3
        split
        · rename_i c3
          rw [if_pos c3] at h3
          exact ih h3
        · rename_i c3
          rw [if_neg c3] at h3
          exact ih h3
      · rename_i c2
        rw [if_neg c2] at h3
        exact ih h3
theorem gosC_34 {S : SS} {s : Int} {sec : Nat} {x : Int} (h9 : S 9 s = 0 ∨ S 9 s = 1) (hs2 : sec < 8) (hM : ∀ a : Int, 0 ≤ a → a < 16 → 0 ≤ S 33 a ∧ S 33 a ≤ 3) (hx1 : 30 * (2 * (sec : Int) + S 9 s) ≤ x) (hx2 : x < 30 * (2 * (sec : Int) + S 9 s) + 3) : (gosC S s sec).2 34 x = S 34 x := by
  by_cases c1 : (sec : Int) = (if S 9 s = 0 then 7 else 0)
  · have eb : gosC S s sec = (true, u2 (u2 S 15 s 8) 20 s (S 0 0)) := by rw [gosC, if_pos c1]
    rw [eb]
    show u2 (u2 S 15 s 8) 20 s (S 0 0) 34 x = _
    rw [u2_ne (by decide), u2_ne (by decide)]
  · by_cases c2 : 0 ≤ cause S s (if S 9 s = 0 then sec + 1 else sec - 1)
    · have eb : gosC S s sec = (false, wt S (7 * s + cause S s (if S 9 s = 0 then sec + 1 else sec - 1))) := by rw [gosC, if_neg c1, if_pos c2]
      rw [eb]
      show wt S (7 * s + cause S s (if S 9 s = 0 then sec + 1 else sec - 1)) 34 x = _
      rw [wt_ne (by decide)]
    · have eb : gosC S s sec = (true, ent S s (if S 9 s = 0 then (sec : Int) + 1 else (sec : Int) - 1)) := by rw [gosC, if_neg c1, if_neg c2]
      rw [eb]
      have hnx : 0 ≤ (if S 9 s = 0 then (sec : Int) + 1 else (sec : Int) - 1) ∧ (if S 9 s = 0 then (sec : Int) + 1 else (sec : Int) - 1) < 8 ∧ (if S 9 s = 0 then (sec : Int) + 1 else (sec : Int) - 1) ≠ sec := by
        by_cases h0 : S 9 s = 0
        · rw [if_pos h0] at c1 ⊢; omega
        · rw [if_neg h0] at c1 ⊢; omega
      generalize (if S 9 s = 0 then (sec : Int) + 1 else (sec : Int) - 1) = nx at hnx
      have hM2 := hM (2 * nx + S 9 s) (by omega) (by omega)
      show ent S s nx 34 x = _
      simp only [ent]
      rw [u2_ne (by decide), u2_ne (by decide), u2_ne (by decide), u2_ne (by decide), u2_at, if_neg (by omega)]
set_option maxRecDepth 100000 in
set_option maxHeartbeats 4000000 in
theorem lp_X5_moveWithin {S9 : SS} {sec : Nat} {w N : Int} (hs2 : sec < 8) (hw : w = 0 ∨ w = 1) (hN : N ≤ 3) : ∀ (f : Nat) (S : SS) (V : Vw) (k kk : Nat) (stuck : Bool), okMC sec w f S k stuck → RC ns nc S V → k ≤ 3 → S 33 (2 * (sec : Int) + w) - k = f → (kk : Int) + f = N → mvF sec w f S k stuck = S9 → AW l D cA A ad yX5_moveWithin cX5_moveWithin 8 none rm_X5_moveWithin (PC none ns nc S9 sz) 0 0 (lvC ns nc) V sz 14 [some (.inr (some (0, 0))), some (.inr (some (1, sec))), some (.inr (some (30, 2 * sec + w.toNat))), some (.inl N), some (.inl (k : Int)), some (.inl (b2i stuck)), some (.inl (kk : Int)), none] [] := by
  have hat : ((2 * sec + w.toNat : Nat) : Int) = 2 * (sec : Int) + w := by omega
  intro f
  induction f with
  | zero =>
    intro S V k kk stuck hok hC hk3 hf hkk he
    refine aw_iload dX5_moveWithin_14 rfl ?_
    refine aw_iload_n dX5_moveWithin_16 rfl rfl ?_
    refine aw_icmp_ge (tgt := 111) dX5_moveWithin_17 (by decide) (by omega) (by omega) (fun c_17 => ?_) (fun c_17 => absurd c_17 (by omega))
    refine aw_vret dX5_moveWithin_111 rfl (Nat.zero_le _) (Nat.zero_le _) ?_
    refine ⟨rfl, rfl, rfl, ?_⟩
    rw [← he]
    exact hC
  | succ f ih =>
    intro S V k kk stuck hok hC hk3 hf hkk he
    obtain ⟨hR, h8, h24⟩ := id hC
    have hI := hok.ci
    obtain ⟨hB, hV, hU, hAG⟩ := id hI
    have hm := hB.m
    simp only [bsm] at hm
    have hi := hB.iM (a := 2 * (sec : Int) + w) (by omega) (by omega)
    have hx := b2i_rg stuck
    have hk33 : (k : Int) < S 33 (2 * (sec : Int) + w) := by omega
    have hins := hB.ins (x := 30 * (2 * (sec : Int) + w) + k) (by omega) (by omega)
    have hve := hV.1 (2 * sec + w.toNat) k (by omega) (by rw [hat]; omega)
    rw [hat] at hve
    obtain ⟨h9, hI2, hok⟩ := hok.2 hk33
    simp only [mvF] at he
    rw [if_pos hk33] at he
    have hv40 : V 40 (2 * sec + w.toNat) ((k : Int)).toNat = .inr (some (5, (S 34 (30 * (2 * (sec : Int) + w) + k)).toNat)) := by
      have := rc_40 (i := 2 * sec + w.toNat) (k := k) hR (by omega) (by omega) (by rw [hat]; omega)
      rw [hat] at this
      exact this
    have hlane := hC.lane hB (j := 2 * sec + w.toNat) (by omega)
    rw [hat] at hlane
    generalize hse : S 34 (30 * (2 * (sec : Int) + w) + k) = s0 at h9 hok he hins hve hv40 hI2
    obtain ⟨s, rfl⟩ : ∃ s : Nat, s0 = (s : Int) := ⟨s0.toNat, by omega⟩
    rw [Int.toNat_natCast] at hv40
    have hs : (s : Int) < ns := by omega
    have hsh := hB.sh hins.1 hins.2
    simp only [bsh] at hsh
    have hun := hU s (by omega) (by omega)
    have hu36 := rc_5_15 (i := s) hR (by omega)
    refine aw_iload dX5_moveWithin_14 rfl ?_
    refine aw_iload_n dX5_moveWithin_16 rfl rfl ?_
    refine aw_icmp_ge (tgt := 111) dX5_moveWithin_17 (by decide) (by omega) (by omega) (fun c_17 => absurd c_17 (by omega)) (fun c_17 => ?_)
    refine aw_aload_n dX5_moveWithin_20 rfl rfl ?_
    refine aw_iload dX5_moveWithin_21 rfl ?_
    refine aw_callV (c_X2_at (x := (k : Int)) hlane (by omega) (by omega) hv40) mv_X2_at mlX5_103 dX5_moveWithin_23 rfl (decide_eq_true (show 2 * sec + w.toNat < 16 by omega)) (by decide) rfl (Nat.le_of_ble_eq_true rfl) rfl ?_
    rintro _ _ _ _ ⟨rfl, rfl, rfl, rfl⟩
    refine aw_astore dX5_moveWithin_26 (by decide) ?_
    refine aw_aload dX5_moveWithin_28 rfl ?_
    refine aw_ifnonnull_S (tgt := 34) dX5_moveWithin_30 (by decide) ?_
    refine aw_iload dX5_moveWithin_34 rfl ?_
    refine aw_if_ne (tgt := 51) dX5_moveWithin_36 (by decide) (by omega) (fun c_36 => ?_) (fun c_36 => ?_)
    · have hst : (stuck || decide (0 < S 21 s)) = true := by rw [b2i_pos c_36]; rfl
      rw [if_pos hst] at hok he
      refine aw_iconst dX5_moveWithin_51 ?_
      refine aw_goto (tgt := 56) dX5_moveWithin_52 (by decide) ?_
      refine aw_istore dX5_moveWithin_56 (by decide) ?_
      refine aw_iload dX5_moveWithin_58 rfl ?_
      refine aw_if_eq (tgt := 75) dX5_moveWithin_60 (by decide) (by omega) (fun c_60 => absurd c_60 (by decide)) (fun _ => ?_)
      refine aw_aload dX5_moveWithin_63 rfl ?_
      refine aw_iconst dX5_moveWithin_65 ?_
      refine aw_callV (c_X4_waitBy hC hs (by decide)) mv_X4_waitBy mlX5_183 dX5_moveWithin_66 rfl (decide_eq_true (by omega)) (by decide) rfl (Nat.le_of_ble_eq_true rfl) rfl ?_
      rintro _ _ _ _ ⟨rfl, rfl, rfl, hC2⟩
      refine aw_iinc dX5_moveWithin_69 rfl (by decide) ?_
      refine aw_goto (tgt := 105) dX5_moveWithin_72 (by decide) ?_
      refine aw_iinc dX5_moveWithin_105 rfl (by decide) ?_
      refine aw_goto (tgt := 14) dX5_moveWithin_108 (by decide) ?_
      have hw0 : wt S (7 * (s : Int) + 0) = wt S (7 * (s : Int)) := by rw [Int.add_zero]
      rw [hw0] at hC2
      exact AW.lss (ih (wt S (7 * (s : Int))) _ (k + 1) (kk + 1) true hok hC2 (by omega) (by rw [wt_ne (by decide)]; omega) (by omega) he) (And.intro rfl (And.intro rfl (And.intro rfl (And.intro rfl (And.intro rfl (And.intro rfl (And.intro rfl trivial)))))))
    · refine aw_aload dX5_moveWithin_39 rfl ?_
      refine aw_aload_n dX5_moveWithin_41 rfl rfl ?_
      refine aw_get dX5_moveWithin_42 flX5_53 (by decide) (by decide) rfl rfl (rc_0_10 hR) ?_
      refine aw_callV (c_X4_isAground (decide_eq_true hs) hu36 (by omega) (by omega)) mv_X4_isAground mlX5_126 dX5_moveWithin_45 rfl (decide_eq_true (by omega)) (by decide) rfl (Nat.le_of_ble_eq_true rfl) rfl ?_
      rintro _ _ _ _ ⟨⟨rfl, hg⟩ | ⟨rfl, hg⟩, rfl, rfl, rfl⟩
      · have hst : (stuck || decide (0 < S 21 s)) = true := by rw [decide_eq_true (show 0 < S 21 s by rw [hun.2, if_pos hg]; omega), Bool.or_true]
        rw [if_pos hst] at hok he
        refine aw_if_eq (tgt := 55) dX5_moveWithin_48 (by decide) (by omega) (fun c_48 => absurd c_48 (by decide)) (fun _ => ?_)
        refine aw_iconst dX5_moveWithin_51 ?_
        refine aw_goto (tgt := 56) dX5_moveWithin_52 (by decide) ?_
        refine aw_istore dX5_moveWithin_56 (by decide) ?_
        refine aw_iload dX5_moveWithin_58 rfl ?_
        refine aw_if_eq (tgt := 75) dX5_moveWithin_60 (by decide) (by omega) (fun c_60 => absurd c_60 (by decide)) (fun _ => ?_)
        refine aw_aload dX5_moveWithin_63 rfl ?_
        refine aw_iconst dX5_moveWithin_65 ?_
        refine aw_callV (c_X4_waitBy hC hs (by decide)) mv_X4_waitBy mlX5_183 dX5_moveWithin_66 rfl (decide_eq_true (by omega)) (by decide) rfl (Nat.le_of_ble_eq_true rfl) rfl ?_
        rintro _ _ _ _ ⟨rfl, rfl, rfl, hC2⟩
        refine aw_iinc dX5_moveWithin_69 rfl (by decide) ?_
        refine aw_goto (tgt := 105) dX5_moveWithin_72 (by decide) ?_
        refine aw_iinc dX5_moveWithin_105 rfl (by decide) ?_
        refine aw_goto (tgt := 14) dX5_moveWithin_108 (by decide) ?_
        have hw0 : wt S (7 * (s : Int) + 0) = wt S (7 * (s : Int)) := by rw [Int.add_zero]
        rw [hw0] at hC2
        exact AW.lss (ih (wt S (7 * (s : Int))) _ (k + 1) (kk + 1) true hok hC2 (by omega) (by rw [wt_ne (by decide)]; omega) (by omega) he) (And.intro rfl (And.intro rfl (And.intro rfl (And.intro rfl (And.intro rfl (And.intro rfl (And.intro rfl trivial)))))))
      · have hst : ¬ ((stuck || decide (0 < S 21 s)) = true) := by rw [b2i_zero c_36, decide_eq_false (show ¬ 0 < S 21 s by rw [hun.2, if_neg hg]; omega)]; decide
        rw [if_neg hst] at hok he
        refine aw_if_eq (tgt := 55) dX5_moveWithin_48 (by decide) (by omega) (fun _ => ?_) (fun c_48 => absurd c_48 (by decide))
        refine aw_iconst dX5_moveWithin_55 ?_
        refine aw_istore dX5_moveWithin_56 (by decide) ?_
        refine aw_iload dX5_moveWithin_58 rfl ?_
        refine aw_if_eq (tgt := 75) dX5_moveWithin_60 (by decide) (by omega) (fun _ => ?_) (fun c_60 => absurd c_60 (by decide))
        have htk := tk_16 S s
        have hbt : 0 ≤ tk S s 16 s := by rw [htk]; split <;> omega
        by_cases hk0 : k = 0
        · subst hk0
          refine aw_aload_n dX5_moveWithin_75 rfl rfl ?_
          refine aw_aload dX5_moveWithin_76 rfl ?_
          refine aw_aload_n dX5_moveWithin_78 rfl rfl ?_
          refine aw_iload dX5_moveWithin_79 rfl ?_
          refine aw_if_ne (tgt := 88) dX5_moveWithin_81 (by decide) (by omega) (fun c_81 => absurd c_81 (by decide)) (fun c_81 => ?_)
          refine aw_iconst dX5_moveWithin_84 ?_
          refine aw_goto (tgt := 89) dX5_moveWithin_85 (by decide) ?_
          refine aw_callV (c_X5_leaves (s := s) (sec := sec) (first := true) hI hI2 hC hs hs2) mv_X5_leaves mlX5_186 dX5_moveWithin_89 rfl rfl (by decide) rfl (Nat.le_of_ble_eq_true rfl) rfl ?_
          rintro _ _ V2 _ ⟨rfl, rfl, rfl, hC2⟩
          have hbl := b2i_rg (lv2 (tk S s) s sec true).1
          refine aw_if_eq (tgt := 102) dX5_moveWithin_92 (by decide) (by omega) (fun c_92 => ?_) (fun c_92 => ?_)
          · have hl1 := b2i_zero c_92
            by_cases h16 : tk S s 16 s = 0
            · rw [if_pos h16, if_pos rfl] at hok he
              have el : lv2 (tk S s) s sec true = gosC (tk S s) s sec := by rw [lv2, if_neg (by omega), if_pos rfl]
              rw [el] at hl1 hC2
              obtain ⟨g1, g2⟩ := gos_C (S := tk S s) (s := s) (sec := sec) hI2.1 hins hs2 (by rw [tk_ne (by decide), tk_ne (by decide), h9]; omega)
              rw [hl1] at g1 g2
              rw [if_neg (by decide)] at g2
              rw [g1, g2, if_neg (by decide)] at hok he
              have h33 : (gosC (tk S s) s sec).2 33 (2 * (sec : Int) + w) = S 33 (2 * (sec : Int) + w) := by
                have hg := gos_33 (S := tk S s) (s := s) (sec := sec) (by rw [tk_ne (by decide)]; omega) hs2
                rw [g1, g2, tk_ne (k := 9) (by decide), h9, tk_ne (k := 33) (by decide), b2i_f, Int.sub_zero] at hg
                exact hg
              refine aw_iinc dX5_moveWithin_102 rfl (by decide) ?_
              refine aw_iinc dX5_moveWithin_105 rfl (by decide) ?_
              refine aw_goto (tgt := 14) dX5_moveWithin_108 (by decide) ?_
              exact AW.lss (ih _ _ 1 (kk + 1) false hok hC2 (by omega) (by rw [h33]; omega) (by omega) he) (And.intro rfl (And.intro rfl (And.intro rfl (And.intro rfl (And.intro rfl (And.intro rfl (And.intro rfl trivial)))))))
            · rw [if_neg h16] at hok he
              have el : lv2 (tk S s) s sec true = (false, tk S s) := by rw [lv2, if_pos (by omega)]
              rw [el] at hC2
              refine aw_iinc dX5_moveWithin_102 rfl (by decide) ?_
              refine aw_iinc dX5_moveWithin_105 rfl (by decide) ?_
              refine aw_goto (tgt := 14) dX5_moveWithin_108 (by decide) ?_
              exact AW.lss (ih (tk S s) _ 1 (kk + 1) false hok hC2 (by omega) (by rw [tk_ne (by decide)]; omega) (by omega) he) (And.intro rfl (And.intro rfl (And.intro rfl (And.intro rfl (And.intro rfl (And.intro rfl (And.intro rfl trivial)))))))
          · have hl1 := b2i_pos c_92
            have h16 : tk S s 16 s = 0 := by
              by_cases h16 : 0 < tk S s 16 s
              · rw [lv2, if_pos h16] at hl1; cases hl1
              · omega
            rw [if_pos h16, if_pos rfl] at hok he
            have el : lv2 (tk S s) s sec true = gosC (tk S s) s sec := by rw [lv2, if_neg (by omega), if_pos rfl]
            rw [el] at hl1 hC2
            obtain ⟨g1, g2⟩ := gos_C (S := tk S s) (s := s) (sec := sec) hI2.1 hins hs2 (by rw [tk_ne (by decide), tk_ne (by decide), h9]; omega)
            rw [hl1] at g1 g2
            rw [if_pos rfl, tk_ne (by decide), h9] at g2
            rw [g1, g2, if_pos rfl] at hok he
            have h33 : (gosC (tk S s) s sec).2 33 (2 * (sec : Int) + w) = S 33 (2 * (sec : Int) + w) := by
              have hg := gos_33 (S := tk S s) (s := s) (sec := sec) (by rw [tk_ne (by decide)]; omega) hs2
              rw [g1, g2, tk_ne (k := 9) (by decide), h9, tk_ne (k := 33) (by decide), b2i_t, lvs_33, if_pos rfl] at hg
              omega
            have h34 : ∀ x, 30 * (2 * (sec : Int) + w) ≤ x → x < 30 * (2 * (sec : Int) + w) + 3 → (gosC (tk S s) s sec).2 34 x = S 34 x := fun x hx1 hx2 => by
              rw [gosC_34 (by rw [tk_ne (by decide)]; omega) hs2 (fun a h0 h1 => (hI2.1.iM h0 h1).1) (by rw [tk_ne (by decide), h9]; exact hx1) (by rw [tk_ne (by decide), h9]; exact hx2), tk_ne (by decide)]
            have hR2 := hC2.1
            have hW2 : RW (lvC ns nc) _ 30 (2 * sec + w.toNat) 40 (2 * sec + w.toNat) (S 33 (2 * (sec : Int) + w)) := ⟨rfl, decide_eq_true (show 2 * sec + w.toNat < 16 by omega), rc_30_0 hR2 (by omega), rfl, decide_eq_true (show 2 * sec + w.toNat < 16 by omega), (rc_30_1 hR2 (by omega)).trans (by rw [hat, h33]), hi.1.1, hi.1.2⟩
            have hent : ∀ q : Nat, 1 ≤ q → (q : Int) < S 33 (2 * (sec : Int) + w) → V2 40 (2 * sec + w.toNat) q = Sum.inr (some (5, (S 34 (30 * (2 * (sec : Int) + w) + q)).toNat)) ∧ lvC ns nc 5 (S 34 (30 * (2 * (sec : Int) + w) + q)).toNat = true := fun q hq1 hq2 => by
              have hv2 := hV.1 (2 * sec + w.toNat) q (by omega) (by rw [hat]; exact hq2)
              have hi2 := hB.ins (x := 30 * (2 * (sec : Int) + w) + q) (by omega) (by omega)
              rw [hat] at hv2
              refine ⟨?_, decide_eq_true (by omega)⟩
              have hq := rc_40 (i := 2 * sec + w.toNat) (k := q) hR2 (by omega) (by omega) (by rw [hat, h33]; exact hq2)
              rw [hat, h34 _ (by omega) (by omega)] at hq
              exact hq
            have hpop := RepC.popLane (j := 2 * sec + w.toNat) hR2 (by omega) (by rw [hat, h33]; omega)
            rw [hat, h33] at hpop
            have hC3 : RC ns nc (lvs (gosC (tk S s) s sec).2 sec w) _ := ⟨hpop.toS (fun k x => by rw [lvs, h33]), by rw [lvs_ne (by decide) (by decide)]; exact hC2.2.1, by rw [lvs_ne (by decide) (by decide)]; exact hC2.2.2⟩
            refine aw_aload_n dX5_moveWithin_95 rfl rfl ?_
            refine aw_callV (c_X2_removeFirst (e := fun q => (S 34 (30 * (2 * (sec : Int) + w) + q)).toNat) hW2 (by decide) (by omega) hent) mv_X2_removeFirst mlX5_190 dX5_moveWithin_96 rfl (decide_eq_true (show 2 * sec + w.toNat < 16 by omega)) (by decide) rfl (Nat.le_of_ble_eq_true rfl) rfl ?_
            rintro _ _ _ _ ⟨rfl, rfl, rfl, rfl⟩
            refine aw_goto (tgt := 105) dX5_moveWithin_99 (by decide) ?_
            refine aw_iinc dX5_moveWithin_105 rfl (by decide) ?_
            refine aw_goto (tgt := 14) dX5_moveWithin_108 (by decide) ?_
            exact AW.lss (ih _ _ 0 (kk + 1) false hok hC3 (by omega) (by rw [lvs_33, if_pos rfl, h33]; omega) (by omega) he) (And.intro rfl (And.intro rfl (And.intro rfl (And.intro rfl (And.intro rfl (And.intro rfl (And.intro rfl trivial)))))))
        · refine aw_aload_n dX5_moveWithin_75 rfl rfl ?_
          refine aw_aload dX5_moveWithin_76 rfl ?_
          refine aw_aload_n dX5_moveWithin_78 rfl rfl ?_
          refine aw_iload dX5_moveWithin_79 rfl ?_
          refine aw_if_ne (tgt := 88) dX5_moveWithin_81 (by decide) (by omega) (fun c_81 => ?_) (fun c_81 => absurd c_81 (by omega))
          refine aw_iconst dX5_moveWithin_88 ?_
          refine aw_callV (c_X5_leaves (s := s) (sec := sec) (first := false) hI hI2 hC hs hs2) mv_X5_leaves mlX5_186 dX5_moveWithin_89 rfl rfl (by decide) rfl (Nat.le_of_ble_eq_true rfl) rfl ?_
          rintro _ _ V2 _ ⟨rfl, rfl, rfl, hC2⟩
          have hl0 : (lv2 (tk S s) s sec false).1 = false := by
            rw [lv2]
            split
            · rfl
            · rfl
          rw [hl0, b2i_f]
          refine aw_if_eq (tgt := 102) dX5_moveWithin_92 (by decide) (by omega) (fun _ => ?_) (fun c_92 => absurd c_92 (by decide))
          by_cases h16 : tk S s 16 s = 0
          · rw [if_pos h16, if_neg hk0] at hok he
            have el : lv2 (tk S s) s sec false = (false, wt (tk S s) (7 * (s : Int) + 6)) := by rw [lv2, if_neg (by omega), if_neg (by decide)]
            rw [el] at hC2
            refine aw_iinc dX5_moveWithin_102 rfl (by decide) ?_
            refine aw_iinc dX5_moveWithin_105 rfl (by decide) ?_
            refine aw_goto (tgt := 14) dX5_moveWithin_108 (by decide) ?_
            exact AW.lss (ih (wt (tk S s) (7 * (s : Int) + 6)) _ (k + 1) (kk + 1) false hok hC2 (by omega) (by rw [wt_ne (by decide), tk_ne (by decide)]; omega) (by omega) he) (And.intro rfl (And.intro rfl (And.intro rfl (And.intro rfl (And.intro rfl (And.intro rfl (And.intro rfl trivial)))))))
          · rw [if_neg h16] at hok he
            have el : lv2 (tk S s) s sec false = (false, tk S s) := by rw [lv2, if_pos (by omega)]
            rw [el] at hC2
            refine aw_iinc dX5_moveWithin_102 rfl (by decide) ?_
            refine aw_iinc dX5_moveWithin_105 rfl (by decide) ?_
            refine aw_goto (tgt := 14) dX5_moveWithin_108 (by decide) ?_
            exact AW.lss (ih (tk S s) _ (k + 1) (kk + 1) false hok hC2 (by omega) (by rw [tk_ne (by decide)]; omega) (by omega) he) (And.intro rfl (And.intro rfl (And.intro rfl (And.intro rfl (And.intro rfl (And.intro rfl (And.intro rfl trivial)))))))
set_option maxRecDepth 100000 in
set_option maxHeartbeats 4000000 in
theorem c_X5_moveWithin {sec : Nat} {w : Int} (hs2 : sec < 8) (hw : w = 0 ∨ w = 1) (hok : okMC sec w (S 33 (2 * (sec : Int) + w)).toNat S 0 false) (hC : RC ns nc S V) : CT l D cA A ad yX5_moveWithin cX5_moveWithin 8 none rm_X5_moveWithin [.inr (some (0, 0)), .inr (some (1, sec)), .inr (some (30, 2 * sec + w.toNat))] (lvC ns nc) V sz (PC none ns nc (mvs S sec w) sz) := by
  refine CT.of2 [some (.inr (some (0, 0))), some (.inr (some (1, sec))), some (.inr (some (30, 2 * sec + w.toNat))), none, none, none, none, none] (by decide) (Nat.le_of_ble_eq_true rfl) rfl ?_
  obtain ⟨hR, h8, h24⟩ := id hC
  have hi := hok.ci.1.iM (a := 2 * (sec : Int) + w) (by omega) (by omega)
  have e33 : V 30 (2 * sec + w.toNat) 1 = .inl (S 33 (2 * (sec : Int) + w)) := by
    rw [rc_30_1 hR (by omega)]
    congr 2
    omega
  refine aw_aload_n dX5_moveWithin_0 rfl rfl ?_
  refine aw_getN dX5_moveWithin_1 fnX5_84 (by decide) (by decide) rfl (decide_eq_true (show 2 * sec + w.toNat < 16 by omega)) e33 ?_
  refine aw_istore_n dX5_moveWithin_4 rfl (by decide) ?_
  refine aw_iconst dX5_moveWithin_5 ?_
  refine aw_istore dX5_moveWithin_6 (by decide) ?_
  refine aw_iconst dX5_moveWithin_8 ?_
  refine aw_istore dX5_moveWithin_9 (by decide) ?_
  refine aw_iconst dX5_moveWithin_11 ?_
  refine aw_istore dX5_moveWithin_12 (by decide) ?_
  refine AW.lss (lp_X5_moveWithin hs2 hw (by omega) (S 33 (2 * (sec : Int) + w)).toNat S V 0 0 false hok hC (by omega) (by omega) (by omega) rfl) (And.intro rfl (And.intro rfl (And.intro rfl (And.intro rfl (And.intro rfl (And.intro rfl (And.intro rfl trivial)))))))
end CLS5
