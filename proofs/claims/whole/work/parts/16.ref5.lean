section REF5
variable {l : Launch} {D : va_G} {cA : Nat → ClassId} {A : Nat → Prop} {ad : Ad} {lv : Lw} {V : Vw} {sz : Nat} {S : SS}
/-- the way through a section is clear: bounds hold all along, and the ships there are of that way -/
def okM (sec : Nat) (w : Int) : Nat → SS → Nat → Bool → Prop
  | 0, S, _, _ => BB S
  | f + 1, S, k, stuck => BB S ∧ ((k : Int) < S 33 (2 * sec + w) → S 9 (S 34 (30 * (2 * sec + w) + k)) = w ∧
      (if (stuck || decide (0 < S 21 (S 34 (30 * (2 * sec + w) + k)))) = true then okM sec w f (wt S (7 * S 34 (30 * (2 * sec + w) + k))) (k + 1) true
      else if tk S (S 34 (30 * (2 * sec + w) + k)) 16 (S 34 (30 * (2 * sec + w) + k)) = 0 then
        (if k = 0 then okM sec w f (gos (tk S (S 34 (30 * (2 * sec + w) + k))) (S 34 (30 * (2 * sec + w) + k)) sec).2 (if (gos (tk S (S 34 (30 * (2 * sec + w) + k))) (S 34 (30 * (2 * sec + w) + k)) sec).1 = true then 0 else 1) false
        else okM sec w f (wt (tk S (S 34 (30 * (2 * sec + w) + k))) (7 * S 34 (30 * (2 * sec + w) + k) + 6)) (k + 1) false)
      else okM sec w f (tk S (S 34 (30 * (2 * sec + w) + k))) (k + 1) false))
theorem okM.bb {sec : Nat} {w : Int} {f : Nat} {S : SS} {k : Nat} {stuck : Bool} (h : okM sec w f S k stuck) : BB S := by
  cases f with
  | zero => exact h
  | succ f => exact h.1
theorem tk_ne {S : SS} {s : Int} {k : Nat} (h : k ≠ 16) (x : Int) : tk S s k x = S k x := by simp [tk, u2, h]
theorem tk_16 (S : SS) (s : Int) : tk S s 16 s = S 16 s - (if 0 < S 16 s then 1 else 0) := by simp only [tk]; rw [u2_self]
theorem ent_33 (S : SS) (s sec x : Int) : ent S s sec 33 x = if x = 2 * sec + S 9 s then S 33 (2 * sec + S 9 s) + 1 else S 33 x := by
  simp only [ent]
  rw [u2_ne (by decide), u2_ne (by decide), u2_ne (by decide), u2_at, u2_ne (by decide)]
/-- how many are left in a section when its first has been asked to go -/
theorem gos_33 {S : SS} {s : Int} {sec : Nat} (h9 : S 9 s = 0 ∨ S 9 s = 1) (hs2 : sec < 8) : (gos S s sec).2 33 (2 * (sec : Int) + S 9 s) = S 33 (2 * (sec : Int) + S 9 s) - b2i (gos S s sec).1 := by
  by_cases h1 : (sec : Int) = (if S 9 s = 0 then 7 else 0)
  · have e : gos S s sec = (true, goE S sec s) := by rw [gos, if_pos h1]
    rw [e]
    show goE S sec s 33 _ = _
    simp only [goE]
    rw [u2_ne (by decide), u2_ne (by decide), lvs_33, if_pos rfl]
    rfl
  · by_cases h2 : 0 ≤ cause S s (if S 9 s = 0 then sec + 1 else sec - 1)
    · have e : gos S s sec = (false, wt S (7 * s + cause S s (if S 9 s = 0 then sec + 1 else sec - 1))) := by rw [gos, if_neg h1, if_pos h2]
      rw [e]
      show wt S (7 * s + cause S s (if S 9 s = 0 then sec + 1 else sec - 1)) 33 _ = _ - b2i false
      rw [wt_ne (by decide), b2i_f, Int.sub_zero]
    · have e : gos S s sec = (true, ent (lvs S sec (S 9 s)) s (if S 9 s = 0 then (sec : Int) + 1 else (sec : Int) - 1)) := by rw [gos, if_neg h1, if_neg h2]
      rw [e]
      show ent _ _ _ 33 _ = _ - b2i true
      rw [ent_33, lvs_ne (k := 9) (by decide) (by decide), if_neg, lvs_33, if_pos rfl]
      · rfl
      · split <;> omega
set_option maxRecDepth 100000 in
set_option maxHeartbeats 4000000 in
theorem lp_X6_moves {S9 : SS} {sec : Nat} {w : Int} (hs2 : sec < 8) (hw : w = 0 ∨ w = 1) : ∀ (f : Nat) (S : SS) (k : Nat) (stuck : Bool), okM sec w f S k stuck → k ≤ 3 → S 33 (2 * (sec : Int) + w) - k ≤ f → mvF sec w f S k stuck = S9 → AW l D cA A ad yX6_moves cX6_moves 8 none rm_X6_moves (PR none (S9) sz) 0 0 lvR (VR S) sz 12 [some (.inr (some (50, 0))), some (.inl (sec : Int)), some (.inl w), some (.inl (2 * (sec : Int) + w)), some (.inl (k : Int)), some (.inl (b2i stuck)), none, none] [] := by
  intro f
  induction f with
  | zero =>
    intro S k stuck hok hk3 hf he
    have hB := hok.bb
    have hi := hB.iM (a := 2 * (sec : Int) + w) (by omega) (by omega)
    refine aw_iload dX6_moves_12 rfl ?_
    refine aw_aload_n dX6_moves_14 rfl rfl ?_
    refine rr_getA dX6_moves_15 flX6_99 rfl (by decide) ?_
    refine aw_iload_n dX6_moves_18 rfl rfl ?_
    refine rr_iald (n := 16) dX6_moves_19 rfl rfl rfl (by omega) (by omega) (fun _ => rfl) ?_
    refine aw_icmp_ge (tgt := 181) dX6_moves_20 (by decide) (by omega) (by omega) (fun c_20 => ?_) (fun c_20 => absurd c_20 (by omega))
    refine aw_vret dX6_moves_181 rfl (Nat.zero_le _) (Nat.zero_le _) ?_
    rw [← he]
    exact ⟨rfl, rfl, rfl, rfl⟩
  | succ f ih =>
    intro S k stuck hok hk3 hf he
    have hB := hok.bb
    have hi := hB.iM (a := 2 * (sec : Int) + w) (by omega) (by omega)
    have hx := b2i_rg stuck
    refine aw_iload dX6_moves_12 rfl ?_
    refine aw_aload_n dX6_moves_14 rfl rfl ?_
    refine rr_getA dX6_moves_15 flX6_99 rfl (by decide) ?_
    refine aw_iload_n dX6_moves_18 rfl rfl ?_
    refine rr_iald (n := 16) dX6_moves_19 rfl rfl rfl (by omega) (by omega) (fun _ => rfl) ?_
    refine aw_icmp_ge (tgt := 181) dX6_moves_20 (by decide) (by omega) (by omega) (fun c_20 => ?_) (fun c_20 => ?_)
    · refine aw_vret dX6_moves_181 rfl (Nat.zero_le _) (Nat.zero_le _) ?_
      simp only [mvF] at he
      rw [if_neg (by omega)] at he
      rw [← he]
      exact ⟨rfl, rfl, rfl, rfl⟩
    · have hins := hB.ins (x := 30 * (2 * (sec : Int) + w) + k) (by omega) (by omega)
      obtain ⟨h9, hok⟩ := hok.2 c_20
      simp only [mvF] at he
      rw [if_pos c_20] at he
      refine aw_aload_n dX6_moves_23 rfl rfl ?_
      refine rr_getA dX6_moves_24 flX6_102 rfl (by decide) ?_
      refine aw_bipush dX6_moves_27 (by decide) ?_
      refine aw_iload_n dX6_moves_29 rfl rfl ?_
      refine aw_imul dX6_moves_30 ?_
      refine aw_iload dX6_moves_31 rfl ?_
      refine aw_iadd dX6_moves_33 ?_
      refine rr_iald (n := 480) dX6_moves_34 rfl rfl rfl (by omega) (by omega) (fun _ => rfl) ?_
      generalize hse : S 34 (30 * (2 * (sec : Int) + w) + k) = s at h9 hok he hins ⊢
      have hsh := hB.sh hins.1 hins.2
      simp only [bsh] at hsh
      refine aw_istore dX6_moves_35 (by decide) ?_
      refine aw_iload dX6_moves_37 rfl ?_
      refine aw_if_ne (tgt := 52) dX6_moves_39 (by decide) (by omega) (fun c_39 => ?_) (fun c_39 => ?_)
      · have hst : (stuck || decide (0 < S 21 s)) = true := by rw [b2i_pos c_39]; rfl
        rw [if_pos hst] at hok he
        refine aw_iconst dX6_moves_52 ?_
        refine aw_goto (tgt := 57) dX6_moves_53 (by decide) ?_
        refine aw_istore dX6_moves_57 (by decide) ?_
        refine aw_iconst dX6_moves_59 ?_
        refine aw_istore dX6_moves_60 (by decide) ?_
        refine aw_iload dX6_moves_62 rfl ?_
        refine aw_if_eq (tgt := 84) dX6_moves_64 (by decide) (by omega) (fun c_64 => absurd c_64 (by decide)) (fun _ => ?_)
        refine aw_aload_n dX6_moves_67 rfl rfl ?_
        refine rr_getA dX6_moves_68 flX6_72 rfl (by decide) ?_
        refine aw_bipush dX6_moves_71 (by decide) ?_
        refine aw_iload dX6_moves_73 rfl ?_
        refine aw_imul dX6_moves_75 ?_
        refine aw_dup2 dX6_moves_76 ?_
        refine rr_iald (n := 210) dX6_moves_77 rfl rfl rfl (by omega) (by omega) (fun _ => rfl) ?_
        refine aw_iconst dX6_moves_78 ?_
        refine aw_iadd dX6_moves_79 ?_
        refine rr_iast (n := 210) dX6_moves_80 rfl rfl rfl (by omega) (by omega) ?_
        refine aw_goto (tgt := 163) dX6_moves_81 (by decide) ?_
        refine aw_iload dX6_moves_163 rfl ?_
        refine aw_iload dX6_moves_165 rfl ?_
        refine aw_if_eq (tgt := 174) dX6_moves_167 (by decide) (by omega) (fun _ => ?_) (fun c_167 => absurd c_167 (by decide))
        refine aw_iconst dX6_moves_174 ?_
        refine aw_iadd dX6_moves_175 ?_
        refine aw_istore dX6_moves_176 (by decide) ?_
        refine aw_goto (tgt := 12) dX6_moves_178 (by decide) ?_
        first
        | (exfalso; omega)
        | (exact AW.lss (ih (wt S (7 * s)) (k + 1) true hok (by omega) (by rw [wt_ne (by decide)]; omega) he) (And.intro rfl (And.intro rfl (And.intro rfl (And.intro rfl (And.intro rfl (And.intro rfl trivial)))))))
        | (exact AW.lss (ih (tk S s) (k + 1) false hok (by omega) (by rw [tk_ne (by decide)]; omega) he) (And.intro rfl (And.intro rfl (And.intro rfl (And.intro rfl (And.intro rfl (And.intro rfl trivial)))))))
        | (exact AW.lss (ih (wt (tk S s) (7 * s + 6)) (k + 1) false hok (by omega) (by rw [wt_ne (by decide), tk_ne (by decide)]; omega) he) (And.intro rfl (And.intro rfl (And.intro rfl (And.intro rfl (And.intro rfl (And.intro rfl trivial)))))))
        | (exact AW.lss (ih (gos (tk S s) s sec).2 0 false hok (by omega) (by rw [hg33]; omega) he) (And.intro rfl (And.intro rfl (And.intro rfl (And.intro rfl (And.intro rfl (And.intro rfl trivial)))))))
        | (exact AW.lss (ih (gos (tk S s) s sec).2 1 false hok (by omega) (by rw [hg33]; omega) he) (And.intro rfl (And.intro rfl (And.intro rfl (And.intro rfl (And.intro rfl (And.intro rfl trivial)))))))
      · refine aw_aload_n dX6_moves_42 rfl rfl ?_
        refine rr_getA dX6_moves_43 flX6_66 rfl (by decide) ?_
        refine aw_iload dX6_moves_46 rfl ?_
        refine rr_iald (n := 30) dX6_moves_48 rfl rfl rfl (by omega) (by omega) (fun _ => rfl) ?_
        refine aw_if_le (tgt := 56) dX6_moves_49 (by decide) (by omega) (fun c_49 => ?_) (fun c_49 => ?_)
        · have hst : ¬ ((stuck || decide (0 < S 21 s)) = true) := by rw [b2i_zero c_39, decide_eq_false (by omega)]; decide
          rw [if_neg hst] at hok he
          refine aw_iconst dX6_moves_56 ?_
          refine aw_istore dX6_moves_57 (by decide) ?_
          refine aw_iconst dX6_moves_59 ?_
          refine aw_istore dX6_moves_60 (by decide) ?_
          refine aw_iload dX6_moves_62 rfl ?_
          refine aw_if_eq (tgt := 84) dX6_moves_64 (by decide) (by omega) (fun _ => ?_) (fun c_64 => absurd c_64 (by decide))
          refine aw_aload_n dX6_moves_84 rfl rfl ?_
          refine rr_getA dX6_moves_85 flX6_51 rfl (by decide) ?_
          refine aw_iload dX6_moves_88 rfl ?_
          refine aw_dup2 dX6_moves_90 ?_
          refine rr_iald (n := 30) dX6_moves_91 rfl rfl rfl (by omega) (by omega) (fun _ => rfl) ?_
          refine aw_aload_n dX6_moves_92 rfl rfl ?_
          refine rr_getA dX6_moves_93 flX6_51 rfl (by decide) ?_
          refine aw_iload dX6_moves_96 rfl ?_
          refine rr_iald (n := 30) dX6_moves_98 rfl rfl rfl (by omega) (by omega) (fun _ => rfl) ?_
          refine aw_if_le (tgt := 106) dX6_moves_99 (by decide) (by omega) (fun c_99 => ?_) (fun c_99 => ?_)
          · refine aw_iconst dX6_moves_106 ?_
            refine aw_isub dX6_moves_107 ?_
            refine rr_iast (n := 30) dX6_moves_108 rfl rfl rfl (by omega) (by omega) ?_
            first | (rw [show u2 S 16 s (S 16 s - 1) = tk S s by rw [tk, if_pos (by omega)]]) | (rw [show u2 S 16 s (S 16 s - 0) = tk S s by rw [tk, if_neg (by omega)]])
            have htk := tk_16 S s
            have hb16 : Rg (tk S s 16 s) := by rw [htk]; split <;> omega
            refine aw_aload_n dX6_moves_109 rfl rfl ?_
            refine rr_getA dX6_moves_110 flX6_51 rfl (by decide) ?_
            refine aw_iload dX6_moves_113 rfl ?_
            refine rr_iald (n := 30) (S0 := tk S s) dX6_moves_115 rfl rfl rfl (by omega) (by omega) (fun _ => rfl) ?_
            refine aw_if_ne (tgt := 163) dX6_moves_116 (by decide) (by omega) (fun c_116 => ?_) (fun c_116 => ?_)
            · rw [if_neg c_116] at hok he
              refine aw_iload dX6_moves_163 rfl ?_
              refine aw_iload dX6_moves_165 rfl ?_
              refine aw_if_eq (tgt := 174) dX6_moves_167 (by decide) (by omega) (fun _ => ?_) (fun c_167 => absurd c_167 (by decide))
              refine aw_iconst dX6_moves_174 ?_
              refine aw_iadd dX6_moves_175 ?_
              refine aw_istore dX6_moves_176 (by decide) ?_
              refine aw_goto (tgt := 12) dX6_moves_178 (by decide) ?_
              first
              | (exfalso; omega)
              | (exact AW.lss (ih (wt S (7 * s)) (k + 1) true hok (by omega) (by rw [wt_ne (by decide)]; omega) he) (And.intro rfl (And.intro rfl (And.intro rfl (And.intro rfl (And.intro rfl (And.intro rfl trivial)))))))
              | (exact AW.lss (ih (tk S s) (k + 1) false hok (by omega) (by rw [tk_ne (by decide)]; omega) he) (And.intro rfl (And.intro rfl (And.intro rfl (And.intro rfl (And.intro rfl (And.intro rfl trivial)))))))
              | (exact AW.lss (ih (wt (tk S s) (7 * s + 6)) (k + 1) false hok (by omega) (by rw [wt_ne (by decide), tk_ne (by decide)]; omega) he) (And.intro rfl (And.intro rfl (And.intro rfl (And.intro rfl (And.intro rfl (And.intro rfl trivial)))))))
              | (exact AW.lss (ih (gos (tk S s) s sec).2 0 false hok (by omega) (by rw [hg33]; omega) he) (And.intro rfl (And.intro rfl (And.intro rfl (And.intro rfl (And.intro rfl (And.intro rfl trivial)))))))
              | (exact AW.lss (ih (gos (tk S s) s sec).2 1 false hok (by omega) (by rw [hg33]; omega) he) (And.intro rfl (And.intro rfl (And.intro rfl (And.intro rfl (And.intro rfl (And.intro rfl trivial)))))))
            · rw [if_pos c_116] at hok he
              refine aw_iload dX6_moves_119 rfl ?_
              refine aw_if_ne (tgt := 138) dX6_moves_121 (by decide) (by omega) (fun c_121 => ?_) (fun c_121 => ?_)
              · rw [if_neg (by omega)] at hok he
                refine aw_iconst dX6_moves_138 ?_
                refine aw_istore dX6_moves_139 (by decide) ?_
                refine aw_iload dX6_moves_141 rfl ?_
                refine aw_if_le (tgt := 163) dX6_moves_143 (by decide) (by omega) (fun c_143 => ?_) (fun c_143 => ?_)
                · refine aw_iload dX6_moves_163 rfl ?_
                  refine aw_iload dX6_moves_165 rfl ?_
                  refine aw_if_eq (tgt := 174) dX6_moves_167 (by decide) (by omega) (fun _ => ?_) (fun c_167 => absurd c_167 (by decide))
                  refine aw_iconst dX6_moves_174 ?_
                  refine aw_iadd dX6_moves_175 ?_
                  refine aw_istore dX6_moves_176 (by decide) ?_
                  refine aw_goto (tgt := 12) dX6_moves_178 (by decide) ?_
                  first
                  | (exfalso; omega)
                  | (exact AW.lss (ih (wt S (7 * s)) (k + 1) true hok (by omega) (by rw [wt_ne (by decide)]; omega) he) (And.intro rfl (And.intro rfl (And.intro rfl (And.intro rfl (And.intro rfl (And.intro rfl trivial)))))))
                  | (exact AW.lss (ih (tk S s) (k + 1) false hok (by omega) (by rw [tk_ne (by decide)]; omega) he) (And.intro rfl (And.intro rfl (And.intro rfl (And.intro rfl (And.intro rfl (And.intro rfl trivial)))))))
                  | (exact AW.lss (ih (wt (tk S s) (7 * s + 6)) (k + 1) false hok (by omega) (by rw [wt_ne (by decide), tk_ne (by decide)]; omega) he) (And.intro rfl (And.intro rfl (And.intro rfl (And.intro rfl (And.intro rfl (And.intro rfl trivial)))))))
                  | (exact AW.lss (ih (gos (tk S s) s sec).2 0 false hok (by omega) (by rw [hg33]; omega) he) (And.intro rfl (And.intro rfl (And.intro rfl (And.intro rfl (And.intro rfl (And.intro rfl trivial)))))))
                  | (exact AW.lss (ih (gos (tk S s) s sec).2 1 false hok (by omega) (by rw [hg33]; omega) he) (And.intro rfl (And.intro rfl (And.intro rfl (And.intro rfl (And.intro rfl (And.intro rfl trivial)))))))
                · refine aw_aload_n dX6_moves_146 rfl rfl ?_
                  refine rr_getA dX6_moves_147 flX6_72 rfl (by decide) ?_
                  refine aw_bipush dX6_moves_150 (by decide) ?_
                  refine aw_iload dX6_moves_152 rfl ?_
                  refine aw_imul dX6_moves_154 ?_
                  refine aw_bipush dX6_moves_155 (by decide) ?_
                  refine aw_iadd dX6_moves_157 ?_
                  refine aw_dup2 dX6_moves_158 ?_
                  refine rr_iald (n := 210) (S0 := tk S s) dX6_moves_159 rfl rfl rfl (by omega) (by omega) (fun _ => by first | rfl | (exfalso; omega)) ?_
                  refine aw_iconst dX6_moves_160 ?_
                  refine aw_iadd dX6_moves_161 ?_
                  refine rr_iast (n := 210) dX6_moves_162 rfl rfl rfl (by omega) (by omega) ?_
                  refine aw_iload dX6_moves_163 rfl ?_
                  refine aw_iload dX6_moves_165 rfl ?_
                  refine aw_if_eq (tgt := 174) dX6_moves_167 (by decide) (by omega) (fun _ => ?_) (fun c_167 => absurd c_167 (by decide))
                  refine aw_iconst dX6_moves_174 ?_
                  refine aw_iadd dX6_moves_175 ?_
                  refine aw_istore dX6_moves_176 (by decide) ?_
                  refine aw_goto (tgt := 12) dX6_moves_178 (by decide) ?_
                  first
                  | (exfalso; omega)
                  | (exact AW.lss (ih (wt S (7 * s)) (k + 1) true hok (by omega) (by rw [wt_ne (by decide)]; omega) he) (And.intro rfl (And.intro rfl (And.intro rfl (And.intro rfl (And.intro rfl (And.intro rfl trivial)))))))
                  | (exact AW.lss (ih (tk S s) (k + 1) false hok (by omega) (by rw [tk_ne (by decide)]; omega) he) (And.intro rfl (And.intro rfl (And.intro rfl (And.intro rfl (And.intro rfl (And.intro rfl trivial)))))))
                  | (exact AW.lss (ih (wt (tk S s) (7 * s + 6)) (k + 1) false hok (by omega) (by rw [wt_ne (by decide), tk_ne (by decide)]; omega) he) (And.intro rfl (And.intro rfl (And.intro rfl (And.intro rfl (And.intro rfl (And.intro rfl trivial)))))))
                  | (exact AW.lss (ih (gos (tk S s) s sec).2 0 false hok (by omega) (by rw [hg33]; omega) he) (And.intro rfl (And.intro rfl (And.intro rfl (And.intro rfl (And.intro rfl (And.intro rfl trivial)))))))
                  | (exact AW.lss (ih (gos (tk S s) s sec).2 1 false hok (by omega) (by rw [hg33]; omega) he) (And.intro rfl (And.intro rfl (And.intro rfl (And.intro rfl (And.intro rfl (And.intro rfl trivial)))))))
              · obtain rfl : k = 0 := by omega
                rw [if_pos rfl] at hok he
                refine aw_aload_n dX6_moves_124 rfl rfl ?_
                refine aw_iload dX6_moves_125 rfl ?_
                refine aw_iload_n dX6_moves_127 rfl rfl ?_
                refine aw_callV (c_X6_goes (BB_tk hB) hins hs2) mv_X6_goes mlX6_141 dX6_moves_128 rfl rfl (by decide) rfl (Nat.le_of_ble_eq_true rfl) rfl ?_
                rintro _ _ _ _ ⟨rfl, rfl, rfl, rfl⟩
                have hg33 : (gos (tk S s) s sec).2 33 (2 * (sec : Int) + w) = S 33 (2 * (sec : Int) + w) - b2i (gos (tk S s) s sec).1 := by
                  have hg := gos_33 (S := tk S s) (s := s) (sec := sec) (by rw [tk_ne (by decide)]; omega) hs2
                  rw [tk_ne (k := 9) (by decide), h9, tk_ne (k := 33) (by decide)] at hg
                  exact hg
                have hgb := b2i_rg (gos (tk S s) s sec).1
                refine aw_if_eq (tgt := 138) dX6_moves_131 (by decide) (by omega) (fun c_131 => ?_) (fun c_131 => ?_)
                · have hg1 := b2i_zero c_131
                  rw [if_neg (by rw [hg1]; decide)] at hok he
                  rw [hg1, b2i_f] at hg33
                  refine aw_iconst dX6_moves_138 ?_
                  refine aw_istore dX6_moves_139 (by decide) ?_
                  refine aw_iload dX6_moves_141 rfl ?_
                  refine aw_if_le (tgt := 163) dX6_moves_143 (by decide) (by omega) (fun c_143 => ?_) (fun c_143 => ?_)
                  · refine aw_iload dX6_moves_163 rfl ?_
                    refine aw_iload dX6_moves_165 rfl ?_
                    refine aw_if_eq (tgt := 174) dX6_moves_167 (by decide) (by omega) (fun _ => ?_) (fun c_167 => absurd c_167 (by decide))
                    refine aw_iconst dX6_moves_174 ?_
                    refine aw_iadd dX6_moves_175 ?_
                    refine aw_istore dX6_moves_176 (by decide) ?_
                    refine aw_goto (tgt := 12) dX6_moves_178 (by decide) ?_
                    first
                    | (exfalso; omega)
                    | (exact AW.lss (ih (wt S (7 * s)) (k + 1) true hok (by omega) (by rw [wt_ne (by decide)]; omega) he) (And.intro rfl (And.intro rfl (And.intro rfl (And.intro rfl (And.intro rfl (And.intro rfl trivial)))))))
                    | (exact AW.lss (ih (tk S s) (k + 1) false hok (by omega) (by rw [tk_ne (by decide)]; omega) he) (And.intro rfl (And.intro rfl (And.intro rfl (And.intro rfl (And.intro rfl (And.intro rfl trivial)))))))
                    | (exact AW.lss (ih (wt (tk S s) (7 * s + 6)) (k + 1) false hok (by omega) (by rw [wt_ne (by decide), tk_ne (by decide)]; omega) he) (And.intro rfl (And.intro rfl (And.intro rfl (And.intro rfl (And.intro rfl (And.intro rfl trivial)))))))
                    | (exact AW.lss (ih (gos (tk S s) s sec).2 0 false hok (by omega) (by rw [hg33]; omega) he) (And.intro rfl (And.intro rfl (And.intro rfl (And.intro rfl (And.intro rfl (And.intro rfl trivial)))))))
                    | (exact AW.lss (ih (gos (tk S s) s sec).2 1 false hok (by omega) (by rw [hg33]; omega) he) (And.intro rfl (And.intro rfl (And.intro rfl (And.intro rfl (And.intro rfl (And.intro rfl trivial)))))))
                  · refine aw_aload_n dX6_moves_146 rfl rfl ?_
                    refine rr_getA dX6_moves_147 flX6_72 rfl (by decide) ?_
                    refine aw_bipush dX6_moves_150 (by decide) ?_
                    refine aw_iload dX6_moves_152 rfl ?_
                    refine aw_imul dX6_moves_154 ?_
                    refine aw_bipush dX6_moves_155 (by decide) ?_
                    refine aw_iadd dX6_moves_157 ?_
                    refine aw_dup2 dX6_moves_158 ?_
                    refine rr_iald (n := 210) (S0 := tk S s) dX6_moves_159 rfl rfl rfl (by omega) (by omega) (fun _ => by first | rfl | (exfalso; omega)) ?_
                    refine aw_iconst dX6_moves_160 ?_
                    refine aw_iadd dX6_moves_161 ?_
                    refine rr_iast (n := 210) dX6_moves_162 rfl rfl rfl (by omega) (by omega) ?_
                    refine aw_iload dX6_moves_163 rfl ?_
                    refine aw_iload dX6_moves_165 rfl ?_
                    refine aw_if_eq (tgt := 174) dX6_moves_167 (by decide) (by omega) (fun _ => ?_) (fun c_167 => absurd c_167 (by decide))
                    refine aw_iconst dX6_moves_174 ?_
                    refine aw_iadd dX6_moves_175 ?_
                    refine aw_istore dX6_moves_176 (by decide) ?_
                    refine aw_goto (tgt := 12) dX6_moves_178 (by decide) ?_
                    first
                    | (exfalso; omega)
                    | (exact AW.lss (ih (wt S (7 * s)) (k + 1) true hok (by omega) (by rw [wt_ne (by decide)]; omega) he) (And.intro rfl (And.intro rfl (And.intro rfl (And.intro rfl (And.intro rfl (And.intro rfl trivial)))))))
                    | (exact AW.lss (ih (tk S s) (k + 1) false hok (by omega) (by rw [tk_ne (by decide)]; omega) he) (And.intro rfl (And.intro rfl (And.intro rfl (And.intro rfl (And.intro rfl (And.intro rfl trivial)))))))
                    | (exact AW.lss (ih (wt (tk S s) (7 * s + 6)) (k + 1) false hok (by omega) (by rw [wt_ne (by decide), tk_ne (by decide)]; omega) he) (And.intro rfl (And.intro rfl (And.intro rfl (And.intro rfl (And.intro rfl (And.intro rfl trivial)))))))
                    | (exact AW.lss (ih (gos (tk S s) s sec).2 0 false hok (by omega) (by rw [hg33]; omega) he) (And.intro rfl (And.intro rfl (And.intro rfl (And.intro rfl (And.intro rfl (And.intro rfl trivial)))))))
                    | (exact AW.lss (ih (gos (tk S s) s sec).2 1 false hok (by omega) (by rw [hg33]; omega) he) (And.intro rfl (And.intro rfl (And.intro rfl (And.intro rfl (And.intro rfl (And.intro rfl trivial)))))))
                · have hg1 := b2i_pos c_131
                  rw [if_pos hg1] at hok he
                  rw [hg1, b2i_t] at hg33
                  refine aw_iconst dX6_moves_134 ?_
                  refine aw_goto (tgt := 139) dX6_moves_135 (by decide) ?_
                  refine aw_istore dX6_moves_139 (by decide) ?_
                  refine aw_iload dX6_moves_141 rfl ?_
                  refine aw_if_le (tgt := 163) dX6_moves_143 (by decide) (by omega) (fun c_143 => ?_) (fun c_143 => ?_)
                  · refine aw_iload dX6_moves_163 rfl ?_
                    refine aw_iload dX6_moves_165 rfl ?_
                    refine aw_if_eq (tgt := 174) dX6_moves_167 (by decide) (by omega) (fun c_167 => absurd c_167 (by decide)) (fun _ => ?_)
                    refine aw_iconst dX6_moves_170 ?_
                    refine aw_goto (tgt := 175) dX6_moves_171 (by decide) ?_
                    refine aw_iadd dX6_moves_175 ?_
                    refine aw_istore dX6_moves_176 (by decide) ?_
                    refine aw_goto (tgt := 12) dX6_moves_178 (by decide) ?_
                    first
                    | (exfalso; omega)
                    | (exact AW.lss (ih (wt S (7 * s)) (k + 1) true hok (by omega) (by rw [wt_ne (by decide)]; omega) he) (And.intro rfl (And.intro rfl (And.intro rfl (And.intro rfl (And.intro rfl (And.intro rfl trivial)))))))
                    | (exact AW.lss (ih (tk S s) (k + 1) false hok (by omega) (by rw [tk_ne (by decide)]; omega) he) (And.intro rfl (And.intro rfl (And.intro rfl (And.intro rfl (And.intro rfl (And.intro rfl trivial)))))))
                    | (exact AW.lss (ih (wt (tk S s) (7 * s + 6)) (k + 1) false hok (by omega) (by rw [wt_ne (by decide), tk_ne (by decide)]; omega) he) (And.intro rfl (And.intro rfl (And.intro rfl (And.intro rfl (And.intro rfl (And.intro rfl trivial)))))))
                    | (exact AW.lss (ih (gos (tk S s) s sec).2 0 false hok (by omega) (by rw [hg33]; omega) he) (And.intro rfl (And.intro rfl (And.intro rfl (And.intro rfl (And.intro rfl (And.intro rfl trivial)))))))
                    | (exact AW.lss (ih (gos (tk S s) s sec).2 1 false hok (by omega) (by rw [hg33]; omega) he) (And.intro rfl (And.intro rfl (And.intro rfl (And.intro rfl (And.intro rfl (And.intro rfl trivial)))))))
                  · refine aw_aload_n dX6_moves_146 rfl rfl ?_
                    refine rr_getA dX6_moves_147 flX6_72 rfl (by decide) ?_
                    refine aw_bipush dX6_moves_150 (by decide) ?_
                    refine aw_iload dX6_moves_152 rfl ?_
                    refine aw_imul dX6_moves_154 ?_
                    refine aw_bipush dX6_moves_155 (by decide) ?_
                    refine aw_iadd dX6_moves_157 ?_
                    refine aw_dup2 dX6_moves_158 ?_
                    refine rr_iald (n := 210) (S0 := tk S s) dX6_moves_159 rfl rfl rfl (by omega) (by omega) (fun _ => by first | rfl | (exfalso; omega)) ?_
                    refine aw_iconst dX6_moves_160 ?_
                    refine aw_iadd dX6_moves_161 ?_
                    refine rr_iast (n := 210) dX6_moves_162 rfl rfl rfl (by omega) (by omega) ?_
                    refine aw_iload dX6_moves_163 rfl ?_
                    refine aw_iload dX6_moves_165 rfl ?_
                    refine aw_if_eq (tgt := 174) dX6_moves_167 (by decide) (by omega) (fun c_167 => absurd c_167 (by decide)) (fun _ => ?_)
                    refine aw_iconst dX6_moves_170 ?_
                    refine aw_goto (tgt := 175) dX6_moves_171 (by decide) ?_
                    refine aw_iadd dX6_moves_175 ?_
                    refine aw_istore dX6_moves_176 (by decide) ?_
                    refine aw_goto (tgt := 12) dX6_moves_178 (by decide) ?_
                    first
                    | (exfalso; omega)
                    | (exact AW.lss (ih (wt S (7 * s)) (k + 1) true hok (by omega) (by rw [wt_ne (by decide)]; omega) he) (And.intro rfl (And.intro rfl (And.intro rfl (And.intro rfl (And.intro rfl (And.intro rfl trivial)))))))
                    | (exact AW.lss (ih (tk S s) (k + 1) false hok (by omega) (by rw [tk_ne (by decide)]; omega) he) (And.intro rfl (And.intro rfl (And.intro rfl (And.intro rfl (And.intro rfl (And.intro rfl trivial)))))))
                    | (exact AW.lss (ih (wt (tk S s) (7 * s + 6)) (k + 1) false hok (by omega) (by rw [wt_ne (by decide), tk_ne (by decide)]; omega) he) (And.intro rfl (And.intro rfl (And.intro rfl (And.intro rfl (And.intro rfl (And.intro rfl trivial)))))))
                    | (exact AW.lss (ih (gos (tk S s) s sec).2 0 false hok (by omega) (by rw [hg33]; omega) he) (And.intro rfl (And.intro rfl (And.intro rfl (And.intro rfl (And.intro rfl (And.intro rfl trivial)))))))
                    | (exact AW.lss (ih (gos (tk S s) s sec).2 1 false hok (by omega) (by rw [hg33]; omega) he) (And.intro rfl (And.intro rfl (And.intro rfl (And.intro rfl (And.intro rfl (And.intro rfl trivial)))))))
          · refine aw_iconst dX6_moves_102 ?_
            refine aw_goto (tgt := 107) dX6_moves_103 (by decide) ?_
            refine aw_isub dX6_moves_107 ?_
            refine rr_iast (n := 30) dX6_moves_108 rfl rfl rfl (by omega) (by omega) ?_
            first | (rw [show u2 S 16 s (S 16 s - 1) = tk S s by rw [tk, if_pos (by omega)]]) | (rw [show u2 S 16 s (S 16 s - 0) = tk S s by rw [tk, if_neg (by omega)]])
            have htk := tk_16 S s
            have hb16 : Rg (tk S s 16 s) := by rw [htk]; split <;> omega
            refine aw_aload_n dX6_moves_109 rfl rfl ?_
            refine rr_getA dX6_moves_110 flX6_51 rfl (by decide) ?_
            refine aw_iload dX6_moves_113 rfl ?_
            refine rr_iald (n := 30) (S0 := tk S s) dX6_moves_115 rfl rfl rfl (by omega) (by omega) (fun _ => rfl) ?_
            refine aw_if_ne (tgt := 163) dX6_moves_116 (by decide) (by omega) (fun c_116 => ?_) (fun c_116 => ?_)
            · rw [if_neg c_116] at hok he
              refine aw_iload dX6_moves_163 rfl ?_
              refine aw_iload dX6_moves_165 rfl ?_
              refine aw_if_eq (tgt := 174) dX6_moves_167 (by decide) (by omega) (fun _ => ?_) (fun c_167 => absurd c_167 (by decide))
              refine aw_iconst dX6_moves_174 ?_
              refine aw_iadd dX6_moves_175 ?_
              refine aw_istore dX6_moves_176 (by decide) ?_
              refine aw_goto (tgt := 12) dX6_moves_178 (by decide) ?_
              first
              | (exfalso; omega)
              | (exact AW.lss (ih (wt S (7 * s)) (k + 1) true hok (by omega) (by rw [wt_ne (by decide)]; omega) he) (And.intro rfl (And.intro rfl (And.intro rfl (And.intro rfl (And.intro rfl (And.intro rfl trivial)))))))
              | (exact AW.lss (ih (tk S s) (k + 1) false hok (by omega) (by rw [tk_ne (by decide)]; omega) he) (And.intro rfl (And.intro rfl (And.intro rfl (And.intro rfl (And.intro rfl (And.intro rfl trivial)))))))
              | (exact AW.lss (ih (wt (tk S s) (7 * s + 6)) (k + 1) false hok (by omega) (by rw [wt_ne (by decide), tk_ne (by decide)]; omega) he) (And.intro rfl (And.intro rfl (And.intro rfl (And.intro rfl (And.intro rfl (And.intro rfl trivial)))))))
              | (exact AW.lss (ih (gos (tk S s) s sec).2 0 false hok (by omega) (by rw [hg33]; omega) he) (And.intro rfl (And.intro rfl (And.intro rfl (And.intro rfl (And.intro rfl (And.intro rfl trivial)))))))
              | (exact AW.lss (ih (gos (tk S s) s sec).2 1 false hok (by omega) (by rw [hg33]; omega) he) (And.intro rfl (And.intro rfl (And.intro rfl (And.intro rfl (And.intro rfl (And.intro rfl trivial)))))))
            · rw [if_pos c_116] at hok he
              refine aw_iload dX6_moves_119 rfl ?_
              refine aw_if_ne (tgt := 138) dX6_moves_121 (by decide) (by omega) (fun c_121 => ?_) (fun c_121 => ?_)
              · rw [if_neg (by omega)] at hok he
                refine aw_iconst dX6_moves_138 ?_
                refine aw_istore dX6_moves_139 (by decide) ?_
                refine aw_iload dX6_moves_141 rfl ?_
                refine aw_if_le (tgt := 163) dX6_moves_143 (by decide) (by omega) (fun c_143 => ?_) (fun c_143 => ?_)
                · refine aw_iload dX6_moves_163 rfl ?_
                  refine aw_iload dX6_moves_165 rfl ?_
                  refine aw_if_eq (tgt := 174) dX6_moves_167 (by decide) (by omega) (fun _ => ?_) (fun c_167 => absurd c_167 (by decide))
                  refine aw_iconst dX6_moves_174 ?_
                  refine aw_iadd dX6_moves_175 ?_
                  refine aw_istore dX6_moves_176 (by decide) ?_
                  refine aw_goto (tgt := 12) dX6_moves_178 (by decide) ?_
                  first
                  | (exfalso; omega)
                  | (exact AW.lss (ih (wt S (7 * s)) (k + 1) true hok (by omega) (by rw [wt_ne (by decide)]; omega) he) (And.intro rfl (And.intro rfl (And.intro rfl (And.intro rfl (And.intro rfl (And.intro rfl trivial)))))))
                  | (exact AW.lss (ih (tk S s) (k + 1) false hok (by omega) (by rw [tk_ne (by decide)]; omega) he) (And.intro rfl (And.intro rfl (And.intro rfl (And.intro rfl (And.intro rfl (And.intro rfl trivial)))))))
                  | (exact AW.lss (ih (wt (tk S s) (7 * s + 6)) (k + 1) false hok (by omega) (by rw [wt_ne (by decide), tk_ne (by decide)]; omega) he) (And.intro rfl (And.intro rfl (And.intro rfl (And.intro rfl (And.intro rfl (And.intro rfl trivial)))))))
                  | (exact AW.lss (ih (gos (tk S s) s sec).2 0 false hok (by omega) (by rw [hg33]; omega) he) (And.intro rfl (And.intro rfl (And.intro rfl (And.intro rfl (And.intro rfl (And.intro rfl trivial)))))))
                  | (exact AW.lss (ih (gos (tk S s) s sec).2 1 false hok (by omega) (by rw [hg33]; omega) he) (And.intro rfl (And.intro rfl (And.intro rfl (And.intro rfl (And.intro rfl (And.intro rfl trivial)))))))
                · refine aw_aload_n dX6_moves_146 rfl rfl ?_
                  refine rr_getA dX6_moves_147 flX6_72 rfl (by decide) ?_
                  refine aw_bipush dX6_moves_150 (by decide) ?_
                  refine aw_iload dX6_moves_152 rfl ?_
                  refine aw_imul dX6_moves_154 ?_
                  refine aw_bipush dX6_moves_155 (by decide) ?_
                  refine aw_iadd dX6_moves_157 ?_
                  refine aw_dup2 dX6_moves_158 ?_
                  refine rr_iald (n := 210) (S0 := tk S s) dX6_moves_159 rfl rfl rfl (by omega) (by omega) (fun _ => by first | rfl | (exfalso; omega)) ?_
                  refine aw_iconst dX6_moves_160 ?_
                  refine aw_iadd dX6_moves_161 ?_
                  refine rr_iast (n := 210) dX6_moves_162 rfl rfl rfl (by omega) (by omega) ?_
                  refine aw_iload dX6_moves_163 rfl ?_
                  refine aw_iload dX6_moves_165 rfl ?_
                  refine aw_if_eq (tgt := 174) dX6_moves_167 (by decide) (by omega) (fun _ => ?_) (fun c_167 => absurd c_167 (by decide))
                  refine aw_iconst dX6_moves_174 ?_
                  refine aw_iadd dX6_moves_175 ?_
                  refine aw_istore dX6_moves_176 (by decide) ?_
                  refine aw_goto (tgt := 12) dX6_moves_178 (by decide) ?_
                  first
                  | (exfalso; omega)
                  | (exact AW.lss (ih (wt S (7 * s)) (k + 1) true hok (by omega) (by rw [wt_ne (by decide)]; omega) he) (And.intro rfl (And.intro rfl (And.intro rfl (And.intro rfl (And.intro rfl (And.intro rfl trivial)))))))
                  | (exact AW.lss (ih (tk S s) (k + 1) false hok (by omega) (by rw [tk_ne (by decide)]; omega) he) (And.intro rfl (And.intro rfl (And.intro rfl (And.intro rfl (And.intro rfl (And.intro rfl trivial)))))))
                  | (exact AW.lss (ih (wt (tk S s) (7 * s + 6)) (k + 1) false hok (by omega) (by rw [wt_ne (by decide), tk_ne (by decide)]; omega) he) (And.intro rfl (And.intro rfl (And.intro rfl (And.intro rfl (And.intro rfl (And.intro rfl trivial)))))))
                  | (exact AW.lss (ih (gos (tk S s) s sec).2 0 false hok (by omega) (by rw [hg33]; omega) he) (And.intro rfl (And.intro rfl (And.intro rfl (And.intro rfl (And.intro rfl (And.intro rfl trivial)))))))
                  | (exact AW.lss (ih (gos (tk S s) s sec).2 1 false hok (by omega) (by rw [hg33]; omega) he) (And.intro rfl (And.intro rfl (And.intro rfl (And.intro rfl (And.intro rfl (And.intro rfl trivial)))))))
              · obtain rfl : k = 0 := by omega
                rw [if_pos rfl] at hok he
                refine aw_aload_n dX6_moves_124 rfl rfl ?_
                refine aw_iload dX6_moves_125 rfl ?_
                refine aw_iload_n dX6_moves_127 rfl rfl ?_
                refine aw_callV (c_X6_goes (BB_tk hB) hins hs2) mv_X6_goes mlX6_141 dX6_moves_128 rfl rfl (by decide) rfl (Nat.le_of_ble_eq_true rfl) rfl ?_
                rintro _ _ _ _ ⟨rfl, rfl, rfl, rfl⟩
                have hg33 : (gos (tk S s) s sec).2 33 (2 * (sec : Int) + w) = S 33 (2 * (sec : Int) + w) - b2i (gos (tk S s) s sec).1 := by
                  have hg := gos_33 (S := tk S s) (s := s) (sec := sec) (by rw [tk_ne (by decide)]; omega) hs2
                  rw [tk_ne (k := 9) (by decide), h9, tk_ne (k := 33) (by decide)] at hg
                  exact hg
                have hgb := b2i_rg (gos (tk S s) s sec).1
                refine aw_if_eq (tgt := 138) dX6_moves_131 (by decide) (by omega) (fun c_131 => ?_) (fun c_131 => ?_)
                · have hg1 := b2i_zero c_131
                  rw [if_neg (by rw [hg1]; decide)] at hok he
                  rw [hg1, b2i_f] at hg33
                  refine aw_iconst dX6_moves_138 ?_
                  refine aw_istore dX6_moves_139 (by decide) ?_
                  refine aw_iload dX6_moves_141 rfl ?_
                  refine aw_if_le (tgt := 163) dX6_moves_143 (by decide) (by omega) (fun c_143 => ?_) (fun c_143 => ?_)
                  · refine aw_iload dX6_moves_163 rfl ?_
                    refine aw_iload dX6_moves_165 rfl ?_
                    refine aw_if_eq (tgt := 174) dX6_moves_167 (by decide) (by omega) (fun _ => ?_) (fun c_167 => absurd c_167 (by decide))
                    refine aw_iconst dX6_moves_174 ?_
                    refine aw_iadd dX6_moves_175 ?_
                    refine aw_istore dX6_moves_176 (by decide) ?_
                    refine aw_goto (tgt := 12) dX6_moves_178 (by decide) ?_
                    first
                    | (exfalso; omega)
                    | (exact AW.lss (ih (wt S (7 * s)) (k + 1) true hok (by omega) (by rw [wt_ne (by decide)]; omega) he) (And.intro rfl (And.intro rfl (And.intro rfl (And.intro rfl (And.intro rfl (And.intro rfl trivial)))))))
                    | (exact AW.lss (ih (tk S s) (k + 1) false hok (by omega) (by rw [tk_ne (by decide)]; omega) he) (And.intro rfl (And.intro rfl (And.intro rfl (And.intro rfl (And.intro rfl (And.intro rfl trivial)))))))
                    | (exact AW.lss (ih (wt (tk S s) (7 * s + 6)) (k + 1) false hok (by omega) (by rw [wt_ne (by decide), tk_ne (by decide)]; omega) he) (And.intro rfl (And.intro rfl (And.intro rfl (And.intro rfl (And.intro rfl (And.intro rfl trivial)))))))
                    | (exact AW.lss (ih (gos (tk S s) s sec).2 0 false hok (by omega) (by rw [hg33]; omega) he) (And.intro rfl (And.intro rfl (And.intro rfl (And.intro rfl (And.intro rfl (And.intro rfl trivial)))))))
                    | (exact AW.lss (ih (gos (tk S s) s sec).2 1 false hok (by omega) (by rw [hg33]; omega) he) (And.intro rfl (And.intro rfl (And.intro rfl (And.intro rfl (And.intro rfl (And.intro rfl trivial)))))))
                  · refine aw_aload_n dX6_moves_146 rfl rfl ?_
                    refine rr_getA dX6_moves_147 flX6_72 rfl (by decide) ?_
                    refine aw_bipush dX6_moves_150 (by decide) ?_
                    refine aw_iload dX6_moves_152 rfl ?_
                    refine aw_imul dX6_moves_154 ?_
                    refine aw_bipush dX6_moves_155 (by decide) ?_
                    refine aw_iadd dX6_moves_157 ?_
                    refine aw_dup2 dX6_moves_158 ?_
                    refine rr_iald (n := 210) (S0 := tk S s) dX6_moves_159 rfl rfl rfl (by omega) (by omega) (fun _ => by first | rfl | (exfalso; omega)) ?_
                    refine aw_iconst dX6_moves_160 ?_
                    refine aw_iadd dX6_moves_161 ?_
                    refine rr_iast (n := 210) dX6_moves_162 rfl rfl rfl (by omega) (by omega) ?_
                    refine aw_iload dX6_moves_163 rfl ?_
                    refine aw_iload dX6_moves_165 rfl ?_
                    refine aw_if_eq (tgt := 174) dX6_moves_167 (by decide) (by omega) (fun _ => ?_) (fun c_167 => absurd c_167 (by decide))
                    refine aw_iconst dX6_moves_174 ?_
                    refine aw_iadd dX6_moves_175 ?_
                    refine aw_istore dX6_moves_176 (by decide) ?_
                    refine aw_goto (tgt := 12) dX6_moves_178 (by decide) ?_
                    first
                    | (exfalso; omega)
                    | (exact AW.lss (ih (wt S (7 * s)) (k + 1) true hok (by omega) (by rw [wt_ne (by decide)]; omega) he) (And.intro rfl (And.intro rfl (And.intro rfl (And.intro rfl (And.intro rfl (And.intro rfl trivial)))))))
                    | (exact AW.lss (ih (tk S s) (k + 1) false hok (by omega) (by rw [tk_ne (by decide)]; omega) he) (And.intro rfl (And.intro rfl (And.intro rfl (And.intro rfl (And.intro rfl (And.intro rfl trivial)))))))
                    | (exact AW.lss (ih (wt (tk S s) (7 * s + 6)) (k + 1) false hok (by omega) (by rw [wt_ne (by decide), tk_ne (by decide)]; omega) he) (And.intro rfl (And.intro rfl (And.intro rfl (And.intro rfl (And.intro rfl (And.intro rfl trivial)))))))
                    | (exact AW.lss (ih (gos (tk S s) s sec).2 0 false hok (by omega) (by rw [hg33]; omega) he) (And.intro rfl (And.intro rfl (And.intro rfl (And.intro rfl (And.intro rfl (And.intro rfl trivial)))))))
                    | (exact AW.lss (ih (gos (tk S s) s sec).2 1 false hok (by omega) (by rw [hg33]; omega) he) (And.intro rfl (And.intro rfl (And.intro rfl (And.intro rfl (And.intro rfl (And.intro rfl trivial)))))))
                · have hg1 := b2i_pos c_131
                  rw [if_pos hg1] at hok he
                  rw [hg1, b2i_t] at hg33
                  refine aw_iconst dX6_moves_134 ?_
                  refine aw_goto (tgt := 139) dX6_moves_135 (by decide) ?_
                  refine aw_istore dX6_moves_139 (by decide) ?_
                  refine aw_iload dX6_moves_141 rfl ?_
                  refine aw_if_le (tgt := 163) dX6_moves_143 (by decide) (by omega) (fun c_143 => ?_) (fun c_143 => ?_)
                  · refine aw_iload dX6_moves_163 rfl ?_
                    refine aw_iload dX6_moves_165 rfl ?_
                    refine aw_if_eq (tgt := 174) dX6_moves_167 (by decide) (by omega) (fun c_167 => absurd c_167 (by decide)) (fun _ => ?_)
                    refine aw_iconst dX6_moves_170 ?_
                    refine aw_goto (tgt := 175) dX6_moves_171 (by decide) ?_
                    refine aw_iadd dX6_moves_175 ?_
                    refine aw_istore dX6_moves_176 (by decide) ?_
                    refine aw_goto (tgt := 12) dX6_moves_178 (by decide) ?_
                    first
                    | (exfalso; omega)
                    | (exact AW.lss (ih (wt S (7 * s)) (k + 1) true hok (by omega) (by rw [wt_ne (by decide)]; omega) he) (And.intro rfl (And.intro rfl (And.intro rfl (And.intro rfl (And.intro rfl (And.intro rfl trivial)))))))
                    | (exact AW.lss (ih (tk S s) (k + 1) false hok (by omega) (by rw [tk_ne (by decide)]; omega) he) (And.intro rfl (And.intro rfl (And.intro rfl (And.intro rfl (And.intro rfl (And.intro rfl trivial)))))))
                    | (exact AW.lss (ih (wt (tk S s) (7 * s + 6)) (k + 1) false hok (by omega) (by rw [wt_ne (by decide), tk_ne (by decide)]; omega) he) (And.intro rfl (And.intro rfl (And.intro rfl (And.intro rfl (And.intro rfl (And.intro rfl trivial)))))))
                    | (exact AW.lss (ih (gos (tk S s) s sec).2 0 false hok (by omega) (by rw [hg33]; omega) he) (And.intro rfl (And.intro rfl (And.intro rfl (And.intro rfl (And.intro rfl (And.intro rfl trivial)))))))
                    | (exact AW.lss (ih (gos (tk S s) s sec).2 1 false hok (by omega) (by rw [hg33]; omega) he) (And.intro rfl (And.intro rfl (And.intro rfl (And.intro rfl (And.intro rfl (And.intro rfl trivial)))))))
                  · refine aw_aload_n dX6_moves_146 rfl rfl ?_
                    refine rr_getA dX6_moves_147 flX6_72 rfl (by decide) ?_
                    refine aw_bipush dX6_moves_150 (by decide) ?_
                    refine aw_iload dX6_moves_152 rfl ?_
                    refine aw_imul dX6_moves_154 ?_
                    refine aw_bipush dX6_moves_155 (by decide) ?_
                    refine aw_iadd dX6_moves_157 ?_
                    refine aw_dup2 dX6_moves_158 ?_
                    refine rr_iald (n := 210) (S0 := tk S s) dX6_moves_159 rfl rfl rfl (by omega) (by omega) (fun _ => by first | rfl | (exfalso; omega)) ?_
                    refine aw_iconst dX6_moves_160 ?_
                    refine aw_iadd dX6_moves_161 ?_
                    refine rr_iast (n := 210) dX6_moves_162 rfl rfl rfl (by omega) (by omega) ?_
                    refine aw_iload dX6_moves_163 rfl ?_
                    refine aw_iload dX6_moves_165 rfl ?_
                    refine aw_if_eq (tgt := 174) dX6_moves_167 (by decide) (by omega) (fun c_167 => absurd c_167 (by decide)) (fun _ => ?_)
                    refine aw_iconst dX6_moves_170 ?_
                    refine aw_goto (tgt := 175) dX6_moves_171 (by decide) ?_
                    refine aw_iadd dX6_moves_175 ?_
                    refine aw_istore dX6_moves_176 (by decide) ?_
                    refine aw_goto (tgt := 12) dX6_moves_178 (by decide) ?_
                    first
                    | (exfalso; omega)
                    | (exact AW.lss (ih (wt S (7 * s)) (k + 1) true hok (by omega) (by rw [wt_ne (by decide)]; omega) he) (And.intro rfl (And.intro rfl (And.intro rfl (And.intro rfl (And.intro rfl (And.intro rfl trivial)))))))
                    | (exact AW.lss (ih (tk S s) (k + 1) false hok (by omega) (by rw [tk_ne (by decide)]; omega) he) (And.intro rfl (And.intro rfl (And.intro rfl (And.intro rfl (And.intro rfl (And.intro rfl trivial)))))))
                    | (exact AW.lss (ih (wt (tk S s) (7 * s + 6)) (k + 1) false hok (by omega) (by rw [wt_ne (by decide), tk_ne (by decide)]; omega) he) (And.intro rfl (And.intro rfl (And.intro rfl (And.intro rfl (And.intro rfl (And.intro rfl trivial)))))))
                    | (exact AW.lss (ih (gos (tk S s) s sec).2 0 false hok (by omega) (by rw [hg33]; omega) he) (And.intro rfl (And.intro rfl (And.intro rfl (And.intro rfl (And.intro rfl (And.intro rfl trivial)))))))
                    | (exact AW.lss (ih (gos (tk S s) s sec).2 1 false hok (by omega) (by rw [hg33]; omega) he) (And.intro rfl (And.intro rfl (And.intro rfl (And.intro rfl (And.intro rfl (And.intro rfl trivial)))))))
        · have hst : (stuck || decide (0 < S 21 s)) = true := by rw [decide_eq_true (show 0 < S 21 s by omega), Bool.or_true]
          rw [if_pos hst] at hok he
          refine aw_iconst dX6_moves_52 ?_
          refine aw_goto (tgt := 57) dX6_moves_53 (by decide) ?_
          refine aw_istore dX6_moves_57 (by decide) ?_
          refine aw_iconst dX6_moves_59 ?_
          refine aw_istore dX6_moves_60 (by decide) ?_
          refine aw_iload dX6_moves_62 rfl ?_
          refine aw_if_eq (tgt := 84) dX6_moves_64 (by decide) (by omega) (fun c_64 => absurd c_64 (by decide)) (fun _ => ?_)
          refine aw_aload_n dX6_moves_67 rfl rfl ?_
          refine rr_getA dX6_moves_68 flX6_72 rfl (by decide) ?_
          refine aw_bipush dX6_moves_71 (by decide) ?_
          refine aw_iload dX6_moves_73 rfl ?_
          refine aw_imul dX6_moves_75 ?_
          refine aw_dup2 dX6_moves_76 ?_
          refine rr_iald (n := 210) dX6_moves_77 rfl rfl rfl (by omega) (by omega) (fun _ => rfl) ?_
          refine aw_iconst dX6_moves_78 ?_
          refine aw_iadd dX6_moves_79 ?_
          refine rr_iast (n := 210) dX6_moves_80 rfl rfl rfl (by omega) (by omega) ?_
          refine aw_goto (tgt := 163) dX6_moves_81 (by decide) ?_
          refine aw_iload dX6_moves_163 rfl ?_
          refine aw_iload dX6_moves_165 rfl ?_
          refine aw_if_eq (tgt := 174) dX6_moves_167 (by decide) (by omega) (fun _ => ?_) (fun c_167 => absurd c_167 (by decide))
          refine aw_iconst dX6_moves_174 ?_
          refine aw_iadd dX6_moves_175 ?_
          refine aw_istore dX6_moves_176 (by decide) ?_
          refine aw_goto (tgt := 12) dX6_moves_178 (by decide) ?_
          first
          | (exfalso; omega)
          | (exact AW.lss (ih (wt S (7 * s)) (k + 1) true hok (by omega) (by rw [wt_ne (by decide)]; omega) he) (And.intro rfl (And.intro rfl (And.intro rfl (And.intro rfl (And.intro rfl (And.intro rfl trivial)))))))
          | (exact AW.lss (ih (tk S s) (k + 1) false hok (by omega) (by rw [tk_ne (by decide)]; omega) he) (And.intro rfl (And.intro rfl (And.intro rfl (And.intro rfl (And.intro rfl (And.intro rfl trivial)))))))
          | (exact AW.lss (ih (wt (tk S s) (7 * s + 6)) (k + 1) false hok (by omega) (by rw [wt_ne (by decide), tk_ne (by decide)]; omega) he) (And.intro rfl (And.intro rfl (And.intro rfl (And.intro rfl (And.intro rfl (And.intro rfl trivial)))))))
          | (exact AW.lss (ih (gos (tk S s) s sec).2 0 false hok (by omega) (by rw [hg33]; omega) he) (And.intro rfl (And.intro rfl (And.intro rfl (And.intro rfl (And.intro rfl (And.intro rfl trivial)))))))
          | (exact AW.lss (ih (gos (tk S s) s sec).2 1 false hok (by omega) (by rw [hg33]; omega) he) (And.intro rfl (And.intro rfl (And.intro rfl (And.intro rfl (And.intro rfl (And.intro rfl trivial)))))))
set_option maxRecDepth 100000 in
set_option maxHeartbeats 4000000 in
theorem c_X6_moves {sec : Nat} {w : Int} (hs2 : sec < 8) (hw : w = 0 ∨ w = 1) (hok : okM sec w (S 33 (2 * (sec : Int) + w)).toNat S 0 false) : CT l D cA A ad yX6_moves cX6_moves 8 none rm_X6_moves [.inr (some (50, 0)), .inl ((sec : Int)), .inl w] lvR (VR S) sz (PR none (mvs S sec w) sz) := by
  refine CT.of2 [some (.inr (some (50, 0))), some (.inl ((sec : Int))), some (.inl w), none, none, none, none, none] (by decide) (Nat.le_of_ble_eq_true rfl) rfl ?_
  refine aw_iconst dX6_moves_0 ?_
  refine aw_iload_n dX6_moves_1 rfl rfl ?_
  refine aw_imul dX6_moves_2 ?_
  refine aw_iload_n dX6_moves_3 rfl rfl ?_
  refine aw_iadd dX6_moves_4 ?_
  refine aw_istore_n dX6_moves_5 rfl (by decide) ?_
  refine aw_iconst dX6_moves_6 ?_
  refine aw_istore dX6_moves_7 (by decide) ?_
  refine aw_iconst dX6_moves_9 ?_
  refine aw_istore dX6_moves_10 (by decide) ?_
  exact lp_X6_moves hs2 hw (S 33 (2 * (sec : Int) + w)).toNat S 0 false hok (by omega) (by have := hok.bb.iM (a := 2 * (sec : Int) + w) (by omega) (by omega); omega) rfl
set_option maxRecDepth 100000 in
set_option maxHeartbeats 4000000 in
theorem lp1_X6_comesIn {S9 : SS} {w s sec why : Int} (hB : BB S) (hw : w = 0 ∨ w = 1) (h1 : 1 ≤ S 31 w) (hk : AW l D cA A ad yX6_comesIn cX6_comesIn 6 none rm_X6_comesIn (PR none (S9) sz) 0 0 lvR (VR (qw S w ((S 31 w).toNat - 1))) sz 86 [some (.inr (some (50, 0))), some (.inl w), some (.inl s), some (.inl sec), some (.inl why), none] []) : ∀ (f n : Nat), n + f = (S 31 w).toNat - 1 → AW l D cA A ad yX6_comesIn cX6_comesIn 6 none rm_X6_comesIn (PR none (S9) sz) 0 0 lvR (VR (qw S w n)) sz 42 [some (.inr (some (50, 0))), some (.inl w), some (.inl s), some (.inl sec), some (.inl why), some (.inl ((n : Int) + 1))] [] := by
  have hln := hB.ln (w := w) (by omega) (by omega)
  intro f
  induction f with
  | zero =>
    intro n hn
    refine aw_iload dX6_comesIn_42 rfl ?_
    refine aw_aload_n dX6_comesIn_44 rfl rfl ?_
    refine rr_getA dX6_comesIn_45 flX6_93 rfl (by decide) ?_
    refine aw_iload_n dX6_comesIn_48 rfl rfl ?_
    refine rr_iald (n := 2) (S0 := S) dX6_comesIn_49 rfl rfl rfl (by omega) (by omega) (fun _ => qw_ne (by decide) _ _) ?_
    refine aw_icmp_ge (tgt := 86) dX6_comesIn_50 (by decide) (by omega) (by omega) (fun c_50 => ?_) (fun c_50 => absurd c_50 (by omega))
    rw [show n = (S 31 w).toNat - 1 by omega]
    exact AW.lss hk (And.intro rfl (And.intro rfl (And.intro rfl (And.intro rfl (And.intro rfl trivial)))))
  | succ f ih =>
    intro n hn
    have hli := hB.li (x := 30 * w + ((n : Int) + 1)) (by omega) (by omega)
    refine aw_iload dX6_comesIn_42 rfl ?_
    refine aw_aload_n dX6_comesIn_44 rfl rfl ?_
    refine rr_getA dX6_comesIn_45 flX6_93 rfl (by decide) ?_
    refine aw_iload_n dX6_comesIn_48 rfl rfl ?_
    refine rr_iald (n := 2) (S0 := S) dX6_comesIn_49 rfl rfl rfl (by omega) (by omega) (fun _ => qw_ne (by decide) _ _) ?_
    refine aw_icmp_ge (tgt := 86) dX6_comesIn_50 (by decide) (by omega) (by omega) (fun c_50 => absurd c_50 (by omega)) (fun c_50 => ?_)
    refine aw_aload_n dX6_comesIn_53 rfl rfl ?_
    refine rr_getA dX6_comesIn_54 flX6_72 rfl (by decide) ?_
    refine aw_bipush dX6_comesIn_57 (by decide) ?_
    refine aw_aload_n dX6_comesIn_59 rfl rfl ?_
    refine rr_getA dX6_comesIn_60 flX6_96 rfl (by decide) ?_
    refine aw_bipush dX6_comesIn_63 (by decide) ?_
    refine aw_iload_n dX6_comesIn_65 rfl rfl ?_
    refine aw_imul dX6_comesIn_66 ?_
    refine aw_iload dX6_comesIn_67 rfl ?_
    refine aw_iadd dX6_comesIn_69 ?_
    refine rr_iald (n := 60) (S0 := S) dX6_comesIn_70 rfl rfl rfl (by omega) (by omega) (fun _ => qw_ne (by decide) _ _) ?_
    refine aw_imul dX6_comesIn_71 ?_
    refine aw_bipush dX6_comesIn_72 (by decide) ?_
    refine aw_iadd dX6_comesIn_74 ?_
    refine aw_dup2 dX6_comesIn_75 ?_
    refine rr_iald (n := 210) (S0 := qw S w n) dX6_comesIn_76 rfl rfl rfl (by omega) (by omega) (fun _ => rfl) ?_
    refine aw_iconst dX6_comesIn_77 ?_
    refine aw_iadd dX6_comesIn_78 ?_
    refine rr_iast (n := 210) dX6_comesIn_79 rfl rfl rfl (by omega) (by omega) ?_
    refine aw_iinc dX6_comesIn_80 rfl (by decide) ?_
    refine aw_goto (tgt := 42) dX6_comesIn_83 (by decide) ?_
    exact AW.lss (ih (n + 1) (by omega)) (And.intro rfl (And.intro rfl (And.intro rfl (And.intro rfl (And.intro rfl (And.intro rfl trivial))))))
set_option maxRecDepth 100000 in
set_option maxHeartbeats 4000000 in
theorem lp2_X6_comesIn {T S9 : SS} {w s sec why : Int} (hw : w = 0 ∨ w = 1) (h1 : 1 ≤ T 31 w ∧ T 31 w ≤ 30) (hk : AW l D cA A ad yX6_comesIn cX6_comesIn 6 none rm_X6_comesIn (PR none (S9) sz) 0 0 lvR (VR (shf (u2 T 31 w (T 31 w - 1)) 32 (30 * w) (T 31 w - 1).toNat)) sz 164 [some (.inr (some (50, 0))), some (.inl w), some (.inl s), some (.inl sec), some (.inl why), none] []) : ∀ (f n : Nat), n + f = (T 31 w - 1).toNat → AW l D cA A ad yX6_comesIn cX6_comesIn 6 none rm_X6_comesIn (PR none (S9) sz) 0 0 lvR (VR (shf (u2 T 31 w (T 31 w - 1)) 32 (30 * w) n)) sz 121 [some (.inr (some (50, 0))), some (.inl w), some (.inl s), some (.inl sec), some (.inl why), some (.inl (n : Int))] [] := by
  have e31 : ∀ (n : Nat), shf (u2 T 31 w (T 31 w - 1)) 32 (30 * w) n 31 w = T 31 w - 1 := fun n => by rw [shf_ne (by decide), u2_self]
  intro f
  induction f with
  | zero =>
    intro n hn
    have e := e31 n
    refine aw_iload dX6_comesIn_121 rfl ?_
    refine aw_aload_n dX6_comesIn_123 rfl rfl ?_
    refine rr_getA dX6_comesIn_124 flX6_93 rfl (by decide) ?_
    refine aw_iload_n dX6_comesIn_127 rfl rfl ?_
    refine rr_iald (n := 2) (S0 := shf (u2 T 31 w (T 31 w - 1)) 32 (30 * w) n) dX6_comesIn_128 rfl rfl rfl (by omega) (by omega) (fun _ => rfl) ?_
    refine aw_icmp_ge (tgt := 164) dX6_comesIn_129 (by decide) (by omega) (by omega) (fun c_129 => ?_) (fun c_129 => absurd c_129 (by omega))
    rw [show n = (T 31 w - 1).toNat by omega]
    exact AW.lss hk (And.intro rfl (And.intro rfl (And.intro rfl (And.intro rfl (And.intro rfl trivial)))))
  | succ f ih =>
    intro n hn
    have e := e31 n
    refine aw_iload dX6_comesIn_121 rfl ?_
    refine aw_aload_n dX6_comesIn_123 rfl rfl ?_
    refine rr_getA dX6_comesIn_124 flX6_93 rfl (by decide) ?_
    refine aw_iload_n dX6_comesIn_127 rfl rfl ?_
    refine rr_iald (n := 2) (S0 := shf (u2 T 31 w (T 31 w - 1)) 32 (30 * w) n) dX6_comesIn_128 rfl rfl rfl (by omega) (by omega) (fun _ => rfl) ?_
    refine aw_icmp_ge (tgt := 164) dX6_comesIn_129 (by decide) (by omega) (by omega) (fun c_129 => absurd c_129 (by omega)) (fun c_129 => ?_)
    refine aw_aload_n dX6_comesIn_132 rfl rfl ?_
    refine rr_getA dX6_comesIn_133 flX6_96 rfl (by decide) ?_
    refine aw_bipush dX6_comesIn_136 (by decide) ?_
    refine aw_iload_n dX6_comesIn_138 rfl rfl ?_
    refine aw_imul dX6_comesIn_139 ?_
    refine aw_iload dX6_comesIn_140 rfl ?_
    refine aw_iadd dX6_comesIn_142 ?_
    refine aw_aload_n dX6_comesIn_143 rfl rfl ?_
    refine rr_getA dX6_comesIn_144 flX6_96 rfl (by decide) ?_
    refine aw_bipush dX6_comesIn_147 (by decide) ?_
    refine aw_iload_n dX6_comesIn_149 rfl rfl ?_
    refine aw_imul dX6_comesIn_150 ?_
    refine aw_iload dX6_comesIn_151 rfl ?_
    refine aw_iadd dX6_comesIn_153 ?_
    refine aw_iconst dX6_comesIn_154 ?_
    refine aw_iadd dX6_comesIn_155 ?_
    refine rr_iald (n := 60) dX6_comesIn_156 rfl rfl rfl (by omega) (by omega) (fun _ => rfl) ?_
    refine rr_iast (n := 60) dX6_comesIn_157 rfl rfl rfl (by omega) (by omega) ?_
    refine aw_iinc dX6_comesIn_158 rfl (by decide) ?_
    refine aw_goto (tgt := 121) dX6_comesIn_161 (by decide) ?_
    exact AW.lss (ih (n + 1) (by omega)) (And.intro rfl (And.intro rfl (And.intro rfl (And.intro rfl (And.intro rfl (And.intro rfl trivial))))))
set_option maxRecDepth 100000 in
set_option maxHeartbeats 4000000 in
theorem tl0_X6_comesIn {S9 : SS} (hB : BB S) (h1 : 1 ≤ S 31 0) (h9 : S9 = cm S 0) : AW l D cA A ad yX6_comesIn cX6_comesIn 6 none rm_X6_comesIn (PR none (S9) sz) 0 0 lvR (VR (qw S 0 ((S 31 0).toNat - 1))) sz 86 [some (.inr (some (50, 0))), some (.inl 0), some (.inl (S 32 0)), some (.inl 0), some (.inl (cause S (S 32 0) 0)), none] [] := by
  have hm := hB.m
  simp only [bsm] at hm
  have hln := hB.ln (w := 0) (by decide) (by decide)
  have hli := hB.li (x := 0) (by decide) (by decide)
  have hsh := hB.sh hli.1 hli.2
  simp only [bsh] at hsh
  have hcb := cause_bd S (S 32 0) 0
  have hbq := BB_qw (w := 0) hB ((S 31 0).toNat - 1)
  have e31 : qw S 0 ((S 31 0).toNat - 1) 31 0 = S 31 0 := qw_ne (by decide) _ _
  have ecm : cm S 0 = if 0 ≤ cause S (S 32 0) 0 then wt (qw S 0 ((S 31 0).toNat - 1)) (7 * S 32 0 + cause S (S 32 0) 0) else ent (u2 (shf (u2 (qw S 0 ((S 31 0).toNat - 1)) 31 0 (S 31 0 - 1)) 32 0 (S 31 0 - 1).toNat) 19 (S 32 0) (S 0 0)) (S 32 0) 0 := by
    rw [cm, if_neg (by omega)]
    rfl
  refine aw_iload dX6_comesIn_86 rfl ?_
  refine aw_if_lt (tgt := 108) dX6_comesIn_88 (by decide) (by omega) (fun c_88 => ?_) (fun c_88 => ?_)
  · refine aw_aload_n dX6_comesIn_108 rfl rfl ?_
    refine rr_getA dX6_comesIn_109 flX6_93 rfl (by decide) ?_
    refine aw_iload_n dX6_comesIn_112 rfl rfl ?_
    refine aw_dup2 dX6_comesIn_113 ?_
    refine rr_iald (n := 2) (S0 := qw S 0 ((S 31 0).toNat - 1)) dX6_comesIn_114 rfl rfl rfl (by omega) (by omega) (fun _ => rfl) ?_
    refine aw_iconst dX6_comesIn_115 ?_
    refine aw_isub dX6_comesIn_116 ?_
    refine rr_iast (n := 2) dX6_comesIn_117 rfl rfl rfl (by omega) (by omega) ?_
    refine aw_iconst dX6_comesIn_118 ?_
    refine aw_istore dX6_comesIn_119 (by decide) ?_
    refine AW.lss (lp2_X6_comesIn (T := qw S 0 ((S 31 0).toNat - 1)) (w := 0) (by decide) (by omega) ?_ (qw S 0 ((S 31 0).toNat - 1) 31 0 - 1).toNat 0 (by omega)) (And.intro rfl (And.intro rfl (And.intro rfl (And.intro rfl (And.intro rfl (And.intro rfl trivial))))))
    rw [e31]
    refine aw_aload_n dX6_comesIn_164 rfl rfl ?_
    refine rr_getA dX6_comesIn_165 flX6_60 rfl (by decide) ?_
    refine aw_iload_n dX6_comesIn_168 rfl rfl ?_
    refine aw_aload_n dX6_comesIn_169 rfl rfl ?_
    refine rr_getS (S0 := S) dX6_comesIn_170 flX6_112 rfl (by decide) (fun _ => by rw [shf_ne (by decide), u2_ne (by decide), qw_ne (by decide)]) ?_
    refine rr_iast (n := 30) dX6_comesIn_173 rfl rfl rfl (by omega) (by omega) ?_
    refine aw_aload_n dX6_comesIn_174 rfl rfl ?_
    refine aw_iload_n dX6_comesIn_175 rfl rfl ?_
    refine aw_iload_n dX6_comesIn_176 rfl rfl ?_
    refine aw_callV (c_X6_enters (sec := 0) (by omega) (by rw [u2_ne (by decide), shf_ne (by decide), u2_ne (by decide), qw_ne (by decide)]; omega) (by rw [u2_ne (by decide), shf_ne (by decide), u2_ne (by decide), qw_ne (by decide)]; omega) (by decide) (by rw [u2_ne (k := 19) (k' := 9) (by decide), shf_ne (k := 9) (by decide), u2_ne (k' := 9) (by decide), qw_ne (k := 9) (by decide)]; have := hB.iM (a := 2 * 0 + S 9 (S 32 0)) (by omega) (by omega); rw [u2_ne (by decide), shf_ne (by decide), u2_ne (by decide), qw_ne (by decide)]; omega)) mv_X6_enters mlX6_152 dX6_comesIn_177 rfl rfl (by decide) rfl (Nat.le_of_ble_eq_true rfl) rfl ?_
    rintro _ _ _ _ ⟨rfl, rfl, rfl, rfl⟩
    refine aw_vret dX6_comesIn_180 rfl (Nat.zero_le _) (Nat.zero_le _) ?_
    rw [h9, ecm, if_neg (by omega)]
    exact ⟨rfl, rfl, rfl, rfl⟩
  · refine aw_aload_n dX6_comesIn_91 rfl rfl ?_
    refine rr_getA dX6_comesIn_92 flX6_72 rfl (by decide) ?_
    refine aw_bipush dX6_comesIn_95 (by decide) ?_
    refine aw_iload_n dX6_comesIn_97 rfl rfl ?_
    refine aw_imul dX6_comesIn_98 ?_
    refine aw_iload dX6_comesIn_99 rfl ?_
    refine aw_iadd dX6_comesIn_101 ?_
    refine aw_dup2 dX6_comesIn_102 ?_
    refine rr_iald (n := 210) (S0 := qw S 0 ((S 31 0).toNat - 1)) dX6_comesIn_103 rfl rfl rfl (by omega) (by omega) (fun _ => rfl) ?_
    refine aw_iconst dX6_comesIn_104 ?_
    refine aw_iadd dX6_comesIn_105 ?_
    refine rr_iast (n := 210) dX6_comesIn_106 rfl rfl rfl (by omega) (by omega) ?_
    refine aw_vret dX6_comesIn_107 rfl (Nat.zero_le _) (Nat.zero_le _) ?_
    rw [h9, ecm, if_pos (by omega)]
    exact ⟨rfl, rfl, rfl, rfl⟩
set_option maxRecDepth 100000 in
set_option maxHeartbeats 4000000 in
theorem c0_X6_comesIn (hB : BB S) : CT l D cA A ad yX6_comesIn cX6_comesIn 6 none rm_X6_comesIn [.inr (some (50, 0)), .inl 0] lvR (VR S) sz (PR none (cm S 0) sz) := by
  refine CT.of2 [some (.inr (some (50, 0))), some (.inl 0), none, none, none, none] (by decide) (Nat.le_of_ble_eq_true rfl) rfl ?_
  have hm := hB.m
  simp only [bsm] at hm
  have hln := hB.ln (w := 0) (by decide) (by decide)
  have hli := hB.li (x := 0) (by decide) (by decide)
  have hli2 := hB.li (x := 30 * 0) (by decide) (by decide)
  refine aw_aload_n dX6_comesIn_0 rfl rfl ?_
  refine rr_getA dX6_comesIn_1 flX6_93 rfl (by decide) ?_
  refine aw_iload_n dX6_comesIn_4 rfl rfl ?_
  refine rr_iald (n := 2) dX6_comesIn_5 rfl rfl rfl (by omega) (by omega) (fun _ => rfl) ?_
  refine aw_if_ne (tgt := 10) dX6_comesIn_6 (by decide) (by omega) (fun c_6 => ?_) (fun c_6 => ?_)
  · refine aw_aload_n dX6_comesIn_10 rfl rfl ?_
    refine rr_getA dX6_comesIn_11 flX6_96 rfl (by decide) ?_
    refine aw_bipush dX6_comesIn_14 (by decide) ?_
    refine aw_iload_n dX6_comesIn_16 rfl rfl ?_
    refine aw_imul dX6_comesIn_17 ?_
    refine rr_iald (n := 60) dX6_comesIn_18 rfl rfl rfl (by omega) (by omega) (fun _ => rfl) ?_
    refine aw_istore_n dX6_comesIn_19 rfl (by decide) ?_
    refine aw_iload_n dX6_comesIn_20 rfl rfl ?_
    refine aw_if_ne (tgt := 28) dX6_comesIn_21 (by decide) (by omega) (fun c_21 => absurd c_21 (by decide)) (fun c_21 => ?_)
    refine aw_iconst dX6_comesIn_24 ?_
    refine aw_goto (tgt := 30) dX6_comesIn_25 (by decide) ?_
    refine aw_istore_n dX6_comesIn_30 rfl (by decide) ?_
    refine aw_aload_n dX6_comesIn_31 rfl rfl ?_
    refine aw_iload_n dX6_comesIn_32 rfl rfl ?_
    refine aw_iload_n dX6_comesIn_33 rfl rfl ?_
    refine aw_callV (c_X6_cause (sec := 0) hB (by omega) (by decide)) mv_X6_cause mlX6_148 dX6_comesIn_34 rfl rfl (by decide) rfl (Nat.le_of_ble_eq_true rfl) rfl ?_
    rintro _ _ _ _ ⟨rfl, rfl, rfl, rfl⟩
    refine aw_istore dX6_comesIn_37 (by decide) ?_
    refine aw_iconst dX6_comesIn_39 ?_
    refine aw_istore dX6_comesIn_40 (by decide) ?_
    exact AW.lss (lp1_X6_comesIn hB (w := 0) (by decide) (by omega) (tl0_X6_comesIn hB (by omega) rfl) ((S 31 0).toNat - 1) 0 (by omega)) (And.intro rfl (And.intro rfl (And.intro rfl (And.intro rfl (And.intro rfl (And.intro rfl trivial))))))
  · refine aw_vret dX6_comesIn_9 rfl (Nat.zero_le _) (Nat.zero_le _) ?_
    rw [cm, if_pos c_6]
    exact ⟨rfl, rfl, rfl, rfl⟩
set_option maxRecDepth 100000 in
set_option maxHeartbeats 4000000 in
theorem tl1_X6_comesIn {S9 : SS} (hB : BB S) (h1 : 1 ≤ S 31 1) (h9 : S9 = cm S 1) : AW l D cA A ad yX6_comesIn cX6_comesIn 6 none rm_X6_comesIn (PR none (S9) sz) 0 0 lvR (VR (qw S 1 ((S 31 1).toNat - 1))) sz 86 [some (.inr (some (50, 0))), some (.inl 1), some (.inl (S 32 30)), some (.inl 7), some (.inl (cause S (S 32 30) 7)), none] [] := by
  have hm := hB.m
  simp only [bsm] at hm
  have hln := hB.ln (w := 1) (by decide) (by decide)
  have hli := hB.li (x := 30) (by decide) (by decide)
  have hsh := hB.sh hli.1 hli.2
  simp only [bsh] at hsh
  have hcb := cause_bd S (S 32 30) 7
  have hbq := BB_qw (w := 1) hB ((S 31 1).toNat - 1)
  have e31 : qw S 1 ((S 31 1).toNat - 1) 31 1 = S 31 1 := qw_ne (by decide) _ _
  have ecm : cm S 1 = if 0 ≤ cause S (S 32 30) 7 then wt (qw S 1 ((S 31 1).toNat - 1)) (7 * S 32 30 + cause S (S 32 30) 7) else ent (u2 (shf (u2 (qw S 1 ((S 31 1).toNat - 1)) 31 1 (S 31 1 - 1)) 32 30 (S 31 1 - 1).toNat) 19 (S 32 30) (S 0 0)) (S 32 30) 7 := by
    rw [cm, if_neg (by omega)]
    rfl
  refine aw_iload dX6_comesIn_86 rfl ?_
  refine aw_if_lt (tgt := 108) dX6_comesIn_88 (by decide) (by omega) (fun c_88 => ?_) (fun c_88 => ?_)
  · refine aw_aload_n dX6_comesIn_108 rfl rfl ?_
    refine rr_getA dX6_comesIn_109 flX6_93 rfl (by decide) ?_
    refine aw_iload_n dX6_comesIn_112 rfl rfl ?_
    refine aw_dup2 dX6_comesIn_113 ?_
    refine rr_iald (n := 2) (S0 := qw S 1 ((S 31 1).toNat - 1)) dX6_comesIn_114 rfl rfl rfl (by omega) (by omega) (fun _ => rfl) ?_
    refine aw_iconst dX6_comesIn_115 ?_
    refine aw_isub dX6_comesIn_116 ?_
    refine rr_iast (n := 2) dX6_comesIn_117 rfl rfl rfl (by omega) (by omega) ?_
    refine aw_iconst dX6_comesIn_118 ?_
    refine aw_istore dX6_comesIn_119 (by decide) ?_
    refine AW.lss (lp2_X6_comesIn (T := qw S 1 ((S 31 1).toNat - 1)) (w := 1) (by decide) (by omega) ?_ (qw S 1 ((S 31 1).toNat - 1) 31 1 - 1).toNat 0 (by omega)) (And.intro rfl (And.intro rfl (And.intro rfl (And.intro rfl (And.intro rfl (And.intro rfl trivial))))))
    rw [e31]
    refine aw_aload_n dX6_comesIn_164 rfl rfl ?_
    refine rr_getA dX6_comesIn_165 flX6_60 rfl (by decide) ?_
    refine aw_iload_n dX6_comesIn_168 rfl rfl ?_
    refine aw_aload_n dX6_comesIn_169 rfl rfl ?_
    refine rr_getS (S0 := S) dX6_comesIn_170 flX6_112 rfl (by decide) (fun _ => by rw [shf_ne (by decide), u2_ne (by decide), qw_ne (by decide)]) ?_
    refine rr_iast (n := 30) dX6_comesIn_173 rfl rfl rfl (by omega) (by omega) ?_
    refine aw_aload_n dX6_comesIn_174 rfl rfl ?_
    refine aw_iload_n dX6_comesIn_175 rfl rfl ?_
    refine aw_iload_n dX6_comesIn_176 rfl rfl ?_
    refine aw_callV (c_X6_enters (sec := 7) (by omega) (by rw [u2_ne (by decide), shf_ne (by decide), u2_ne (by decide), qw_ne (by decide)]; omega) (by rw [u2_ne (by decide), shf_ne (by decide), u2_ne (by decide), qw_ne (by decide)]; omega) (by decide) (by rw [u2_ne (k := 19) (k' := 9) (by decide), shf_ne (k := 9) (by decide), u2_ne (k' := 9) (by decide), qw_ne (k := 9) (by decide)]; have := hB.iM (a := 2 * 7 + S 9 (S 32 30)) (by omega) (by omega); rw [u2_ne (by decide), shf_ne (by decide), u2_ne (by decide), qw_ne (by decide)]; omega)) mv_X6_enters mlX6_152 dX6_comesIn_177 rfl rfl (by decide) rfl (Nat.le_of_ble_eq_true rfl) rfl ?_
    rintro _ _ _ _ ⟨rfl, rfl, rfl, rfl⟩
    refine aw_vret dX6_comesIn_180 rfl (Nat.zero_le _) (Nat.zero_le _) ?_
    rw [h9, ecm, if_neg (by omega)]
    exact ⟨rfl, rfl, rfl, rfl⟩
  · refine aw_aload_n dX6_comesIn_91 rfl rfl ?_
    refine rr_getA dX6_comesIn_92 flX6_72 rfl (by decide) ?_
    refine aw_bipush dX6_comesIn_95 (by decide) ?_
    refine aw_iload_n dX6_comesIn_97 rfl rfl ?_
    refine aw_imul dX6_comesIn_98 ?_
    refine aw_iload dX6_comesIn_99 rfl ?_
    refine aw_iadd dX6_comesIn_101 ?_
    refine aw_dup2 dX6_comesIn_102 ?_
    refine rr_iald (n := 210) (S0 := qw S 1 ((S 31 1).toNat - 1)) dX6_comesIn_103 rfl rfl rfl (by omega) (by omega) (fun _ => rfl) ?_
    refine aw_iconst dX6_comesIn_104 ?_
    refine aw_iadd dX6_comesIn_105 ?_
    refine rr_iast (n := 210) dX6_comesIn_106 rfl rfl rfl (by omega) (by omega) ?_
    refine aw_vret dX6_comesIn_107 rfl (Nat.zero_le _) (Nat.zero_le _) ?_
    rw [h9, ecm, if_pos (by omega)]
    exact ⟨rfl, rfl, rfl, rfl⟩
set_option maxRecDepth 100000 in
set_option maxHeartbeats 4000000 in
theorem c1_X6_comesIn (hB : BB S) : CT l D cA A ad yX6_comesIn cX6_comesIn 6 none rm_X6_comesIn [.inr (some (50, 0)), .inl 1] lvR (VR S) sz (PR none (cm S 1) sz) := by
  refine CT.of2 [some (.inr (some (50, 0))), some (.inl 1), none, none, none, none] (by decide) (Nat.le_of_ble_eq_true rfl) rfl ?_
  have hm := hB.m
  simp only [bsm] at hm
  have hln := hB.ln (w := 1) (by decide) (by decide)
  have hli := hB.li (x := 30) (by decide) (by decide)
  have hli2 := hB.li (x := 30 * 1) (by decide) (by decide)
  refine aw_aload_n dX6_comesIn_0 rfl rfl ?_
  refine rr_getA dX6_comesIn_1 flX6_93 rfl (by decide) ?_
  refine aw_iload_n dX6_comesIn_4 rfl rfl ?_
  refine rr_iald (n := 2) dX6_comesIn_5 rfl rfl rfl (by omega) (by omega) (fun _ => rfl) ?_
  refine aw_if_ne (tgt := 10) dX6_comesIn_6 (by decide) (by omega) (fun c_6 => ?_) (fun c_6 => ?_)
  · refine aw_aload_n dX6_comesIn_10 rfl rfl ?_
    refine rr_getA dX6_comesIn_11 flX6_96 rfl (by decide) ?_
    refine aw_bipush dX6_comesIn_14 (by decide) ?_
    refine aw_iload_n dX6_comesIn_16 rfl rfl ?_
    refine aw_imul dX6_comesIn_17 ?_
    refine rr_iald (n := 60) dX6_comesIn_18 rfl rfl rfl (by omega) (by omega) (fun _ => rfl) ?_
    refine aw_istore_n dX6_comesIn_19 rfl (by decide) ?_
    refine aw_iload_n dX6_comesIn_20 rfl rfl ?_
    refine aw_if_ne (tgt := 28) dX6_comesIn_21 (by decide) (by omega) (fun c_21 => ?_) (fun c_21 => absurd c_21 (by decide))
    refine aw_bipush dX6_comesIn_28 (by decide) ?_
    refine aw_istore_n dX6_comesIn_30 rfl (by decide) ?_
    refine aw_aload_n dX6_comesIn_31 rfl rfl ?_
    refine aw_iload_n dX6_comesIn_32 rfl rfl ?_
    refine aw_iload_n dX6_comesIn_33 rfl rfl ?_
    refine aw_callV (c_X6_cause (sec := 7) hB (by omega) (by decide)) mv_X6_cause mlX6_148 dX6_comesIn_34 rfl rfl (by decide) rfl (Nat.le_of_ble_eq_true rfl) rfl ?_
    rintro _ _ _ _ ⟨rfl, rfl, rfl, rfl⟩
    refine aw_istore dX6_comesIn_37 (by decide) ?_
    refine aw_iconst dX6_comesIn_39 ?_
    refine aw_istore dX6_comesIn_40 (by decide) ?_
    exact AW.lss (lp1_X6_comesIn hB (w := 1) (by decide) (by omega) (tl1_X6_comesIn hB (by omega) rfl) ((S 31 1).toNat - 1) 0 (by omega)) (And.intro rfl (And.intro rfl (And.intro rfl (And.intro rfl (And.intro rfl (And.intro rfl trivial))))))
  · refine aw_vret dX6_comesIn_9 rfl (Nat.zero_le _) (Nat.zero_le _) ?_
    rw [cm, if_pos c_6]
    exact ⟨rfl, rfl, rfl, rfl⟩
end REF5
