/-! ===== what moves keep ===== -/
theorem exB_iff (p : Nat → Bool) (n : Nat) : exB p n = true ↔ ∃ k, k < n ∧ p k = true := by
  induction n with
  | zero => simp [exB]
  | succ n ih =>
    constructor
    · intro h
      simp only [exB, Bool.or_eq_true] at h
      rcases h with h | h
      · obtain ⟨k, h1, h2⟩ := ih.mp h
        exact ⟨k, by omega, h2⟩
      · exact ⟨n, by omega, h⟩
    · rintro ⟨k, h1, h2⟩
      simp only [exB, Bool.or_eq_true]
      by_cases c : k = n
      · subst c; exact Or.inr h2
      · exact Or.inl (ih.mpr ⟨k, by omega, h2⟩)
def mvK (k : Nat) : Bool := k == 15 || k == 16 || k == 19 || k == 20 || k == 23 || k == 31 || k == 32 || k == 33 || k == 34 || k == 35
theorem mvK_ne {k : Nat} (h : mvK k = false) : k ≠ 15 ∧ k ≠ 16 ∧ k ≠ 19 ∧ k ≠ 20 ∧ k ≠ 23 ∧ k ≠ 31 ∧ k ≠ 32 ∧ k ≠ 33 ∧ k ≠ 34 ∧ k ≠ 35 := by
  simp only [mvK, Bool.or_eq_false_iff, beq_eq_false_iff_ne] at h
  obtain ⟨⟨⟨⟨⟨⟨⟨⟨⟨a, b⟩, c⟩, d⟩, e⟩, f⟩, g⟩, i⟩, j⟩, k⟩ := h
  exact ⟨a, b, c, d, e, f, g, i, j, k⟩
def Fx (R S : SS) : Prop := ∀ k, mvK k = false → ∀ x, S k x = R k x
def VEb (R : SS) : Prop := (∀ (j k : Nat), (j : Int) < R 24 0 → R 0 0 ≤ R 26 j → (k : Int) < R 27 j → R 28 (8 * (j : Int) + k) < R 8 0) ∧ ∀ (j k : Nat), (j : Int) < R 24 0 → R 0 0 ≤ R 26 j → (k : Int) < R 29 j → R 30 (30 * (j : Int) + k) < R 8 0
/-- nothing of ships that are not there yet -/
def Zw (S : SS) : Prop := ∀ s : Int, S 8 0 ≤ s → s < 30 → S 16 s = 0 ∧ ∀ k : Int, 0 ≤ k → k < 7 → S 23 (7 * s + k) = 0
theorem Zw.congr {S T : SS} (h : Zw S) (e8 : T 8 0 = S 8 0) (e16 : ∀ x, S 8 0 ≤ x → T 16 x = S 16 x) (e23 : ∀ x, T 23 x = S 23 x) : Zw T := fun s h0 h1 => by
  rw [e8] at h0
  have := h s h0 h1
  exact ⟨by rw [e16 s h0]; exact this.1, fun k k0 k1 => by rw [e23]; exact this.2 k k0 k1⟩
theorem Zw.wtd {S : SS} (h : Zw S) {x s c : Int} (hx : x = 7 * s + c) (hs : s < S 8 0) (hc : 0 ≤ c ∧ c < 7) : Zw (wt S x) := fun z h0 h1 => by
  rw [wt_ne (by decide)] at h0
  have := h z h0 h1
  refine ⟨by rw [wt_ne (by decide)]; exact this.1, fun k k0 k1 => ?_⟩
  simp only [wt]
  rw [u2_at, if_neg (by omega)]
  exact this.2 k k0 k1
def Mv (R : SS) (Ω : Int → Prop) (S : SS) : Prop := BB S ∧ MIh Ω S (-1) ∧ Fx R S ∧ Zw S
theorem UN.fx {R S : SS} (hU : UN R) (hF : Fx R S) : UN S := by
  intro s h0 h1
  rw [hF 8 rfl] at h1
  have := hU s h0 h1
  rw [hF 36 rfl, hF 21 rfl, hF 0 rfl]
  exact this
theorem AG_of {Ω : Int → Prop} {S : SS} (hB : BB S) (hM : MIh Ω S (-1)) (hU : UN S) : AG S := by
  intro sec hs
  have hm := hB.m
  simp only [bsm] at hm
  have lane : ∀ (w : Nat) (k : Nat), (w = 0 ∨ w = 1) → (k : Int) < S 33 ((2 * sec + w : Nat) : Int) → S 0 0 < S 36 (S 34 (30 * ((2 * sec + w : Nat) : Int) + k)) → ∃ n : Nat, n < (S 8 0).toNat ∧ agP S sec n = true := by
    intro w k hw hk ha
    have e : ((2 * sec + w : Nat) : Int) = 2 * (sec : Int) + (w : Int) := by omega
    rw [e] at hk ha
    have l := hM.la sec w k (by omega) (by omega) (by omega) (by omega) hk
    have u := hU _ l.1 l.2.1
    refine ⟨(S 34 (30 * (2 * (sec : Int) + w) + k)).toNat, by omega, ?_⟩
    simp only [agP, decide_eq_true_eq]
    rw [Int.toNat_of_nonneg l.1]
    refine ⟨l.2.2.2.1, ?_⟩
    rw [u.2, if_pos ha]
    omega
  have key : (lnA S (2 * sec) || lnA S (2 * sec + 1)) = true ↔ isAgr S sec = true := by
    rw [Bool.or_eq_true]
    unfold lnA isAgr
    rw [exB_iff, exB_iff, exB_iff]
    constructor
    · rintro (⟨k, h1, h2⟩ | ⟨k, h1, h2⟩)
      · exact lane 0 k (Or.inl rfl) (by have := hB.iM (a := ((2 * sec : Nat) : Int)) (by omega) (by omega); show (k : Int) < S 33 ((2 * sec : Nat) : Int); omega) (by simpa using h2)
      · exact lane 1 k (Or.inr rfl) (by have := hB.iM (a := ((2 * sec + 1 : Nat) : Int)) (by omega) (by omega); omega) (by simpa using h2)
    · rintro ⟨n, h1, h2⟩
      simp only [agP, decide_eq_true_eq] at h2
      have hsh := hB.sh (s := (n : Int)) (by omega) (by omega)
      simp only [bsh] at hsh
      obtain ⟨k, k0, k1, k2⟩ := hM.lc n (by omega) (by omega) (by omega) (by omega) (by omega)
      have u := hU n (by omega) (by omega)
      have hg : S 0 0 < S 36 n := Classical.byContradiction fun q => by rw [u.2, if_neg q] at h2; omega
      rw [h2.1] at k1 k2
      rcases hsh.1 with h9 | h9
      · left
        rw [h9] at k1 k2
        have e : ((2 * sec : Nat) : Int) = 2 * (sec : Int) + 0 := by omega
        refine ⟨k.toNat, by rw [e]; omega, ?_⟩
        rw [decide_eq_true_eq, e, Int.toNat_of_nonneg k0, k2]
        exact hg
      · right
        rw [h9] at k1 k2
        have e : ((2 * sec + 1 : Nat) : Int) = 2 * (sec : Int) + 1 := by omega
        refine ⟨k.toNat, by rw [e]; omega, ?_⟩
        rw [decide_eq_true_eq, e, Int.toNat_of_nonneg k0, k2]
        exact hg
  exact Bool.eq_iff_iff.mpr key
theorem Mv.ci {R S : SS} {Ω : Int → Prop} (hU : UN R) (hV : VEb R) (h : Mv R Ω S) : CI S := by
  obtain ⟨hB, hM, hF, -⟩ := h
  have hUS := hU.fx hF
  refine ⟨hB, ⟨fun j k hj hk => ?_, fun j k hj hk => ?_, fun j k h1 h2 h3 => ?_, fun j k h1 h2 h3 => ?_⟩, hUS, AG_of hB hM hUS⟩
  · have e : 2 * ((j : Int) / 2) + (j : Int) % 2 = j := by omega
    have := hM.la ((j : Int) / 2) ((j : Int) % 2) k (by omega) (by omega) (by omega) (by omega) (by rw [e]; exact hk)
    rw [e] at this
    exact this.2.1
  · exact (hM.li j k (by omega) (by omega) hk).2.1
  · simp only [hF 24 rfl, hF 0 rfl, hF 26 rfl, hF 27 rfl, hF 28 rfl, hF 8 rfl] at *
    exact hV.1 j k h1 h2 h3
  · simp only [hF 24 rfl, hF 0 rfl, hF 26 rfl, hF 29 rfl, hF 30 rfl, hF 8 rfl] at *
    exact hV.2 j k h1 h2 h3
theorem Mv.tkd {R S : SS} {Ω : Int → Prop} (h : Mv R Ω S) {s : Int} (hs : s < S 8 0) : Mv R Ω (tk S s) := ⟨BB_tk h.1, h.2.1.took s, fun k hk x => by rw [tk_ne (mvK_ne hk).2.1]; exact h.2.2.1 k hk x, h.2.2.2.congr (tk_ne (by decide) _) (fun x hx => by simp only [tk]; rw [u2_at, if_neg (by omega)]) (tk_ne (by decide))⟩
theorem Mv.wtd {R S : SS} {Ω : Int → Prop} (h : Mv R Ω S) {x s c : Int} (hx : x = 7 * s + c) (hs : s < S 8 0) (hc : 0 ≤ c ∧ c < 7) : Mv R Ω (wt S x) := ⟨BB_wt h.1, h.2.1.wtd x, fun k hk x => by rw [wt_ne (mvK_ne hk).2.2.2.2.1]; exact h.2.2.1 k hk x, h.2.2.2.wtd hx hs hc⟩
theorem cause_33 {S : SS} {s : Int} {sec : Nat} (h : ¬ 0 ≤ cause S s sec) : S 33 (2 * sec + S 9 s) ≠ 3 := by
  intro e
  apply h
  unfold cause
  rw [if_pos e]
  split
  · decide
  · split
    · decide
    · decide
theorem Fx.lvsd {R S : SS} (h : Fx R S) (sec w : Int) : Fx R (lvs S sec w) := fun k hk x => by rw [lvs_ne (mvK_ne hk).2.2.2.2.2.2.2.1 (mvK_ne hk).2.2.2.2.2.2.2.2.1]; exact h k hk x
theorem Fx.entd {R S : SS} (h : Fx R S) (s sec : Int) : Fx R (ent S s sec) := fun k hk x => by
  have := mvK_ne hk
  rw [ent_9 S s sec x ⟨by omega, by omega, by omega, by omega, by omega⟩]
  exact h k hk x
theorem Fx.set {R S : SS} (h : Fx R S) {K : Nat} (hK : mvK K = true) (x v : Int) : Fx R (u2 S K x v) := fun k hk y => by
  rw [u2_ne (fun e => by rw [e, hK] at hk; cases hk)]
  exact h k hk y
theorem Mv.gosd {R S : SS} {Ω : Int → Prop} (h : Mv R Ω S) {sec : Nat} {w s : Int} (hs2 : sec < 8) (hw : w = 0 ∨ w = 1) (h1 : 1 ≤ S 33 (2 * (sec : Int) + w)) (hs : S 34 (30 * (2 * (sec : Int) + w)) = s) (h16 : S 16 s = 0) : Mv R Ω (gos S s sec).2 := by
  obtain ⟨hB, hM, hF, hZ⟩ := id h
  have hm := hB.m
  simp only [bsm] at hm
  have hf := hM.la sec w 0 (by omega) (by omega) hw (by omega) (by omega)
  rw [Int.add_zero, hs] at hf
  have h9 : S 9 s = w := hf.2.2.1
  have hO : Ω s := hM.pl s hf.1 hf.2.1 (by omega)
  have hL := hM.left hB (sec := sec) (w := w) (by omega) (by omega) hw h1
  rw [hs] at hL
  have hBL : BB (lvs S sec w) := BB_lvs hB (by omega) hw h1
  have e8 : lvs S sec w 8 0 = S 8 0 := lvs_ne (by decide) (by decide) _
  unfold gos
  by_cases c1 : (sec : Int) = (if S 9 s = 0 then 7 else 0)
  · rw [if_pos c1]
    show Mv R Ω (goE S sec s)
    unfold goE
    rw [h9]
    refine ⟨BB_u2 (BB_u2 hBL (fun _ _ => ⟨by decide, by decide⟩)) (fun _ _ => trivial), hL.out (by rw [e8]; exact ⟨hf.1, hf.2.1⟩) hO (by rw [lvs_ne (by decide) (by decide)]; exact h16), ((hF.lvsd _ _).set rfl _ _).set rfl _ _, hZ.congr (by rw [u2_ne (by decide), u2_ne (by decide)]; exact e8) (fun x _ => by rw [u2_ne (by decide), u2_ne (by decide)]; exact lvs_ne (by decide) (by decide) _) (fun x => by rw [u2_ne (by decide), u2_ne (by decide)]; exact lvs_ne (by decide) (by decide) _)⟩
  · rw [if_neg c1]
    by_cases c2 : 0 ≤ cause S s (if S 9 s = 0 then sec + 1 else sec - 1)
    · rw [if_pos c2]
      have := cause_bd S s (if S 9 s = 0 then sec + 1 else sec - 1)
      exact h.wtd rfl hf.2.1 ⟨c2, by omega⟩
    · rw [if_neg c2]
      show Mv R Ω (ent (lvs S sec (S 9 s)) s _)
      have hc := cause_33 c2
      have hn : ∃ nx : Int, nx = (if S 9 s = 0 then (sec : Int) + 1 else (sec : Int) - 1) ∧ nx = ((if S 9 s = 0 then sec + 1 else sec - 1 : Nat) : Int) ∧ 0 ≤ nx ∧ nx < 8 ∧ nx ≠ sec := by
        by_cases c3 : S 9 s = 0
        · rw [if_pos c3] at c1
          exact ⟨(sec : Int) + 1, by rw [if_pos c3], by rw [if_pos c3]; omega, by omega, by omega, by omega⟩
        · rw [if_neg c3] at c1
          exact ⟨(sec : Int) - 1, by rw [if_neg c3], by rw [if_neg c3]; omega, by omega, by omega, by omega⟩
      obtain ⟨nx, n1, n2, n3, n4, n5⟩ := hn
      rw [← n1]
      rw [← n2] at hc
      rw [h9] at hc ⊢
      have h33 : lvs S sec w 33 (2 * nx + lvs S sec w 9 s) ≤ 2 := by
        rw [lvs_ne (k := 9) (by decide) (by decide), h9, lvs_33, if_neg (by omega)]
        have := (hB.iM (a := 2 * nx + w) (by omega) (by omega)).1
        omega
      exact ⟨BB_ent hBL (by omega) ⟨n3, n4⟩ h33, hL.entd hBL (by rw [e8]; exact ⟨hf.1, hf.2.1⟩) hO n3 n4 h33, (hF.lvsd _ _).entd _ _, hZ.congr (by rw [ent_9 _ _ _ _ (by decide)]; exact e8) (fun x hx => by rw [ent_16 _ _ _ _ (by omega)]; exact lvs_ne (by decide) (by decide) _) (fun x => by rw [ent_9 _ _ _ _ (by decide)]; exact lvs_ne (by decide) (by decide) _)⟩
theorem Mv.move {R : SS} {Ω : Int → Prop} (hU : UN R) (hV : VEb R) {sec : Nat} {w : Int} (hs2 : sec < 8) (hw : w = 0 ∨ w = 1) : ∀ (f : Nat) (S : SS) (k : Nat) (stuck : Bool), Mv R Ω S → okMC sec w f S k stuck ∧ Mv R Ω (mvF sec w f S k stuck) := by
  intro f
  induction f with
  | zero => exact fun S k stuck h => ⟨h.ci hU hV, h⟩
  | succ f ih =>
    intro S k stuck h
    simp only [okMC, mvF]
    by_cases hk : (k : Int) < S 33 (2 * (sec : Int) + w)
    · rw [if_pos hk]
      have l := h.2.1.la sec w k (by omega) (by omega) hw (by omega) hk
      generalize hs : S 34 (30 * (2 * (sec : Int) + w) + k) = s at l ⊢
      have goal : (if (stuck || decide (0 < S 21 s)) = true then okMC sec w f (wt S (7 * s)) (k + 1) true
          else if tk S s 16 s = 0 then (if k = 0 then okMC sec w f (gos (tk S s) s sec).2 (if (gos (tk S s) s sec).1 = true then 0 else 1) false else okMC sec w f (wt (tk S s) (7 * s + 6)) (k + 1) false)
          else okMC sec w f (tk S s) (k + 1) false) ∧ Mv R Ω (if (stuck || decide (0 < S 21 s)) = true then mvF sec w f (wt S (7 * s)) (k + 1) true
          else if tk S s 16 s = 0 then (if k = 0 then mvF sec w f (gos (tk S s) s sec).2 (if (gos (tk S s) s sec).1 = true then 0 else 1) false else mvF sec w f (wt (tk S s) (7 * s + 6)) (k + 1) false)
          else mvF sec w f (tk S s) (k + 1) false) := by
        by_cases c1 : (stuck || decide (0 < S 21 s)) = true
        · rw [if_pos c1, if_pos c1]
          exact ih _ _ _ (h.wtd (s := s) (c := 0) (by omega) l.2.1 ⟨by omega, by omega⟩)
        · rw [if_neg c1, if_neg c1]
          by_cases c2 : tk S s 16 s = 0
          · rw [if_pos c2, if_pos c2]
            by_cases c3 : k = 0
            · rw [if_pos c3, if_pos c3]
              subst c3
              refine ih _ _ _ ((h.tkd l.2.1).gosd hs2 hw ?_ ?_ c2)
              · rw [tk_ne (by decide)]; omega
              · rw [tk_ne (by decide), ← hs]; simp
            · rw [if_neg c3, if_neg c3]
              exact ih _ _ _ ((h.tkd l.2.1).wtd (s := s) (c := 6) rfl (by rw [tk_ne (by decide)]; exact l.2.1) ⟨by omega, by omega⟩)
          · rw [if_neg c2, if_neg c2]
            exact ih _ _ _ (h.tkd l.2.1)
      exact ⟨⟨h.ci hU hV, fun _ => ⟨l.2.2.1, (h.tkd l.2.1).ci hU hV, goal.1⟩⟩, goal.2⟩
    · rw [if_neg hk]
      exact ⟨⟨h.ci hU hV, fun q => absurd q hk⟩, h⟩
theorem Mv.mvsd {R S : SS} {Ω : Int → Prop} (hU : UN R) (hV : VEb R) {sec : Nat} {w : Int} (hs2 : sec < 8) (hw : w = 0 ∨ w = 1) (h : Mv R Ω S) : Mv R Ω (mvs S sec w) := (Mv.move hU hV hs2 hw _ S 0 false h).2
theorem Mv.mvNd {R S : SS} {Ω : Int → Prop} (hU : UN R) (hV : VEb R) (h : Mv R Ω S) : ∀ n : Nat, n ≤ 8 → Mv R Ω (mvN S n) := by
  intro n
  induction n with
  | zero => exact fun _ => h
  | succ n ih => exact fun hn => (ih (by omega)).mvsd hU hV (by omega) (Or.inl rfl)
theorem Mv.mvSd {R S : SS} {Ω : Int → Prop} (hU : UN R) (hV : VEb R) (h : Mv R Ω S) : ∀ n : Nat, n ≤ 8 → Mv R Ω (mvS S n) := by
  intro n
  induction n with
  | zero => exact fun _ => h
  | succ n ih => exact fun hn => (ih (by omega)).mvsd hU hV (by omega) (Or.inr rfl)
theorem Mv.qwd {R S : SS} {Ω : Int → Prop} (h : Mv R Ω S) {w : Int} (hw : w = 0 ∨ w = 1) (n : Nat) (hn : (n : Int) < S 31 w) : Mv R Ω (qw S w n) := by
  induction n with
  | zero => exact h
  | succ n ih =>
    have l := h.2.1.li w (n + 1) hw (by omega) (by omega)
    refine (ih (by omega)).wtd (s := S 32 (30 * w + (n + 1))) (c := 6) rfl ?_ ⟨by omega, by omega⟩
    rw [qw_ne (by decide)]
    exact l.2.1
theorem Mv.cmd {R S : SS} {Ω : Int → Prop} (h : Mv R Ω S) {w : Int} (hw : w = 0 ∨ w = 1) : Mv R Ω (cm S w) := by
  unfold cm
  by_cases c : S 31 w = 0
  · rw [if_pos c]; exact h
  · rw [if_neg c]
    obtain ⟨hB, hM, hF, hZ⟩ := id h
    have hln := hB.ln (w := w) (by omega) (by omega)
    have hf := hM.li w 0 hw (by omega) (by omega)
    rw [Int.add_zero] at hf
    have hT := h.qwd hw ((S 31 w).toNat - 1) (by omega)
    have eT : ∀ k, k ≠ 23 → ∀ x, qw S w ((S 31 w).toNat - 1) k x = S k x := fun k hk x => qw_ne hk _ x
    unfold cmI
    generalize qw S w ((S 31 w).toNat - 1) = T at hT eT
    generalize hs : S 32 (30 * w) = s at hf
    simp only []
    by_cases c2 : 0 ≤ cause S s (if w = 0 then 0 else 7)
    · rw [if_pos c2]
      have := cause_bd S s (if w = 0 then 0 else 7)
      exact hT.wtd rfl (by rw [eT 8 (by decide)]; exact hf.2.1) ⟨c2, by omega⟩
    · rw [if_neg c2]
      have hc := cause_33 c2
      have hsec : (((if w = 0 then 0 else 7 : Nat)) : Int) = if w = 0 then 0 else 7 := by split <;> rfl
      have hs0 : 0 ≤ (((if w = 0 then 0 else 7 : Nat)) : Int) ∧ (((if w = 0 then 0 else 7 : Nat)) : Int) < 8 := by split <;> decide
      generalize (((if w = 0 then 0 else 7 : Nat)) : Int) = sec at hc hs0 hsec
      have hL : MIh Ω (lnP T w) s := by
        have := hT.2.1.lnPd hT.1 hw (by rw [eT 31 (by decide)]; omega)
        rw [eT 32 (by decide), hs] at this
        exact this
      have eP : shf (u2 T 31 w (S 31 w - 1)) 32 (30 * w) (S 31 w - 1).toNat = lnP T w := by unfold lnP; rw [eT 31 (by decide)]
      rw [eP]
      have hBP : BB (lnP T w) := by
        rw [← eP]
        refine BB_shf (BB_u2 hT.1 (fun _ _ => ⟨by omega, by omega⟩)) (by omega) ?_
        show 30 * w + _ < 60
        omega
      have hL2 : MIh Ω (u2 (lnP T w) 19 s (S 0 0)) s := hL.congr (u2_ne (by decide) _ _ _) (u2_ne (by decide) _ _) (u2_ne (by decide) _ _) (fun x q => by rw [u2_ne (by decide)]; exact q) (u2_ne (by decide) _ _) (u2_ne (by decide) _ _) (u2_ne (by decide) _ _) (u2_ne (by decide) _ _)
      have hB2 : BB (u2 (lnP T w) 19 s (S 0 0)) := BB_u2 hBP (fun _ _ => trivial)
      have ek : ∀ k, k ≠ 19 → k ≠ 31 → k ≠ 32 → k ≠ 23 → ∀ x, u2 (lnP T w) 19 s (S 0 0) k x = S k x := fun k h1 h2 h3 h4 x => by rw [u2_ne h1, lnP_ne h2 h3, eT k h4]
      have hm := hB.m
      simp only [bsm] at hm
      have h33 : u2 (lnP T w) 19 s (S 0 0) 33 (2 * sec + u2 (lnP T w) 19 s (S 0 0) 9 s) ≤ 2 := by
        rw [ek 9 (by decide) (by decide) (by decide) (by decide), ek 33 (by decide) (by decide) (by decide) (by decide)]
        have := (hB.iM (a := 2 * sec + S 9 s) (by omega) (by omega)).1
        omega
      have hF2 : Fx R (u2 (lnP T w) 19 s (S 0 0)) := by
        refine Fx.set (fun k hk x => ?_) rfl _ _
        have := mvK_ne hk
        rw [lnP_ne (by omega) (by omega)]
        exact hT.2.2.1 k hk x
      exact ⟨BB_ent hB2 (by omega) hs0 h33, hL2.entd hB2 (by rw [ek 8 (by decide) (by decide) (by decide) (by decide)]; exact ⟨hf.1, hf.2.1⟩) hf.2.2.2.2.1 hs0.1 hs0.2 h33, hF2.entd _ _, hT.2.2.2.congr (by rw [ent_9 _ _ _ _ (by decide), ek 8 (by decide) (by decide) (by decide) (by decide), eT 8 (by decide)]) (fun x hx => by rw [eT 8 (by decide)] at hx; rw [ent_16 _ _ _ _ (by omega), ek 16 (by decide) (by decide) (by decide) (by decide), eT 16 (by decide)]) (fun x => by rw [ent_9 _ _ _ _ (by decide), u2_ne (by decide), lnP_ne (by decide) (by decide)])⟩
