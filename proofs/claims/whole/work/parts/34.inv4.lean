/-! ===== a minute is safe, and keeps what holds between calls ===== -/
theorem mt1_ne {S : SS} {k : Nat} (h1 : k ≠ 31) (h2 : k ≠ 32) (x : Int) : mt1 S k x = S k x := sts_ne h1 h2 _ x
theorem mt2_ne {S : SS} {k : Nat} (h1 : k ≠ 17) (h2 : k ≠ 18) (h3 : k ≠ 22) (h4 : k ≠ 29) (h5 : k ≠ 30) (h6 : k ≠ 31) (h7 : k ≠ 32) (x : Int) : mt2 S k x = S k x := by
  unfold mt2
  rw [lts_ne h1 h2 h3 h4 h5 h6 h7, mt1_ne h6 h7]
theorem Inv.lt0 {S : SS} (hI : Inv S) : Lt 0 (mt1 S) := by
  have hm := hI.1.m
  simp only [bsm] at hm
  obtain ⟨h1, h2, -⟩ := sts_ok hI (S 24 0).toNat (by omega)
  obtain ⟨hB, hM, hcv, hU, hms, hz⟩ := hI
  have e : ∀ k, k ≠ 31 → k ≠ 32 → ∀ x, mt1 S k x = S k x := fun k a b x => mt1_ne a b x
  refine ⟨h1, MIh.mono h2 (fun s s0 s1 q => ?_), ?_, ?_, ?_⟩
  · unfold Ψ2
    rw [e 22 (by decide) (by decide), e 26 (by decide) (by decide), e 10 (by decide) (by decide), e 0 (by decide) (by decide)]
    rcases q with q | q
    · unfold dn at q
      exact ⟨⟨q.1, by omega, by omega⟩, fun r => by omega⟩
    · exact ⟨⟨q.1, by omega, by omega⟩, fun r => by omega⟩
  · rw [e 0 (by decide) (by decide)]
    exact hcv.next.congr (e 8 (by decide) (by decide) _) (e 24 (by decide) (by decide) _) (fun k hk x => e k (by omega) (by omega) x)
  · intro x h0 h1
    rw [e 8 (by decide) (by decide)] at h1
    rw [e 22 (by decide) (by decide), e 24 (by decide) (by decide), e 18 (by decide) (by decide)]
    exact hms x h0 h1
  · exact hz.congr (e 8 (by decide) (by decide) _) (e 24 (by decide) (by decide) _) (fun k hk x hx => e k (by omega) (by omega) x) (fun x => e 23 (by decide) (by decide) x) (fun k hk x hx => e k (by omega) (by omega) x)
theorem VEb_of {X : SS} {t : Int} (h : CV X t) : VEb X := ⟨fun j k h1 _ h3 => ((h j (by omega) h1).1 k (by omega) h3).2, fun j k h1 _ h3 => ((h j (by omega) h1).2.1 k (by omega) h3).2⟩
/-- the ships are where they may be, in the middle of a minute -/
theorem Inv.mid {S : SS} (hI : Inv S) : Lt (S 8 0) (mt2 S) ∧ UN (mt2 S) ∧ Mv (mt2 S) (Ψ2 (S 8 0) (mt2 S)) (mt2 S) := by
  have hm := hI.1.m
  simp only [bsm] at hm
  have e8 : mt1 S 8 0 = S 8 0 := mt1_ne (by decide) (by decide) _
  have hL := (lts_ok hI.lt0 (S 8 0).toNat (by omega)).1
  rw [Int.toNat_of_nonneg (by omega)] at hL
  have hL2 : Lt (S 8 0) (mt2 S) := hL
  refine ⟨hL2, fun s h0 h1 => ?_, hL2.1, hL2.2.1, fun _ _ _ => rfl, hL2.2.2.2.2.1⟩
  rw [mt2_ne (by decide) (by decide) (by decide) (by decide) (by decide) (by decide) (by decide)] at h1
  rw [mt2_ne (by decide) (by decide) (by decide) (by decide) (by decide) (by decide) (by decide), mt2_ne (by decide) (by decide) (by decide) (by decide) (by decide) (by decide) (by decide), mt2_ne (by decide) (by decide) (by decide) (by decide) (by decide) (by decide) (by decide)]
  exact hI.2.2.2.1 s h0 h1
theorem Inv.okt {S : SS} (hI : Inv S) : okTC S ∧ Mv (mt2 S) (Ψ2 (S 8 0) (mt2 S)) (mt6 S) := by
  have hm := hI.1.m
  simp only [bsm] at hm
  obtain ⟨hL, hU, h2⟩ := hI.mid
  have hV := VEb_of hL.2.2.1
  have e8 : mt1 S 8 0 = S 8 0 := mt1_ne (by decide) (by decide) _
  have h3 : ∀ n : Nat, n ≤ 8 → Mv (mt2 S) (Ψ2 (S 8 0) (mt2 S)) (mvN (mt2 S) n) := h2.mvNd hU hV
  have h3' : Mv (mt2 S) (Ψ2 (S 8 0) (mt2 S)) (mt3 S) := h3 8 (by omega)
  have h4 : ∀ n : Nat, n ≤ 8 → Mv (mt2 S) (Ψ2 (S 8 0) (mt2 S)) (mvS (mt3 S) n) := h3'.mvSd hU hV
  have h4' : Mv (mt2 S) (Ψ2 (S 8 0) (mt2 S)) (mt4 S) := h4 8 (by omega)
  have h5 : Mv (mt2 S) (Ψ2 (S 8 0) (mt2 S)) (mt5 S) := h4'.cmd (Or.inl rfl)
  have h6 : Mv (mt2 S) (Ψ2 (S 8 0) (mt2 S)) (mt6 S) := h5.cmd (Or.inr rfl)
  have fst : ∀ (X : SS) (w : Int), (w = 0 ∨ w = 1) → Mv (mt2 S) (Ψ2 (S 8 0) (mt2 S)) X → X 31 w ≠ 0 → ∀ s : Nat, X 32 (30 * w + 0) = s → X 9 s = w := by
    intro X w hw hX hn s hs
    have hb := hX.1.ln (w := w) (by omega) (by omega)
    have := (hX.2.1.li w 0 hw (by omega) (by omega)).2.2.1
    rw [hs] at this
    exact this
  refine ⟨⟨hI.1, ?_, ?_, hI.lt0.1, ?_, ?_, ?_, ?_, h4'.ci hU hV, fst _ 0 (Or.inl rfl) h4', h5.ci hU hV, fst _ 1 (Or.inr rfl) h5, h6.1, fun x => ?_, fun x => ?_⟩, h6⟩
  · intro n hn
    exact (sts_ok hI (S 24 0).toNat (by omega)).2.2 n (by omega)
  · intro n hn h26
    have hc := hI.2.2.1 n (by omega) hn
    have hp := hc.2.2 (by omega)
    exact ⟨fun k hk => (hc.1 k (by omega) hk).2, fun k hk => ⟨(hc.2.1 k (by omega) hk).2, Int.le_of_lt (hp.2.1 k (by omega) hk).2⟩⟩
  · intro n hn
    exact (lts_ok hI.lt0 (S 8 0).toNat (by omega)).2 n (by omega)
  · intro n hn
    have := (lts_ok hI.lt0 n (by omega)).1.2.2.2.1 n (by omega) (by rw [lts_ne (by decide) (by decide) (by decide) (by decide) (by decide) (by decide) (by decide)]; exact hn)
    rw [lts_ne (k := 24) (by decide) (by decide) (by decide) (by decide) (by decide) (by decide) (by decide)] at this
    exact this.1
  · intro n hn
    exact (Mv.move hU hV (by omega) (Or.inl rfl) _ _ 0 false (h3 n (by omega))).1
  · intro n hn
    exact (Mv.move hU hV hn (Or.inr rfl) _ _ 0 false (h4 n (by omega))).1
  · rw [h6.2.2.1 0 rfl]
    exact mt2_ne (by decide) (by decide) (by decide) (by decide) (by decide) (by decide) (by decide) x
  · rw [h6.2.2.1 8 rfl]
    exact mt2_ne (by decide) (by decide) (by decide) (by decide) (by decide) (by decide) (by decide) x
theorem agd_lo {S : SS} (n : Nat) (x : Int) (h0 : 0 ≤ x) (h : x < n) : agd S n 21 x = S 21 x - (if 0 < S 21 x then 1 else 0) := by
  induction n with
  | zero => omega
  | succ n ih =>
    simp only [agd]
    rw [u2_at]
    by_cases c : x = n
    · rw [if_pos c, c]
    · rw [if_neg c, ih (by omega)]
theorem mt_ne {S : SS} {k : Nat} (h0 : k ≠ 0) (h1 : k ≠ 21) (x : Int) : mt S k x = mt6 S k x := by
  unfold mt
  rw [u2_ne h0, agd_ne h1]
theorem mt_0 (S : SS) : mt S 0 0 = S 0 0 + 1 := by unfold mt; rw [u2_self]
theorem Inv.minute {S : SS} (hI : Inv S) (ht : S 0 0 < 10000) : Inv (mt S) := by
  have hm := hI.1.m
  simp only [bsm] at hm
  obtain ⟨hL, -, -⟩ := hI.mid
  obtain ⟨-, hB6, hM6, hF6, hZ6⟩ := hI.okt
  have e : ∀ k, mvK k = false → k ≠ 0 → k ≠ 21 → ∀ x, mt S k x = mt2 S k x := fun k h1 h2 h3 x => by rw [mt_ne h2 h3]; exact hF6 k h1 x
  have f : ∀ k, k ≠ 17 → k ≠ 18 → k ≠ 22 → k ≠ 29 → k ≠ 30 → k ≠ 31 → k ≠ 32 → ∀ x, mt2 S k x = S k x := fun k a b c d e g h x => mt2_ne a b c d e g h x
  have f8 : mt2 S 8 0 = S 8 0 := f 8 (by decide) (by decide) (by decide) (by decide) (by decide) (by decide) (by decide) 0
  have f0 : mt2 S 0 0 = S 0 0 := f 0 (by decide) (by decide) (by decide) (by decide) (by decide) (by decide) (by decide) 0
  have e8 := e 8 rfl (by decide) (by decide) 0
  have e24 := e 24 rfl (by decide) (by decide) 0
  have hcv := hL.2.2.1
  rw [f0] at hcv
  have e68 : mt6 S 8 0 = mt2 S 8 0 := hF6 8 rfl 0
  have hag : ∀ x, (mt2 S 8 0) ≤ x → mt S 21 x = mt2 S 21 x := fun x hx => by
    unfold mt
    rw [u2_ne (by decide), agd_hi _ _ (by omega)]
    exact hF6 21 rfl x
  refine ⟨?_, ?_, ?_, ?_, ?_, ?_⟩
  · exact BB_u2 (BB_agd hB6 _ (by omega)) (fun _ _ => ⟨by omega, by omega⟩)
  · rw [mt_0]
    refine MIh.mono (hM6.oth (T := mt S) (fun k hk x => mt_ne (by omega) (by omega) x)) (fun s s0 s1 q => ?_)
    rw [e8, f8] at s1
    unfold Ψ2 at q
    unfold dn
    rw [e 22 rfl (by decide) (by decide), e 26 rfl (by decide) (by decide), e 10 rfl (by decide) (by decide)]
    exact ⟨q.1.1, by omega, by omega⟩
  · rw [mt_0]
    refine hcv.congr e8 e24 (fun k hk x => e k ?_ (by omega) (by omega) x)
    rcases hk with rfl | rfl | rfl | rfl | rfl | rfl | rfl <;> rfl
  · intro s h0 h1
    rw [e8, f8] at h1
    have u := hI.2.2.2.1 s h0 h1
    rw [e 36 rfl (by decide) (by decide), f 36 (by decide) (by decide) (by decide) (by decide) (by decide) (by decide) (by decide), mt_0]
    refine ⟨u.1, ?_⟩
    have e21 : mt S 21 s = S 21 s - (if 0 < S 21 s then 1 else 0) := by
      unfold mt
      rw [u2_ne (by decide), agd_lo _ _ h0 (by omega), hF6 21 rfl, f 21 (by decide) (by decide) (by decide) (by decide) (by decide) (by decide) (by decide)]
    rw [e21, u.2]
    by_cases c1 : S 0 0 < S 36 s
    · rw [if_pos c1, if_pos (by omega)]
      by_cases c2 : S 0 0 + 1 < S 36 s
      · rw [if_pos c2]; omega
      · rw [if_neg c2]; omega
    · rw [if_neg c1, if_neg (by omega), if_neg (by omega)]
      omega
  · intro s h0 h1
    rw [e8] at h1
    rw [e24, e 22 rfl (by decide) (by decide), e 18 rfl (by decide) (by decide)]
    exact hL.2.2.2.1 s h0 h1
  · refine ⟨hZ6.congr (mt_ne (by decide) (by decide) _) (fun x _ => mt_ne (by decide) (by decide) _) (fun x => mt_ne (by decide) (by decide) _), fun s h0 h1 => ?_, fun c h0 h1 => ?_⟩
    · rw [e8] at h0
      rw [e 17 rfl (by decide) (by decide), e 18 rfl (by decide) (by decide), e 36 rfl (by decide) (by decide), hag s h0]
      exact hL.2.2.2.2.2.1 s h0 h1
    · rw [e24] at h0
      rw [e 27 rfl (by decide) (by decide), e 29 rfl (by decide) (by decide)]
      exact hL.2.2.2.2.2.2 c h0 h1
theorem Inv.mins {S : SS} (hI : Inv S) : ∀ n : Nat, S 0 0 + n ≤ 10000 → Inv (mts S n) ∧ mts S n 0 0 = S 0 0 + n := by
  intro n
  induction n with
  | zero => exact fun _ => ⟨hI, by simp [mts]⟩
  | succ n ih =>
    intro hn
    obtain ⟨h1, h2⟩ := ih (by omega)
    refine ⟨h1.minute (by omega), ?_⟩
    show mt (mts S n) 0 0 = _
    rw [mt_0, h2]
    omega
theorem Inv.okts {S : SS} (hI : Inv S) {n : Int} : 1 ≤ n ∧ n ≤ 300 → S 0 0 + n ≤ 10000 → ∀ j : Nat, j < n.toNat → okTC (mts S j) := fun _ h2 j hj => (hI.mins j (by omega)).1.okt.1
theorem Inv.min {S : SS} (hI : Inv S) (n : Int) : Inv (opMin S n).2 := by
  unfold opMin
  by_cases c1 : ¬ (1 ≤ n ∧ n ≤ 300)
  · rw [if_pos c1]; exact hI
  · rw [if_neg c1]
    by_cases c2 : 10000 < S 0 0 + n
    · rw [if_pos c2]; exact hI
    · rw [if_neg c2]
      exact (hI.mins n.toNat (by omega)).1
theorem Inv.ci {S : SS} (hI : Inv S) : CI S := by
  have hV := VEb_of hI.2.2.1
  exact Mv.ci (R := S) (Ω := dn S (S 0 0)) hI.2.2.2.1 hV ⟨hI.1, hI.2.1, fun _ _ _ => rfl, hI.2.2.2.2.2.1⟩
theorem Inv.start : Inv S0 := by
  have s : ∀ k, k ≠ 1 → k ≠ 3 → k ≠ 4 → k ≠ 35 → ∀ x, S0 k x = 0 := fun k a b c d x => by unfold S0; rw [if_neg a, if_neg b, if_neg c, if_neg d]
  have s8 := s 8 (by decide) (by decide) (by decide) (by decide)
  have s24 := s 24 (by decide) (by decide) (by decide) (by decide)
  have s31 := s 31 (by decide) (by decide) (by decide) (by decide)
  have s33 := s 33 (by decide) (by decide) (by decide) (by decide)
  refine ⟨BQ.bb (fun k x _ _ => ?_), ⟨?_, ?_, ?_, ?_, ?_, ?_, ?_⟩, ?_, ?_, ?_, ?_⟩
  · by_cases c1 : k = 1
    · rw [c1]; show 0 ≤ (5 : Int) ∧ (5 : Int) ≤ 60; decide
    · by_cases c3 : k = 3
      · rw [c3]; show 1 ≤ (20 : Int) ∧ (20 : Int) ≤ 60; decide
      · by_cases c4 : k = 4
        · rw [c4]; show 1 ≤ (15 : Int) ∧ (15 : Int) ≤ 40; decide
        · by_cases c5 : k = 35
          · rw [c5]; show -1000 ≤ (-1000 : Int) ∧ (-1000 : Int) ≤ 10000; decide
          · rw [s k c1 c3 c4 c5]
            unfold rng
            split <;> first | trivial | (exact absurd rfl c3) | (exact absurd rfl c4) | omega
  · intro sec w k _ _ _ h0 h1; rw [s33] at h1; omega
  · intro sec w k _ _ _ _ h0 h1; rw [s33] at h1; omega
  · intro x h0 h1; rw [s8] at h1; omega
  · intro w k _ h0 h1; rw [s31] at h1; omega
  · intro w k _ _ h0 h1; rw [s31] at h1; omega
  · intro x h0 h1; rw [s8] at h1; omega
  · intro x h0 h1; rw [s8] at h1; omega
  · intro c h0 h1; rw [s24] at h1; omega
  · intro c h0 h1; rw [s8] at h1; omega
  · intro c h0 h1; rw [s8] at h1; omega
  · refine ⟨fun x _ _ => ⟨s 16 (by decide) (by decide) (by decide) (by decide) _, fun k _ _ => s 23 (by decide) (by decide) (by decide) (by decide) _⟩, fun x _ _ => ⟨s 17 (by decide) (by decide) (by decide) (by decide) _, s 18 (by decide) (by decide) (by decide) (by decide) _, s 21 (by decide) (by decide) (by decide) (by decide) _, s 36 (by decide) (by decide) (by decide) (by decide) _⟩, fun x _ _ => ⟨s 27 (by decide) (by decide) (by decide) (by decide) _, s 29 (by decide) (by decide) (by decide) (by decide) _⟩⟩
theorem dn_congr {S T : SS} {t s : Int} (h : dn S t s) (e22 : T 22 s = S 22 s) (e26 : T 26 (S 22 s) = S 26 (S 22 s)) (e10 : T 10 s = S 10 s) : dn T t s := by
  unfold dn at h ⊢
  rw [e22, e26, e10]
  exact h
/-- what the rules of the canal alone change -/
theorem Inv.oth {S T : SS} (hI : Inv S) (hB : BB T) (e : ∀ k, (k = 0 ∨ 8 ≤ k) → ∀ x, T k x = S k x) : Inv T := by
  obtain ⟨-, hM, hcv, hU, hms, hz⟩ := hI
  have e0 := e 0 (by decide) 0
  have e8 := e 8 (by decide) 0
  have e24 := e 24 (by decide) 0
  refine ⟨hB, (hM.oth (T := T) (fun k hk x => e k (by omega) x)).mono (fun s _ _ q => ?_), ?_, fun s h0 h1 => ?_, fun s h0 h1 => ?_, ?_⟩
  · rw [e0]
    exact dn_congr q (e 22 (by decide) _) (e 26 (by decide) _) (e 10 (by decide) _)
  · rw [e0]
    exact hcv.congr e8 e24 (fun k hk x => e k (by omega) x)
  · rw [e8] at h1
    rw [e 36 (by decide), e 21 (by decide), e0]
    exact hU s h0 h1
  · rw [e8] at h1
    rw [e 22 (by decide), e 18 (by decide), e24]
    exact hms s h0 h1
  · exact hz.congr e8 e24 (fun k hk x _ => e k (by omega) x) (fun x => e 23 (by decide) x) (fun k hk x _ => e k (by omega) x)
theorem Inv.sec {S : SS} (hI : Inv S) {s ln d b : Int} (hb : b = 0 ∨ b = 1) : Inv (opSec S s ln d b).2 := by
  unfold opSec
  by_cases c1 : ¬ ((0 ≤ s ∧ s ≤ 7) ∧ (1 ≤ ln ∧ ln ≤ 60) ∧ (1 ≤ d ∧ d ≤ 40))
  · rw [if_pos c1]; exact hI
  · rw [if_neg c1]
    by_cases c2 : 0 < S 0 0
    · rw [if_pos c2]; exact hI
    · rw [if_neg c2]
      dsimp only
      refine hI.oth (BB_u2 (BB_u2 (BB_u2 hI.1 (fun _ _ => ⟨by omega, by omega⟩)) (fun _ _ => ⟨by omega, by omega⟩)) (fun _ _ => hb)) (fun k hk x => ?_)
      rw [u2_ne (by omega), u2_ne (by omega), u2_ne (by omega)]
theorem Inv.tide {S : SS} (hI : Inv S) {h v : Int} : Inv (opTide S h v).2 := by
  unfold opTide
  by_cases c1 : ¬ ((0 ≤ h ∧ h ≤ 23) ∧ (0 ≤ v ∧ v ≤ 9))
  · rw [if_pos c1]; exact hI
  · rw [if_neg c1]
    dsimp only
    refine hI.oth (BB_u2 hI.1 (fun _ _ => ⟨by omega, by omega⟩)) (fun k hk x => ?_)
    rw [u2_ne (by omega)]
theorem Inv.wind {S : SS} (hI : Inv S) {h v : Int} : Inv (opWind S h v).2 := by
  unfold opWind
  by_cases c1 : ¬ ((0 ≤ h ∧ h ≤ 23) ∧ (-1 ≤ v ∧ v ≤ 12))
  · rw [if_pos c1]; exact hI
  · rw [if_neg c1]
    dsimp only
    refine hI.oth (BB_u2 hI.1 (fun _ _ => ⟨by omega, by omega⟩)) (fun k hk x => ?_)
    rw [u2_ne (by omega)]
theorem Inv.rule {S : SS} (hI : Inv S) {w v : Int} : Inv (opRule S w v).2 := by
  unfold opRule
  by_cases c1 : w = 0 ∧ 0 ≤ v ∧ v ≤ 60
  · rw [if_pos c1]
    dsimp only
    refine hI.oth (BB_u2 hI.1 (fun _ _ => ⟨by omega, by omega⟩)) (fun k hk x => ?_)
    rw [u2_ne (by omega)]
  · rw [if_neg c1]
    by_cases c2 : w = 1 ∧ 0 ≤ v ∧ v ≤ 1
    · rw [if_pos c2]
      dsimp only
      refine hI.oth (BB_u2 hI.1 (fun _ _ => ?_)) (fun k hk x => ?_)
      · show v = 0 ∨ v = 1
        omega
      · rw [u2_ne (by omega)]
    · rw [if_neg c2]; exact hI
theorem Inv.grd {S : SS} (hI : Inv S) {s n : Int} : Inv (opGrdC S s n).2 := by
  unfold opGrdC
  by_cases c1 : ¬ ((0 ≤ s ∧ s ≤ S 8 0 - 1) ∧ (1 ≤ n ∧ n ≤ 500))
  · rw [if_pos c1]; exact hI
  · rw [if_neg c1]
    by_cases c2 : ¬ (0 ≤ S 15 s ∧ S 15 s ≤ 7) ∨ 0 < S 21 s
    · rw [if_pos c2]; exact hI
    · rw [if_neg c2]
      dsimp only
      obtain ⟨hB, hM, hcv, hU, hms, hz⟩ := hI
      have hm := hB.m
      simp only [bsm] at hm
      generalize hT : u2 (u2 S 21 s n) 36 s (S 0 0 + n) = T
      have e : ∀ k, k ≠ 21 → k ≠ 36 → ∀ x, T k x = S k x := fun k a b x => by rw [← hT, u2_ne b, u2_ne a]
      have e21 : ∀ x, T 21 x = if x = s then n else S 21 x := fun x => by rw [← hT, u2_ne (by decide), u2_at]
      have e36 : ∀ x, T 36 x = if x = s then S 0 0 + n else S 36 x := fun x => by rw [← hT, u2_at, u2_ne (by decide)]
      have e0 := e 0 (by decide) (by decide) 0
      have e8 := e 8 (by decide) (by decide) 0
      have e24 := e 24 (by decide) (by decide) 0
      refine ⟨?_, (hM.oth (T := T) (fun k hk x => e k (by omega) (by omega) x)).mono (fun s _ _ q => ?_), ?_, fun x h0 h1 => ?_, fun x h0 h1 => ?_, ?_⟩
      · rw [← hT]
        exact BB_u2 (BB_u2 hB (fun _ _ => ⟨by omega, by omega⟩)) (fun _ _ => trivial)
      · rw [e0]
        exact dn_congr q (e 22 (by decide) (by decide) _) (e 26 (by decide) (by decide) _) (e 10 (by decide) (by decide) _)
      · rw [e0]
        exact hcv.congr e8 e24 (fun k hk x => e k (by omega) (by omega) x)
      · rw [e8] at h1
        rw [e36, e21, e0]
        by_cases c : x = s
        · rw [if_pos c, if_pos c, if_pos (by omega)]
          omega
        · rw [if_neg c, if_neg c]
          exact hU x h0 h1
      · rw [e8] at h1
        rw [e 22 (by decide) (by decide), e 18 (by decide) (by decide), e24]
        exact hms x h0 h1
      · refine hz.congr e8 e24 (fun k hk x hx => ?_) (fun x => e 23 (by decide) (by decide) x) (fun k hk x _ => e k (by omega) (by omega) x)
        rcases hk with rfl | rfl | rfl | rfl | rfl
        · exact e 16 (by decide) (by decide) x
        · exact e 17 (by decide) (by decide) x
        · exact e 18 (by decide) (by decide) x
        · rw [e21, if_neg (by omega)]
        · rw [e36, if_neg (by omega)]
theorem Inv.conv {S : SS} (hI : Inv S) {w f : Int} : Inv (opConv S w f).2 := by
  unfold opConv
  by_cases c1 : ¬ ((0 ≤ w ∧ w ≤ 1) ∧ (0 ≤ f ∧ f ≤ 9999))
  · rw [if_pos c1]; exact hI
  · rw [if_neg c1]
    by_cases c2 : f ≤ S 0 0
    · rw [if_pos c2]; exact hI
    · rw [if_neg c2]
      by_cases c3 : S 24 0 = 12
      · rw [if_pos c3]; exact hI
      · rw [if_neg c3]
        dsimp only
        obtain ⟨hB, hM, hcv, hU, hms, hz⟩ := hI
        have hm := hB.m
        simp only [bsm] at hm
        generalize hT : u2 (u2 (u2 S 25 (S 24 0) w) 26 (S 24 0) f) 24 0 (S 24 0 + 1) = T
        have e : ∀ k, k ≠ 24 → k ≠ 25 → k ≠ 26 → ∀ x, T k x = S k x := fun k a b c x => by rw [← hT, u2_ne a, u2_ne c, u2_ne b]
        have e24 : T 24 0 = S 24 0 + 1 := by rw [← hT, u2_self]
        have e26 : ∀ x, T 26 x = if x = S 24 0 then f else S 26 x := fun x => by rw [← hT, u2_ne (by decide), u2_at, u2_ne (by decide)]
        have e0 := e 0 (by decide) (by decide) (by decide) 0
        have e8 := e 8 (by decide) (by decide) (by decide) 0
        have e22 := e 22 (by decide) (by decide) (by decide)
        have e10 := e 10 (by decide) (by decide) (by decide)
        have e27 := e 27 (by decide) (by decide) (by decide)
        have e28 := e 28 (by decide) (by decide) (by decide)
        have e29 := e 29 (by decide) (by decide) (by decide)
        have e30 := e 30 (by decide) (by decide) (by decide)
        have z := hz.2.2 (S 24 0) (by omega) (by omega)
        refine ⟨?_, (hM.oth (T := T) (fun k hk x => e k (by omega) (by omega) (by omega) x)).mono (fun s h0 h1 q => ?_), fun c h0 h1 => ?_, fun x h0 h1 => ?_, fun x h0 h1 => ?_, ?_⟩
        · rw [← hT]
          exact BB_u2 (BB_u2 (BB_u2 hB (fun _ _ => by show w = 0 ∨ w = 1; omega)) (fun _ _ => ⟨by omega, by omega⟩)) (fun _ _ => ⟨by omega, by omega⟩)
        · rw [e8] at h1
          rw [e0]
          have := (hms s h0 h1).1
          exact dn_congr q (e22 _) (by rw [e26, if_neg (by omega)]) (e10 _)
        · rw [e24] at h1
          rw [e0]
          by_cases cc : c = S 24 0
          · subst cc
            unfold CVp
            simp only [e27, e28, e29, e30, e22, e10, z.1, z.2]
            refine ⟨fun k k0 k1 => by omega, fun k k0 k1 => by omega, fun _ => ⟨fun k k0 k1 => by omega, fun k k0 k1 => by omega, fun k k' k0 k1 => by omega, fun k k' k0 k1 => by omega, fun k k' k0 k1 => by omega⟩⟩
          · have := hcv c h0 (by omega)
            unfold CVp at this ⊢
            simp only [e27, e28, e29, e30, e22, e10, e8]
            rw [e26, if_neg cc]
            exact this
        · rw [e8] at h1
          rw [e 36 (by decide) (by decide) (by decide), e 21 (by decide) (by decide) (by decide), e0]
          exact hU x h0 h1
        · rw [e8] at h1
          rw [e22, e 18 (by decide) (by decide) (by decide), e24]
          have := hms x h0 h1
          exact ⟨by omega, this.2⟩
        · refine ⟨hz.1.congr e8 (fun x _ => e 16 (by decide) (by decide) (by decide) x) (e 23 (by decide) (by decide) (by decide)), fun s h0 h1 => ?_, fun c h0 h1 => ?_⟩
          · rw [e8] at h0
            rw [e 17 (by decide) (by decide) (by decide), e 18 (by decide) (by decide) (by decide), e 21 (by decide) (by decide) (by decide), e 36 (by decide) (by decide) (by decide)]
            exact hz.2.1 s h0 h1
          · rw [e24] at h0
            rw [e27, e29]
            exact hz.2.2 c (by omega) h1
theorem Inv.book {S : SS} (hI : Inv S) {c s : Int} : Inv (opBook S c s).2 := by
  unfold opBook
  by_cases c1 : ¬ ((0 ≤ c ∧ c ≤ S 24 0 - 1) ∧ (0 ≤ s ∧ s ≤ S 8 0 - 1))
  · rw [if_pos c1]; exact hI
  · rw [if_neg c1]
    by_cases c2 : S 9 s ≠ S 25 c ∨ S 22 s ≠ -4 ∨ S 18 s ≠ 0 ∨ S 26 c ≤ S 0 0 ∨ S 10 s < S 0 0
    · rw [if_pos c2]; exact hI
    · rw [if_neg c2]
      by_cases c3 : S 27 c = 8
      · rw [if_pos c3]; exact hI
      · rw [if_neg c3]
        dsimp only
        obtain ⟨hB, hM, hcv, hU, hms, hz⟩ := hI
        have hm := hB.m
        simp only [bsm] at hm
        have hbc := hB.cv (c := c) (by omega) (by omega)
        simp only [bcv] at hbc
        have h22 : S 22 s = -4 := by omega
        generalize hT : u2 (u2 (u2 S 28 (8 * c + S 27 c) s) 27 c (S 27 c + 1)) 22 s c = T
        have e : ∀ k, k ≠ 28 → k ≠ 27 → k ≠ 22 → ∀ x, T k x = S k x := fun k a b d x => by rw [← hT, u2_ne d, u2_ne b, u2_ne a]
        have e22 : ∀ x, T 22 x = if x = s then c else S 22 x := fun x => by rw [← hT, u2_at, u2_ne (by decide), u2_ne (by decide)]
        have e27 : ∀ x, T 27 x = if x = c then S 27 c + 1 else S 27 x := fun x => by rw [← hT, u2_ne (by decide), u2_at, u2_ne (by decide)]
        have e28 : ∀ x, T 28 x = if x = 8 * c + S 27 c then s else S 28 x := fun x => by rw [← hT, u2_ne (by decide), u2_ne (by decide), u2_at]
        have e0 := e 0 (by decide) (by decide) (by decide) 0
        have e8 := e 8 (by decide) (by decide) (by decide) 0
        have e24 := e 24 (by decide) (by decide) (by decide) 0
        have e10 := e 10 (by decide) (by decide) (by decide)
        have e26 := e 26 (by decide) (by decide) (by decide)
        have e29 := e 29 (by decide) (by decide) (by decide)
        have e30 := e 30 (by decide) (by decide) (by decide)
        refine ⟨?_, (hM.oth (T := T) (fun k hk x => e k (by omega) (by omega) (by omega) x)).mono (fun x h0 h1 q => ?_), fun c' h0 h1 => ?_, fun x h0 h1 => ?_, fun x h0 h1 => ?_, ?_⟩
        · rw [← hT]
          exact BB_u2 (BB_u2 (BB_u2 hB (fun _ _ => ⟨by omega, by omega⟩)) (fun _ _ => ⟨by omega, by omega⟩)) (fun _ _ => ⟨by omega, by omega⟩)
        · rw [e0]
          have hx : x ≠ s := fun hx => by
            unfold dn at q
            rw [hx, h22] at q
            omega
          exact dn_congr q (by rw [e22, if_neg hx]) (e26 _) (e10 _)
        · rw [e24] at h1
          have hc' := hcv c' h0 h1
          have hcb := hB.cv (c := c') (by omega) (by omega)
          simp only [bcv] at hcb
          have nes : ∀ y, S 22 y = c' → y ≠ s := fun y hy e2 => by
            rw [e2] at hy
            omega
          have old : ∀ k : Int, 0 ≤ k → k < S 27 c' → T 28 (8 * c' + k) = S 28 (8 * c' + k) := fun k k0 k1 => by
            rw [e28, if_neg]
            intro e2
            have : c' = c := by omega
            rw [this] at k1 e2
            omega
          have sp : ∀ k : Int, 0 ≤ k → k < T 27 c' → k < S 27 c' ∨ (c' = c ∧ k = S 27 c) := fun k k0 k1 => by
            rw [e27] at k1
            by_cases d : c' = c
            · rw [if_pos d] at k1
              rw [d]
              omega
            · rw [if_neg d] at k1
              exact Or.inl k1
          have new : T 28 (8 * c + S 27 c) = s := by rw [e28, if_pos rfl]
          rw [e0]
          refine ⟨?_, ?_, ?_⟩
          · intro k k0 k1
            rw [e8]
            rcases sp k k0 k1 with d | ⟨rfl, rfl⟩
            · rw [old k k0 d]; exact hc'.1 k k0 d
            · rw [new]; omega
          · simp only [e29, e30, e8]
            exact hc'.2.1
          · intro hp
            rw [e26] at hp
            have hcp := hc'.2.2 hp
            refine ⟨?_, ?_, ?_, ?_, ?_⟩
            · intro k k0 k1
              rcases sp k k0 k1 with d | ⟨rfl, rfl⟩
              · rw [old k k0 d, e22, if_neg (nes _ (hcp.1 k k0 d))]
                exact hcp.1 k k0 d
              · rw [new, e22, if_pos rfl]
            · intro k k0 k1
              rw [e29] at k1
              rw [e30, e10, e22, if_neg (nes _ (hcp.2.1 k k0 k1).1)]
              exact hcp.2.1 k k0 k1
            · intro k k' k0 k1 k2 k3 e2
              rcases sp k k0 k1 with d | ⟨rfl, rfl⟩
              · rcases sp k' k2 k3 with d' | ⟨rfl, rfl⟩
                · rw [old k k0 d, old k' k2 d'] at e2
                  exact hcp.2.2.1 k k' k0 d k2 d' e2
                · rw [old k k0 d, new] at e2
                  exact absurd e2 (nes _ (hcp.1 k k0 d))
              · rcases sp k' k2 k3 with d' | ⟨-, rfl⟩
                · rw [old k' k2 d', new] at e2
                  exact absurd e2.symm (nes _ (hcp.1 k' k2 d'))
                · rfl
            · simp only [e29, e30]
              exact hcp.2.2.2.1
            · intro k k' k0 k1 k2 k3
              rw [e29] at k3
              rw [e30]
              rcases sp k k0 k1 with d | ⟨rfl, rfl⟩
              · rw [old k k0 d]
                exact hcp.2.2.2.2 k k' k0 d k2 k3
              · rw [new]
                exact (nes _ (hcp.2.1 k' k2 k3).1).symm
        · rw [e8] at h1
          rw [e 36 (by decide) (by decide) (by decide), e 21 (by decide) (by decide) (by decide), e0]
          exact hU x h0 h1
        · rw [e8] at h1
          rw [e22, e 18 (by decide) (by decide) (by decide), e24]
          by_cases hx : x = s
          · rw [if_pos hx]
            exact ⟨by omega, fun _ => by omega⟩
          · rw [if_neg hx]
            exact hms x h0 h1
        · refine hz.congr e8 e24 (fun k hk x _ => e k (by omega) (by omega) (by omega) x) (fun x => e 23 (by decide) (by decide) (by decide) x) (fun k hk x hx => ?_)
          rcases hk with rfl | rfl
          · rw [e27, if_neg (by omega)]
          · exact e29 x
theorem Inv.ship {S : SS} (hI : Inv S) {w m g d sl t : Int} (hg : g = 0 ∨ g = 1) (hsl : sl = 0 ∨ sl = 1) : Inv (opShip S w m g d sl t).2 := by
  unfold opShip
  by_cases c1 : ¬ ((0 ≤ w ∧ w ≤ 1) ∧ (0 ≤ m ∧ m ≤ 9999) ∧ (1 ≤ d ∧ d ≤ 45) ∧ (1 ≤ t ∧ t ≤ 200000))
  · rw [if_pos c1]; exact hI
  · rw [if_neg c1]
    by_cases c2 : m < S 0 0
    · rw [if_pos c2]; exact hI
    · rw [if_neg c2]
      by_cases c3 : S 8 0 = 30
      · rw [if_pos c3]; exact hI
      · rw [if_neg c3]
        dsimp only
        obtain ⟨hB, hM, hcv, hU, hms, hz⟩ := hI
        have hm := hB.m
        simp only [bsm] at hm
        generalize hT : u2 (u2 (u2 (u2 (u2 (u2 (u2 (u2 (u2 (u2 (u2 S 9 (S 8 0) w) 10 (S 8 0) m) 11 (S 8 0) g) 12 (S 8 0) d) 13 (S 8 0) sl) 14 (S 8 0) t) 15 (S 8 0) (-1)) 19 (S 8 0) (-4)) 20 (S 8 0) (-4)) 22 (S 8 0) (-4)) 8 0 (S 8 0 + 1) = T
        have e : ∀ k, k ≠ 8 → ∀ x, x ≠ S 8 0 → T k x = S k x := fun k hk x hx => by
          rw [← hT, u2_ne hk]
          simp only [u2]
          repeat rw [if_neg (fun q => hx q.2)]
        have f : ∀ k, (k = 0 ∨ k = 16 ∨ k = 17 ∨ k = 18 ∨ k = 21 ∨ 23 ≤ k) → ∀ x, T k x = S k x := fun k hk x => by
          rw [← hT]
          rw [u2_ne (by omega), u2_ne (by omega), u2_ne (by omega), u2_ne (by omega), u2_ne (by omega), u2_ne (by omega), u2_ne (by omega), u2_ne (by omega), u2_ne (by omega), u2_ne (by omega), u2_ne (by omega)]
        have e8 : T 8 0 = S 8 0 + 1 := by rw [← hT, u2_self]
        have n15 : T 15 (S 8 0) = -1 := by rw [← hT, u2_ne (by decide), u2_ne (by decide), u2_ne (by decide), u2_ne (by decide), u2_self]
        have n22 : T 22 (S 8 0) = -4 := by rw [← hT, u2_ne (by decide), u2_self]
        have e0 := f 0 (by decide) 0
        have e24 := f 24 (by decide) 0
        have e26 := f 26 (by decide)
        have e27 := f 27 (by decide)
        have e28 := f 28 (by decide)
        have e29 := f 29 (by decide)
        have e30 := f 30 (by decide)
        have e31 := f 31 (by decide)
        have e32 := f 32 (by decide)
        have e33 := f 33 (by decide)
        have e34 := f 34 (by decide)
        have zz := hz.2.1 (S 8 0) (by omega) (by omega)
        have zw := hz.1 (S 8 0) (by omega) (by omega)
        refine ⟨?_, ⟨?_, ?_, ?_, ?_, ?_, ?_, ?_⟩, fun c h0 h1 => ?_, fun x h0 h1 => ?_, fun x h0 h1 => ?_, ?_⟩
        · rw [← hT]
          refine BB_u2 (BB_u2 (BB_u2 (BB_u2 (BB_u2 (BB_u2 (BB_u2 (BB_u2 (BB_u2 (BB_u2 (BB_u2 hB ?_) ?_) ?_) ?_) ?_) ?_) ?_) ?_) ?_) ?_) ?_
          · exact fun _ _ => by show w = 0 ∨ w = 1; omega
          · exact fun _ _ => ⟨by omega, by omega⟩
          · exact fun _ _ => hg
          · exact fun _ _ => ⟨by omega, by omega⟩
          · exact fun _ _ => hsl
          · exact fun _ _ => ⟨by omega, by omega⟩
          · exact fun _ _ => ⟨by omega, by omega⟩
          · exact fun _ _ => trivial
          · exact fun _ _ => trivial
          · exact fun _ _ => ⟨by omega, by omega⟩
          · exact fun _ _ => ⟨by omega, by omega⟩
        · intro sec w k h0 h8 hw k0 k1
          rw [e33] at k1
          rw [e34, e8]
          have := hM.la sec w k h0 h8 hw k0 k1
          rw [e 9 (by decide) _ (by omega), e 15 (by decide) _ (by omega)]
          exact ⟨this.1, by omega, this.2.2⟩
        · simp only [e33, e34]
          exact hM.ld
        · intro s h0 h1 hh h3 h4
          rw [e8] at h1
          by_cases c : s = S 8 0
          · rw [c, n15] at h3
            omega
          · rw [e 15 (by decide) _ c] at h3 h4
            rw [e33, e 15 (by decide) _ c, e 9 (by decide) _ c]
            simp only [e34]
            exact hM.lc s h0 (by omega) hh h3 h4
        · intro w k hw k0 k1
          rw [e31] at k1
          rw [e32, e8, e0]
          have := hM.li w k hw k0 k1
          rw [e 9 (by decide) _ (by omega), e 15 (by decide) _ (by omega)]
          exact ⟨this.1, by omega, this.2.2.1, this.2.2.2.1, dn_congr this.2.2.2.2.1 (e 22 (by decide) _ (by omega)) (e26 _) (e 10 (by decide) _ (by omega)), this.2.2.2.2.2⟩
        · simp only [e31, e32]
          exact hM.lx
        · intro s h0 h1 h2
          rw [e8] at h1
          rw [e0]
          have c : s ≠ S 8 0 := fun c => h2 (by rw [c]; exact n15)
          rw [e 15 (by decide) _ c] at h2
          exact dn_congr (hM.pl s h0 (by omega) h2) (e 22 (by decide) _ c) (e26 _) (e 10 (by decide) _ c)
        · intro s h0 h1 hh h2
          rw [e8] at h1
          rw [f 16 (by decide)]
          by_cases c : s = S 8 0
          · rw [c]; exact zw.1
          · rw [e 15 (by decide) _ c] at h2
            exact hM.tg s h0 (by omega) hh h2
        · rw [e24] at h1
          have hc := hcv c h0 h1
          rw [e0, e26]
          refine ⟨?_, ?_, fun hp => ?_⟩
          · intro k k0 k1
            rw [e27] at k1
            rw [e28, e8]
            have := hc.1 k k0 k1
            omega
          · intro k k0 k1
            rw [e29] at k1
            rw [e30, e8]
            have := hc.2.1 k k0 k1
            omega
          · have hcp := hc.2.2 hp
            refine ⟨fun k k0 k1 => ?_, fun k k0 k1 => ?_, ?_, ?_, ?_⟩
            · rw [e27] at k1
              have := hc.1 k k0 k1
              rw [e28, e 22 (by decide) _ (by omega)]
              exact hcp.1 k k0 k1
            · rw [e29] at k1
              have := hc.2.1 k k0 k1
              rw [e30, e 22 (by decide) _ (by omega), e 10 (by decide) _ (by omega)]
              exact hcp.2.1 k k0 k1
            · simp only [e27, e28]; exact hcp.2.2.1
            · simp only [e29, e30]; exact hcp.2.2.2.1
            · simp only [e27, e28, e29, e30]; exact hcp.2.2.2.2
        · rw [e8] at h1
          rw [f 36 (by decide), f 21 (by decide), e0]
          by_cases c : x = S 8 0
          · rw [c, zz.2.2.1, zz.2.2.2, if_neg (by omega)]
            exact ⟨by decide, rfl⟩
          · exact hU x h0 (by omega)
        · rw [e8] at h1
          rw [f 18 (by decide), e24]
          by_cases c : x = S 8 0
          · rw [c, n22, zz.2.1]
            exact ⟨by omega, fun q => absurd rfl q⟩
          · rw [e 22 (by decide) _ c]
            exact hms x h0 (by omega)
        · refine ⟨fun s h0 h1 => ?_, fun s h0 h1 => ?_, fun c h0 h1 => ?_⟩
          · rw [e8] at h0
            rw [f 16 (by decide)]
            simp only [f 23 (by decide)]
            exact hz.1 s (by omega) h1
          · rw [e8] at h0
            rw [f 17 (by decide), f 18 (by decide), f 21 (by decide), f 36 (by decide)]
            exact hz.2.1 s (by omega) h1
          · rw [e24] at h0
            rw [e27, e29]
            exact hz.2.2 c h0 h1
