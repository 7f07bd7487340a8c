/-! ===== convoys, late ships, a whole minute ===== -/
def dn (S : SS) (t s : Int) : Prop := 0 ≤ S 22 s ∧ S 26 (S 22 s) < t ∧ S 10 s < t
def CVp (S : SS) (T c : Int) : Prop := (∀ k : Int, 0 ≤ k → k < S 27 c → S 22 (S 28 (8 * c + k)) = c) ∧ (∀ k : Int, 0 ≤ k → k < S 29 c → S 22 (S 30 (30 * c + k)) = c ∧ S 10 (S 30 (30 * c + k)) < T) ∧ (∀ k k' : Int, 0 ≤ k → k < S 27 c → 0 ≤ k' → k' < S 27 c → S 28 (8 * c + k) = S 28 (8 * c + k') → k = k') ∧ (∀ k k' : Int, 0 ≤ k → k < S 29 c → 0 ≤ k' → k' < S 29 c → S 30 (30 * c + k) = S 30 (30 * c + k') → k = k') ∧ ∀ k k' : Int, 0 ≤ k → k < S 27 c → 0 ≤ k' → k' < S 29 c → S 28 (8 * c + k) ≠ S 30 (30 * c + k')
def CV (S : SS) (T : Int) : Prop := ∀ c : Int, 0 ≤ c → c < S 24 0 → (∀ k : Int, 0 ≤ k → k < S 27 c → 0 ≤ S 28 (8 * c + k) ∧ S 28 (8 * c + k) < S 8 0) ∧ (∀ k : Int, 0 ≤ k → k < S 29 c → 0 ≤ S 30 (30 * c + k) ∧ S 30 (30 * c + k) < S 8 0) ∧ (T ≤ S 26 c → CVp S T c)
def Ms (S : SS) : Prop := ∀ s : Int, 0 ≤ s → s < S 8 0 → S 22 s < S 24 0 ∧ (S 18 s ≠ 0 → S 22 s ≠ -4)
def Zr (S : SS) : Prop := Zw S ∧ (∀ s : Int, S 8 0 ≤ s → s < 30 → S 17 s = 0 ∧ S 18 s = 0 ∧ S 21 s = 0 ∧ S 36 s = 0) ∧ ∀ c : Int, S 24 0 ≤ c → c < 12 → S 27 c = 0 ∧ S 29 c = 0
/-- what holds between calls -/
def Inv (S : SS) : Prop := BB S ∧ MIh (dn S (S 0 0)) S (-1) ∧ CV S (S 0 0) ∧ UN S ∧ Ms S ∧ Zr S
theorem CV.next {S : SS} {t : Int} (h : CV S t) : CV S (t + 1) := fun c h0 h1 => by
  have := h c h0 h1
  refine ⟨this.1, this.2.1, fun h2 => ?_⟩
  have p := this.2.2 (by omega)
  exact ⟨p.1, fun k k0 k1 => ⟨(p.2.1 k k0 k1).1, by have := (p.2.1 k k0 k1).2; omega⟩, p.2.2⟩
theorem CV.congr {S T : SS} {t : Int} (h : CV S t) (e8 : T 8 0 = S 8 0) (e24 : T 24 0 = S 24 0) (e : ∀ k, (k = 22 ∨ k = 26 ∨ k = 27 ∨ k = 28 ∨ k = 29 ∨ k = 30 ∨ k = 10) → ∀ x, T k x = S k x) : CV T t := by
  intro c h0 h1
  rw [e24] at h1
  have := h c h0 h1
  have e22 := e 22 (by decide)
  have e26 := e 26 (by decide)
  have e27 := e 27 (by decide)
  have e28 := e 28 (by decide)
  have e29 := e 29 (by decide)
  have e30 := e 30 (by decide)
  have e10 := e 10 (by decide)
  simp only [CVp, e22, e26, e27, e28, e29, e30, e10, e8] at this ⊢
  exact this
def Ψ1 (S : SS) (c s : Int) : Prop := dn S (S 0 0) s ∨ (0 ≤ S 22 s ∧ S 22 s < c ∧ S 26 (S 22 s) = S 0 0 ∧ S 10 s ≤ S 0 0)
def ΨB (S : SS) (c : Int) (n : Nat) (s : Int) : Prop := Ψ1 S c s ∨ (S 22 s = c ∧ S 10 s ≤ S 0 0 ∧ ∃ j : Nat, j < n ∧ S 28 (8 * c + j) = s)
def ΨP (S : SS) (c : Int) (n : Nat) (s : Int) : Prop := ΨB S c (S 27 c).toNat s ∨ (S 22 s = c ∧ S 10 s ≤ S 0 0 ∧ ∃ j : Nat, j < n ∧ S 30 (30 * c + j) = s)
theorem stB_ok {X S : SS} {c : Int} (eX : ∀ k, k ≠ 31 → k ≠ 32 → ∀ x, X k x = S k x) (hB : BB X) (hM : MIh (Ψ1 S c) X (-1)) (hc : 0 ≤ c ∧ c < S 24 0) (hcv : CV S (S 0 0)) (h26 : S 26 c = S 0 0) : ∀ n : Nat, n ≤ (S 27 c).toNat → BB (stB X c n) ∧ MIh (ΨB S c n) (stB X c n) (-1) ∧ ∀ k : Nat, k < n → S 10 (S 28 (8 * c + k)) ≤ S 0 0 → JOK (stB X c k) (S 28 (8 * c + k)) := by
  intro n
  induction n with
  | zero => exact fun _ => ⟨hB, hM.mono (fun s _ _ h => Or.inl h), fun k hk => absurd hk (by omega)⟩
  | succ n ih =>
    intro hn
    obtain ⟨h1, h2, h3⟩ := ih (by omega)
    have hp := hcv c hc.1 hc.2
    have hpp := hp.2.2 (by omega)
    have hv := hp.1 n (by omega) (by omega)
    have h22 := hpp.1 n (by omega) (by omega)
    have eS : ∀ k, k ≠ 31 → k ≠ 32 → ∀ x, stB X c n k x = S k x := fun k a b x => by rw [stB_ne a b, eX k a b]
    have hnn : ¬ ΨB S c n (S 28 (8 * c + n)) := by
      rintro ((h | h) | h)
      · have := h.2.1
        rw [h22] at this
        omega
      · omega
      · obtain ⟨j, j1, j2⟩ := h.2.2
        have := hpp.2.2.1 j n (by omega) (by omega) (by omega) (by omega) j2
        omega
    have hs : 0 ≤ S 28 (8 * c + n) ∧ S 28 (8 * c + n) < stB X c n 8 0 := by rw [eS 8 (by decide) (by decide)]; exact hv
    have hj := h2.jok h1 hs hnn
    have hm : ∀ x, 0 ≤ x → x < stB X c n 8 0 → ΨB S c n x → ΨB S c (n + 1) x := fun x _ _ h => h.imp id (fun q => ⟨q.1, q.2.1, q.2.2.elim fun j q => ⟨j, by omega, q.2⟩⟩)
    simp only [stB]
    rw [eX 28 (by decide) (by decide), eX 10 (by decide) (by decide), eX 0 (by decide) (by decide)]
    by_cases ca : S 10 (S 28 (8 * c + n)) ≤ S 0 0
    · rw [if_pos ca]
      have h30 := h1.m
      simp only [bsm] at h30
      refine ⟨BB_jn h1 (by omega) hj, h2.join h1 hs hnn hm (Or.inr ⟨h22, ca, n, by omega, rfl⟩), fun k hk hk2 => ?_⟩
      by_cases hkn : k = n
      · rw [hkn]; exact hj
      · exact h3 k (by omega) hk2
    · rw [if_neg ca]
      refine ⟨h1, h2.mono hm, fun k hk hk2 => ?_⟩
      by_cases hkn : k = n
      · rw [hkn] at hk2; exact absurd hk2 ca
      · exact h3 k (by omega) hk2
theorem stP_ok {X S : SS} {c : Int} (eX : ∀ k, k ≠ 31 → k ≠ 32 → ∀ x, X k x = S k x) (hB : BB X) (hM : MIh (ΨB S c (S 27 c).toNat) X (-1)) (hc : 0 ≤ c ∧ c < S 24 0) (hcv : CV S (S 0 0)) (h26 : S 26 c = S 0 0) : ∀ n : Nat, n ≤ (S 29 c).toNat → BB (stP X c n) ∧ MIh (ΨP S c n) (stP X c n) (-1) ∧ ∀ k : Nat, k < n → JOK (stP X c k) (S 30 (30 * c + k)) := by
  intro n
  induction n with
  | zero => exact fun _ => ⟨hB, hM.mono (fun s _ _ h => Or.inl h), fun k hk => absurd hk (by omega)⟩
  | succ n ih =>
    intro hn
    obtain ⟨h1, h2, h3⟩ := ih (by omega)
    have hp := hcv c hc.1 hc.2
    have hpp := hp.2.2 (by omega)
    have hv := hp.2.1 n (by omega) (by omega)
    have h22 := hpp.2.1 n (by omega) (by omega)
    have eS : ∀ k, k ≠ 31 → k ≠ 32 → ∀ x, stP X c n k x = S k x := fun k a b x => by rw [stP_ne a b, eX k a b]
    have hnn : ¬ ΨP S c n (S 30 (30 * c + n)) := by
      rintro (((h | h) | h) | h)
      · have := h.2.1
        rw [h22.1] at this
        omega
      · omega
      · obtain ⟨j, j1, j2⟩ := h.2.2
        exact hpp.2.2.2.2 j n (by omega) (by omega) (by omega) (by omega) j2
      · obtain ⟨j, j1, j2⟩ := h.2.2
        have := hpp.2.2.2.1 j n (by omega) (by omega) (by omega) (by omega) j2
        omega
    have hs : 0 ≤ S 30 (30 * c + n) ∧ S 30 (30 * c + n) < stP X c n 8 0 := by rw [eS 8 (by decide) (by decide)]; exact hv
    have hj := h2.jok h1 hs hnn
    have hm : ∀ x, 0 ≤ x → x < stP X c n 8 0 → ΨP S c n x → ΨP S c (n + 1) x := fun x _ _ h => h.imp id (fun q => ⟨q.1, q.2.1, q.2.2.elim fun j q => ⟨j, by omega, q.2⟩⟩)
    simp only [stP]
    rw [eX 30 (by decide) (by decide)]
    have h30 := h1.m
    simp only [bsm] at h30
    refine ⟨BB_jn h1 (by omega) hj, h2.join h1 hs hnn hm (Or.inr ⟨h22.1, by omega, n, by omega, rfl⟩), fun k hk => ?_⟩
    by_cases hkn : k = n
    · rw [hkn]; exact hj
    · exact h3 k (by omega)
theorem sts_ok {S : SS} (hI : Inv S) : ∀ n : Nat, (n : Int) ≤ S 24 0 → BB (sts S n) ∧ MIh (Ψ1 S n) (sts S n) (-1) ∧ ∀ k : Nat, k < n → okC (sts S k) k := by
  obtain ⟨hB, hM, hcv, -⟩ := hI
  intro n
  induction n with
  | zero => exact fun _ => ⟨hB, hM.mono (fun s _ _ h => Or.inl h), fun k hk => absurd hk (by omega)⟩
  | succ n ih =>
    intro hn
    obtain ⟨h1, h2, h3⟩ := ih (by omega)
    have eX : ∀ k, k ≠ 31 → k ≠ 32 → ∀ x, sts S n k x = S k x := fun k a b x => sts_ne a b n x
    have hm : ∀ x, 0 ≤ x → x < sts S n 8 0 → Ψ1 S n x → Ψ1 S (n + 1) x := fun x _ _ h => h.imp id (fun q => ⟨q.1, by omega, q.2.2⟩)
    have key : okC (sts S n) n ∧ BB (stC (sts S n) n) ∧ MIh (Ψ1 S ((n : Int) + 1)) (stC (sts S n) n) (-1) := by
      unfold okC stC
      rw [eX 26 (by decide) (by decide), eX 0 (by decide) (by decide), eX 27 (by decide) (by decide), eX 29 (by decide) (by decide)]
      by_cases c : S 26 n = S 0 0
      · rw [if_pos c]
        obtain ⟨b1, b2, b3⟩ := stB_ok eX h1 h2 ⟨by omega, by omega⟩ hcv c _ (Nat.le_refl _)
        obtain ⟨p1, p2, p3⟩ := stP_ok (X := stB (sts S n) n (S 27 n).toNat) (fun k a b x => by rw [stB_ne a b, eX k a b]) b1 b2 ⟨by omega, by omega⟩ hcv c _ (Nat.le_refl _)
        refine ⟨fun _ => ⟨fun k hk hk2 => ?_, fun k hk => ?_⟩, p1, p2.mono ?_⟩
        · rw [eX 28 (by decide) (by decide)] at hk2 ⊢
          rw [eX 10 (by decide) (by decide)] at hk2
          exact b3 k hk hk2
        · rw [eX 30 (by decide) (by decide)]
          exact p3 k hk
        · rintro x - - (((h | h) | h) | h)
          · exact Or.inl h
          · exact Or.inr ⟨h.1, by omega, h.2.2⟩
          · exact Or.inr ⟨by omega, by omega, by rw [h.1]; exact c, h.2.1⟩
          · exact Or.inr ⟨by omega, by omega, by rw [h.1]; exact c, h.2.1⟩
      · rw [if_neg c]
        exact ⟨fun q => absurd q c, h1, h2.mono hm⟩
    refine ⟨key.2.1, ?_, fun k hk => ?_⟩
    · exact key.2.2
    · by_cases hkn : k = n
      · rw [hkn]; exact key.1
      · exact h3 k (by omega)
theorem nx_sp (S : SS) (w : Int) : ∀ n : Nat, 0 ≤ nx S w n → nx S w n < n ∧ S 25 (nx S w n) = w ∧ S 0 0 < S 26 (nx S w n) := by
  intro n
  induction n with
  | zero => intro h; simp only [nx] at h; exact absurd h (by decide)
  | succ n ih =>
    intro h
    simp only [nx] at h ⊢
    by_cases c : (S 25 n = w ∧ S 0 0 < S 26 n) ∧ (nx S w n < 0 ∨ S 26 n < S 26 (nx S w n))
    · rw [if_pos c]
      exact ⟨by omega, c.1.1, c.1.2⟩
    · rw [if_neg c] at h ⊢
      have := ih h
      exact ⟨by omega, this.2⟩
def Ψ2 (n : Int) (X : SS) (s : Int) : Prop := (0 ≤ X 22 s ∧ X 26 (X 22 s) ≤ X 0 0 ∧ X 10 s ≤ X 0 0) ∧ ¬ (X 10 s = X 0 0 ∧ X 26 (X 22 s) < X 0 0 ∧ n ≤ s)
def Lt (n : Int) (X : SS) : Prop := BB X ∧ MIh (Ψ2 n X) X (-1) ∧ CV X (X 0 0 + 1) ∧ Ms X ∧ Zr X
theorem Zr.congr {S T : SS} (h : Zr S) (e8 : T 8 0 = S 8 0) (e24 : T 24 0 = S 24 0) (es : ∀ k, (k = 16 ∨ k = 17 ∨ k = 18 ∨ k = 21 ∨ k = 36) → ∀ x, S 8 0 ≤ x → T k x = S k x) (e23 : ∀ x, T 23 x = S 23 x) (ec : ∀ k, (k = 27 ∨ k = 29) → ∀ x, S 24 0 ≤ x → T k x = S k x) : Zr T := by
  refine ⟨h.1.congr e8 (es 16 (by decide)) e23, fun s h0 h1 => ?_, fun c h0 h1 => ?_⟩
  · rw [e8] at h0
    rw [es 17 (by decide) s h0, es 18 (by decide) s h0, es 21 (by decide) s h0, es 36 (by decide) s h0]
    exact h.2.1 s h0 h1
  · rw [e24] at h0
    rw [ec 27 (by decide) c h0, ec 29 (by decide) c h0]
    exact h.2.2 c h0 h1
theorem MIh.oth {Ω : Int → Prop} {S T : SS} {h : Int} (H : MIh Ω S h) (e : ∀ k, (k = 8 ∨ k = 9 ∨ k = 15 ∨ k = 16 ∨ k = 31 ∨ k = 32 ∨ k = 33 ∨ k = 34) → ∀ x, T k x = S k x) : MIh Ω T h :=
  H.congr (e 8 (by decide) 0) (e 9 (by decide)) (e 15 (by decide)) (fun x q => by rw [e 16 (by decide)]; exact q) (e 31 (by decide)) (e 32 (by decide)) (e 33 (by decide)) (e 34 (by decide))
theorem lt1_ok {X : SS} {s : Nat} (hs : (s : Int) < X 8 0) (h : Lt s X) : okL X s ∧ Lt ((s : Int) + 1) (lt1 X s) := by
  obtain ⟨hB, hM, hcv, hms, hz⟩ := h
  have hm := hB.m
  simp only [bsm] at hm
  have hsh := hB.sh (s := (s : Int)) (by omega) (by omega)
  simp only [bsh] at hsh
  unfold okL lt1
  by_cases c : X 10 s = X 0 0 ∧ 0 ≤ X 22 s ∧ X 26 (X 22 s) < X 0 0
  · rw [if_pos c]
    have hnn : ¬ Ψ2 s X s := fun q => q.2 ⟨c.1, c.2.2, by omega⟩
    have hj := hM.jok hB ⟨by omega, hs⟩ hnn
    have eY : ∀ k, k ≠ 17 → ∀ x, u2 X 17 s 1 k x = X k x := fun k hk x => u2_ne hk _ _ _
    have hBY : BB (u2 X 17 s 1) := BB_u2 hB (fun _ _ => Or.inr rfl)
    have hMY : MIh (Ψ2 s X) (u2 X 17 s 1) (-1) := hM.oth (fun k hk x => eY k (by omega) x)
    have hnx := nx_sp X (X 9 s) (X 24 0).toNat
    generalize hcn : nx X (X 9 s) (X 24 0).toNat = q at hnx ⊢
    have hput : X 2 0 ≠ 1 → 0 ≤ q → X 29 q < 30 := by
      intro _ h0
      have n1 := hnx h0
      have hq := hcv q h0 (by omega)
      have hqp := hq.2.2 (by omega)
      have hcvq := hB.cv (c := q) (by omega) (by omega)
      simp only [bcv] at hcvq
      have key := pig 30 ((X 29 q).toNat + 1) (fun i => if i < (X 29 q).toNat then X 30 (30 * q + i) else s) (fun k hk => by
        by_cases c : k < (X 29 q).toNat
        · simp only [if_pos c]
          have a := hq.2.1 k (by omega) (by omega)
          omega
        · simp only [if_neg c]
          omega) (fun i j hi hj e => by
        have ne : ∀ k : Nat, k < (X 29 q).toNat → X 30 (30 * q + k) ≠ s := fun k hk e2 => by
          have a := (hqp.2.1 k (by omega) (by omega)).1
          rw [e2] at a
          rw [a] at c
          omega
        by_cases c : i < (X 29 q).toNat <;> by_cases d : j < (X 29 q).toNat
        · simp only [if_pos c, if_pos d] at e
          have := hqp.2.2.2.1 i j (by omega) (by omega) (by omega) (by omega) e
          omega
        · simp only [if_pos c, if_neg d] at e
          exact absurd e (ne i c)
        · simp only [if_neg c, if_pos d] at e
          exact absurd e.symm (ne j d)
        · omega)
      omega
    refine ⟨fun _ => ⟨fun _ => hj, hput⟩, ?_⟩
    by_cases c2 : X 2 0 = 1
    · rw [if_pos c2]
      have e : ∀ k, k ≠ 17 → k ≠ 31 → k ≠ 32 → ∀ x, jn (u2 X 17 s 1) s k x = X k x := fun k h1 h2 h3 x => by rw [jn_ne h2 h3, eY k h1]
      have m : ∀ x, Ψ2 s X x → Ψ2 ((s : Int) + 1) (jn (u2 X 17 s 1) s) x := fun x q => by
        unfold Ψ2 at q ⊢
        rw [e 22 (by decide) (by decide) (by decide), e 26 (by decide) (by decide) (by decide), e 0 (by decide) (by decide) (by decide), e 10 (by decide) (by decide) (by decide)]
        exact ⟨q.1, fun r => q.2 ⟨r.1, r.2.1, by omega⟩⟩
      refine ⟨BB_jn hBY (by omega) (JOK_u17 hj), hMY.join hBY ⟨by omega, by rw [eY 8 (by decide)]; exact hs⟩ hnn (fun x _ _ q => m x q) ?_, ?_, ?_, ?_⟩
      · unfold Ψ2
        rw [e 22 (by decide) (by decide) (by decide), e 26 (by decide) (by decide) (by decide), e 0 (by decide) (by decide) (by decide), e 10 (by decide) (by decide) (by decide)]
        exact ⟨⟨c.2.1, by omega, by omega⟩, fun r => by omega⟩
      · rw [e 0 (by decide) (by decide) (by decide)]
        exact hcv.congr (e 8 (by decide) (by decide) (by decide) _) (e 24 (by decide) (by decide) (by decide) _) (fun k hk x => e k (by omega) (by omega) (by omega) x)
      · intro x h0 h1
        rw [e 8 (by decide) (by decide) (by decide)] at h1
        rw [e 22 (by decide) (by decide) (by decide), e 24 (by decide) (by decide) (by decide), e 18 (by decide) (by decide) (by decide)]
        exact hms x h0 h1
      · refine hz.congr (e 8 (by decide) (by decide) (by decide) _) (e 24 (by decide) (by decide) (by decide) _) (fun k hk x hx => ?_) (fun x => e 23 (by decide) (by decide) (by decide) x) (fun k hk x hx => e k (by omega) (by omega) (by omega) x)
        rw [jn_ne (by omega) (by omega)]
        simp only [u2]
        rw [if_neg (by omega)]
    · rw [if_neg c2]
      unfold ltT
      by_cases c3 : q < 0
      · rw [if_pos c3]
        have e : ∀ k, k ≠ 17 → k ≠ 18 → ∀ x, u2 (u2 X 17 s 1) 18 s 1 k x = X k x := fun k h1 h2 x => by rw [u2_ne h2, eY k h1]
        refine ⟨BB_u2 hBY (fun _ _ => Or.inr rfl), (hM.oth (fun k hk x => e k (by omega) (by omega) x)).mono (fun x _ _ q => ?_), ?_, ?_, ?_⟩
        · unfold Ψ2 at q ⊢
          rw [e 22 (by decide) (by decide), e 26 (by decide) (by decide), e 0 (by decide) (by decide), e 10 (by decide) (by decide)]
          exact ⟨q.1, fun r => q.2 ⟨r.1, r.2.1, by omega⟩⟩
        · rw [e 0 (by decide) (by decide)]
          exact hcv.congr (e 8 (by decide) (by decide) _) (e 24 (by decide) (by decide) _) (fun k hk x => e k (by omega) (by omega) x)
        · intro x h0 h1
          rw [e 8 (by decide) (by decide)] at h1
          rw [e 22 (by decide) (by decide), e 24 (by decide) (by decide)]
          have := hms x h0 h1
          refine ⟨this.1, fun h18 => ?_⟩
          by_cases hx : x = s
          · rw [hx]; omega
          · rw [u2_at, if_neg hx, eY 18 (by decide)] at h18
            exact this.2 h18
        · refine hz.congr (e 8 (by decide) (by decide) _) (e 24 (by decide) (by decide) _) (fun k hk x hx => ?_) (fun x => e 23 (by decide) (by decide) x) (fun k hk x hx => e k (by omega) (by omega) x)
          simp only [u2]
          rw [if_neg (by omega), if_neg (by omega)]
      · rw [if_neg c3]
        have n1 := hnx (by omega)
        have h29 := hput c2 (by omega)
        have hq := hcv q (by omega) (by omega)
        have hqp := hq.2.2 (by omega)
        have hcvq := hB.cv (c := q) (by omega) (by omega)
        simp only [bcv] at hcvq
        rw [eY 29 (by decide)]
        generalize hT : u2 (u2 (u2 (u2 X 17 s 1) 30 (30 * q + X 29 q) s) 29 q (X 29 q + 1)) 22 s q = T
        have e : ∀ k, k ≠ 17 → k ≠ 30 → k ≠ 29 → k ≠ 22 → ∀ x, T k x = X k x := fun k h1 h2 h3 h4 x => by rw [← hT, u2_ne h4, u2_ne h3, u2_ne h2, eY k h1]
        have e22 : ∀ x, T 22 x = if x = s then q else X 22 x := fun x => by rw [← hT, u2_at, u2_ne (by decide), u2_ne (by decide), eY 22 (by decide)]
        have e29 : ∀ x, T 29 x = if x = q then X 29 q + 1 else X 29 x := fun x => by rw [← hT, u2_ne (by decide), u2_at, u2_ne (by decide), eY 29 (by decide)]
        have e30 : ∀ x, T 30 x = if x = 30 * q + X 29 q then (s : Int) else X 30 x := fun x => by rw [← hT, u2_ne (by decide), u2_ne (by decide), u2_at, eY 30 (by decide)]
        have e8 := e 8 (by decide) (by decide) (by decide) (by decide)
        have e10 := e 10 (by decide) (by decide) (by decide) (by decide)
        have e24 := e 24 (by decide) (by decide) (by decide) (by decide)
        have e26 := e 26 (by decide) (by decide) (by decide) (by decide)
        have e27 := e 27 (by decide) (by decide) (by decide) (by decide)
        have e28 := e 28 (by decide) (by decide) (by decide) (by decide)
        have e0 := e 0 (by decide) (by decide) (by decide) (by decide)
        refine ⟨?_, (hM.oth (fun k hk x => e k (by omega) (by omega) (by omega) (by omega) x)).mono (fun x _ _ q2 => ?_), ?_, ?_, ?_⟩
        · rw [← hT]
          exact BB_u2 (BB_u2 (BB_u2 hBY (fun _ _ => ⟨by omega, by omega⟩)) (fun _ _ => ⟨by omega, by omega⟩)) (fun _ _ => ⟨by omega, by omega⟩)
        · have hx : x ≠ s := fun hx => hnn (hx ▸ q2)
          unfold Ψ2 at q2 ⊢
          rw [e22, if_neg hx, e26, e0, e10]
          exact ⟨q2.1, fun r => q2.2 ⟨r.1, r.2.1, by omega⟩⟩
        · rw [e0]
          intro c' h0 h1
          rw [e24] at h1
          have hc' := hcv c' h0 h1
          have hcb := hB.cv (c := c') (by omega) (by omega)
          simp only [bcv] at hcb
          have nes : X 0 0 + 1 ≤ X 26 c' → ∀ y, X 22 y = c' → y ≠ s := fun hp y hy e2 => by
            rw [e2] at hy
            rw [hy] at c
            omega
          have old : ∀ k : Int, 0 ≤ k → k < X 29 c' → T 30 (30 * c' + k) = X 30 (30 * c' + k) := fun k k0 k1 => by
            rw [e30, if_neg]
            intro e2
            have : c' = q := by omega
            rw [this] at k1 e2
            omega
          have sp : ∀ k : Int, 0 ≤ k → k < T 29 c' → k < X 29 c' ∨ (c' = q ∧ k = X 29 q) := fun k k0 k1 => by
            rw [e29] at k1
            by_cases d : c' = q
            · rw [if_pos d] at k1
              rw [d]
              omega
            · rw [if_neg d] at k1
              exact Or.inl k1
          have new : T 30 (30 * q + X 29 q) = s := by rw [e30, if_pos rfl]
          refine ⟨?_, ?_, ?_⟩
          · simp only [e27, e28, e8]
            exact hc'.1
          · intro k k0 k1
            rw [e8]
            rcases sp k k0 k1 with d | ⟨rfl, rfl⟩
            · rw [old k k0 d]; exact hc'.2.1 k k0 d
            · rw [new]; omega
          · intro hp
            rw [e26] at hp
            have hcp := hc'.2.2 hp
            refine ⟨?_, ?_, ?_, ?_, ?_⟩
            · intro k k0 k1
              rw [e27] at k1
              rw [e28, e22, if_neg (nes hp _ (hcp.1 k k0 k1))]
              exact hcp.1 k k0 k1
            · intro k k0 k1
              rw [e10]
              rcases sp k k0 k1 with d | ⟨rfl, rfl⟩
              · rw [old k k0 d, e22, if_neg (nes hp _ (hcp.2.1 k k0 d).1)]
                exact hcp.2.1 k k0 d
              · rw [new, e22, if_pos rfl]
                exact ⟨rfl, by omega⟩
            · simp only [e27, e28]
              exact hcp.2.2.1
            · intro k k' k0 k1 k2 k3 e2
              rcases sp k k0 k1 with d | ⟨rfl, rfl⟩
              · rcases sp k' k2 k3 with d' | ⟨rfl, rfl⟩
                · rw [old k k0 d, old k' k2 d'] at e2
                  exact hcp.2.2.2.1 k k' k0 d k2 d' e2
                · rw [old k k0 d, new] at e2
                  exact absurd e2 (nes hp _ (hcp.2.1 k k0 d).1)
              · rcases sp k' k2 k3 with d' | ⟨-, rfl⟩
                · rw [old k' k2 d', new] at e2
                  exact absurd e2.symm (nes hp _ (hcp.2.1 k' k2 d').1)
                · rfl
            · intro k k' k0 k1 k2 k3
              rw [e27] at k1
              rw [e28]
              rcases sp k' k2 k3 with d' | ⟨rfl, rfl⟩
              · rw [old k' k2 d']
                exact hcp.2.2.2.2 k k' k0 k1 k2 d'
              · rw [new]
                exact nes hp _ (hcp.1 k k0 k1)
        · intro x h0 h1
          rw [e8] at h1
          rw [e24, e22, e 18 (by decide) (by decide) (by decide) (by decide)]
          by_cases hx : x = s
          · rw [if_pos hx]
            exact ⟨by omega, fun _ => by omega⟩
          · rw [if_neg hx]
            exact hms x h0 h1
        · refine hz.congr (e8 0) (e24 0) (fun k hk x hx => ?_) (fun x => e 23 (by decide) (by decide) (by decide) (by decide) x) (fun k hk x hx => ?_)
          · rw [← hT]
            simp only [u2]
            rw [if_neg (by omega), if_neg (by omega), if_neg (by omega), if_neg (by omega)]
          · rcases hk with rfl | rfl
            · exact e27 x
            · rw [e29, if_neg (by omega)]
  · rw [if_neg c]
    refine ⟨fun q => absurd q c, hB, hM.mono (fun x _ _ q => ?_), hcv, hms, hz⟩
    unfold Ψ2 at q ⊢
    exact ⟨q.1, fun r => q.2 ⟨r.1, r.2.1, by omega⟩⟩
theorem lts_ok {X : SS} (h : Lt 0 X) : ∀ n : Nat, (n : Int) ≤ X 8 0 → Lt n (lts X n) ∧ ∀ k : Nat, k < n → okL (lts X k) k := by
  intro n
  induction n with
  | zero => exact fun _ => ⟨h, fun k hk => absurd hk (by omega)⟩
  | succ n ih =>
    intro hn
    obtain ⟨h1, h2⟩ := ih (by omega)
    have e8 : lts X n 8 0 = X 8 0 := lts_ne (by decide) (by decide) (by decide) (by decide) (by decide) (by decide) (by decide) n 0
    have := lt1_ok (s := n) (by omega) h1
    refine ⟨this.2, fun k hk => ?_⟩
    by_cases hkn : k = n
    · rw [hkn]; exact this.1
    · exact h2 k (by omega)
