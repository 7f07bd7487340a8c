/-! ===== the invariant: where the ships are ===== -/
theorem pig : ∀ (N n : Nat) (f : Nat → Int), (∀ k, k < n → 0 ≤ f k ∧ f k < N) → (∀ i j, i < n → j < n → f i = f j → i = j) → n ≤ N := by
  intro N
  induction N with
  | zero =>
    intro n f h1 _
    by_cases h : n = 0
    · omega
    · have := h1 0 (by omega)
      omega
  | succ N ih =>
    intro n f h1 h2
    by_cases hex : ∃ k, k < n ∧ f k = (N : Int)
    · obtain ⟨k0, hk0, e0⟩ := hex
      have := ih (n - 1) (fun i => if i < k0 then f i else f (i + 1)) (fun i hi => by
        by_cases c : i < k0
        · simp only [if_pos c]
          have a := h1 i (by omega)
          have b : f i ≠ N := fun q => by have := h2 i k0 (by omega) hk0 (q.trans e0.symm); omega
          omega
        · simp only [if_neg c]
          have a := h1 (i + 1) (by omega)
          have b : f (i + 1) ≠ N := fun q => by have := h2 (i + 1) k0 (by omega) hk0 (q.trans e0.symm); omega
          omega) (fun i j hi hj e => by
        by_cases c : i < k0 <;> by_cases d : j < k0
        · simp only [if_pos c, if_pos d] at e
          exact h2 i j (by omega) (by omega) e
        · simp only [if_pos c, if_neg d] at e
          have := h2 i (j + 1) (by omega) (by omega) e
          omega
        · simp only [if_neg c, if_pos d] at e
          have := h2 (i + 1) j (by omega) (by omega) e
          omega
        · simp only [if_neg c, if_neg d] at e
          have := h2 (i + 1) (j + 1) (by omega) (by omega) e
          omega)
      omega
    · have := ih n f (fun k hk => by
        have a := h1 k hk
        have b : f k ≠ N := fun q => hex ⟨k, hk, q⟩
        omega) h2
      omega
/-- where the ships are; h: a ship that is under way between two places -/
def MIh (Ω : Int → Prop) (S : SS) (h : Int) : Prop :=
  (∀ sec w k : Int, 0 ≤ sec → sec < 8 → (w = 0 ∨ w = 1) → 0 ≤ k → k < S 33 (2 * sec + w) → 0 ≤ S 34 (30 * (2 * sec + w) + k) ∧ S 34 (30 * (2 * sec + w) + k) < S 8 0 ∧ S 9 (S 34 (30 * (2 * sec + w) + k)) = w ∧ S 15 (S 34 (30 * (2 * sec + w) + k)) = sec ∧ S 34 (30 * (2 * sec + w) + k) ≠ h) ∧
  (∀ sec w k k' : Int, 0 ≤ sec → sec < 8 → (w = 0 ∨ w = 1) → 0 ≤ k → k < S 33 (2 * sec + w) → 0 ≤ k' → k' < S 33 (2 * sec + w) → S 34 (30 * (2 * sec + w) + k) = S 34 (30 * (2 * sec + w) + k') → k = k') ∧
  (∀ s : Int, 0 ≤ s → s < S 8 0 → s ≠ h → 0 ≤ S 15 s → S 15 s ≤ 7 → ∃ k, 0 ≤ k ∧ k < S 33 (2 * S 15 s + S 9 s) ∧ S 34 (30 * (2 * S 15 s + S 9 s) + k) = s) ∧
  (∀ w k : Int, (w = 0 ∨ w = 1) → 0 ≤ k → k < S 31 w → 0 ≤ S 32 (30 * w + k) ∧ S 32 (30 * w + k) < S 8 0 ∧ S 9 (S 32 (30 * w + k)) = w ∧ S 15 (S 32 (30 * w + k)) = -1 ∧ Ω (S 32 (30 * w + k)) ∧ S 32 (30 * w + k) ≠ h) ∧
  (∀ w k k' : Int, (w = 0 ∨ w = 1) → 0 ≤ k → k < S 31 w → 0 ≤ k' → k' < S 31 w → S 32 (30 * w + k) = S 32 (30 * w + k') → k = k') ∧
  (∀ s : Int, 0 ≤ s → s < S 8 0 → S 15 s ≠ -1 → Ω s) ∧
  (∀ s : Int, 0 ≤ s → s < S 8 0 → s ≠ h → ¬ (0 ≤ S 15 s ∧ S 15 s ≤ 7) → S 16 s = 0)
theorem MIh.la {Ω : Int → Prop} {S : SS} {h : Int} (H : MIh Ω S h) : ∀ sec w k : Int, 0 ≤ sec → sec < 8 → (w = 0 ∨ w = 1) → 0 ≤ k → k < S 33 (2 * sec + w) → 0 ≤ S 34 (30 * (2 * sec + w) + k) ∧ S 34 (30 * (2 * sec + w) + k) < S 8 0 ∧ S 9 (S 34 (30 * (2 * sec + w) + k)) = w ∧ S 15 (S 34 (30 * (2 * sec + w) + k)) = sec ∧ S 34 (30 * (2 * sec + w) + k) ≠ h := H.1
theorem MIh.ld {Ω : Int → Prop} {S : SS} {h : Int} (H : MIh Ω S h) : ∀ sec w k k' : Int, 0 ≤ sec → sec < 8 → (w = 0 ∨ w = 1) → 0 ≤ k → k < S 33 (2 * sec + w) → 0 ≤ k' → k' < S 33 (2 * sec + w) → S 34 (30 * (2 * sec + w) + k) = S 34 (30 * (2 * sec + w) + k') → k = k' := H.2.1
theorem MIh.lc {Ω : Int → Prop} {S : SS} {h : Int} (H : MIh Ω S h) : ∀ s : Int, 0 ≤ s → s < S 8 0 → s ≠ h → 0 ≤ S 15 s → S 15 s ≤ 7 → ∃ k, 0 ≤ k ∧ k < S 33 (2 * S 15 s + S 9 s) ∧ S 34 (30 * (2 * S 15 s + S 9 s) + k) = s := H.2.2.1
theorem MIh.li {Ω : Int → Prop} {S : SS} {h : Int} (H : MIh Ω S h) : ∀ w k : Int, (w = 0 ∨ w = 1) → 0 ≤ k → k < S 31 w → 0 ≤ S 32 (30 * w + k) ∧ S 32 (30 * w + k) < S 8 0 ∧ S 9 (S 32 (30 * w + k)) = w ∧ S 15 (S 32 (30 * w + k)) = -1 ∧ Ω (S 32 (30 * w + k)) ∧ S 32 (30 * w + k) ≠ h := H.2.2.2.1
theorem MIh.lx {Ω : Int → Prop} {S : SS} {h : Int} (H : MIh Ω S h) : ∀ w k k' : Int, (w = 0 ∨ w = 1) → 0 ≤ k → k < S 31 w → 0 ≤ k' → k' < S 31 w → S 32 (30 * w + k) = S 32 (30 * w + k') → k = k' := H.2.2.2.2.1
theorem MIh.pl {Ω : Int → Prop} {S : SS} {h : Int} (H : MIh Ω S h) : ∀ s : Int, 0 ≤ s → s < S 8 0 → S 15 s ≠ -1 → Ω s := H.2.2.2.2.2.1
theorem MIh.tg {Ω : Int → Prop} {S : SS} {h : Int} (H : MIh Ω S h) : ∀ s : Int, 0 ≤ s → s < S 8 0 → s ≠ h → ¬ (0 ≤ S 15 s ∧ S 15 s ≤ 7) → S 16 s = 0 := H.2.2.2.2.2.2
theorem MIh.mono {Ω Ω' : Int → Prop} {S : SS} {h : Int} (H : MIh Ω S h) (m : ∀ s, 0 ≤ s → s < S 8 0 → Ω s → Ω' s) : MIh Ω' S h :=
  ⟨H.la, H.ld, H.lc, fun w k hw h0 h1 => by
    have a := H.li w k hw h0 h1
    exact ⟨a.1, a.2.1, a.2.2.1, a.2.2.2.1, m _ a.1 a.2.1 a.2.2.2.2.1, a.2.2.2.2.2⟩, H.lx, fun s h0 h1 h2 => m s h0 h1 (H.pl s h0 h1 h2), H.tg⟩
theorem MIh.congr {Ω : Int → Prop} {S T : SS} {h : Int} (H : MIh Ω S h) (e8 : T 8 0 = S 8 0) (e9 : ∀ x, T 9 x = S 9 x) (e15 : ∀ x, T 15 x = S 15 x) (e16 : ∀ x, S 16 x = 0 → T 16 x = 0) (e31 : ∀ x, T 31 x = S 31 x) (e32 : ∀ x, T 32 x = S 32 x) (e33 : ∀ x, T 33 x = S 33 x) (e34 : ∀ x, T 34 x = S 34 x) : MIh Ω T h := by
  refine ⟨?_, ?_, ?_, ?_, ?_, ?_, ?_⟩
  · simp only [e33, e34, e8, e9, e15]; exact H.la
  · simp only [e33, e34]; exact H.ld
  · simp only [e33, e34, e8, e9, e15]; exact H.lc
  · simp only [e31, e32, e8, e9, e15]; exact H.li
  · simp only [e31, e32]; exact H.lx
  · simp only [e8, e15]; exact H.pl
  · simp only [e8, e15]; exact fun s a b c d => e16 s (H.tg s a b c d)
/-- a ship that was not yet let go comes behind its line: there is room -/
theorem MIh.jok {Ω : Int → Prop} {S : SS} (H : MIh Ω S (-1)) (hB : BB S) {s : Int} (hs : 0 ≤ s ∧ s < S 8 0) (hn : ¬ Ω s) : JOK S s := by
  have hm := hB.m
  simp only [bsm] at hm
  have hsh := hB.sh (s := s) (by omega) (by omega)
  simp only [bsh] at hsh
  have hln := hB.ln (w := S 9 s) (by omega) (by omega)
  refine ⟨hln.1, ?_⟩
  have key := pig 30 ((S 31 (S 9 s)).toNat + 1) (fun i => if i < (S 31 (S 9 s)).toNat then S 32 (30 * S 9 s + i) else s) (fun k hk => by
    by_cases c : k < (S 31 (S 9 s)).toNat
    · simp only [if_pos c]
      have a := H.li (S 9 s) k (by omega) (by omega) (by omega)
      omega
    · simp only [if_neg c]
      omega) (fun i j hi hj e => by
    have ne : ∀ k : Nat, k < (S 31 (S 9 s)).toNat → S 32 (30 * S 9 s + k) ≠ s := fun k hk q => by
      have a := H.li (S 9 s) k (by omega) (by omega) (by omega)
      exact hn (q ▸ a.2.2.2.2.1)
    by_cases c : i < (S 31 (S 9 s)).toNat <;> by_cases d : j < (S 31 (S 9 s)).toNat
    · simp only [if_pos c, if_pos d] at e
      have := H.lx (S 9 s) i j (by omega) (by omega) (by omega) (by omega) (by omega) e
      omega
    · simp only [if_pos c, if_neg d] at e
      exact absurd e (ne i c)
    · simp only [if_neg c, if_pos d] at e
      exact absurd e.symm (ne j d)
    · omega)
  omega
theorem jn_31 (S : SS) (s x : Int) : jn S s 31 x = if x = S 9 s then S 31 (S 9 s) + 1 else S 31 x := by
  simp only [jn]
  rw [u2_at, u2_ne (by decide)]
theorem jn_32 (S : SS) (s x : Int) : jn S s 32 x = if x = 30 * S 9 s + S 31 (S 9 s) then s else S 32 x := by
  simp only [jn]
  rw [u2_ne (by decide), u2_at]
theorem MIh.join {Ω Ω' : Int → Prop} {S : SS} (H : MIh Ω S (-1)) (hB : BB S) {s : Int} (hs : 0 ≤ s ∧ s < S 8 0) (hn : ¬ Ω s) (m : ∀ x, 0 ≤ x → x < S 8 0 → Ω x → Ω' x) (hs' : Ω' s) : MIh Ω' (jn S s) (-1) := by
  have hm := hB.m
  simp only [bsm] at hm
  have hsh := hB.sh (s := s) (by omega) (by omega)
  simp only [bsh] at hsh
  have hj := H.jok hB hs hn
  unfold JOK at hj
  have hln := fun (w : Int) (q0 : 0 ≤ w) (q1 : w < 2) => hB.ln q0 q1
  have h15 : S 15 s = -1 := Classical.byContradiction fun q => hn (H.pl s hs.1 hs.2 q)
  have e : ∀ k, k ≠ 31 → k ≠ 32 → ∀ x, jn S s k x = S k x := fun k h1 h2 x => jn_ne h1 h2 x
  have at_new : jn S s 32 (30 * S 9 s + S 31 (S 9 s)) = s := by rw [jn_32, if_pos rfl]
  have at_old : ∀ w k : Int, (w = 0 ∨ w = 1) → 0 ≤ k → k < S 31 w → jn S s 32 (30 * w + k) = S 32 (30 * w + k) := fun w k hw h0 h1 => by
    have := hln w (by omega) (by omega)
    rw [jn_32, if_neg]
    intro q
    have : w = S 9 s := by omega
    subst this
    omega
  have split : ∀ w k : Int, (w = 0 ∨ w = 1) → 0 ≤ k → k < jn S s 31 w → k < S 31 w ∨ (w = S 9 s ∧ k = S 31 (S 9 s)) := fun w k hw h0 h1 => by
    rw [jn_31] at h1
    by_cases c : w = S 9 s
    · rw [if_pos c] at h1
      subst c
      omega
    · rw [if_neg c] at h1
      exact Or.inl h1
  have ne : ∀ k : Int, 0 ≤ k → k < S 31 (S 9 s) → S 32 (30 * S 9 s + k) ≠ s := fun k h0 hk q => by
    have a := H.li (S 9 s) k (by omega) h0 hk
    exact hn (q ▸ a.2.2.2.2.1)
  refine ⟨?_, ?_, ?_, ?_, ?_, ?_, ?_⟩
  · simp only [e 33 (by decide) (by decide), e 34 (by decide) (by decide), e 8 (by decide) (by decide), e 9 (by decide) (by decide), e 15 (by decide) (by decide)]
    exact H.la
  · simp only [e 33 (by decide) (by decide), e 34 (by decide) (by decide)]
    exact H.ld
  · simp only [e 33 (by decide) (by decide), e 34 (by decide) (by decide), e 8 (by decide) (by decide), e 9 (by decide) (by decide), e 15 (by decide) (by decide)]
    exact H.lc
  · intro w k hw h0 h1
    simp only [e 8 (by decide) (by decide), e 9 (by decide) (by decide), e 15 (by decide) (by decide)]
    rcases split w k hw h0 h1 with c | ⟨rfl, rfl⟩
    · rw [at_old w k hw h0 c]
      have a := H.li w k hw h0 c
      exact ⟨a.1, a.2.1, a.2.2.1, a.2.2.2.1, m _ a.1 a.2.1 a.2.2.2.2.1, a.2.2.2.2.2⟩
    · rw [at_new]
      exact ⟨hs.1, hs.2, rfl, h15, hs', by omega⟩
  · intro w k k' hw h0 h1 h2 h3 q
    rcases split w k hw h0 h1 with c | ⟨rfl, rfl⟩
    · rcases split w k' hw h2 h3 with d | ⟨rfl, rfl⟩
      · rw [at_old w k hw h0 c, at_old w k' hw h2 d] at q
        exact H.lx w k k' hw h0 c h2 d q
      · rw [at_old _ k hw h0 c, at_new] at q
        exact absurd q (ne k h0 c)
    · rcases split _ k' hw h2 h3 with d | ⟨-, rfl⟩
      · rw [at_old _ k' hw h2 d, at_new] at q
        exact absurd q.symm (ne k' h2 d)
      · rfl
  · simp only [e 8 (by decide) (by decide), e 15 (by decide) (by decide)]
    exact fun x h0 h1 h2 => m x h0 h1 (H.pl x h0 h1 h2)
  · simp only [e 8 (by decide) (by decide), e 15 (by decide) (by decide), e 16 (by decide) (by decide)]
    exact H.tg
theorem MIh.took {Ω : Int → Prop} {S : SS} {h : Int} (H : MIh Ω S h) (s : Int) : MIh Ω (tk S s) h :=
  H.congr (tk_ne (by decide) _) (tk_ne (by decide)) (tk_ne (by decide)) (fun x q => by
    simp only [tk]
    rw [u2_at]
    by_cases c : x = s
    · subst c
      rw [if_pos rfl, if_neg (by omega)]
      omega
    · rw [if_neg c]; exact q) (tk_ne (by decide)) (tk_ne (by decide)) (tk_ne (by decide)) (tk_ne (by decide))
theorem MIh.wtd {Ω : Int → Prop} {S : SS} {h : Int} (H : MIh Ω S h) (x : Int) : MIh Ω (wt S x) h :=
  H.congr (wt_ne (by decide) _) (wt_ne (by decide)) (wt_ne (by decide)) (fun x q => by rw [wt_ne (by decide)]; exact q) (wt_ne (by decide)) (wt_ne (by decide)) (wt_ne (by decide)) (wt_ne (by decide))
/-- the first of a lane leaves it -/
theorem MIh.left {Ω : Int → Prop} {S : SS} (H : MIh Ω S (-1)) (hB : BB S) {sec w : Int} (h0 : 0 ≤ sec) (h8 : sec < 8) (hw : w = 0 ∨ w = 1) (h1 : 1 ≤ S 33 (2 * sec + w)) : MIh Ω (lvs S sec w) (S 34 (30 * (2 * sec + w))) := by
  have hM := fun (a : Int) (q0 : 0 ≤ a) (q1 : a < 16) => (hB.iM q0 q1).1
  have e : ∀ k, k ≠ 33 → k ≠ 34 → ∀ x, lvs S sec w k x = S k x := fun k h1 h2 x => lvs_ne h1 h2 x
  have hf := H.la sec w 0 h0 h8 hw (by omega) (by omega)
  rw [Int.add_zero] at hf
  have atS : ∀ k : Int, 0 ≤ k → k < S 33 (2 * sec + w) - 1 → lvs S sec w 34 (30 * (2 * sec + w) + k) = S 34 (30 * (2 * sec + w) + (k + 1)) := fun k q0 q1 => by
    rw [lvs_at, if_pos (by omega), show 30 * (2 * sec + w) + k + 1 = 30 * (2 * sec + w) + (k + 1) by omega]
  have atO : ∀ sec' w' k : Int, 0 ≤ sec' → sec' < 8 → (w' = 0 ∨ w' = 1) → ¬ (sec' = sec ∧ w' = w) → 0 ≤ k → k < S 33 (2 * sec' + w') → lvs S sec w 34 (30 * (2 * sec' + w') + k) = S 34 (30 * (2 * sec' + w') + k) := fun sec' w' k a b c d q0 q1 => by
    have := hM (2 * sec' + w') (by omega) (by omega)
    have := hM (2 * sec + w) (by omega) (by omega)
    rw [lvs_at, if_neg (by omega)]
  have n33 : ∀ sec' w' : Int, (w' = 0 ∨ w' = 1) → ¬ (sec' = sec ∧ w' = w) → lvs S sec w 33 (2 * sec' + w') = S 33 (2 * sec' + w') := fun sec' w' c d => by
    rw [lvs_33, if_neg (by omega)]
  have s33 : lvs S sec w 33 (2 * sec + w) = S 33 (2 * sec + w) - 1 := by rw [lvs_33, if_pos rfl]
  refine ⟨?_, ?_, ?_, ?_, ?_, ?_, ?_⟩
  · intro sec' w' k a b c q0 q1
    simp only [e 8 (by decide) (by decide), e 9 (by decide) (by decide), e 15 (by decide) (by decide)]
    by_cases d : sec' = sec ∧ w' = w
    · obtain ⟨rfl, rfl⟩ := d
      rw [s33] at q1
      rw [atS k q0 q1]
      have := H.la sec' w' (k + 1) a b c (by omega) (by omega)
      refine ⟨this.1, this.2.1, this.2.2.1, this.2.2.2.1, fun q => ?_⟩
      have z := H.ld sec' w' (k + 1) 0 a b c (by omega) (by omega) (by omega) (by omega) (by rw [Int.add_zero]; exact q)
      omega
    · rw [n33 sec' w' c d] at q1
      rw [atO sec' w' k a b c d q0 q1]
      have := H.la sec' w' k a b c q0 q1
      refine ⟨this.1, this.2.1, this.2.2.1, this.2.2.2.1, fun q => d ?_⟩
      rw [q] at this
      exact ⟨by rw [← this.2.2.2.1, hf.2.2.2.1], by rw [← this.2.2.1, hf.2.2.1]⟩
  · intro sec' w' k k' a b c q0 q1 q2 q3 q
    by_cases d : sec' = sec ∧ w' = w
    · obtain ⟨rfl, rfl⟩ := d
      rw [s33] at q1 q3
      rw [atS k q0 q1, atS k' q2 q3] at q
      have := H.ld sec' w' (k + 1) (k' + 1) a b c (by omega) (by omega) (by omega) (by omega) q
      omega
    · rw [n33 sec' w' c d] at q1 q3
      rw [atO sec' w' k a b c d q0 q1, atO sec' w' k' a b c d q2 q3] at q
      exact H.ld sec' w' k k' a b c q0 q1 q2 q3 q
  · intro s a b c d1 d2
    simp only [e 8 (by decide) (by decide), e 9 (by decide) (by decide), e 15 (by decide) (by decide)] at *
    obtain ⟨k, k0, k1, k2⟩ := H.lc s a b (by omega) d1 d2
    have hm := hB.m
    simp only [bsm] at hm
    have hsh := hB.sh (s := s) (by omega) (by omega)
    simp only [bsh] at hsh
    by_cases d : S 15 s = sec ∧ S 9 s = w
    · rw [d.1, d.2] at k1 k2 ⊢
      have hk : k ≠ 0 := fun q => c (by rw [← k2, q, Int.add_zero])
      refine ⟨k - 1, by omega, by rw [s33]; omega, ?_⟩
      rw [atS (k - 1) (by omega) (by omega), show k - 1 + 1 = k by omega]
      exact k2
    · refine ⟨k, k0, ?_, ?_⟩
      · rw [n33 _ _ (by omega) d]; exact k1
      · rw [atO _ _ k (by omega) (by omega) (by omega) d k0 k1]; exact k2
  · intro w' k a b c
    simp only [e 8 (by decide) (by decide), e 9 (by decide) (by decide), e 15 (by decide) (by decide), e 31 (by decide) (by decide), e 32 (by decide) (by decide)] at *
    have := H.li w' k a b c
    refine ⟨this.1, this.2.1, this.2.2.1, this.2.2.2.1, this.2.2.2.2.1, fun q => ?_⟩
    rw [q] at this
    omega
  · simp only [e 31 (by decide) (by decide), e 32 (by decide) (by decide)]
    exact H.lx
  · simp only [e 8 (by decide) (by decide), e 15 (by decide) (by decide)]
    exact H.pl
  · simp only [e 8 (by decide) (by decide), e 15 (by decide) (by decide), e 16 (by decide) (by decide)]
    exact fun s a b c d => H.tg s a b (by omega) d
theorem ent_9 (S : SS) (s sec x : Int) {k : Nat} (h : k ≠ 15 ∧ k ≠ 16 ∧ k ≠ 33 ∧ k ≠ 34 ∧ k ≠ 35) : ent S s sec k x = S k x := by
  simp only [ent]
  rw [u2_ne h.2.1, u2_ne h.1, u2_ne h.2.2.2.2, u2_ne h.2.2.1, u2_ne h.2.2.2.1]
theorem ent_15 (S : SS) (s sec x : Int) : ent S s sec 15 x = if x = s then sec else S 15 x := by
  simp only [ent]
  rw [u2_ne (by decide), u2_at, u2_ne (by decide), u2_ne (by decide), u2_ne (by decide)]
theorem ent_16 (S : SS) (s sec x : Int) (h : x ≠ s) : ent S s sec 16 x = S 16 x := by
  simp only [ent]
  rw [u2_at, if_neg h, u2_ne (by decide), u2_ne (by decide), u2_ne (by decide), u2_ne (by decide)]
theorem ent_34 (S : SS) (s sec x : Int) : ent S s sec 34 x = if x = 30 * (2 * sec + S 9 s) + S 33 (2 * sec + S 9 s) then s else S 34 x := by
  simp only [ent]
  rw [u2_ne (by decide), u2_ne (by decide), u2_ne (by decide), u2_ne (by decide), u2_at]
/-- the ship under way comes into a section -/
theorem MIh.entd {Ω : Int → Prop} {S : SS} {s : Int} (H : MIh Ω S s) (hB : BB S) (hs : 0 ≤ s ∧ s < S 8 0) (hO : Ω s) {sec : Int} (h0 : 0 ≤ sec) (h8 : sec < 8) (h2 : S 33 (2 * sec + S 9 s) ≤ 2) : MIh Ω (ent S s sec) (-1) := by
  have hM := fun (a : Int) (q0 : 0 ≤ a) (q1 : a < 16) => (hB.iM q0 q1).1
  have hm := hB.m
  simp only [bsm] at hm
  have hsh := hB.sh (s := s) (by omega) (by omega)
  simp only [bsh] at hsh
  have e : ∀ k, (k ≠ 15 ∧ k ≠ 16 ∧ k ≠ 33 ∧ k ≠ 34 ∧ k ≠ 35) → ∀ x, ent S s sec k x = S k x := fun k h x => ent_9 S s sec x h
  have hMa := hM (2 * sec + S 9 s) (by omega) (by omega)
  have atN : ent S s sec 34 (30 * (2 * sec + S 9 s) + S 33 (2 * sec + S 9 s)) = s := by rw [ent_34, if_pos rfl]
  have atO : ∀ sec' w' k : Int, 0 ≤ sec' → sec' < 8 → (w' = 0 ∨ w' = 1) → 0 ≤ k → k < S 33 (2 * sec' + w') → ent S s sec 34 (30 * (2 * sec' + w') + k) = S 34 (30 * (2 * sec' + w') + k) := fun sec' w' k a b c q0 q1 => by
    have := hM (2 * sec' + w') (by omega) (by omega)
    rw [ent_34, if_neg]
    intro q
    have : 2 * sec' + w' = 2 * sec + S 9 s := by omega
    rw [this] at q1 q
    omega
  have sp : ∀ sec' w' k : Int, 0 ≤ sec' → sec' < 8 → (w' = 0 ∨ w' = 1) → 0 ≤ k → k < ent S s sec 33 (2 * sec' + w') → k < S 33 (2 * sec' + w') ∨ (sec' = sec ∧ w' = S 9 s ∧ k = S 33 (2 * sec + S 9 s)) := fun sec' w' k a b c q0 q1 => by
    rw [ent_33] at q1
    by_cases d : 2 * sec' + w' = 2 * sec + S 9 s
    · rw [if_pos d] at q1
      have d1 : sec' = sec := by omega
      have d2 : w' = S 9 s := by omega
      subst d1
      rw [d2]
      omega
    · rw [if_neg d] at q1
      exact Or.inl q1
  have ne : ∀ sec' w' k : Int, 0 ≤ sec' → sec' < 8 → (w' = 0 ∨ w' = 1) → 0 ≤ k → k < S 33 (2 * sec' + w') → S 34 (30 * (2 * sec' + w') + k) ≠ s := fun sec' w' k a b c q0 q1 => (H.la sec' w' k a b c q0 q1).2.2.2.2
  have h9 : S 9 s = 0 ∨ S 9 s = 1 := hsh.1
  refine ⟨?_, ?_, ?_, ?_, ?_, ?_, ?_⟩
  · intro sec' w' k a b c q0 q1
    simp only [e 8 (by decide), e 9 (by decide), ent_15]
    rcases sp sec' w' k a b c q0 q1 with d | ⟨rfl, rfl, rfl⟩
    · rw [atO sec' w' k a b c q0 d]
      have := H.la sec' w' k a b c q0 d
      rw [if_neg this.2.2.2.2]
      exact ⟨this.1, this.2.1, this.2.2.1, this.2.2.2.1, by omega⟩
    · rw [atN, if_pos rfl]
      exact ⟨hs.1, hs.2, rfl, rfl, by omega⟩
  · intro sec' w' k k' a b c q0 q1 q2 q3 q
    rcases sp sec' w' k a b c q0 q1 with d | ⟨rfl, rfl, rfl⟩
    · rcases sp sec' w' k' a b c q2 q3 with d' | ⟨rfl, rfl, rfl⟩
      · rw [atO sec' w' k a b c q0 d, atO sec' w' k' a b c q2 d'] at q
        exact H.ld sec' w' k k' a b c q0 d q2 d' q
      · rw [atO _ _ k a b c q0 d, atN] at q
        exact absurd q (ne _ _ k a b c q0 d)
    · rcases sp _ _ k' a b c q2 q3 with d' | ⟨-, -, rfl⟩
      · rw [atO _ _ k' a b c q2 d', atN] at q
        exact absurd q.symm (ne _ _ k' a b c q2 d')
      · rfl
  · intro x a b c d1 d2
    simp only [e 8 (by decide), e 9 (by decide), ent_15] at *
    by_cases hx : x = s
    · subst hx
      rw [if_pos rfl]
      exact ⟨S 33 (2 * sec + S 9 x), by omega, by rw [ent_33, if_pos rfl]; omega, atN⟩
    · rw [if_neg hx] at d1 d2 ⊢
      have hx9 := (hB.sh (s := x) (by omega) (by omega)).1
      obtain ⟨k, k0, k1, k2⟩ := H.lc x a b hx d1 d2
      refine ⟨k, k0, ?_, ?_⟩
      · rw [ent_33]
        by_cases d : 2 * S 15 x + S 9 x = 2 * sec + S 9 s
        · rw [if_pos d, ← d]; omega
        · rw [if_neg d]; exact k1
      · rw [atO _ _ k (by omega) (by omega) hx9 k0 k1]; exact k2
  · intro w' k a b c
    simp only [e 8 (by decide), e 9 (by decide), e 31 (by decide), e 32 (by decide), ent_15] at *
    have := H.li w' k a b c
    rw [if_neg this.2.2.2.2.2]
    exact ⟨this.1, this.2.1, this.2.2.1, this.2.2.2.1, this.2.2.2.2.1, by omega⟩
  · simp only [e 31 (by decide), e 32 (by decide)]
    exact H.lx
  · intro x a b c
    simp only [e 8 (by decide), ent_15] at *
    by_cases hx : x = s
    · rw [hx]; exact hO
    · rw [if_neg hx] at c
      exact H.pl x a b c
  · intro x a b c d
    simp only [e 8 (by decide), ent_15] at *
    by_cases hx : x = s
    · rw [if_pos hx] at d
      exact absurd ⟨h0, by omega⟩ d
    · rw [if_neg hx] at d
      rw [ent_16 _ _ _ _ hx]
      exact H.tg x a b hx d
/-- the ship under way is out -/
theorem MIh.out {Ω : Int → Prop} {S : SS} {s t : Int} (H : MIh Ω S s) (hs : 0 ≤ s ∧ s < S 8 0) (hO : Ω s) (h16 : S 16 s = 0) : MIh Ω (u2 (u2 S 15 s 8) 20 s t) (-1) := by
  have e : ∀ k, (k ≠ 15 ∧ k ≠ 20) → ∀ x, u2 (u2 S 15 s 8) 20 s t k x = S k x := fun k h x => by rw [u2_ne h.2, u2_ne h.1]
  have e15 : ∀ x, u2 (u2 S 15 s 8) 20 s t 15 x = if x = s then 8 else S 15 x := fun x => by rw [u2_ne (by decide), u2_at]
  refine ⟨?_, ?_, ?_, ?_, ?_, ?_, ?_⟩
  · intro sec' w' k a b c q0 q1
    simp only [e 8 (by decide), e 9 (by decide), e15, e 33 (by decide), e 34 (by decide)] at *
    have := H.la sec' w' k a b c q0 q1
    rw [if_neg this.2.2.2.2]
    exact ⟨this.1, this.2.1, this.2.2.1, this.2.2.2.1, by omega⟩
  · simp only [e 33 (by decide), e 34 (by decide)]
    exact H.ld
  · intro x a b c d1 d2
    simp only [e 8 (by decide), e 9 (by decide), e15, e 33 (by decide), e 34 (by decide)] at *
    by_cases hx : x = s
    · rw [if_pos hx] at d2; omega
    · rw [if_neg hx] at d1 d2 ⊢
      exact H.lc x a b hx d1 d2
  · intro w' k a b c
    simp only [e 8 (by decide), e 9 (by decide), e 31 (by decide), e 32 (by decide), e15] at *
    have := H.li w' k a b c
    rw [if_neg this.2.2.2.2.2]
    exact ⟨this.1, this.2.1, this.2.2.1, this.2.2.2.1, this.2.2.2.2.1, by omega⟩
  · simp only [e 31 (by decide), e 32 (by decide)]
    exact H.lx
  · intro x a b c
    simp only [e 8 (by decide), e15] at *
    by_cases hx : x = s
    · rw [hx]; exact hO
    · rw [if_neg hx] at c
      exact H.pl x a b c
  · intro x a b c d
    simp only [e 8 (by decide), e 16 (by decide), e15] at *
    by_cases hx : x = s
    · rw [hx]; exact h16
    · rw [if_neg hx] at d
      exact H.tg x a b hx d
/-- the first of a line leaves it -/
theorem MIh.lnPd {Ω : Int → Prop} {S : SS} (H : MIh Ω S (-1)) (hB : BB S) {w : Int} (hw : w = 0 ∨ w = 1) (h1 : 1 ≤ S 31 w) : MIh Ω (lnP S w) (S 32 (30 * w)) := by
  have e : ∀ k, k ≠ 31 → k ≠ 32 → ∀ x, lnP S w k x = S k x := fun k h1 h2 x => lnP_ne h1 h2 x
  have hln := fun (w : Int) (q0 : 0 ≤ w) (q1 : w < 2) => hB.ln q0 q1
  have hf := H.li w 0 hw (by omega) (by omega)
  rw [Int.add_zero] at hf
  have hlw := hln w (by omega) (by omega)
  have atS : ∀ k : Int, 0 ≤ k → k < S 31 w - 1 → lnP S w 32 (30 * w + k) = S 32 (30 * w + (k + 1)) := fun k q0 q1 => by
    rw [lnP_32, if_pos (by omega), show 30 * w + k + 1 = 30 * w + (k + 1) by omega]
  have atO : ∀ w' k : Int, (w' = 0 ∨ w' = 1) → w' ≠ w → 0 ≤ k → k < S 31 w' → lnP S w 32 (30 * w' + k) = S 32 (30 * w' + k) := fun w' k c d q0 q1 => by
    have := hln w' (by omega) (by omega)
    rw [lnP_32, if_neg (by omega)]
  refine ⟨?_, ?_, ?_, ?_, ?_, ?_, ?_⟩
  · simp only [e 33 (by decide) (by decide), e 34 (by decide) (by decide), e 8 (by decide) (by decide), e 9 (by decide) (by decide), e 15 (by decide) (by decide)]
    intro sec' w' k a b c q0 q1
    have := H.la sec' w' k a b c q0 q1
    refine ⟨this.1, this.2.1, this.2.2.1, this.2.2.2.1, fun q => ?_⟩
    rw [q] at this
    omega
  · simp only [e 33 (by decide) (by decide), e 34 (by decide) (by decide)]
    exact H.ld
  · simp only [e 33 (by decide) (by decide), e 34 (by decide) (by decide), e 8 (by decide) (by decide), e 9 (by decide) (by decide), e 15 (by decide) (by decide)]
    exact fun s a b _ d1 d2 => H.lc s a b (by omega) d1 d2
  · intro w' k a b c
    simp only [e 8 (by decide) (by decide), e 9 (by decide) (by decide), e 15 (by decide) (by decide), lnP_31] at *
    by_cases d : w' = w
    · subst d
      rw [if_pos rfl] at c
      rw [atS k b c]
      have := H.li w' (k + 1) a (by omega) (by omega)
      refine ⟨this.1, this.2.1, this.2.2.1, this.2.2.2.1, this.2.2.2.2.1, fun q => ?_⟩
      have z := H.lx w' (k + 1) 0 a (by omega) (by omega) (by omega) (by omega) (by rw [Int.add_zero]; exact q)
      omega
    · rw [if_neg d] at c
      rw [atO w' k a d b c]
      have := H.li w' k a b c
      refine ⟨this.1, this.2.1, this.2.2.1, this.2.2.2.1, this.2.2.2.2.1, fun q => d ?_⟩
      rw [q] at this
      rw [← this.2.2.1, hf.2.2.1]
  · intro w' k k' a b c b' c' q
    simp only [lnP_31] at c c'
    by_cases d : w' = w
    · subst d
      rw [if_pos rfl] at c c'
      rw [atS k b c, atS k' b' c'] at q
      have := H.lx w' (k + 1) (k' + 1) a (by omega) (by omega) (by omega) (by omega) q
      omega
    · rw [if_neg d] at c c'
      rw [atO w' k a d b c, atO w' k' a d b' c'] at q
      exact H.lx w' k k' a b c b' c' q
  · simp only [e 8 (by decide) (by decide), e 15 (by decide) (by decide)]
    exact H.pl
  · simp only [e 8 (by decide) (by decide), e 15 (by decide) (by decide), e 16 (by decide) (by decide)]
    exact fun s a b _ d => H.tg s a b (by omega) d
