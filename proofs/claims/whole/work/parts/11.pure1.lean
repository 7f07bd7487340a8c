/-! ===== what the functions leave as it is ===== -/
theorem jn_ne {S : SS} {s : Int} {k : Nat} (h1 : k ≠ 31) (h2 : k ≠ 32) (x : Int) : jn S s k x = S k x := by simp [jn, u2, h1, h2]
theorem stB_ne {S : SS} {c : Int} {k : Nat} (h1 : k ≠ 31) (h2 : k ≠ 32) (n : Nat) (x : Int) : stB S c n k x = S k x := by
  induction n with
  | zero => rfl
  | succ n ih =>
    simp only [stB]
    split
    · rw [jn_ne h1 h2, ih]
    · exact ih
theorem stP_ne {S : SS} {c : Int} {k : Nat} (h1 : k ≠ 31) (h2 : k ≠ 32) (n : Nat) (x : Int) : stP S c n k x = S k x := by
  induction n with
  | zero => rfl
  | succ n ih =>
    simp only [stP]
    rw [jn_ne h1 h2, ih]
theorem stC_ne {S : SS} {c : Int} {k : Nat} (h1 : k ≠ 31) (h2 : k ≠ 32) (x : Int) : stC S c k x = S k x := by
  simp only [stC]
  split
  · rw [stP_ne h1 h2, stB_ne h1 h2]
  · rfl
theorem sts_ne {S : SS} {k : Nat} (h1 : k ≠ 31) (h2 : k ≠ 32) (n : Nat) (x : Int) : sts S n k x = S k x := by
  induction n with
  | zero => rfl
  | succ n ih =>
    simp only [sts]
    rw [stC_ne h1 h2, ih]
theorem nx_bd (S : SS) (w : Int) (n : Nat) : nx S w n = -4 ∨ (0 ≤ nx S w n ∧ nx S w n < n) := by
  induction n with
  | zero => exact Or.inl rfl
  | succ n ih =>
    simp only [nx]
    split <;> omega
theorem nx_congr {S T : SS} (h0 : T 0 0 = S 0 0) (h1 : ∀ x, T 25 x = S 25 x) (h2 : ∀ x, T 26 x = S 26 x) (w : Int) (n : Nat) : nx T w n = nx S w n := by
  induction n with
  | zero => rfl
  | succ n ih => simp only [nx, ih, h0, h1, h2]
theorem wt_ne {S : SS} {y : Int} {k : Nat} (h : k ≠ 23) (x : Int) : wt S y k x = S k x := by simp [wt, u2, h]
theorem shf_ne {S : SS} {k0 k : Nat} {b : Int} (h : k ≠ k0) (n : Nat) (x : Int) : shf S k0 b n k x = S k x := by
  induction n with
  | zero => rfl
  | succ n ih =>
    simp only [shf]
    rw [u2_ne h, ih]
/-- what a shift leaves in the array itself -/
theorem shf_at (S : SS) (k : Nat) (b : Int) (n : Nat) (x : Int) : shf S k b n k x = if b ≤ x ∧ x < b + n then S k (x + 1) else S k x := by
  induction n generalizing x with
  | zero => simp only [shf]; rw [if_neg (by omega)]
  | succ n ih =>
    simp only [shf]
    rw [u2_at]
    by_cases h : x = b + n
    · subst h
      rw [if_pos rfl, ih, if_neg (by omega), if_pos (by omega)]
    · rw [if_neg h, ih]
      by_cases h2 : b ≤ x ∧ x < b + n
      · rw [if_pos h2, if_pos (by omega)]
      · rw [if_neg h2, if_neg (by omega)]
theorem shf_up (S : SS) (k : Nat) (b : Int) (n : Nat) : shf S k b n k (b + n + 1) = S k (b + n + 1) := by rw [shf_at, if_neg (by omega)]
theorem lvs_ne {S : SS} {sec w : Int} {k : Nat} (h1 : k ≠ 33) (h2 : k ≠ 34) (x : Int) : lvs S sec w k x = S k x := by
  simp only [lvs]
  rw [shf_ne h2, u2_ne h1]
theorem lvs_33 (S : SS) (sec w x : Int) : lvs S sec w 33 x = if x = 2 * sec + w then S 33 (2 * sec + w) - 1 else S 33 x := by
  simp only [lvs]
  rw [shf_ne (by decide), u2_at]
theorem qw_ne {S : SS} {w : Int} {k : Nat} (h : k ≠ 23) (n : Nat) (x : Int) : qw S w n k x = S k x := by
  induction n with
  | zero => rfl
  | succ n ih =>
    simp only [qw]
    rw [wt_ne h, ih]
theorem agd_ne {S : SS} {k : Nat} (h : k ≠ 21) (n : Nat) (x : Int) : agd S n k x = S k x := by
  induction n with
  | zero => rfl
  | succ n ih =>
    simp only [agd]
    rw [u2_ne h, ih]
theorem agd_hi {S : SS} (n : Nat) (x : Int) (h : (n : Int) ≤ x) : agd S n 21 x = S 21 x := by
  induction n with
  | zero => rfl
  | succ n ih =>
    simp only [agd]
    rw [u2_at, if_neg (by omega), ih (by omega)]
theorem exB_t {p : Nat → Bool} {n : Nat} (h : exB p n = true ∨ p n = true) : exB p (n + 1) = true := by
  rcases h with h | h <;> simp [exB, h]
theorem exB_f {p : Nat → Bool} {n : Nat} (h1 : exB p n = false) (h2 : p n = false) : exB p (n + 1) = false := by simp [exB, h1, h2]
theorem b2i_pos {b : Bool} (h : b2i b ≠ 0) : b = true := by
  cases b
  · exact absurd rfl h
  · rfl
theorem b2i_zero {b : Bool} (h : b2i b = 0) : b = false := by
  cases b
  · rfl
  · exact absurd h (by decide)
theorem lowF_le (S : SS) (n : Nat) : lowF S n ≤ n := by
  induction n with
  | zero => exact Nat.le_refl _
  | succ n ih =>
    simp only [lowF]
    split <;> omega
theorem cause_bd (S : SS) (s : Int) (sec : Nat) : -1 ≤ cause S s sec ∧ cause S s sec ≤ 5 := by
  simp only [cause]
  repeat (first | split | omega)
