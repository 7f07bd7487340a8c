/-! ===== bounds, place by place ===== -/
def rng (k : Nat) (v : Int) : Prop := match k with
  | 0 => 0 ≤ v ∧ v ≤ 10000
  | 1 => 0 ≤ v ∧ v ≤ 60
  | 2 => v = 0 ∨ v = 1
  | 3 => 1 ≤ v ∧ v ≤ 60
  | 4 => 1 ≤ v ∧ v ≤ 40
  | 5 => v = 0 ∨ v = 1
  | 6 => 0 ≤ v ∧ v ≤ 9
  | 7 => -1 ≤ v ∧ v ≤ 12
  | 8 => 0 ≤ v ∧ v ≤ 30
  | 9 => v = 0 ∨ v = 1
  | 10 => 0 ≤ v ∧ v ≤ 9999
  | 11 => v = 0 ∨ v = 1
  | 12 => 0 ≤ v ∧ v ≤ 45
  | 13 => v = 0 ∨ v = 1
  | 14 => 0 ≤ v ∧ v ≤ 200000
  | 15 => -1 ≤ v ∧ v ≤ 8
  | 16 => 0 ≤ v ∧ v ≤ 120
  | 17 => v = 0 ∨ v = 1
  | 18 => v = 0 ∨ v = 1
  | 21 => 0 ≤ v ∧ v ≤ 500
  | 22 => -4 ≤ v ∧ v < 12
  | 24 => 0 ≤ v ∧ v ≤ 12
  | 25 => v = 0 ∨ v = 1
  | 26 => 0 ≤ v ∧ v ≤ 9999
  | 27 => 0 ≤ v ∧ v ≤ 8
  | 28 => 0 ≤ v ∧ v < 30
  | 29 => 0 ≤ v ∧ v ≤ 30
  | 30 => 0 ≤ v ∧ v < 30
  | 31 => 0 ≤ v ∧ v ≤ 30
  | 32 => 0 ≤ v ∧ v < 30
  | 33 => 0 ≤ v ∧ v ≤ 3
  | 34 => 0 ≤ v ∧ v < 30
  | 35 => -1000 ≤ v ∧ v ≤ 10000
  | _ => True
def dml (k : Nat) : Int := match k with
  | 0 => 1
  | 1 => 1
  | 2 => 1
  | 3 => 8
  | 4 => 8
  | 5 => 8
  | 6 => 24
  | 7 => 24
  | 8 => 1
  | 23 => 210
  | 24 => 1
  | 25 => 12
  | 26 => 12
  | 27 => 12
  | 28 => 96
  | 29 => 12
  | 30 => 360
  | 31 => 2
  | 32 => 60
  | 33 => 16
  | 34 => 480
  | 35 => 16
  | _ => 30
def BQ (S : SS) : Prop := ∀ (k : Nat) (x : Int), 0 ≤ x → x < dml k → rng k (S k x)
theorem BQ.bb {S : SS} (h : BQ S) : BB S := by
  refine ⟨?_, fun s h0 h1 => ?_, fun s h0 h1 => ?_, fun s h0 h1 => ?_, fun s h0 h1 => ?_, fun s h0 h1 => ?_, fun s h0 h1 => ?_, fun s h0 h1 => ?_, fun s h0 h1 => ?_, fun s h0 h1 => ?_, fun s h0 h1 => ?_⟩
  · exact ⟨h 0 0 (by decide) (by decide), h 1 0 (by decide) (by decide), h 2 0 (by decide) (by decide), h 8 0 (by decide) (by decide), h 24 0 (by decide) (by decide)⟩
  · exact ⟨h 9 s h0 h1, h 10 s h0 h1, h 11 s h0 h1, h 12 s h0 h1, h 13 s h0 h1, h 14 s h0 h1, h 15 s h0 h1, h 16 s h0 h1, h 17 s h0 h1, h 18 s h0 h1, h 21 s h0 h1, h 22 s h0 h1⟩
  · exact ⟨h 25 s h0 h1, h 26 s h0 h1, h 27 s h0 h1, h 29 s h0 h1⟩
  · exact ⟨h 3 s h0 h1, h 4 s h0 h1, h 5 s h0 h1⟩
  · exact ⟨h 6 s h0 h1, h 7 s h0 h1⟩
  · exact h 31 s h0 h1
  · exact ⟨h 33 s h0 h1, h 35 s h0 h1⟩
  · exact h 32 s h0 h1
  · exact h 34 s h0 h1
  · exact h 28 s h0 h1
  · exact h 30 s h0 h1
theorem BB.bq {S : SS} (h : BB S) : BQ S := by
  obtain ⟨b1, b2, b3, b4, b5, b6, b7, b8, b9, b10, b11⟩ := h
  intro k x h0 h1
  have z : ∀ {x : Int}, 0 ≤ x → x < 1 → x = 0 := fun a b => by omega
  match k, h1 with
  | 0, h1 => rw [z h0 h1]; exact b1.1
  | 1, h1 => rw [z h0 h1]; exact b1.2.1
  | 2, h1 => rw [z h0 h1]; exact b1.2.2.1
  | 3, h1 => exact (b4 x h0 h1).1
  | 4, h1 => exact (b4 x h0 h1).2.1
  | 5, h1 => exact (b4 x h0 h1).2.2
  | 6, h1 => exact (b5 x h0 h1).1
  | 7, h1 => exact (b5 x h0 h1).2
  | 8, h1 => rw [z h0 h1]; exact b1.2.2.2.1
  | 9, h1 => exact (b2 x h0 h1).1
  | 10, h1 => exact (b2 x h0 h1).2.1
  | 11, h1 => exact (b2 x h0 h1).2.2.1
  | 12, h1 => exact (b2 x h0 h1).2.2.2.1
  | 13, h1 => exact (b2 x h0 h1).2.2.2.2.1
  | 14, h1 => exact (b2 x h0 h1).2.2.2.2.2.1
  | 15, h1 => exact (b2 x h0 h1).2.2.2.2.2.2.1
  | 16, h1 => exact (b2 x h0 h1).2.2.2.2.2.2.2.1
  | 17, h1 => exact (b2 x h0 h1).2.2.2.2.2.2.2.2.1
  | 18, h1 => exact (b2 x h0 h1).2.2.2.2.2.2.2.2.2.1
  | 19, h1 => trivial
  | 20, h1 => trivial
  | 21, h1 => exact (b2 x h0 h1).2.2.2.2.2.2.2.2.2.2.1
  | 22, h1 => exact (b2 x h0 h1).2.2.2.2.2.2.2.2.2.2.2
  | 23, h1 => trivial
  | 24, h1 => rw [z h0 h1]; exact b1.2.2.2.2
  | 25, h1 => exact (b3 x h0 h1).1
  | 26, h1 => exact (b3 x h0 h1).2.1
  | 27, h1 => exact (b3 x h0 h1).2.2.1
  | 28, h1 => exact b10 x h0 h1
  | 29, h1 => exact (b3 x h0 h1).2.2.2
  | 30, h1 => exact b11 x h0 h1
  | 31, h1 => exact b6 x h0 h1
  | 32, h1 => exact b8 x h0 h1
  | 33, h1 => exact (b7 x h0 h1).1
  | 34, h1 => exact b9 x h0 h1
  | 35, h1 => exact (b7 x h0 h1).2
  | (k + 36), h1 => trivial
theorem BB_u2 {S : SS} {k : Nat} {x v : Int} (h : BB S) (hv : 0 ≤ x → x < dml k → rng k v) : BB (u2 S k x v) := by
  refine BQ.bb (fun k' x' h0 h1 => ?_)
  by_cases e : k' = k ∧ x' = x
  · obtain ⟨rfl, rfl⟩ := e
    rw [u2_self]
    exact hv h0 h1
  · simp only [u2]
    rw [if_neg e]
    exact h.bq k' x' h0 h1
theorem BB_wt {S : SS} {x : Int} (h : BB S) : BB (wt S x) := BB_u2 h (fun _ _ => trivial)
theorem BB_tk {S : SS} {s : Int} (h : BB S) : BB (tk S s) := BB_u2 h (fun h0 h1 => by
  have := h.bq 16 s h0 h1
  simp only [rng] at this ⊢
  split <;> omega)
theorem BB_shf {S : SS} {k : Nat} {b : Int} {n : Nat} (h : BB S) (h0 : 0 ≤ b) (h1 : b + n < dml k) : BB (shf S k b n) := by
  induction n with
  | zero => exact h
  | succ n ih =>
    have i := ih (by omega)
    exact BB_u2 i (fun _ _ => i.bq k _ (by omega) (by omega))
theorem BB_ent {S : SS} {s sec : Int} (h : BB S) (hs : 0 ≤ s ∧ s < 30) (hs2 : 0 ≤ sec ∧ sec < 8) (hM : S 33 (2 * sec + S 9 s) ≤ 2) : BB (ent S s sec) := by
  have hsh := h.sh hs.1 hs.2
  have hsc := h.sc hs2.1 hs2.2
  have hm := h.m
  simp only [bsh] at hsh
  simp only [bsc] at hsc
  simp only [bsm] at hm
  have hi := h.iM (a := 2 * sec + S 9 s) (by omega) (by omega)
  simp only [ent]
  refine BB_u2 (BB_u2 (BB_u2 (BB_u2 (BB_u2 h ?_) ?_) ?_) ?_) ?_ <;> intro _ _ <;> simp only [rng] <;> (try split) <;> omega
theorem BB_lvs {S : SS} {sec w : Int} (h : BB S) (hs : 0 ≤ sec ∧ sec < 8) (hw : w = 0 ∨ w = 1) (hM : 1 ≤ S 33 (2 * sec + w)) : BB (lvs S sec w) := by
  have hi := h.iM (a := 2 * sec + w) (by omega) (by omega)
  simp only [lvs]
  refine BB_shf (BB_u2 h ?_) (by omega) (by simp only [dml]; omega)
  intro _ _
  simp only [rng]
  omega
theorem BB_agd {S : SS} (h : BB S) (n : Nat) (hn : n ≤ 30) : BB (agd S n) := by
  induction n with
  | zero => exact h
  | succ n ih =>
    have hs := h.bq 21 n (by omega) (by simp only [dml]; omega)
    refine BB_u2 (ih (by omega)) (fun _ _ => ?_)
    simp only [rng] at hs ⊢
    split <;> omega
theorem BB_qw {S : SS} {w : Int} (h : BB S) (n : Nat) : BB (qw S w n) := by
  induction n with
  | zero => exact h
  | succ n ih => exact BB_wt ih
