/-! ===== the class: which cell stands for which place of the state ===== -/
def src (σ i k : Nat) : Option (Bool × Nat × Int) := match σ, k with
  | 0, 5 => some (false, 24, 0)
  | 0, 8 => some (false, 1, 0)
  | 0, 9 => some (false, 2, 0)
  | 0, 10 => some (false, 0, 0)
  | 1, 1 => some (false, 3, (i : Int))
  | 1, 2 => some (false, 4, (i : Int))
  | 1, 3 => some (false, 5, (i : Int))
  | 2, 1 => some (false, 35, (i : Int))
  | 5, 1 => some (false, 9, (i : Int))
  | 5, 2 => some (false, 10, (i : Int))
  | 5, 3 => some (false, 11, (i : Int))
  | 5, 4 => some (false, 12, (i : Int))
  | 5, 5 => some (false, 13, (i : Int))
  | 5, 6 => some (false, 14, (i : Int))
  | 5, 8 => some (false, 15, (i : Int))
  | 5, 9 => some (false, 16, (i : Int))
  | 5, 10 => some (false, 17, (i : Int))
  | 5, 11 => some (false, 18, (i : Int))
  | 5, 12 => some (false, 19, (i : Int))
  | 5, 13 => some (false, 20, (i : Int))
  | 5, 14 => some (false, 22, (i : Int))
  | 5, 15 => some (false, 36, (i : Int))
  | 7, 0 => some (false, 25, (i : Int))
  | 7, 1 => some (false, 26, (i : Int))
  | 30, 1 => some (false, 33, (i : Int))
  | 31, 1 => some (false, 31, (i : Int))
  | 32, 1 => some (false, 8, 0)
  | 33, 1 => some (false, 27, (i : Int))
  | 34, 1 => some (false, 29, (i : Int))
  | 40, k => some (true, 34, 30 * (i : Int) + k)
  | 41, k => some (true, 32, 30 * (i : Int) + k)
  | 43, k => some (true, 28, 8 * (i : Int) + k)
  | 44, k => some (true, 30, 30 * (i : Int) + k)
  | 6, k => some (false, 23, 7 * (i : Int) + k)
  | 9, k => some (false, 6, (k : Int))
  | 10, k => some (false, 7, (k : Int))
  | _, _ => none
def cst (σ i k : Nat) : AV := match σ, k with
  | 0, 0 => .inr (some (8, 0))
  | 0, 1 => .inr (some (9, 0))
  | 0, 2 => .inr (some (10, 0))
  | 0, 3 => .inr (some (32, 0))
  | 0, 4 => .inr (some (11, 0))
  | 0, 6 => .inr (some (31, 0))
  | 0, 7 => .inr (some (31, 1))
  | 1, 4 => .inr (some (2, 2 * i))
  | 1, 5 => .inr (some (2, 2 * i + 1))
  | 2, 0 => .inr (some (30, i))
  | 5, 7 => .inr (some (6, i))
  | 7, 2 => .inr (some (33, i))
  | 7, 3 => .inr (some (34, i))
  | 30, 0 => .inr (some (40, i))
  | 31, 0 => .inr (some (41, i))
  | 32, 0 => .inr (some (42, i))
  | 33, 0 => .inr (some (43, i))
  | 34, 0 => .inr (some (44, i))
  | 1, 0 => .inl (i : Int)
  | 5, 0 => .inl (i : Int)
  | 42, k => .inr (some (5, k))
  | 8, k => .inr (some (1, k))
  | 11, k => .inr (some (7, k))
  | _, _ => .inr none
def toC (S : SS) (σ i k : Nat) : AV := match src σ i k with
  | some (false, K, x) => .inl (S K x)
  | some (true, K, x) => .inr (some (5, (S K x).toNat))
  | none => cst σ i k
/-- the places that stand for something -/
def okd (S : SS) (σ i k : Nat) : Prop := match σ with
  | 0 => i = 0 ∧ k < 11
  | 1 => i < 8 ∧ k < 6
  | 2 => i < 16 ∧ k < 2
  | 30 => i < 16 ∧ k < 2
  | 31 => i < 2 ∧ k < 2
  | 32 => i = 0 ∧ k < 2
  | 33 => (i : Int) < S 24 0 ∧ k < 2
  | 34 => (i : Int) < S 24 0 ∧ k < 2
  | 40 => (i < 16 ∧ k < 3) ∧ (k : Int) < S 33 i
  | 41 => (i < 2 ∧ k < 30) ∧ (k : Int) < S 31 i
  | 42 => (i = 0 ∧ k < 30) ∧ (k : Int) < S 8 0
  | 43 => ((i : Int) < S 24 0 ∧ k < 8) ∧ (k : Int) < S 27 i
  | 44 => ((i : Int) < S 24 0 ∧ k < 30) ∧ (k : Int) < S 29 i
  | 5 => (i : Int) < S 8 0 ∧ k < 16
  | 6 => (i : Int) < S 8 0 ∧ k < 7
  | 7 => (i : Int) < S 24 0 ∧ k < 4
  | 8 => i = 0 ∧ k < 8
  | 9 => i = 0 ∧ k < 24
  | 10 => i = 0 ∧ k < 24
  | 11 => i = 0 ∧ (k : Int) < S 24 0
  | _ => False
def RepC (S : SS) (V : Vw) : Prop := ∀ σ i k, okd S σ i k → V σ i k = toC S σ i k
def lvC (ns nc : Int) : Lw := fun σ i => match σ with
  | 0 => i == 0
  | 1 => decide (i < 8)
  | 2 => decide (i < 16)
  | 30 => decide (i < 16)
  | 31 => decide (i < 2)
  | 32 => i == 0
  | 33 => decide ((i : Int) < nc)
  | 34 => decide ((i : Int) < nc)
  | 40 => decide (i < 16)
  | 41 => decide (i < 2)
  | 42 => i == 0
  | 43 => decide ((i : Int) < nc)
  | 44 => decide ((i : Int) < nc)
  | 5 => decide ((i : Int) < ns)
  | 6 => decide ((i : Int) < ns)
  | 7 => decide ((i : Int) < nc)
  | 8 => i == 0
  | 9 => i == 0
  | 10 => i == 0
  | 11 => i == 0
  | _ => false
def inv (K : Nat) (x : Int) : Nat × Nat × Nat := match K with
  | 0 => (0, 0, 10)
  | 1 => (0, 0, 8)
  | 2 => (0, 0, 9)
  | 3 => (1, x.toNat, 1)
  | 4 => (1, x.toNat, 2)
  | 5 => (1, x.toNat, 3)
  | 6 => (9, 0, x.toNat)
  | 7 => (10, 0, x.toNat)
  | 8 => (32, 0, 1)
  | 9 => (5, x.toNat, 1)
  | 10 => (5, x.toNat, 2)
  | 11 => (5, x.toNat, 3)
  | 12 => (5, x.toNat, 4)
  | 13 => (5, x.toNat, 5)
  | 14 => (5, x.toNat, 6)
  | 15 => (5, x.toNat, 8)
  | 16 => (5, x.toNat, 9)
  | 17 => (5, x.toNat, 10)
  | 18 => (5, x.toNat, 11)
  | 19 => (5, x.toNat, 12)
  | 20 => (5, x.toNat, 13)
  | 22 => (5, x.toNat, 14)
  | 23 => (6, (x / 7).toNat, (x % 7).toNat)
  | 24 => (0, 0, 5)
  | 25 => (7, x.toNat, 0)
  | 26 => (7, x.toNat, 1)
  | 27 => (33, x.toNat, 1)
  | 28 => (43, (x / 8).toNat, (x % 8).toNat)
  | 29 => (34, x.toNat, 1)
  | 30 => (44, (x / 30).toNat, (x % 30).toNat)
  | 31 => (31, x.toNat, 1)
  | 32 => (41, (x / 30).toNat, (x % 30).toNat)
  | 33 => (30, x.toNat, 1)
  | 34 => (40, (x / 30).toNat, (x % 30).toNat)
  | 35 => (2, x.toNat, 1)
  | 36 => (5, x.toNat, 15)
  | _ => (99, 0, 0)
theorem src_inv {S : SS} {σ i k : Nat} {b : Bool} {K : Nat} {x : Int} (hd : okd S σ i k) (h : src σ i k = some (b, K, x)) : inv K x = (σ, i, k) := by
  unfold src at h
  split at h <;> first
    | (cases h; done)
    | (simp only [Option.some.injEq, Prod.mk.injEq] at h
       obtain ⟨-, rfl, rfl⟩ := h
       simp only [okd] at hd
       simp only [inv, Prod.mk.injEq]
       refine ⟨trivial, ?_, ?_⟩ <;> omega)
    | (simp only [Option.some.injEq, Prod.mk.injEq] at h
       obtain ⟨-, rfl, rfl⟩ := h
       simp only [okd] at hd
       simp only [inv, Prod.mk.injEq, true_and, and_true]
       omega)
theorem toC_ne {S : SS} {K : Nat} {x v : Int} {σ i k : Nat} (h : ∀ b, src σ i k ≠ some (b, K, x)) : toC (u2 S K x v) σ i k = toC S σ i k := by
  unfold toC
  cases hs : src σ i k with
  | none => rfl
  | some q =>
    obtain ⟨b, K', x'⟩ := q
    have hne : ¬ (K' = K ∧ x' = x) := fun e => h b (by rw [hs, e.1, e.2])
    have e : u2 S K x v K' x' = S K' x' := by simp only [u2]; rw [if_neg hne]
    cases b <;> simp only [e]
/-- not one of the counts that say how far a row goes -/
abbrev plainK (K : Nat) : Prop := K ≠ 8 ∧ K ≠ 24 ∧ K ≠ 27 ∧ K ≠ 29 ∧ K ≠ 31 ∧ K ≠ 33
theorem okd_congr {S T : SS} (h8 : T 8 0 = S 8 0) (h24 : T 24 0 = S 24 0) (h27 : ∀ x, T 27 x = S 27 x) (h29 : ∀ x, T 29 x = S 29 x) (h31 : ∀ x, T 31 x = S 31 x) (h33 : ∀ x, T 33 x = S 33 x) (σ i k : Nat) : okd T σ i k = okd S σ i k := by
  simp only [okd, h8, h24, h27, h29, h31, h33]
theorem okd_u2 {S : SS} {K : Nat} (hK : plainK K) (x v : Int) (σ i k : Nat) : okd (u2 S K x v) σ i k = okd S σ i k :=
  okd_congr (u2_ne hK.1.symm _ _ _) (u2_ne hK.2.1.symm _ _ _) (fun _ => u2_ne hK.2.2.1.symm _ _ _) (fun _ => u2_ne hK.2.2.2.1.symm _ _ _) (fun _ => u2_ne hK.2.2.2.2.1.symm _ _ _) (fun _ => u2_ne hK.2.2.2.2.2.symm _ _ _) σ i k
theorem s3_ne {V : Vw} {σ i k σ' i' k' : Nat} {x : AV} (h : ¬ (σ' = σ ∧ i' = i ∧ k' = k)) : s3 V σ i k x σ' i' k' = V σ' i' k' := by simp only [s3]; rw [if_neg h]
theorem RepC.setI {S : SS} {V : Vw} {σ i k : Nat} {K : Nat} {x : Int} (hR : RepC S V) (v : Int) (hs : src σ i k = some (false, K, x)) (hK : plainK K) (hd : okd S σ i k) : RepC (u2 S K x v) (s3 V σ i k (.inl v)) := by
  intro σ' i' k' hd'
  rw [okd_u2 hK] at hd'
  by_cases e : σ' = σ ∧ i' = i ∧ k' = k
  · obtain ⟨rfl, rfl, rfl⟩ := e
    rw [s3_self]
    simp only [toC, hs, u2_self]
  · rw [s3_ne e, hR _ _ _ hd', toC_ne (fun b hb => e ?_)]
    have h1 := src_inv hd' hb
    have h2 := src_inv hd hs
    rw [h1] at h2
    simp only [Prod.mk.injEq] at h2
    exact h2
/-- a place of the state that no cell stands for -/
theorem RepC.free {S : SS} {V : Vw} {K : Nat} {x : Int} (hR : RepC S V) (v : Int) (hK : plainK K) (h : ∀ σ i k b, okd S σ i k → src σ i k ≠ some (b, K, x)) : RepC (u2 S K x v) V := by
  intro σ i k hd
  rw [okd_u2 hK] at hd
  rw [hR _ _ _ hd, toC_ne (fun b => h σ i k b hd)]
theorem RepC.toS {S T : SS} {V : Vw} (hR : RepC S V) (h : ∀ k x, T k x = S k x) : RepC T V := by
  have : T = S := funext fun k => funext fun x => h k x
  rw [this]; exact hR
theorem RepC.pushLine {S : SS} {V : Vw} {i : Nat} (hR : RepC S V) (hi : i < 2) (hn : 0 ≤ S 31 i ∧ S 31 i < 30) (s : Int) : RepC (u2 (u2 S 32 (30 * (i : Int) + S 31 i) s) 31 i (S 31 i + 1)) (s3 (s3 V 41 i (S 31 i).toNat (.inr (some (5, s.toNat)))) 31 i 1 (.inl (S 31 i + 1))) := by
  intro σ j k hd
  by_cases e1 : σ = 31 ∧ j = i ∧ k = 1
  · obtain ⟨rfl, rfl, rfl⟩ := e1
    rw [s3_self]
    simp only [toC, src, u2_self]
  · rw [s3_ne e1]
    by_cases e2 : σ = 41 ∧ j = i ∧ k = (S 31 i).toNat
    · obtain ⟨rfl, rfl, rfl⟩ := e2
      rw [s3_self]
      simp only [toC, src]
      rw [u2_ne (by decide), show ((S 31 j).toNat : Int) = S 31 j by omega, u2_self]
    · rw [s3_ne e2]
      have hd0 : okd S σ j k := by
        by_cases hσ : σ = 41
        · subst hσ
          simp only [okd] at hd ⊢
          have hx : u2 (u2 S 32 (30 * (i : Int) + S 31 i) s) 31 i (S 31 i + 1) 31 j = if (j : Int) = i then S 31 i + 1 else S 31 j := by rw [u2_at, u2_ne (by decide)]
          rw [hx] at hd
          skip
          by_cases hj : (j : Int) = i
          · rw [if_pos hj] at hd
            have hj2 : j = i := by omega
            subst hj2
            refine ⟨hd.1, ?_⟩
            have : k ≠ (S 31 j).toNat := fun q => e2 ⟨rfl, rfl, q⟩
            omega
          · rw [if_neg hj] at hd
            exact hd
        · have := hd
          revert this
          unfold okd
          split <;> first | (exact absurd rfl hσ) | (simp only [u2_ne (show (8 : Nat) ≠ 31 by decide), u2_ne (show (24 : Nat) ≠ 31 by decide), u2_ne (show (8 : Nat) ≠ 32 by decide), u2_ne (show (24 : Nat) ≠ 32 by decide)]; exact id) | (simp only [u2, Nat.reduceEqDiff, false_and, if_false]; exact id) | exact id
      rw [hR _ _ _ hd0, toC_ne (fun b hb => e1 ?_), toC_ne (fun b hb => e2 ?_)]
      · have h1 := src_inv hd0 hb
        simp only [inv, Prod.mk.injEq] at h1
        refine ⟨h1.1.symm, ?_, ?_⟩ <;> omega
      · have h1 := src_inv hd0 hb
        simp only [inv, Prod.mk.injEq] at h1
        refine ⟨h1.1.symm, ?_, h1.2.2.symm⟩
        omega
theorem RepC.pushLane {S : SS} {V : Vw} {i : Nat} (hR : RepC S V) (hi : i < 16) (hn : 0 ≤ S 33 i ∧ S 33 i < 3) (s : Int) : RepC (u2 (u2 S 34 (30 * (i : Int) + S 33 i) s) 33 i (S 33 i + 1)) (s3 (s3 V 40 i (S 33 i).toNat (.inr (some (5, s.toNat)))) 30 i 1 (.inl (S 33 i + 1))) := by
  intro σ j k hd
  by_cases e1 : σ = 30 ∧ j = i ∧ k = 1
  · obtain ⟨rfl, rfl, rfl⟩ := e1
    rw [s3_self]
    simp only [toC, src, u2_self]
  · rw [s3_ne e1]
    by_cases e2 : σ = 40 ∧ j = i ∧ k = (S 33 i).toNat
    · obtain ⟨rfl, rfl, rfl⟩ := e2
      rw [s3_self]
      simp only [toC, src]
      rw [u2_ne (by decide), show ((S 33 j).toNat : Int) = S 33 j by omega, u2_self]
    · rw [s3_ne e2]
      have hd0 : okd S σ j k := by
        by_cases hσ : σ = 40
        · subst hσ
          simp only [okd] at hd ⊢
          have hx : u2 (u2 S 34 (30 * (i : Int) + S 33 i) s) 33 i (S 33 i + 1) 33 j = if (j : Int) = i then S 33 i + 1 else S 33 j := by rw [u2_at, u2_ne (by decide)]
          rw [hx] at hd
          skip
          by_cases hj : (j : Int) = i
          · rw [if_pos hj] at hd
            have hj2 : j = i := by omega
            subst hj2
            refine ⟨hd.1, ?_⟩
            have : k ≠ (S 33 j).toNat := fun q => e2 ⟨rfl, rfl, q⟩
            omega
          · rw [if_neg hj] at hd
            exact hd
        · have := hd
          revert this
          unfold okd
          split <;> first | (exact absurd rfl hσ) | (simp only [u2_ne (show (8 : Nat) ≠ 33 by decide), u2_ne (show (24 : Nat) ≠ 33 by decide), u2_ne (show (8 : Nat) ≠ 34 by decide), u2_ne (show (24 : Nat) ≠ 34 by decide)]; exact id) | (simp only [u2, Nat.reduceEqDiff, false_and, if_false]; exact id) | exact id
      rw [hR _ _ _ hd0, toC_ne (fun b hb => e1 ?_), toC_ne (fun b hb => e2 ?_)]
      · have h1 := src_inv hd0 hb
        simp only [inv, Prod.mk.injEq] at h1
        refine ⟨h1.1.symm, ?_, ?_⟩ <;> omega
      · have h1 := src_inv hd0 hb
        simp only [inv, Prod.mk.injEq] at h1
        refine ⟨h1.1.symm, ?_, h1.2.2.symm⟩
        omega
theorem RepC.pushBook {S : SS} {V : Vw} {i : Nat} (hR : RepC S V) (hi : (i : Int) < S 24 0) (hn : 0 ≤ S 27 i ∧ S 27 i < 8) (s : Int) : RepC (u2 (u2 S 28 (8 * (i : Int) + S 27 i) s) 27 i (S 27 i + 1)) (s3 (s3 V 43 i (S 27 i).toNat (.inr (some (5, s.toNat)))) 33 i 1 (.inl (S 27 i + 1))) := by
  intro σ j k hd
  by_cases e1 : σ = 33 ∧ j = i ∧ k = 1
  · obtain ⟨rfl, rfl, rfl⟩ := e1
    rw [s3_self]
    simp only [toC, src, u2_self]
  · rw [s3_ne e1]
    by_cases e2 : σ = 43 ∧ j = i ∧ k = (S 27 i).toNat
    · obtain ⟨rfl, rfl, rfl⟩ := e2
      rw [s3_self]
      simp only [toC, src]
      rw [u2_ne (by decide), show ((S 27 j).toNat : Int) = S 27 j by omega, u2_self]
    · rw [s3_ne e2]
      have hd0 : okd S σ j k := by
        by_cases hσ : σ = 43
        · subst hσ
          simp only [okd] at hd ⊢
          have hx : u2 (u2 S 28 (8 * (i : Int) + S 27 i) s) 27 i (S 27 i + 1) 27 j = if (j : Int) = i then S 27 i + 1 else S 27 j := by rw [u2_at, u2_ne (by decide)]
          rw [hx] at hd
          simp only [u2_ne (show (24 : Nat) ≠ 27 by decide), u2_ne (show (24 : Nat) ≠ 28 by decide)] at hd
          by_cases hj : (j : Int) = i
          · rw [if_pos hj] at hd
            have hj2 : j = i := by omega
            subst hj2
            refine ⟨hd.1, ?_⟩
            have : k ≠ (S 27 j).toNat := fun q => e2 ⟨rfl, rfl, q⟩
            omega
          · rw [if_neg hj] at hd
            exact hd
        · have := hd
          revert this
          unfold okd
          split <;> first | (exact absurd rfl hσ) | (simp only [u2_ne (show (8 : Nat) ≠ 27 by decide), u2_ne (show (24 : Nat) ≠ 27 by decide), u2_ne (show (8 : Nat) ≠ 28 by decide), u2_ne (show (24 : Nat) ≠ 28 by decide)]; exact id) | (simp only [u2, Nat.reduceEqDiff, false_and, if_false]; exact id) | exact id
      rw [hR _ _ _ hd0, toC_ne (fun b hb => e1 ?_), toC_ne (fun b hb => e2 ?_)]
      · have h1 := src_inv hd0 hb
        simp only [inv, Prod.mk.injEq] at h1
        refine ⟨h1.1.symm, ?_, ?_⟩ <;> omega
      · have h1 := src_inv hd0 hb
        simp only [inv, Prod.mk.injEq] at h1
        refine ⟨h1.1.symm, ?_, h1.2.2.symm⟩
        omega
theorem RepC.pushPut {S : SS} {V : Vw} {i : Nat} (hR : RepC S V) (hi : (i : Int) < S 24 0) (hn : 0 ≤ S 29 i ∧ S 29 i < 30) (s : Int) : RepC (u2 (u2 S 30 (30 * (i : Int) + S 29 i) s) 29 i (S 29 i + 1)) (s3 (s3 V 44 i (S 29 i).toNat (.inr (some (5, s.toNat)))) 34 i 1 (.inl (S 29 i + 1))) := by
  intro σ j k hd
  by_cases e1 : σ = 34 ∧ j = i ∧ k = 1
  · obtain ⟨rfl, rfl, rfl⟩ := e1
    rw [s3_self]
    simp only [toC, src, u2_self]
  · rw [s3_ne e1]
    by_cases e2 : σ = 44 ∧ j = i ∧ k = (S 29 i).toNat
    · obtain ⟨rfl, rfl, rfl⟩ := e2
      rw [s3_self]
      simp only [toC, src]
      rw [u2_ne (by decide), show ((S 29 j).toNat : Int) = S 29 j by omega, u2_self]
    · rw [s3_ne e2]
      have hd0 : okd S σ j k := by
        by_cases hσ : σ = 44
        · subst hσ
          simp only [okd] at hd ⊢
          have hx : u2 (u2 S 30 (30 * (i : Int) + S 29 i) s) 29 i (S 29 i + 1) 29 j = if (j : Int) = i then S 29 i + 1 else S 29 j := by rw [u2_at, u2_ne (by decide)]
          rw [hx] at hd
          simp only [u2_ne (show (24 : Nat) ≠ 29 by decide), u2_ne (show (24 : Nat) ≠ 30 by decide)] at hd
          by_cases hj : (j : Int) = i
          · rw [if_pos hj] at hd
            have hj2 : j = i := by omega
            subst hj2
            refine ⟨hd.1, ?_⟩
            have : k ≠ (S 29 j).toNat := fun q => e2 ⟨rfl, rfl, q⟩
            omega
          · rw [if_neg hj] at hd
            exact hd
        · have := hd
          revert this
          unfold okd
          split <;> first | (exact absurd rfl hσ) | (simp only [u2_ne (show (8 : Nat) ≠ 29 by decide), u2_ne (show (24 : Nat) ≠ 29 by decide), u2_ne (show (8 : Nat) ≠ 30 by decide), u2_ne (show (24 : Nat) ≠ 30 by decide)]; exact id) | (simp only [u2, Nat.reduceEqDiff, false_and, if_false]; exact id) | exact id
      rw [hR _ _ _ hd0, toC_ne (fun b hb => e1 ?_), toC_ne (fun b hb => e2 ?_)]
      · have h1 := src_inv hd0 hb
        simp only [inv, Prod.mk.injEq] at h1
        refine ⟨h1.1.symm, ?_, ?_⟩ <;> omega
      · have h1 := src_inv hd0 hb
        simp only [inv, Prod.mk.injEq] at h1
        refine ⟨h1.1.symm, ?_, h1.2.2.symm⟩
        omega
theorem rc_0_5 {S : SS} {V : Vw} (hR : RepC S V) : V 0 0 5 = .inl (S 24 0) := hR 0 0 5 ⟨rfl, by decide⟩
theorem rc_0_8 {S : SS} {V : Vw} (hR : RepC S V) : V 0 0 8 = .inl (S 1 0) := hR 0 0 8 ⟨rfl, by decide⟩
theorem rc_0_9 {S : SS} {V : Vw} (hR : RepC S V) : V 0 0 9 = .inl (S 2 0) := hR 0 0 9 ⟨rfl, by decide⟩
theorem rc_0_10 {S : SS} {V : Vw} (hR : RepC S V) : V 0 0 10 = .inl (S 0 0) := hR 0 0 10 ⟨rfl, by decide⟩
theorem rc_1_1 {S : SS} {V : Vw} {i : Nat} (hR : RepC S V) (h : i < 8) : V 1 i 1 = .inl (S 3 i) := hR 1 i 1 ⟨h, by decide⟩
theorem rc_1_2 {S : SS} {V : Vw} {i : Nat} (hR : RepC S V) (h : i < 8) : V 1 i 2 = .inl (S 4 i) := hR 1 i 2 ⟨h, by decide⟩
theorem rc_1_3 {S : SS} {V : Vw} {i : Nat} (hR : RepC S V) (h : i < 8) : V 1 i 3 = .inl (S 5 i) := hR 1 i 3 ⟨h, by decide⟩
theorem rc_2_1 {S : SS} {V : Vw} {i : Nat} (hR : RepC S V) (h : i < 16) : V 2 i 1 = .inl (S 35 i) := hR 2 i 1 ⟨h, by decide⟩
theorem rc_5_1 {S : SS} {V : Vw} {i : Nat} (hR : RepC S V) (h : (i : Int) < S 8 0) : V 5 i 1 = .inl (S 9 i) := hR 5 i 1 ⟨h, by decide⟩
theorem rc_5_2 {S : SS} {V : Vw} {i : Nat} (hR : RepC S V) (h : (i : Int) < S 8 0) : V 5 i 2 = .inl (S 10 i) := hR 5 i 2 ⟨h, by decide⟩
theorem rc_5_3 {S : SS} {V : Vw} {i : Nat} (hR : RepC S V) (h : (i : Int) < S 8 0) : V 5 i 3 = .inl (S 11 i) := hR 5 i 3 ⟨h, by decide⟩
theorem rc_5_4 {S : SS} {V : Vw} {i : Nat} (hR : RepC S V) (h : (i : Int) < S 8 0) : V 5 i 4 = .inl (S 12 i) := hR 5 i 4 ⟨h, by decide⟩
theorem rc_5_5 {S : SS} {V : Vw} {i : Nat} (hR : RepC S V) (h : (i : Int) < S 8 0) : V 5 i 5 = .inl (S 13 i) := hR 5 i 5 ⟨h, by decide⟩
theorem rc_5_6 {S : SS} {V : Vw} {i : Nat} (hR : RepC S V) (h : (i : Int) < S 8 0) : V 5 i 6 = .inl (S 14 i) := hR 5 i 6 ⟨h, by decide⟩
theorem rc_5_8 {S : SS} {V : Vw} {i : Nat} (hR : RepC S V) (h : (i : Int) < S 8 0) : V 5 i 8 = .inl (S 15 i) := hR 5 i 8 ⟨h, by decide⟩
theorem rc_5_9 {S : SS} {V : Vw} {i : Nat} (hR : RepC S V) (h : (i : Int) < S 8 0) : V 5 i 9 = .inl (S 16 i) := hR 5 i 9 ⟨h, by decide⟩
theorem rc_5_10 {S : SS} {V : Vw} {i : Nat} (hR : RepC S V) (h : (i : Int) < S 8 0) : V 5 i 10 = .inl (S 17 i) := hR 5 i 10 ⟨h, by decide⟩
theorem rc_5_11 {S : SS} {V : Vw} {i : Nat} (hR : RepC S V) (h : (i : Int) < S 8 0) : V 5 i 11 = .inl (S 18 i) := hR 5 i 11 ⟨h, by decide⟩
theorem rc_5_12 {S : SS} {V : Vw} {i : Nat} (hR : RepC S V) (h : (i : Int) < S 8 0) : V 5 i 12 = .inl (S 19 i) := hR 5 i 12 ⟨h, by decide⟩
theorem rc_5_13 {S : SS} {V : Vw} {i : Nat} (hR : RepC S V) (h : (i : Int) < S 8 0) : V 5 i 13 = .inl (S 20 i) := hR 5 i 13 ⟨h, by decide⟩
theorem rc_5_14 {S : SS} {V : Vw} {i : Nat} (hR : RepC S V) (h : (i : Int) < S 8 0) : V 5 i 14 = .inl (S 22 i) := hR 5 i 14 ⟨h, by decide⟩
theorem rc_5_15 {S : SS} {V : Vw} {i : Nat} (hR : RepC S V) (h : (i : Int) < S 8 0) : V 5 i 15 = .inl (S 36 i) := hR 5 i 15 ⟨h, by decide⟩
theorem rc_7_0 {S : SS} {V : Vw} {i : Nat} (hR : RepC S V) (h : (i : Int) < S 24 0) : V 7 i 0 = .inl (S 25 i) := hR 7 i 0 ⟨h, by decide⟩
theorem rc_7_1 {S : SS} {V : Vw} {i : Nat} (hR : RepC S V) (h : (i : Int) < S 24 0) : V 7 i 1 = .inl (S 26 i) := hR 7 i 1 ⟨h, by decide⟩
theorem rc_30_1 {S : SS} {V : Vw} {i : Nat} (hR : RepC S V) (h : i < 16) : V 30 i 1 = .inl (S 33 i) := hR 30 i 1 ⟨h, by decide⟩
theorem rc_31_1 {S : SS} {V : Vw} {i : Nat} (hR : RepC S V) (h : i < 2) : V 31 i 1 = .inl (S 31 i) := hR 31 i 1 ⟨h, by decide⟩
theorem rc_32_1 {S : SS} {V : Vw} (hR : RepC S V) : V 32 0 1 = .inl (S 8 0) := hR 32 0 1 ⟨rfl, by decide⟩
theorem rc_33_1 {S : SS} {V : Vw} {i : Nat} (hR : RepC S V) (h : (i : Int) < S 24 0) : V 33 i 1 = .inl (S 27 i) := hR 33 i 1 ⟨h, by decide⟩
theorem rc_34_1 {S : SS} {V : Vw} {i : Nat} (hR : RepC S V) (h : (i : Int) < S 24 0) : V 34 i 1 = .inl (S 29 i) := hR 34 i 1 ⟨h, by decide⟩
theorem rc_0_0 {S : SS} {V : Vw} (hR : RepC S V) : V 0 0 0 = .inr (some (8, 0)) := hR 0 0 0 ⟨rfl, by decide⟩
theorem rc_0_1 {S : SS} {V : Vw} (hR : RepC S V) : V 0 0 1 = .inr (some (9, 0)) := hR 0 0 1 ⟨rfl, by decide⟩
theorem rc_0_2 {S : SS} {V : Vw} (hR : RepC S V) : V 0 0 2 = .inr (some (10, 0)) := hR 0 0 2 ⟨rfl, by decide⟩
theorem rc_0_3 {S : SS} {V : Vw} (hR : RepC S V) : V 0 0 3 = .inr (some (32, 0)) := hR 0 0 3 ⟨rfl, by decide⟩
theorem rc_0_4 {S : SS} {V : Vw} (hR : RepC S V) : V 0 0 4 = .inr (some (11, 0)) := hR 0 0 4 ⟨rfl, by decide⟩
theorem rc_0_6 {S : SS} {V : Vw} (hR : RepC S V) : V 0 0 6 = .inr (some (31, 0)) := hR 0 0 6 ⟨rfl, by decide⟩
theorem rc_0_7 {S : SS} {V : Vw} (hR : RepC S V) : V 0 0 7 = .inr (some (31, 1)) := hR 0 0 7 ⟨rfl, by decide⟩
theorem rc_1_4 {S : SS} {V : Vw} {i : Nat} (hR : RepC S V) (h : i < 8) : V 1 i 4 = .inr (some (2, 2 * i)) := hR 1 i 4 ⟨h, by decide⟩
theorem rc_1_5 {S : SS} {V : Vw} {i : Nat} (hR : RepC S V) (h : i < 8) : V 1 i 5 = .inr (some (2, 2 * i + 1)) := hR 1 i 5 ⟨h, by decide⟩
theorem rc_2_0 {S : SS} {V : Vw} {i : Nat} (hR : RepC S V) (h : i < 16) : V 2 i 0 = .inr (some (30, i)) := hR 2 i 0 ⟨h, by decide⟩
theorem rc_5_7 {S : SS} {V : Vw} {i : Nat} (hR : RepC S V) (h : (i : Int) < S 8 0) : V 5 i 7 = .inr (some (6, i)) := hR 5 i 7 ⟨h, by decide⟩
theorem rc_7_2 {S : SS} {V : Vw} {i : Nat} (hR : RepC S V) (h : (i : Int) < S 24 0) : V 7 i 2 = .inr (some (33, i)) := hR 7 i 2 ⟨h, by decide⟩
theorem rc_7_3 {S : SS} {V : Vw} {i : Nat} (hR : RepC S V) (h : (i : Int) < S 24 0) : V 7 i 3 = .inr (some (34, i)) := hR 7 i 3 ⟨h, by decide⟩
theorem rc_30_0 {S : SS} {V : Vw} {i : Nat} (hR : RepC S V) (h : i < 16) : V 30 i 0 = .inr (some (40, i)) := hR 30 i 0 ⟨h, by decide⟩
theorem rc_31_0 {S : SS} {V : Vw} {i : Nat} (hR : RepC S V) (h : i < 2) : V 31 i 0 = .inr (some (41, i)) := hR 31 i 0 ⟨h, by decide⟩
theorem rc_32_0 {S : SS} {V : Vw} (hR : RepC S V) : V 32 0 0 = .inr (some (42, 0)) := hR 32 0 0 ⟨rfl, by decide⟩
theorem rc_33_0 {S : SS} {V : Vw} {i : Nat} (hR : RepC S V) (h : (i : Int) < S 24 0) : V 33 i 0 = .inr (some (43, i)) := hR 33 i 0 ⟨h, by decide⟩
theorem rc_34_0 {S : SS} {V : Vw} {i : Nat} (hR : RepC S V) (h : (i : Int) < S 24 0) : V 34 i 0 = .inr (some (44, i)) := hR 34 i 0 ⟨h, by decide⟩
theorem rc_1_0 {S : SS} {V : Vw} {i : Nat} (hR : RepC S V) (h : i < 8) : V 1 i 0 = .inl (i : Int) := hR 1 i 0 ⟨h, by decide⟩
theorem rc_5_0 {S : SS} {V : Vw} {i : Nat} (hR : RepC S V) (h : (i : Int) < S 8 0) : V 5 i 0 = .inl (i : Int) := hR 5 i 0 ⟨h, by decide⟩
theorem rc_8 {S : SS} {V : Vw} {k : Nat} (hR : RepC S V) (h : k < 8) : V 8 0 k = .inr (some (1, k)) := hR 8 0 k ⟨rfl, h⟩
theorem rc_9 {S : SS} {V : Vw} {k : Nat} (hR : RepC S V) (h : k < 24) : V 9 0 k = .inl (S 6 k) := hR 9 0 k ⟨rfl, h⟩
theorem rc_10 {S : SS} {V : Vw} {k : Nat} (hR : RepC S V) (h : k < 24) : V 10 0 k = .inl (S 7 k) := hR 10 0 k ⟨rfl, h⟩
theorem rc_11 {S : SS} {V : Vw} {k : Nat} (hR : RepC S V) (h : (k : Int) < S 24 0) : V 11 0 k = .inr (some (7, k)) := hR 11 0 k ⟨rfl, h⟩
theorem rc_6 {S : SS} {V : Vw} {i k : Nat} (hR : RepC S V) (h : (i : Int) < S 8 0) (hk : k < 7) : V 6 i k = .inl (S 23 (7 * (i : Int) + k)) := hR 6 i k ⟨h, hk⟩
theorem rc_40 {S : SS} {V : Vw} {i k : Nat} (hR : RepC S V) (h : i < 16) (h3 : k < 3) (hk : (k : Int) < S 33 i) : V 40 i k = .inr (some (5, (S 34 (30 * (i : Int) + k)).toNat)) := hR 40 i k ⟨⟨h, h3⟩, hk⟩
theorem rc_41 {S : SS} {V : Vw} {i k : Nat} (hR : RepC S V) (h : i < 2) (h3 : k < 30) (hk : (k : Int) < S 31 i) : V 41 i k = .inr (some (5, (S 32 (30 * (i : Int) + k)).toNat)) := hR 41 i k ⟨⟨h, h3⟩, hk⟩
theorem rc_42 {S : SS} {V : Vw} {k : Nat} (hR : RepC S V) (h3 : k < 30) (hk : (k : Int) < S 8 0) : V 42 0 k = .inr (some (5, k)) := hR 42 0 k ⟨⟨rfl, h3⟩, hk⟩
theorem rc_43 {S : SS} {V : Vw} {i k : Nat} (hR : RepC S V) (h : (i : Int) < S 24 0) (h3 : k < 8) (hk : (k : Int) < S 27 i) : V 43 i k = .inr (some (5, (S 28 (8 * (i : Int) + k)).toNat)) := hR 43 i k ⟨⟨h, h3⟩, hk⟩
theorem rc_44 {S : SS} {V : Vw} {i k : Nat} (hR : RepC S V) (h : (i : Int) < S 24 0) (h3 : k < 30) (hk : (k : Int) < S 29 i) : V 44 i k = .inr (some (5, (S 30 (30 * (i : Int) + k)).toNat)) := hR 44 i k ⟨⟨h, h3⟩, hk⟩
