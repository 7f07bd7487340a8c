/-! ===== the law: both worlds in one heap ===== -/
section LAW1
variable {D : va_G} {cA : Nat → ClassId} {A : Nat → Prop} {ad : Ad} {lv : Lw} {V : Vw} {sz : Nat} {H : Heap}
/-- what a call may change: its own cells, and those that it makes -/
def Aof (ad : Ad) (lv : Lw) (sz : Nat) : Nat → Prop := fun q => (∃ σ i, lv σ i = true ∧ ad σ i = q) ∨ sz ≤ q
theorem HP.own (h : HP D cA A ad lv V sz H) : HP D cA (Aof ad lv sz) ad lv V sz H := ⟨h.1, fun σ i hl => ⟨Or.inl ⟨σ, i, hl, rfl⟩, (h.2.1 σ i hl).2⟩, h.2.2⟩
theorem HP.lt (h : HP D cA A ad lv V sz H) {σ i : Nat} (hl : lv σ i = true) : ad σ i < sz := by
  have := (h.2.1 σ i hl).2.lt
  rw [h.1] at this
  exact this
theorem HP.base {B : Nat → Prop} (h : HP D cA A ad lv V sz H) (m : ∀ q, A q → B q) : HP D cA B ad lv V sz H := ⟨h.1, fun σ i hl => ⟨m _ (h.2.1 σ i hl).1, (h.2.1 σ i hl).2⟩, h.2.2⟩
theorem HP.stay {H1 : Heap} {sz1 : Nat} (h : HP D cA A ad lv V sz H) (hz : H1.size = sz1) (hk : ∀ σ i, lv σ i = true → H1[ad σ i]? = H[ad σ i]?) : HP D cA A ad lv V sz1 H1 := ⟨hz, fun σ i hl => ⟨(h.2.1 σ i hl).1, (h.2.1 σ i hl).2.kept (hk σ i hl)⟩, h.2.2⟩
theorem HP.view {ad' : Ad} {V' : Vw} (h : HP D cA A ad lv V sz H) (ea : ∀ σ i, lv σ i = true → ad' σ i = ad σ i) (e : ∀ σ i, lv σ i = true → ∀ k, k < cellSz σ i → rl ad' (V' σ i k) = rl ad (V σ i k)) : HP D cA A ad' lv V' sz H := by
  refine ⟨h.1, fun σ i hl => ?_, fun σ i τ j hl hl' q => ?_⟩
  · rw [ea σ i hl]
    exact ⟨(h.2.1 σ i hl).1, (h.2.1 σ i hl).2.congr fun k hk => (e σ i hl k hk).symm⟩
  · rw [ea σ i hl, ea τ j hl'] at q
    exact h.2.2 σ i τ j hl hl' q
/-- references to cells that are not there get a name of their own -/
def cln (lv : Lw) (ad : Ad) (V : Vw) : Vw := fun σ i k => match V σ i k with
  | .inr (some q) => if lv q.1 q.2 = true then .inr (some q) else .inr (some (98, ad q.1 q.2))
  | v => v
def adN (lv : Lw) (ad f : Ad) : Ad := fun σ i => if σ = 98 then i else if lv σ i = true then ad σ i else f σ i
theorem HP.anew (h : HP D cA A ad lv V sz H) (h98 : ∀ j, lv 98 j = false) (f : Ad) : HP D cA A (adN lv ad f) lv (cln lv ad V) sz H := by
  have ea : ∀ σ i, lv σ i = true → adN lv ad f σ i = ad σ i := fun σ i hl => by
    have : σ ≠ 98 := fun e => by rw [e, h98] at hl; cases hl
    unfold adN
    rw [if_neg this, if_pos hl]
  refine h.view ea (fun σ i _ k _ => ?_)
  unfold cln
  rcases V σ i k with x | _ | q
  · rfl
  · rfl
  · show rl (adN lv ad f) (if lv q.1 q.2 = true then .inr (some q) else .inr (some (98, ad q.1 q.2))) = rl ad (.inr (some q))
    by_cases hq : lv q.1 q.2 = true
    · rw [if_pos hq]
      show Value.ref (adN lv ad f q.1 q.2) = Value.ref (ad q.1 q.2)
      rw [ea _ _ hq]
    · rw [if_neg hq]
      show Value.ref (adN lv ad f 98 (ad q.1 q.2)) = Value.ref (ad q.1 q.2)
      unfold adN
      rw [if_pos rfl]
/-- what stands for something refers to what is there -/
theorem live_toC {S : SS} (hI : Inv S) {σ i k : Nat} (hd : okd S σ i k) {q : Nat × Nat} (hq : toC S σ i k = .inr (some q)) : lvC (S 8 0) (S 24 0) q.1 q.2 = true := by
  obtain ⟨hB, hM, hcv, -⟩ := hI
  have ent : ∀ {x y : Int}, 0 ≤ x → x < y → decide ((x.toNat : Int) < y) = true := fun h0 h1 => by rw [decide_eq_true_iff]; omega
  unfold okd at hd
  split at hd
  · have hk : k = 0 ∨ k = 1 ∨ k = 2 ∨ k = 3 ∨ k = 4 ∨ k = 5 ∨ k = 6 ∨ k = 7 ∨ k = 8 ∨ k = 9 ∨ k = 10 := by omega
    rcases hk with rfl | rfl | rfl | rfl | rfl | rfl | rfl | rfl | rfl | rfl | rfl <;> simp [toC, src, cst] at hq <;> (subst hq; simp [lvC])
  · have hk : k = 0 ∨ k = 1 ∨ k = 2 ∨ k = 3 ∨ k = 4 ∨ k = 5 := by omega
    rcases hk with rfl | rfl | rfl | rfl | rfl | rfl <;> simp [toC, src, cst] at hq <;> (subst hq; simp [lvC]; omega)
  · have hk : k = 0 ∨ k = 1 := by omega
    rcases hk with rfl | rfl <;> simp [toC, src, cst] at hq <;> (subst hq; simp [lvC]; omega)
  · have hk : k = 0 ∨ k = 1 := by omega
    rcases hk with rfl | rfl <;> simp [toC, src, cst] at hq <;> (subst hq; simp [lvC]; omega)
  · have hk : k = 0 ∨ k = 1 := by omega
    rcases hk with rfl | rfl <;> simp [toC, src, cst] at hq <;> (subst hq; simp [lvC]; omega)
  · have hk : k = 0 ∨ k = 1 := by omega
    rcases hk with rfl | rfl <;> simp [toC, src, cst] at hq <;> (subst hq; simp [lvC]; omega)
  · have hk : k = 0 ∨ k = 1 := by omega
    rcases hk with rfl | rfl <;> simp [toC, src, cst] at hq <;> (subst hq; simp [lvC]; omega)
  · have hk : k = 0 ∨ k = 1 := by omega
    rcases hk with rfl | rfl <;> simp [toC, src, cst] at hq <;> (subst hq; simp [lvC]; omega)
  · have e : toC S 40 i k = .inr (some (5, (S 34 (30 * (i : Int) + k)).toNat)) := by simp [toC, src]
    rw [e] at hq
    cases hq
    have e2 : 2 * ((i : Int) / 2) + (i : Int) % 2 = i := by omega
    have l := hM.la ((i : Int) / 2) ((i : Int) % 2) k (by omega) (by omega) (by omega) (by omega) (by rw [e2]; exact hd.2)
    rw [e2] at l
    exact ent l.1 l.2.1
  · have e : toC S 41 i k = .inr (some (5, (S 32 (30 * (i : Int) + k)).toNat)) := by simp [toC, src]
    rw [e] at hq
    cases hq
    have l := hM.li i k (by omega) (by omega) hd.2
    exact ent l.1 l.2.1
  · have e : toC S 42 i k = .inr (some (5, k)) := by simp [toC, src, cst]
    rw [e] at hq
    cases hq
    show decide ((k : Int) < S 8 0) = true
    rw [decide_eq_true_iff]
    exact hd.2
  · have e : toC S 43 i k = .inr (some (5, (S 28 (8 * (i : Int) + k)).toNat)) := by simp [toC, src]
    rw [e] at hq
    cases hq
    have l := (hcv i (by omega) hd.1.1).1 k (by omega) hd.2
    exact ent l.1 l.2
  · have e : toC S 44 i k = .inr (some (5, (S 30 (30 * (i : Int) + k)).toNat)) := by simp [toC, src]
    rw [e] at hq
    cases hq
    have l := (hcv i (by omega) hd.1.1).2.1 k (by omega) hd.2
    exact ent l.1 l.2
  · have hk : k = 0 ∨ k = 1 ∨ k = 2 ∨ k = 3 ∨ k = 4 ∨ k = 5 ∨ k = 6 ∨ k = 7 ∨ k = 8 ∨ k = 9 ∨ k = 10 ∨ k = 11 ∨ k = 12 ∨ k = 13 ∨ k = 14 ∨ k = 15 := by omega
    rcases hk with rfl | rfl | rfl | rfl | rfl | rfl | rfl | rfl | rfl | rfl | rfl | rfl | rfl | rfl | rfl | rfl <;> simp [toC, src, cst] at hq <;> (subst hq; simp [lvC]; omega)
  · simp [toC, src] at hq
  · have hk : k = 0 ∨ k = 1 ∨ k = 2 ∨ k = 3 := by omega
    rcases hk with rfl | rfl | rfl | rfl <;> simp [toC, src, cst] at hq <;> (subst hq; simp [lvC]; omega)
  · simp [toC, src, cst] at hq
    subst hq
    simp [lvC]; omega
  · simp [toC, src] at hq
  · simp [toC, src] at hq
  · simp [toC, src, cst] at hq
    subst hq
    simp [lvC]; omega
  · exact hd.elim
theorem RC.anew {S : SS} (hI : Inv S) (hC : RC (S 8 0) (S 24 0) S V) : RC (S 8 0) (S 24 0) S (cln (lvC (S 8 0) (S 24 0)) ad V) := by
  refine ⟨fun σ i k hd => ?_, hC.2⟩
  have e := hC.1 σ i k hd
  unfold cln
  rw [e]
  cases hq : toC S σ i k with
  | inl x => rfl
  | inr o =>
    cases o with
    | none => rfl
    | some q =>
      show (if lvC (S 8 0) (S 24 0) q.1 q.2 = true then (.inr (some q) : AV) else _) = _
      rw [if_pos (live_toC hI hd hq)]
/-- both objects in the heap: the class's with S1, the reference's with S2 -/
def WL (D : va_G) (cA : Nat → ClassId) (h0 a1 a2 : Nat) (S1 S2 : SS) (H : Heap) : Prop :=
  ∃ (ad1 : Ad) (V1 : Vw) (ad2 : Ad), HP D cA (fun q => h0 ≤ q) ad1 (lvC (S1 8 0) (S1 24 0)) V1 H.size H ∧ RC (S1 8 0) (S1 24 0) S1 V1 ∧ HP D cA (fun q => h0 ≤ q) ad2 lvR (VR S2) H.size H ∧ ad1 0 0 = a1 ∧ ad2 50 0 = a2 ∧ ∀ σ i τ j, lvC (S1 8 0) (S1 24 0) σ i = true → lvR τ j = true → ad1 σ i ≠ ad2 τ j
theorem WL.ghost {h0 a1 a2 : Nat} {S1 S2 S3 : SS} (h : WL D cA h0 a1 a2 S1 S2 H) (e : ∀ k, k < 36 → ∀ x, S3 k x = S2 k x) : WL D cA h0 a1 a2 S1 S3 H := by
  obtain ⟨ad1, V1, ad2, h1, h2, h3, h4, h5, h6⟩ := h
  refine ⟨ad1, V1, ad2, h1, h2, h3.view (fun _ _ _ => rfl) (fun σ i hl k _ => ?_), h4, h5, h6⟩
  have : VR S3 σ i k = VR S2 σ i k := by
    simp only [lvR, Bool.or_eq_true, Bool.and_eq_true, beq_iff_eq, Bool.not_eq_true', decide_eq_true_eq] at hl
    unfold VR
    rcases hl with ⟨rfl, rfl⟩ | ⟨⟨rfl, -⟩, h36⟩
    · rw [if_pos rfl, if_pos rfl]
      by_cases hs : scal k = true
      · rw [if_pos hs, if_pos hs, e k]
        simp only [scal, Bool.or_eq_true, beq_iff_eq] at hs
        omega
      · rw [if_neg hs, if_neg hs]
    · rw [if_neg (by decide), if_pos rfl, if_neg (by decide), if_pos rfl, e i h36]
  rw [this]
end LAW1
