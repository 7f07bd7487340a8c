section CLS12
variable {l : Launch} {D : va_G} {cA : Nat → ClassId} {A : Nat → Prop} {ad : Ad} {V : Vw} {sz : Nat}
/-- the state of a new object -/
def S0 : SS := fun k _ => if k = 1 then 5 else if k = 3 then 20 else if k = 4 then 15 else if k = 35 then -1000 else 0
theorem arrV_congr (cI : ClassId) {n : Nat} {f g : Nat → Value} (h : ∀ k, k < n → f k = g k) : arrV cI n f = arrV cI n g := by
  have e : (fun j : Fin n => f j.val) = (fun j : Fin n => g j.val) := funext fun j => h j.val j.isLt
  unfold arrV
  rw [e]
def cellSz (σ i : Nat) : Nat := match Kd σ i with
  | .inl ci => Nc ci
  | .inr _ => Ln σ i
theorem cellSz_51 (i : Nat) : cellSz 51 i = LnR i := by
  unfold cellSz
  by_cases h : i = 5 ∨ i = 11 ∨ i = 13 ∨ i = 17 ∨ i = 18
  · rw [show Kd 51 i = .inr 1 from if_pos h]; rfl
  · rw [show Kd 51 i = .inr 0 from if_neg h]; rfl
theorem cellOK.congr {σ i a : Nat} {H : Heap} {f g : Nat → Value} (hc : cellOK D cA (Kd σ i) (Ln σ i) f a H) (h : ∀ k, k < cellSz σ i → f k = g k) : cellOK D cA (Kd σ i) (Ln σ i) g a H := by
  unfold cellSz at h
  cases hk : Kd σ i with
  | inl ci =>
    rw [hk] at hc h
    exact t_OB.to hc h
  | inr t =>
    rw [hk] at hc h
    show _ = _
    rw [← arrV_congr (cA t) h]
    exact hc
theorem AW.vw2 {y : MethodName} {cc : ByteArray} {nL : Nat} {ret : Option FieldType} {R : Room} {Post : Pst} {cells slots : Nat} {lv : Lw} {V V' : Vw} {sz pc : Nat} {L : List (Option AV)} {st : List AV} (kk : AW l D cA A ad y cc nL ret R Post cells slots lv V' sz pc L st) (h : ∀ σ i, lv σ i = true → ∀ k, k < cellSz σ i → V' σ i k = V σ i k) : AW l D cA A ad y cc nL ret R Post cells slots lv V sz pc L st := by
  intro p e s m args below meth c H locs ls X hA hH hS hL
  refine kk p e s m args below meth c H locs ls X hA ⟨hH.1, fun σ i hl => ⟨(hH.2.1 σ i hl).1, ?_⟩, hH.2.2⟩ hS hL
  exact (hH.2.1 σ i hl).2.congr fun k hk => by rw [h σ i hl k hk]
theorem AW.lvw {y : MethodName} {cc : ByteArray} {nL : Nat} {ret : Option FieldType} {R : Room} {Post : Pst} {cells slots : Nat} {lv lv' : Lw} {V V' : Vw} {sz pc : Nat} {L : List (Option AV)} {st : List AV} (kk : AW l D cA A ad y cc nL ret R Post cells slots lv' V' sz pc L st) (hl : lv = lv') (h : ∀ σ i, lv' σ i = true → V' σ i = V σ i) : AW l D cA A ad y cc nL ret R Post cells slots lv V sz pc L st := by
  subst hl
  exact AW.vw h kk
/-! the reference's constructor -/
def lvI (m : Nat) : Lw := fun σ i => (σ == 50 && i == 0) || (σ == 51 && !(scal i) && decide (i < m))
def VI (m : Nat) : Vw := fun σ _ k => if σ = 50 then (if scal k = true then .inl (S0 k 0) else if k < m then .inr (some (51, k)) else .inr none) else .inl 0
theorem lvI_iff {m σ i : Nat} : lvI m σ i = true ↔ (σ = 50 ∧ i = 0) ∨ (σ = 51 ∧ scal i = false ∧ i < m) := by
  simp only [lvI, Bool.or_eq_true, Bool.and_eq_true, beq_iff_eq, Bool.not_eq_true', decide_eq_true_eq, and_assoc]
theorem lvI_step {m k : Nat} (h : ∀ i, m ≤ i → i < k → scal i = true) (hk : scal k = false) (hm : m ≤ k) : l2 (lvI m) 51 k = lvI (k + 1) := by
  refine lw_ext fun σ i => ?_
  rw [l2_iff, lvI_iff, lvI_iff]
  constructor
  · rintro (⟨rfl, rfl⟩ | h1 | ⟨h1, h2, h3⟩)
    · exact Or.inr ⟨rfl, hk, by omega⟩
    · exact Or.inl h1
    · exact Or.inr ⟨h1, h2, by omega⟩
  · rintro (h1 | ⟨h1, h2, h3⟩)
    · exact Or.inr (Or.inl h1)
    · by_cases hi : i < m
      · exact Or.inr (Or.inr ⟨h1, h2, hi⟩)
      · by_cases hik : i = k
        · exact Or.inl ⟨h1, hik⟩
        · have := h i (by omega) (by omega)
          rw [h2] at this
          cases this
theorem VI_step {m k : Nat} (h : ∀ i, m ≤ i → i < k → scal i = true) (hk : scal k = false) (hm : m ≤ k) : ∀ σ i, lvI (k + 1) σ i = true → VI (k + 1) σ i = s3 (sC (VI m) 51 k (fun _ => .inl 0)) 50 0 k (.inr (some (51, k))) σ i := by
  intro σ i hl
  rw [lvI_iff] at hl
  funext q
  rcases hl with ⟨rfl, rfl⟩ | ⟨rfl, h2, h3⟩
  · by_cases hq : q = k
    · subst hq
      rw [s3_self]
      simp only [VI]
      rw [if_pos trivial, if_neg (by rw [hk]; decide), if_pos (by omega)]
    · rw [s3_ne (fun g => hq g.2.2), sC_cell (fun g => by cases g.1)]
      simp only [VI]
      rw [if_pos trivial, if_pos trivial]
      by_cases hs : scal q = true
      · rw [if_pos hs, if_pos hs]
      · rw [if_neg hs, if_neg hs]
        by_cases hm2 : q < m
        · rw [if_pos hm2, if_pos (by omega)]
        · rw [if_neg hm2, if_neg]
          intro h4
          exact hs (h q (by omega) (by omega))
  · rw [s3_cell (fun g => by cases g.1)]
    by_cases hik : i = k
    · subst hik
      rw [sC_self]
      simp [VI]
    · rw [sC_cell (fun g => hik g.2)]
      simp [VI]
theorem sc0 {m : Nat} : ∀ i, m ≤ i → i < m → scal i = true := fun i h1 h2 => by omega
theorem sc1 {m : Nat} (h : scal m = true) : ∀ i, m ≤ i → i < m + 1 → scal i = true := by
  intro i h1 h2
  have e : i = m := by omega
  rw [e]; exact h
def SL : Nat → SS
  | 0 => fun k _ => if k = 1 then 5 else 0
  | n + 1 => u2 (u2 (u2 (u2 (SL n) 3 n 20) 4 n 15) 35 (2 * n) (-1000)) 35 (2 * n + 1) (-1000)
theorem SL_at (n : Nat) (k : Nat) (x : Int) : SL n k x = if k = 1 then 5 else if k = 3 ∧ 0 ≤ x ∧ x < n then 20 else if k = 4 ∧ 0 ≤ x ∧ x < n then 15 else if k = 35 ∧ 0 ≤ x ∧ x < 2 * n then -1000 else 0 := by
  induction n with
  | zero =>
    simp only [SL]
    repeat' split
    all_goals first | rfl | (exfalso; omega)
  | succ n ih =>
    simp only [SL, u2]
    rw [ih]
    repeat' split
    all_goals first | rfl | (exfalso; omega)
theorem SL_8 {i k : Nat} (hi : i < 36) (hk : k < LnR i) : SL 8 i (k : Int) = S0 i (k : Int) := by
  rw [SL_at]
  unfold S0
  have h3 : i = 3 → k < 8 := fun e => by subst e; exact hk
  have h4 : i = 4 → k < 8 := fun e => by subst e; exact hk
  have h35 : i = 35 → k < 16 := fun e => by subst e; exact hk
  by_cases c1 : i = 1
  · rw [if_pos c1, if_pos c1]
  rw [if_neg c1, if_neg c1]
  by_cases c3 : i = 3
  · rw [if_pos ⟨c3, by omega⟩, if_pos c3]
  rw [if_neg (fun q => c3 q.1), if_neg c3]
  by_cases c4 : i = 4
  · rw [if_pos ⟨c4, by omega⟩, if_pos c4]
  rw [if_neg (fun q => c4 q.1), if_neg c4]
  by_cases c35 : i = 35
  · rw [if_pos ⟨c35, by omega⟩, if_pos c35]
  rw [if_neg (fun q => c35 q.1), if_neg c35]
set_option maxRecDepth 100000 in
set_option maxHeartbeats 4000000 in
theorem c_X6_init_l : ∀ (f n : Nat), n + f = 8 → AW l D cA A ad yX6_init cX6_init 2 none rm_X6_init (PR none S0 (sz + 31)) 31 1780 lvR (VR (SL n)) (sz + 31) 261 [some (.inr (some (50, 0))), some (.inl (n : Int))] [] := by
  intro f
  induction f with
  | zero =>
    intro n hn
    have e : n = 8 := by omega
    subst e
    refine aw_iload_n dX6_init_261 rfl rfl ?_
    refine aw_bipush dX6_init_262 (by decide) ?_
    refine aw_icmp_ge (tgt := 313) dX6_init_264 (by decide) (by omega) (by omega) (fun c_264 => ?_) (fun c_264 => absurd c_264 (by decide))
    refine AW.vw2 (V' := VR S0) ?_ (fun σ i hl k hk => ?_)
    · refine aw_vret dX6_init_313 rfl (by decide) (by decide) ⟨rfl, rfl, rfl, rfl⟩
    · have hl2 := lvI_iff.mp (show lvI 36 σ i = true from hl)
      rcases hl2 with ⟨rfl, rfl⟩ | ⟨rfl, h2, h3⟩
      · have hk2 : k < 36 := hk
        simp only [VR]
        rw [if_pos trivial, if_pos trivial]
        by_cases hs : scal k = true
        · rw [if_pos hs, if_pos hs]
          congr 1
          rw [SL_at]
          unfold S0
          have hk3 : k = 0 ∨ k = 1 ∨ k = 2 ∨ k = 8 ∨ k = 24 := by simp only [scal, Bool.or_eq_true, beq_iff_eq] at hs; omega
          rcases hk3 with rfl | rfl | rfl | rfl | rfl <;> rfl
        · rw [if_neg hs, if_neg hs]
      · rw [VR_arr, VR_arr, SL_8 h3 (by rw [← cellSz_51]; exact hk)]
  | succ f ih =>
    intro n hn
    refine aw_iload_n dX6_init_261 rfl rfl ?_
    refine aw_bipush dX6_init_262 (by decide) ?_
    refine aw_icmp_ge (tgt := 313) dX6_init_264 (by decide) (by omega) (by omega) (fun c_264 => absurd c_264 (by omega)) (fun c_264 => ?_)
    refine aw_aload_n dX6_init_267 rfl rfl ?_
    refine rr_getA dX6_init_268 flX6_13 rfl (by decide) ?_
    refine aw_iload_n dX6_init_271 rfl rfl ?_
    refine aw_bipush dX6_init_272 (by decide) ?_
    refine rr_iast (n := 8) dX6_init_274 rfl rfl rfl (by omega) (by omega) ?_
    refine aw_aload_n dX6_init_275 rfl rfl ?_
    refine rr_getA dX6_init_276 flX6_17 rfl (by decide) ?_
    refine aw_iload_n dX6_init_279 rfl rfl ?_
    refine aw_bipush dX6_init_280 (by decide) ?_
    refine rr_iast (n := 8) dX6_init_282 rfl rfl rfl (by omega) (by omega) ?_
    refine aw_aload_n dX6_init_283 rfl rfl ?_
    refine rr_getA dX6_init_284 flX6_105 rfl (by decide) ?_
    refine aw_iconst dX6_init_287 ?_
    refine aw_iload_n dX6_init_288 rfl rfl ?_
    refine aw_imul dX6_init_289 ?_
    refine aw_sipush dX6_init_290 (by decide) ?_
    refine rr_iast (n := 16) dX6_init_293 rfl rfl rfl (by omega) (by omega) ?_
    refine aw_aload_n dX6_init_294 rfl rfl ?_
    refine rr_getA dX6_init_295 flX6_105 rfl (by decide) ?_
    refine aw_iconst dX6_init_298 ?_
    refine aw_iload_n dX6_init_299 rfl rfl ?_
    refine aw_imul dX6_init_300 ?_
    refine aw_iconst dX6_init_301 ?_
    refine aw_iadd dX6_init_302 ?_
    refine aw_sipush dX6_init_303 (by decide) ?_
    refine rr_iast (n := 16) dX6_init_306 rfl rfl rfl (by omega) (by omega) ?_
    refine aw_iinc dX6_init_307 rfl (by decide) ?_
    refine aw_goto (tgt := 261) dX6_init_310 (by decide) ?_
    exact AW.toV (ih (n + 1) (by omega)) rfl rfl
set_option maxRecDepth 100000 in
set_option maxHeartbeats 4000000 in
theorem c_X6_init_a (had3 : ad 51 3 = sz) (had4 : ad 51 4 = sz + 1) (had5 : ad 51 5 = sz + 1 + 1) (had6 : ad 51 6 = sz + 1 + 1 + 1) (had7 : ad 51 7 = sz + 1 + 1 + 1 + 1) (had9 : ad 51 9 = sz + 1 + 1 + 1 + 1 + 1) (had10 : ad 51 10 = sz + 1 + 1 + 1 + 1 + 1 + 1) (had11 : ad 51 11 = sz + 1 + 1 + 1 + 1 + 1 + 1 + 1) (had12 : ad 51 12 = sz + 1 + 1 + 1 + 1 + 1 + 1 + 1 + 1) (had13 : ad 51 13 = sz + 1 + 1 + 1 + 1 + 1 + 1 + 1 + 1 + 1) (had14 : ad 51 14 = sz + 1 + 1 + 1 + 1 + 1 + 1 + 1 + 1 + 1 + 1) (had15 : ad 51 15 = sz + 1 + 1 + 1 + 1 + 1 + 1 + 1 + 1 + 1 + 1 + 1) (had16 : ad 51 16 = sz + 1 + 1 + 1 + 1 + 1 + 1 + 1 + 1 + 1 + 1 + 1 + 1) (had17 : ad 51 17 = sz + 1 + 1 + 1 + 1 + 1 + 1 + 1 + 1 + 1 + 1 + 1 + 1 + 1) (had18 : ad 51 18 = sz + 1 + 1 + 1 + 1 + 1 + 1 + 1 + 1 + 1 + 1 + 1 + 1 + 1 + 1) (had19 : ad 51 19 = sz + 1 + 1 + 1 + 1 + 1 + 1 + 1 + 1 + 1 + 1 + 1 + 1 + 1 + 1 + 1) (had20 : ad 51 20 = sz + 1 + 1 + 1 + 1 + 1 + 1 + 1 + 1 + 1 + 1 + 1 + 1 + 1 + 1 + 1 + 1) (had21 : ad 51 21 = sz + 1 + 1 + 1 + 1 + 1 + 1 + 1 + 1 + 1 + 1 + 1 + 1 + 1 + 1 + 1 + 1 + 1) (had22 : ad 51 22 = sz + 1 + 1 + 1 + 1 + 1 + 1 + 1 + 1 + 1 + 1 + 1 + 1 + 1 + 1 + 1 + 1 + 1 + 1) (had23 : ad 51 23 = sz + 1 + 1 + 1 + 1 + 1 + 1 + 1 + 1 + 1 + 1 + 1 + 1 + 1 + 1 + 1 + 1 + 1 + 1 + 1) (had25 : ad 51 25 = sz + 1 + 1 + 1 + 1 + 1 + 1 + 1 + 1 + 1 + 1 + 1 + 1 + 1 + 1 + 1 + 1 + 1 + 1 + 1 + 1) (had26 : ad 51 26 = sz + 1 + 1 + 1 + 1 + 1 + 1 + 1 + 1 + 1 + 1 + 1 + 1 + 1 + 1 + 1 + 1 + 1 + 1 + 1 + 1 + 1) (had27 : ad 51 27 = sz + 1 + 1 + 1 + 1 + 1 + 1 + 1 + 1 + 1 + 1 + 1 + 1 + 1 + 1 + 1 + 1 + 1 + 1 + 1 + 1 + 1 + 1) (had28 : ad 51 28 = sz + 1 + 1 + 1 + 1 + 1 + 1 + 1 + 1 + 1 + 1 + 1 + 1 + 1 + 1 + 1 + 1 + 1 + 1 + 1 + 1 + 1 + 1 + 1) (had29 : ad 51 29 = sz + 1 + 1 + 1 + 1 + 1 + 1 + 1 + 1 + 1 + 1 + 1 + 1 + 1 + 1 + 1 + 1 + 1 + 1 + 1 + 1 + 1 + 1 + 1 + 1) (had30 : ad 51 30 = sz + 1 + 1 + 1 + 1 + 1 + 1 + 1 + 1 + 1 + 1 + 1 + 1 + 1 + 1 + 1 + 1 + 1 + 1 + 1 + 1 + 1 + 1 + 1 + 1 + 1) (had31 : ad 51 31 = sz + 1 + 1 + 1 + 1 + 1 + 1 + 1 + 1 + 1 + 1 + 1 + 1 + 1 + 1 + 1 + 1 + 1 + 1 + 1 + 1 + 1 + 1 + 1 + 1 + 1 + 1) (had32 : ad 51 32 = sz + 1 + 1 + 1 + 1 + 1 + 1 + 1 + 1 + 1 + 1 + 1 + 1 + 1 + 1 + 1 + 1 + 1 + 1 + 1 + 1 + 1 + 1 + 1 + 1 + 1 + 1 + 1) (had33 : ad 51 33 = sz + 1 + 1 + 1 + 1 + 1 + 1 + 1 + 1 + 1 + 1 + 1 + 1 + 1 + 1 + 1 + 1 + 1 + 1 + 1 + 1 + 1 + 1 + 1 + 1 + 1 + 1 + 1 + 1) (had34 : ad 51 34 = sz + 1 + 1 + 1 + 1 + 1 + 1 + 1 + 1 + 1 + 1 + 1 + 1 + 1 + 1 + 1 + 1 + 1 + 1 + 1 + 1 + 1 + 1 + 1 + 1 + 1 + 1 + 1 + 1 + 1) (had35 : ad 51 35 = sz + 1 + 1 + 1 + 1 + 1 + 1 + 1 + 1 + 1 + 1 + 1 + 1 + 1 + 1 + 1 + 1 + 1 + 1 + 1 + 1 + 1 + 1 + 1 + 1 + 1 + 1 + 1 + 1 + 1 + 1) (h : AW l D cA A ad yX6_init cX6_init 2 none rm_X6_init (PR none S0 (sz + 31)) (0 + 1 + 1 + 1 + 1 + 1 + 1 + 1 + 1 + 1 + 1 + 1 + 1 + 1 + 1 + 1 + 1 + 1 + 1 + 1 + 1 + 1 + 1 + 1 + 1 + 1 + 1 + 1 + 1 + 1 + 1 + 1) (0 + Ln 51 3 + Ln 51 4 + Ln 51 5 + Ln 51 6 + Ln 51 7 + Ln 51 9 + Ln 51 10 + Ln 51 11 + Ln 51 12 + Ln 51 13 + Ln 51 14 + Ln 51 15 + Ln 51 16 + Ln 51 17 + Ln 51 18 + Ln 51 19 + Ln 51 20 + Ln 51 21 + Ln 51 22 + Ln 51 23 + Ln 51 25 + Ln 51 26 + Ln 51 27 + Ln 51 28 + Ln 51 29 + Ln 51 30 + Ln 51 31 + Ln 51 32 + Ln 51 33 + Ln 51 34 + Ln 51 35) (lvI 36) (VI 36) (sz + 1 + 1 + 1 + 1 + 1 + 1 + 1 + 1 + 1 + 1 + 1 + 1 + 1 + 1 + 1 + 1 + 1 + 1 + 1 + 1 + 1 + 1 + 1 + 1 + 1 + 1 + 1 + 1 + 1 + 1 + 1) 261 [some (.inr (some (50, 0))), some (.inl 0)] []) : AW l D cA A ad yX6_init cX6_init 2 none rm_X6_init (PR none S0 (sz + 31)) 0 0 (lvI 3) (VI 3) sz 9 [some (.inr (some (50, 0))), none] [] := by
  refine aw_aload_n dX6_init_9 rfl rfl ?_
  refine aw_bipush dX6_init_10 (by decide) ?_
  refine aw_newa (σ := 51) (i := 3) (t := 0) dX6_init_12 rfl ac_int (by decide) rfl rfl (had3) (by decide) (by decide) ?_
  refine aw_putF dX6_init_14 flX6_13 (by decide) (by decide) rfl rfl rfl rfl (l2_of rfl) trivial ?_
  refine AW.lvw (lv' := lvI 4) (V' := VI 4) ?_ (lvI_step sc0 rfl (by decide)) (VI_step sc0 rfl (by decide))
  refine aw_aload_n dX6_init_17 rfl rfl ?_
  refine aw_bipush dX6_init_18 (by decide) ?_
  refine aw_newa (σ := 51) (i := 4) (t := 0) dX6_init_20 rfl ac_int (by decide) rfl rfl (had4) (by decide) (by decide) ?_
  refine aw_putF dX6_init_22 flX6_17 (by decide) (by decide) rfl rfl rfl rfl (l2_of rfl) trivial ?_
  refine AW.lvw (lv' := lvI 5) (V' := VI 5) ?_ (lvI_step sc0 rfl (by decide)) (VI_step sc0 rfl (by decide))
  refine aw_aload_n dX6_init_25 rfl rfl ?_
  refine aw_bipush dX6_init_26 (by decide) ?_
  refine aw_newa (σ := 51) (i := 5) (t := 1) dX6_init_28 rfl ac_boolean (by decide) rfl rfl (had5) (by decide) (by decide) ?_
  refine aw_putF dX6_init_30 flX6_20 (by decide) (by decide) rfl rfl rfl rfl (l2_of rfl) trivial ?_
  refine AW.lvw (lv' := lvI 6) (V' := VI 6) ?_ (lvI_step sc0 rfl (by decide)) (VI_step sc0 rfl (by decide))
  refine aw_aload_n dX6_init_33 rfl rfl ?_
  refine aw_bipush dX6_init_34 (by decide) ?_
  refine aw_newa (σ := 51) (i := 6) (t := 0) dX6_init_36 rfl ac_int (by decide) rfl rfl (had6) (by decide) (by decide) ?_
  refine aw_putF dX6_init_38 flX6_24 (by decide) (by decide) rfl rfl rfl rfl (l2_of rfl) trivial ?_
  refine AW.lvw (lv' := lvI 7) (V' := VI 7) ?_ (lvI_step sc0 rfl (by decide)) (VI_step sc0 rfl (by decide))
  refine aw_aload_n dX6_init_41 rfl rfl ?_
  refine aw_bipush dX6_init_42 (by decide) ?_
  refine aw_newa (σ := 51) (i := 7) (t := 0) dX6_init_44 rfl ac_int (by decide) rfl rfl (had7) (by decide) (by decide) ?_
  refine aw_putF dX6_init_46 flX6_27 (by decide) (by decide) rfl rfl rfl rfl (l2_of rfl) trivial ?_
  refine AW.lvw (lv' := lvI 8) (V' := VI 8) ?_ (lvI_step sc0 rfl (by decide)) (VI_step sc0 rfl (by decide))
  refine aw_aload_n dX6_init_49 rfl rfl ?_
  refine aw_bipush dX6_init_50 (by decide) ?_
  refine aw_newa (σ := 51) (i := 9) (t := 0) dX6_init_52 rfl ac_int (by decide) rfl rfl (had9) (by decide) (by decide) ?_
  refine aw_putF dX6_init_54 flX6_30 (by decide) (by decide) rfl rfl rfl rfl (l2_of rfl) trivial ?_
  refine AW.lvw (lv' := lvI 10) (V' := VI 10) ?_ (lvI_step (sc1 rfl) rfl (by decide)) (VI_step (sc1 rfl) rfl (by decide))
  refine aw_aload_n dX6_init_57 rfl rfl ?_
  refine aw_bipush dX6_init_58 (by decide) ?_
  refine aw_newa (σ := 51) (i := 10) (t := 0) dX6_init_60 rfl ac_int (by decide) rfl rfl (had10) (by decide) (by decide) ?_
  refine aw_putF dX6_init_62 flX6_33 (by decide) (by decide) rfl rfl rfl rfl (l2_of rfl) trivial ?_
  refine AW.lvw (lv' := lvI 11) (V' := VI 11) ?_ (lvI_step sc0 rfl (by decide)) (VI_step sc0 rfl (by decide))
  refine aw_aload_n dX6_init_65 rfl rfl ?_
  refine aw_bipush dX6_init_66 (by decide) ?_
  refine aw_newa (σ := 51) (i := 11) (t := 1) dX6_init_68 rfl ac_boolean (by decide) rfl rfl (had11) (by decide) (by decide) ?_
  refine aw_putF dX6_init_70 flX6_36 (by decide) (by decide) rfl rfl rfl rfl (l2_of rfl) trivial ?_
  refine AW.lvw (lv' := lvI 12) (V' := VI 12) ?_ (lvI_step sc0 rfl (by decide)) (VI_step sc0 rfl (by decide))
  refine aw_aload_n dX6_init_73 rfl rfl ?_
  refine aw_bipush dX6_init_74 (by decide) ?_
  refine aw_newa (σ := 51) (i := 12) (t := 0) dX6_init_76 rfl ac_int (by decide) rfl rfl (had12) (by decide) (by decide) ?_
  refine aw_putF dX6_init_78 flX6_39 (by decide) (by decide) rfl rfl rfl rfl (l2_of rfl) trivial ?_
  refine AW.lvw (lv' := lvI 13) (V' := VI 13) ?_ (lvI_step sc0 rfl (by decide)) (VI_step sc0 rfl (by decide))
  refine aw_aload_n dX6_init_81 rfl rfl ?_
  refine aw_bipush dX6_init_82 (by decide) ?_
  refine aw_newa (σ := 51) (i := 13) (t := 1) dX6_init_84 rfl ac_boolean (by decide) rfl rfl (had13) (by decide) (by decide) ?_
  refine aw_putF dX6_init_86 flX6_42 (by decide) (by decide) rfl rfl rfl rfl (l2_of rfl) trivial ?_
  refine AW.lvw (lv' := lvI 14) (V' := VI 14) ?_ (lvI_step sc0 rfl (by decide)) (VI_step sc0 rfl (by decide))
  refine aw_aload_n dX6_init_89 rfl rfl ?_
  refine aw_bipush dX6_init_90 (by decide) ?_
  refine aw_newa (σ := 51) (i := 14) (t := 0) dX6_init_92 rfl ac_int (by decide) rfl rfl (had14) (by decide) (by decide) ?_
  refine aw_putF dX6_init_94 flX6_45 (by decide) (by decide) rfl rfl rfl rfl (l2_of rfl) trivial ?_
  refine AW.lvw (lv' := lvI 15) (V' := VI 15) ?_ (lvI_step sc0 rfl (by decide)) (VI_step sc0 rfl (by decide))
  refine aw_aload_n dX6_init_97 rfl rfl ?_
  refine aw_bipush dX6_init_98 (by decide) ?_
  refine aw_newa (σ := 51) (i := 15) (t := 0) dX6_init_100 rfl ac_int (by decide) rfl rfl (had15) (by decide) (by decide) ?_
  refine aw_putF dX6_init_102 flX6_48 (by decide) (by decide) rfl rfl rfl rfl (l2_of rfl) trivial ?_
  refine AW.lvw (lv' := lvI 16) (V' := VI 16) ?_ (lvI_step sc0 rfl (by decide)) (VI_step sc0 rfl (by decide))
  refine aw_aload_n dX6_init_105 rfl rfl ?_
  refine aw_bipush dX6_init_106 (by decide) ?_
  refine aw_newa (σ := 51) (i := 16) (t := 0) dX6_init_108 rfl ac_int (by decide) rfl rfl (had16) (by decide) (by decide) ?_
  refine aw_putF dX6_init_110 flX6_51 (by decide) (by decide) rfl rfl rfl rfl (l2_of rfl) trivial ?_
  refine AW.lvw (lv' := lvI 17) (V' := VI 17) ?_ (lvI_step sc0 rfl (by decide)) (VI_step sc0 rfl (by decide))
  refine aw_aload_n dX6_init_113 rfl rfl ?_
  refine aw_bipush dX6_init_114 (by decide) ?_
  refine aw_newa (σ := 51) (i := 17) (t := 1) dX6_init_116 rfl ac_boolean (by decide) rfl rfl (had17) (by decide) (by decide) ?_
  refine aw_putF dX6_init_118 flX6_54 (by decide) (by decide) rfl rfl rfl rfl (l2_of rfl) trivial ?_
  refine AW.lvw (lv' := lvI 18) (V' := VI 18) ?_ (lvI_step sc0 rfl (by decide)) (VI_step sc0 rfl (by decide))
  refine aw_aload_n dX6_init_121 rfl rfl ?_
  refine aw_bipush dX6_init_122 (by decide) ?_
  refine aw_newa (σ := 51) (i := 18) (t := 1) dX6_init_124 rfl ac_boolean (by decide) rfl rfl (had18) (by decide) (by decide) ?_
  refine aw_putF dX6_init_126 flX6_57 (by decide) (by decide) rfl rfl rfl rfl (l2_of rfl) trivial ?_
  refine AW.lvw (lv' := lvI 19) (V' := VI 19) ?_ (lvI_step sc0 rfl (by decide)) (VI_step sc0 rfl (by decide))
  refine aw_aload_n dX6_init_129 rfl rfl ?_
  refine aw_bipush dX6_init_130 (by decide) ?_
  refine aw_newa (σ := 51) (i := 19) (t := 0) dX6_init_132 rfl ac_int (by decide) rfl rfl (had19) (by decide) (by decide) ?_
  refine aw_putF dX6_init_134 flX6_60 (by decide) (by decide) rfl rfl rfl rfl (l2_of rfl) trivial ?_
  refine AW.lvw (lv' := lvI 20) (V' := VI 20) ?_ (lvI_step sc0 rfl (by decide)) (VI_step sc0 rfl (by decide))
  refine aw_aload_n dX6_init_137 rfl rfl ?_
  refine aw_bipush dX6_init_138 (by decide) ?_
  refine aw_newa (σ := 51) (i := 20) (t := 0) dX6_init_140 rfl ac_int (by decide) rfl rfl (had20) (by decide) (by decide) ?_
  refine aw_putF dX6_init_142 flX6_63 (by decide) (by decide) rfl rfl rfl rfl (l2_of rfl) trivial ?_
  refine AW.lvw (lv' := lvI 21) (V' := VI 21) ?_ (lvI_step sc0 rfl (by decide)) (VI_step sc0 rfl (by decide))
  refine aw_aload_n dX6_init_145 rfl rfl ?_
  refine aw_bipush dX6_init_146 (by decide) ?_
  refine aw_newa (σ := 51) (i := 21) (t := 0) dX6_init_148 rfl ac_int (by decide) rfl rfl (had21) (by decide) (by decide) ?_
  refine aw_putF dX6_init_150 flX6_66 (by decide) (by decide) rfl rfl rfl rfl (l2_of rfl) trivial ?_
  refine AW.lvw (lv' := lvI 22) (V' := VI 22) ?_ (lvI_step sc0 rfl (by decide)) (VI_step sc0 rfl (by decide))
  refine aw_aload_n dX6_init_153 rfl rfl ?_
  refine aw_bipush dX6_init_154 (by decide) ?_
  refine aw_newa (σ := 51) (i := 22) (t := 0) dX6_init_156 rfl ac_int (by decide) rfl rfl (had22) (by decide) (by decide) ?_
  refine aw_putF dX6_init_158 flX6_69 (by decide) (by decide) rfl rfl rfl rfl (l2_of rfl) trivial ?_
  refine AW.lvw (lv' := lvI 23) (V' := VI 23) ?_ (lvI_step sc0 rfl (by decide)) (VI_step sc0 rfl (by decide))
  refine aw_aload_n dX6_init_161 rfl rfl ?_
  refine aw_sipush dX6_init_162 (by decide) ?_
  refine aw_newa (σ := 51) (i := 23) (t := 0) dX6_init_165 rfl ac_int (by decide) rfl rfl (had23) (by decide) (by decide) ?_
  refine aw_putF dX6_init_167 flX6_72 (by decide) (by decide) rfl rfl rfl rfl (l2_of rfl) trivial ?_
  refine AW.lvw (lv' := lvI 24) (V' := VI 24) ?_ (lvI_step sc0 rfl (by decide)) (VI_step sc0 rfl (by decide))
  refine aw_aload_n dX6_init_170 rfl rfl ?_
  refine aw_bipush dX6_init_171 (by decide) ?_
  refine aw_newa (σ := 51) (i := 25) (t := 0) dX6_init_173 rfl ac_int (by decide) rfl rfl (had25) (by decide) (by decide) ?_
  refine aw_putF dX6_init_175 flX6_75 (by decide) (by decide) rfl rfl rfl rfl (l2_of rfl) trivial ?_
  refine AW.lvw (lv' := lvI 26) (V' := VI 26) ?_ (lvI_step (sc1 rfl) rfl (by decide)) (VI_step (sc1 rfl) rfl (by decide))
  refine aw_aload_n dX6_init_178 rfl rfl ?_
  refine aw_bipush dX6_init_179 (by decide) ?_
  refine aw_newa (σ := 51) (i := 26) (t := 0) dX6_init_181 rfl ac_int (by decide) rfl rfl (had26) (by decide) (by decide) ?_
  refine aw_putF dX6_init_183 flX6_78 (by decide) (by decide) rfl rfl rfl rfl (l2_of rfl) trivial ?_
  refine AW.lvw (lv' := lvI 27) (V' := VI 27) ?_ (lvI_step sc0 rfl (by decide)) (VI_step sc0 rfl (by decide))
  refine aw_aload_n dX6_init_186 rfl rfl ?_
  refine aw_bipush dX6_init_187 (by decide) ?_
  refine aw_newa (σ := 51) (i := 27) (t := 0) dX6_init_189 rfl ac_int (by decide) rfl rfl (had27) (by decide) (by decide) ?_
  refine aw_putF dX6_init_191 flX6_81 (by decide) (by decide) rfl rfl rfl rfl (l2_of rfl) trivial ?_
  refine AW.lvw (lv' := lvI 28) (V' := VI 28) ?_ (lvI_step sc0 rfl (by decide)) (VI_step sc0 rfl (by decide))
  refine aw_aload_n dX6_init_194 rfl rfl ?_
  refine aw_bipush dX6_init_195 (by decide) ?_
  refine aw_newa (σ := 51) (i := 28) (t := 0) dX6_init_197 rfl ac_int (by decide) rfl rfl (had28) (by decide) (by decide) ?_
  refine aw_putF dX6_init_199 flX6_84 (by decide) (by decide) rfl rfl rfl rfl (l2_of rfl) trivial ?_
  refine AW.lvw (lv' := lvI 29) (V' := VI 29) ?_ (lvI_step sc0 rfl (by decide)) (VI_step sc0 rfl (by decide))
  refine aw_aload_n dX6_init_202 rfl rfl ?_
  refine aw_bipush dX6_init_203 (by decide) ?_
  refine aw_newa (σ := 51) (i := 29) (t := 0) dX6_init_205 rfl ac_int (by decide) rfl rfl (had29) (by decide) (by decide) ?_
  refine aw_putF dX6_init_207 flX6_87 (by decide) (by decide) rfl rfl rfl rfl (l2_of rfl) trivial ?_
  refine AW.lvw (lv' := lvI 30) (V' := VI 30) ?_ (lvI_step sc0 rfl (by decide)) (VI_step sc0 rfl (by decide))
  refine aw_aload_n dX6_init_210 rfl rfl ?_
  refine aw_sipush dX6_init_211 (by decide) ?_
  refine aw_newa (σ := 51) (i := 30) (t := 0) dX6_init_214 rfl ac_int (by decide) rfl rfl (had30) (by decide) (by decide) ?_
  refine aw_putF dX6_init_216 flX6_90 (by decide) (by decide) rfl rfl rfl rfl (l2_of rfl) trivial ?_
  refine AW.lvw (lv' := lvI 31) (V' := VI 31) ?_ (lvI_step sc0 rfl (by decide)) (VI_step sc0 rfl (by decide))
  refine aw_aload_n dX6_init_219 rfl rfl ?_
  refine aw_iconst dX6_init_220 ?_
  refine aw_newa (σ := 51) (i := 31) (t := 0) dX6_init_221 rfl ac_int (by decide) rfl rfl (had31) (by decide) (by decide) ?_
  refine aw_putF dX6_init_223 flX6_93 (by decide) (by decide) rfl rfl rfl rfl (l2_of rfl) trivial ?_
  refine AW.lvw (lv' := lvI 32) (V' := VI 32) ?_ (lvI_step sc0 rfl (by decide)) (VI_step sc0 rfl (by decide))
  refine aw_aload_n dX6_init_226 rfl rfl ?_
  refine aw_bipush dX6_init_227 (by decide) ?_
  refine aw_newa (σ := 51) (i := 32) (t := 0) dX6_init_229 rfl ac_int (by decide) rfl rfl (had32) (by decide) (by decide) ?_
  refine aw_putF dX6_init_231 flX6_96 (by decide) (by decide) rfl rfl rfl rfl (l2_of rfl) trivial ?_
  refine AW.lvw (lv' := lvI 33) (V' := VI 33) ?_ (lvI_step sc0 rfl (by decide)) (VI_step sc0 rfl (by decide))
  refine aw_aload_n dX6_init_234 rfl rfl ?_
  refine aw_bipush dX6_init_235 (by decide) ?_
  refine aw_newa (σ := 51) (i := 33) (t := 0) dX6_init_237 rfl ac_int (by decide) rfl rfl (had33) (by decide) (by decide) ?_
  refine aw_putF dX6_init_239 flX6_99 (by decide) (by decide) rfl rfl rfl rfl (l2_of rfl) trivial ?_
  refine AW.lvw (lv' := lvI 34) (V' := VI 34) ?_ (lvI_step sc0 rfl (by decide)) (VI_step sc0 rfl (by decide))
  refine aw_aload_n dX6_init_242 rfl rfl ?_
  refine aw_sipush dX6_init_243 (by decide) ?_
  refine aw_newa (σ := 51) (i := 34) (t := 0) dX6_init_246 rfl ac_int (by decide) rfl rfl (had34) (by decide) (by decide) ?_
  refine aw_putF dX6_init_248 flX6_102 (by decide) (by decide) rfl rfl rfl rfl (l2_of rfl) trivial ?_
  refine AW.lvw (lv' := lvI 35) (V' := VI 35) ?_ (lvI_step sc0 rfl (by decide)) (VI_step sc0 rfl (by decide))
  refine aw_aload_n dX6_init_251 rfl rfl ?_
  refine aw_bipush dX6_init_252 (by decide) ?_
  refine aw_newa (σ := 51) (i := 35) (t := 0) dX6_init_254 rfl ac_int (by decide) rfl rfl (had35) (by decide) (by decide) ?_
  refine aw_putF dX6_init_256 flX6_105 (by decide) (by decide) rfl rfl rfl rfl (l2_of rfl) trivial ?_
  refine AW.lvw (lv' := lvI 36) (V' := VI 36) ?_ (lvI_step sc0 rfl (by decide)) (VI_step sc0 rfl (by decide))
  refine aw_iconst dX6_init_259 ?_
  refine aw_istore_n dX6_init_260 rfl (by decide) ?_
  exact h
set_option maxRecDepth 100000 in
set_option maxHeartbeats 4000000 in
theorem c_X6_init (hV : ∀ q, V 50 0 q = dfl (tyT 6 q)) (had : ∀ i k, ([3, 4, 5, 6, 7, 9, 10, 11, 12, 13, 14, 15, 16, 17, 18, 19, 20, 21, 22, 23, 25, 26, 27, 28, 29, 30, 31, 32, 33, 34, 35])[i]? = some k → ad 51 k = sz + i) : CT l D cA A ad yX6_init cX6_init 2 none rm_X6_init [.inr (some (50, 0))] (l2 (fun _ _ => false) 50 0) V sz (PR none S0 (sz + 31)) := by
  refine CT.of2 [some (.inr (some (50, 0))), none] (by decide) (Nat.le_of_ble_eq_true rfl) rfl ?_
  refine aw_aload_n dX6_init_0 rfl rfl ?_
  refine aw_objInit dX6_init_1 mlX6_1 (by decide) (by decide) ?_
  refine aw_aload_n dX6_init_4 rfl rfl ?_
  refine aw_iconst dX6_init_5 ?_
  refine aw_put dX6_init_6 flX6_7 (by decide) (by decide) rfl rfl l2_self trivial ?_
  refine AW.lvw (lv' := lvI 3) (V' := fun σ i k => if k < 36 then VI 3 σ i k else dfl (tyT 6 k)) ?_ ?_ ?_
  · refine AW.vw2 (c_X6_init_a (had 0 3 rfl) (had 1 4 rfl) (had 2 5 rfl) (had 3 6 rfl) (had 4 7 rfl) (had 5 9 rfl) (had 6 10 rfl) (had 7 11 rfl) (had 8 12 rfl) (had 9 13 rfl) (had 10 14 rfl) (had 11 15 rfl) (had 12 16 rfl) (had 13 17 rfl) (had 14 18 rfl) (had 15 19 rfl) (had 16 20 rfl) (had 17 21 rfl) (had 18 22 rfl) (had 19 23 rfl) (had 20 25 rfl) (had 21 26 rfl) (had 22 27 rfl) (had 23 28 rfl) (had 24 29 rfl) (had 25 30 rfl) (had 26 31 rfl) (had 27 32 rfl) (had 28 33 rfl) (had 29 34 rfl) (had 30 35 rfl) ?_) ?_
    · refine AW.vw2 (c_X6_init_l 8 0 rfl) ?_
      intro σ i hl k hk
      rcases lvI_iff.mp hl with ⟨rfl, rfl⟩ | ⟨rfl, h2, h3⟩
      · have hk2 : k < 36 := hk
        simp only [VR, VI]
        rw [if_pos trivial, if_pos trivial]
        by_cases hs : scal k = true
        · rw [if_pos hs, if_pos hs]
          have hk3 : k = 0 ∨ k = 1 ∨ k = 2 ∨ k = 8 ∨ k = 24 := by simp only [scal, Bool.or_eq_true, beq_iff_eq] at hs; omega
          rcases hk3 with rfl | rfl | rfl | rfl | rfl <;> rfl
        · rw [if_neg hs, if_neg hs, if_pos hk2]
      · have h1 : i ≠ 1 := fun e => by subst e; cases h2
        rw [VR_arr]
        simp [VI, SL, h1]
    · intro σ i hl k hk
      rcases lvI_iff.mp hl with ⟨rfl, rfl⟩ | ⟨rfl, h2, h3⟩
      · have hk2 : k < 36 := hk
        rw [if_pos hk2]
      · exfalso
        have : i = 0 ∨ i = 1 ∨ i = 2 := by omega
        rcases this with rfl | rfl | rfl <;> cases h2
  · refine lw_ext fun σ i => ?_
    rw [l2_iff, lvI_iff]
    constructor
    · rintro (h | h)
      · exact Or.inl h
      · cases h
    · rintro (h | ⟨h1, h2, h3⟩)
      · exact Or.inl h
      · exfalso
        have : i = 0 ∨ i = 1 ∨ i = 2 := by omega
        rcases this with rfl | rfl | rfl <;> cases h2
  · intro σ i hl
    rcases lvI_iff.mp hl with ⟨rfl, rfl⟩ | ⟨rfl, h2, h3⟩
    · funext q
      by_cases hq : q = 1
      · subst hq
        rw [s3_self]
        rfl
      · rw [s3_ne (fun g => hq g.2.2), hV]
        by_cases h36 : q < 36
        · show (if q < 36 then VI 3 50 0 q else dfl (tyT 6 q)) = _
          rw [if_pos h36]
          exact (show ∀ q, q < 36 → q ≠ 1 → VI 3 50 0 q = dfl (tyT 6 q) by decide +kernel) q h36 hq
        · show (if q < 36 then VI 3 50 0 q else dfl (tyT 6 q)) = _
          rw [if_neg h36]
    · exfalso
      have : i = 0 ∨ i = 1 ∨ i = 2 := by omega
      rcases this with rfl | rfl | rfl <;> cases h2
def lvN (n : Nat) : Lw := fun σ i => match σ with
  | 1 => decide (i < n)
  | 2 => decide (i < 2 * n)
  | 30 => decide (i < 2 * n)
  | 40 => decide (i < 2 * n)
  | _ => lvC 0 0 σ i
theorem lvN_8 : lvN 8 = lvC 0 0 := by
  funext σ i
  unfold lvN
  split <;> rfl
theorem lvN_step {n : Nat} : l2 (l2 (l2 (l2 (l2 (l2 (l2 (lvN n) 1 n) 2 (2 * n)) 30 (2 * n)) 40 (2 * n)) 2 (2 * n + 1)) 30 (2 * n + 1)) 40 (2 * n + 1) = lvN (n + 1) := by
  refine lw_ext fun σ i => ?_
  rw [l2_iff, l2_iff, l2_iff, l2_iff, l2_iff, l2_iff, l2_iff]
  by_cases h1 : σ = 1
  · subst h1
    show (_ ∨ _ ∨ _ ∨ _ ∨ _ ∨ _ ∨ _ ∨ decide (i < n) = true) ↔ decide (i < n + 1) = true
    rw [decide_eq_true_iff, decide_eq_true_iff]; omega
  by_cases h2 : σ = 2
  · subst h2
    show (_ ∨ _ ∨ _ ∨ _ ∨ _ ∨ _ ∨ _ ∨ decide (i < 2 * n) = true) ↔ decide (i < 2 * (n + 1)) = true
    rw [decide_eq_true_iff, decide_eq_true_iff]; omega
  by_cases h30 : σ = 30
  · subst h30
    show (_ ∨ _ ∨ _ ∨ _ ∨ _ ∨ _ ∨ _ ∨ decide (i < 2 * n) = true) ↔ decide (i < 2 * (n + 1)) = true
    rw [decide_eq_true_iff, decide_eq_true_iff]; omega
  by_cases h40 : σ = 40
  · subst h40
    show (_ ∨ _ ∨ _ ∨ _ ∨ _ ∨ _ ∨ _ ∨ decide (i < 2 * n) = true) ↔ decide (i < 2 * (n + 1)) = true
    rw [decide_eq_true_iff, decide_eq_true_iff]; omega
  have e : lvN (n + 1) σ i = lvN n σ i := by
    unfold lvN
    split <;> first | rfl | exact absurd rfl h1 | exact absurd rfl h2 | exact absurd rfl h30 | exact absurd rfl h40
  rw [e]
  exact ⟨fun h => by rcases h with h | h | h | h | h | h | h | h <;> first | exact absurd h.1 h1 | exact absurd h.1 h2 | exact absurd h.1 h30 | exact absurd h.1 h40 | exact h, fun h => Or.inr (Or.inr (Or.inr (Or.inr (Or.inr (Or.inr (Or.inr h))))))⟩
def lvZ : Lw := l2 (l2 (l2 (l2 (l2 (l2 (l2 (l2 (l2 (l2 (l2 (fun _ _ => false) 0 0) 8 0) 9 0) 10 0) 32 0) 42 0) 11 0) 31 0) 41 0) 31 1) 41 1
theorem lvN_0 : lvZ = lvN 0 := by
  funext σ i
  unfold lvN
  split
  case h_5 =>
    unfold lvC
    split
    case h_21 => simp_all [lvZ, l2]
    all_goals first | (simp [lvZ, l2]; done) | (rw [Bool.eq_iff_iff]; simp [lvZ, l2]; omega) | (rw [Bool.eq_iff_iff]; simp [lvZ, l2] at *; done)
  all_goals first | (simp [lvZ, l2]; done) | (rw [Bool.eq_iff_iff]; simp [lvZ, l2]; omega)
def RepN (n : Nat) (V : Vw) : Prop := ∀ σ i k, okd S0 σ i k → (σ = 1 → i < n) → (σ = 2 → i < 2 * n) → (σ = 30 → i < 2 * n) → (σ = 8 → k < n) → V σ i k = toC S0 σ i k
theorem RepN.all {V : Vw} (h : RepN 8 V) : RC 0 0 S0 V := ⟨fun σ i k hd => h σ i k hd (fun e => by subst e; exact hd.1) (fun e => by subst e; exact hd.1) (fun e => by subst e; exact hd.1) (fun e => by subst e; exact hd.2), rfl, rfl⟩
theorem RepN.step {n : Nat} {V V3 : Vw} {f : Nat → AV} (hn : n < 8) (h : RepN n V) (s1 : V3 1 n 0 = .inl (n : Int) ∧ V3 1 n 1 = .inl 20 ∧ V3 1 n 2 = .inl 15 ∧ V3 1 n 3 = .inl 0 ∧ V3 1 n 4 = .inr (some (2, 2 * n)) ∧ V3 1 n 5 = .inr (some (2, 2 * n + 1))) (s2 : ∀ j, j = 2 * n ∨ j = 2 * n + 1 → V3 2 j 0 = .inr (some (30, j)) ∧ V3 2 j 1 = .inl (-1000) ∧ V3 30 j 0 = .inr (some (40, j)) ∧ V3 30 j 1 = .inl 0) (s3' : ∀ σ' i', ¬ (σ' = 1 ∧ i' = n) → ¬ (σ' = 2 ∧ (i' = 2 * n ∨ i' = 2 * n + 1)) → ¬ (σ' = 30 ∧ (i' = 2 * n ∨ i' = 2 * n + 1)) → ¬ (σ' = 40 ∧ (i' = 2 * n ∨ i' = 2 * n + 1)) → V3 σ' i' = sC V 1 n f σ' i') : RepN (n + 1) (s3 V3 8 0 n (.inr (some (1, n)))) := by
  intro σ i k hd h1 h2 h30 h8
  by_cases c8 : σ = 8 ∧ i = 0 ∧ k = n
  · obtain ⟨rfl, rfl, rfl⟩ := c8
    exact s3_self _ _ _ _ _
  rw [s3_ne c8]
  by_cases c1 : σ = 1 ∧ i = n
  · obtain ⟨rfl, rfl⟩ := c1
    have hk : k < 6 := hd.2
    match k, hk with
    | 0, _ => exact s1.1
    | 1, _ => exact s1.2.1
    | 2, _ => exact s1.2.2.1
    | 3, _ => exact s1.2.2.2.1
    | 4, _ => exact s1.2.2.2.2.1
    | 5, _ => exact s1.2.2.2.2.2
  by_cases c2 : σ = 2 ∧ (i = 2 * n ∨ i = 2 * n + 1)
  · obtain ⟨rfl, c⟩ := c2
    have hk : k < 2 := hd.2
    match k, hk with
    | 0, _ => exact (s2 i c).1
    | 1, _ => exact (s2 i c).2.1
  by_cases c30 : σ = 30 ∧ (i = 2 * n ∨ i = 2 * n + 1)
  · obtain ⟨rfl, c⟩ := c30
    have hk : k < 2 := hd.2
    match k, hk with
    | 0, _ => exact (s2 i c).2.2.1
    | 1, _ => exact (s2 i c).2.2.2
  by_cases c40 : σ = 40 ∧ (i = 2 * n ∨ i = 2 * n + 1)
  · obtain ⟨rfl, c⟩ := c40
    have := hd.2
    simp only [S0] at this
    exact absurd this (by simp)
  rw [s3' σ i c1 c2 c30 c40, sC_cell c1]
  refine h σ i k hd (fun e => ?_) (fun e => ?_) (fun e => ?_) (fun e => ?_)
  · have := h1 e
    have := fun q => c1 ⟨e, q⟩
    omega
  · have := h2 e
    have := fun q => c2 ⟨e, q⟩
    omega
  · have := h30 e
    have := fun q => c30 ⟨e, q⟩
    omega
  · have := h8 e
    have hi : i = 0 := by subst e; exact hd.1
    have := fun q => c8 ⟨e, hi, q⟩
    omega
set_option maxRecDepth 100000 in
set_option maxHeartbeats 4000000 in
theorem c_X5_init_l (hadS : ∀ n, n < 8 → ad 1 n = sz + 10 + 7 * n ∧ ad 2 (2 * n) = sz + 10 + 7 * n + 1 ∧ ad 30 (2 * n) = sz + 10 + 7 * n + 1 + 1 ∧ ad 40 (2 * n) = sz + 10 + 7 * n + 1 + 1 + 1 ∧ ad 2 (2 * n + 1) = sz + 10 + 7 * n + 1 + 1 + 2 ∧ ad 30 (2 * n + 1) = sz + 10 + 7 * n + 1 + 1 + 2 + 1 ∧ ad 40 (2 * n + 1) = sz + 10 + 7 * n + 1 + 1 + 2 + 1 + 1) : ∀ (f n : Nat) (V : Vw) (cells slots : Nat), n + f = 8 → cells = 10 + 7 * n → slots = 164 + 74 * n → RepN n V → AW l D cA A ad yX5_init cX5_init 2 none rm_X5_init (PU none S0) cells slots (lvN n) V (sz + 10 + 7 * n) 99 [some (.inr (some (0, 0))), some (.inl (n : Int))] [] := by
  intro f
  induction f with
  | zero =>
    intro n V cells slots hn hc hs hR
    have e : n = 8 := by omega
    subst e
    refine aw_iload_n dX5_init_99 rfl rfl ?_
    refine aw_bipush dX5_init_100 (by decide) ?_
    refine aw_icmp_ge (tgt := 125) dX5_init_102 (by decide) (by omega) (by omega) (fun c_102 => ?_) (fun c_102 => absurd c_102 (by decide))
    refine aw_vret dX5_init_125 rfl (by rw [hc]; decide) (by rw [hs]; decide) ?_
    exact ⟨rfl, lvN_8, hR.all⟩
  | succ f ih =>
    intro n V cells slots hn hc hs hR
    have hA := hadS n (by omega)
    have h00 : V 0 0 0 = .inr (some (8, 0)) := hR 0 0 0 ⟨rfl, by decide⟩ (fun e => by cases e) (fun e => by cases e) (fun e => by cases e) (fun e => by cases e)
    refine aw_iload_n dX5_init_99 rfl rfl ?_
    refine aw_bipush dX5_init_100 (by decide) ?_
    refine aw_icmp_ge (tgt := 125) dX5_init_102 (by decide) (by omega) (by omega) (fun c_102 => absurd c_102 (by omega)) (fun c_102 => ?_)
    refine aw_aload_n dX5_init_105 rfl rfl ?_
    refine aw_get dX5_init_106 flX5_11 (by decide) (by decide) rfl rfl h00 ?_
    refine aw_iload_n dX5_init_109 rfl rfl ?_
    refine aw_new (ci := 3) (σ := 1) (i := n) dX5_init_110 clX5_9 ci_X3 in_X3 (by decide) rfl hA.1 (show cells + 1 ≤ 66 by omega) (show slots + 6 ≤ 756 by omega) ?_
    refine aw_dup dX5_init_113 ?_
    refine aw_iload_n dX5_init_114 rfl rfl ?_
    refine aw_callI (c_X3_init (i := n) l2_self hA.2.1 hA.2.2.1 hA.2.2.2.1 hA.2.2.2.2.1 hA.2.2.2.2.2.1 hA.2.2.2.2.2.2) mv_X3_init mlX5_56 dX5_init_115 ⟨by decide, (show cells + 1 + 6 ≤ 66 by omega), (show slots + 6 + 68 ≤ 756 by omega)⟩ rfl (Nat.le_of_ble_eq_true rfl) rfl ?_
    rintro _ _ V3 _ ⟨rfl, rfl, rfl, s1, s2, s3'⟩
    refine aw_aast dX5_init_118 rfl (by decide) (by decide) (l2_of (l2_of (l2_of (l2_of (l2_of (l2_of (l2_of rfl))))))) (by omega) (show (n : Int) < 8 by omega) rfl (l2_of (l2_of (l2_of (l2_of (l2_of (l2_of l2_self)))))) ?_
    refine aw_iinc dX5_init_119 rfl (by decide) ?_
    refine aw_goto (tgt := 99) dX5_init_122 (by decide) ?_
    have hR' := RepN.step (by omega) hR s1 s2 s3'
    rw [lvN_step]
    have k := ih (n + 1) _ (cells + 1 + 6) (slots + 6 + 68) (by omega) (by omega) (by omega) hR'
    rw [show sz + 10 + 7 * (n + 1) = sz + 10 + 7 * n + 1 + 6 by omega] at k
    exact AW.to k rfl rfl
set_option maxRecDepth 100000 in
set_option maxHeartbeats 4000000 in
theorem c_X5_init (had0 : ad 8 0 = sz) (had1 : ad 9 0 = sz + 1) (had2 : ad 10 0 = sz + 1 + 1) (had3 : ad 32 0 = sz + 1 + 1 + 1) (had4 : ad 42 0 = sz + 1 + 1 + 1 + 1) (had5 : ad 11 0 = sz + 1 + 1 + 1 + 1 + 1) (had6 : ad 31 0 = sz + 1 + 1 + 1 + 1 + 1 + 1) (had7 : ad 41 0 = sz + 1 + 1 + 1 + 1 + 1 + 1 + 1) (had8 : ad 31 1 = sz + 1 + 1 + 1 + 1 + 1 + 1 + 1 + 1) (had9 : ad 41 1 = sz + 1 + 1 + 1 + 1 + 1 + 1 + 1 + 1 + 1) (hadS : ∀ n, n < 8 → ad 1 n = sz + 10 + 7 * n ∧ ad 2 (2 * n) = sz + 10 + 7 * n + 1 ∧ ad 30 (2 * n) = sz + 10 + 7 * n + 1 + 1 ∧ ad 40 (2 * n) = sz + 10 + 7 * n + 1 + 1 + 1 ∧ ad 2 (2 * n + 1) = sz + 10 + 7 * n + 1 + 1 + 2 ∧ ad 30 (2 * n + 1) = sz + 10 + 7 * n + 1 + 1 + 2 + 1 ∧ ad 40 (2 * n + 1) = sz + 10 + 7 * n + 1 + 1 + 2 + 1 + 1) : CT l D cA A ad yX5_init cX5_init 2 none rm_X5_init [.inr (some (0, 0))] (l2 (fun _ _ => false) 0 0) V sz (PU none S0) := by
  refine CT.of2 [some (.inr (some (0, 0))), none] (by decide) (Nat.le_of_ble_eq_true rfl) rfl ?_
  refine aw_aload_n dX5_init_0 rfl rfl ?_
  refine aw_objInit dX5_init_1 mlX5_3 (by decide) (by decide) ?_
  refine aw_aload_n dX5_init_4 rfl rfl ?_
  refine aw_bipush dX5_init_5 (by decide) ?_
  refine aw_anewa (σ := 8) (i := 0) (t := 3) dX5_init_7 clX5_9 (by decide) (by decide) rfl rfl had0 (by decide) (by decide) ?_
  refine aw_putF dX5_init_10 flX5_11 (by decide) (by decide) rfl rfl rfl rfl (l2_of l2_self) trivial ?_
  refine aw_aload_n dX5_init_13 rfl rfl ?_
  refine aw_bipush dX5_init_14 (by decide) ?_
  refine aw_newa (σ := 9) (i := 0) (t := 0) dX5_init_16 rfl ac_int (by decide) rfl rfl had1 (by decide) (by decide) ?_
  refine aw_putF dX5_init_18 flX5_15 (by decide) (by decide) rfl rfl rfl rfl (l2_of (l2_of l2_self)) trivial ?_
  refine aw_aload_n dX5_init_21 rfl rfl ?_
  refine aw_bipush dX5_init_22 (by decide) ?_
  refine aw_newa (σ := 10) (i := 0) (t := 0) dX5_init_24 rfl ac_int (by decide) rfl rfl had2 (by decide) (by decide) ?_
  refine aw_putF dX5_init_26 flX5_19 (by decide) (by decide) rfl rfl rfl rfl (l2_of (l2_of (l2_of l2_self))) trivial ?_
  refine aw_aload_n dX5_init_29 rfl rfl ?_
  refine aw_new (ci := 2) (σ := 32) (i := 0) dX5_init_30 clX5_22 ci_X2 in_X2 (by decide) rfl had3 (by decide) (by decide) ?_
  refine aw_dup dX5_init_33 ?_
  refine aw_bipush dX5_init_34 (by decide) ?_
  refine aw_callI (c_X2_init (σ := 32) (j := 0) (τ := 42) (i := 0) rfl l2_self rfl (by decide) had4 (by decide)) mv_X2_init mlX5_24 dX5_init_36 (by decide) rfl (Nat.le_of_ble_eq_true rfl) rfl ?_
  rintro _ _ Va _ ⟨rfl, rfl, rfl, a0, a1, a2⟩
  refine aw_putF dX5_init_39 flX5_27 (by decide) (by decide) rfl rfl rfl rfl (l2_of (l2_of (l2_of (l2_of (l2_of l2_self))))) trivial ?_
  refine aw_aload_n dX5_init_42 rfl rfl ?_
  refine aw_bipush dX5_init_43 (by decide) ?_
  refine aw_anewa (σ := 11) (i := 0) (t := 4) dX5_init_45 clX5_31 (by decide) (by decide) rfl rfl had5 (by decide) (by decide) ?_
  refine aw_putF dX5_init_48 flX5_33 (by decide) (by decide) rfl rfl rfl rfl (l2_of (l2_of (l2_of (l2_of (l2_of (l2_of l2_self)))))) trivial ?_
  refine aw_aload_n dX5_init_51 rfl rfl ?_
  refine aw_iconst dX5_init_52 ?_
  refine aw_put dX5_init_53 flX5_37 (by decide) (by decide) rfl rfl (l2_of (l2_of (l2_of (l2_of (l2_of (l2_of l2_self)))))) trivial ?_
  refine aw_aload_n dX5_init_56 rfl rfl ?_
  refine aw_new (ci := 2) (σ := 31) (i := 0) dX5_init_57 clX5_22 ci_X2 in_X2 (by decide) rfl had6 (by decide) (by decide) ?_
  refine aw_dup dX5_init_60 ?_
  refine aw_bipush dX5_init_61 (by decide) ?_
  refine aw_callI (c_X2_init (σ := 31) (j := 0) (τ := 41) (i := 0) rfl l2_self rfl (by decide) had7 (by decide)) mv_X2_init mlX5_24 dX5_init_63 (by decide) rfl (Nat.le_of_ble_eq_true rfl) rfl ?_
  rintro _ _ Vb _ ⟨rfl, rfl, rfl, b0, b1, b2⟩
  refine aw_putF dX5_init_66 flX5_41 (by decide) (by decide) rfl rfl rfl rfl (l2_of (l2_of (l2_of (l2_of (l2_of (l2_of (l2_of (l2_of l2_self)))))))) trivial ?_
  refine aw_aload_n dX5_init_69 rfl rfl ?_
  refine aw_new (ci := 2) (σ := 31) (i := 1) dX5_init_70 clX5_22 ci_X2 in_X2 (by decide) rfl had8 (by decide) (by decide) ?_
  refine aw_dup dX5_init_73 ?_
  refine aw_bipush dX5_init_74 (by decide) ?_
  refine aw_callI (c_X2_init (σ := 31) (j := 1) (τ := 41) (i := 1) rfl l2_self rfl (by decide) had9 (by decide)) mv_X2_init mlX5_24 dX5_init_76 (by decide) rfl (Nat.le_of_ble_eq_true rfl) rfl ?_
  rintro _ _ Vc _ ⟨rfl, rfl, rfl, c0, c1, c2⟩
  refine aw_putF dX5_init_79 flX5_44 (by decide) (by decide) rfl rfl rfl rfl (l2_of (l2_of (l2_of (l2_of (l2_of (l2_of (l2_of (l2_of (l2_of (l2_of l2_self)))))))))) trivial ?_
  refine aw_aload_n dX5_init_82 rfl rfl ?_
  refine aw_iconst dX5_init_83 ?_
  refine aw_put dX5_init_84 flX5_47 (by decide) (by decide) rfl rfl (l2_of (l2_of (l2_of (l2_of (l2_of (l2_of (l2_of (l2_of (l2_of (l2_of l2_self)))))))))) trivial ?_
  refine aw_aload_n dX5_init_87 rfl rfl ?_
  refine aw_iconst dX5_init_88 ?_
  refine aw_put dX5_init_89 flX5_50 (by decide) (by decide) rfl rfl (l2_of (l2_of (l2_of (l2_of (l2_of (l2_of (l2_of (l2_of (l2_of (l2_of l2_self)))))))))) trivial ?_
  refine aw_aload_n dX5_init_92 rfl rfl ?_
  refine aw_iconst dX5_init_93 ?_
  refine aw_put dX5_init_94 flX5_53 (by decide) (by decide) rfl rfl (l2_of (l2_of (l2_of (l2_of (l2_of (l2_of (l2_of (l2_of (l2_of (l2_of l2_self)))))))))) trivial ?_
  refine aw_iconst dX5_init_97 ?_
  refine aw_istore_n dX5_init_98 rfl (by decide) ?_
  show AW l D cA A ad yX5_init cX5_init 2 none rm_X5_init (PU none S0) _ _ lvZ _ _ 99 [some (.inr (some (0, 0))), some (.inl ((0 : Nat) : Int))] []
  rw [lvN_0]
  refine c_X5_init_l hadS 8 0 _ _ _ rfl (by decide) (by decide) ?_
  intro σ i k hd h1 h2 h30 h8
  unfold okd at hd
  split at hd
  case h_1 =>
    obtain ⟨rfl, hk⟩ := hd
    match k, hk with
    | 0, _ => simp [s3, sC, a0, a1, a2, b0, b1, b2, c0, c1, c2, toC, src, cst, S0]
    | 1, _ => simp [s3, sC, a0, a1, a2, b0, b1, b2, c0, c1, c2, toC, src, cst, S0]
    | 2, _ => simp [s3, sC, a0, a1, a2, b0, b1, b2, c0, c1, c2, toC, src, cst, S0]
    | 3, _ => simp [s3, sC, a0, a1, a2, b0, b1, b2, c0, c1, c2, toC, src, cst, S0]
    | 4, _ => simp [s3, sC, a0, a1, a2, b0, b1, b2, c0, c1, c2, toC, src, cst, S0]
    | 5, _ => simp [s3, sC, a0, a1, a2, b0, b1, b2, c0, c1, c2, toC, src, cst, S0]
    | 6, _ => simp [s3, sC, a0, a1, a2, b0, b1, b2, c0, c1, c2, toC, src, cst, S0]
    | 7, _ => simp [s3, sC, a0, a1, a2, b0, b1, b2, c0, c1, c2, toC, src, cst, S0]
    | 8, _ => simp [s3, sC, a0, a1, a2, b0, b1, b2, c0, c1, c2, toC, src, cst, S0]
    | 9, _ => simp [s3, sC, a0, a1, a2, b0, b1, b2, c0, c1, c2, toC, src, cst, S0]
    | 10, _ => simp [s3, sC, a0, a1, a2, b0, b1, b2, c0, c1, c2, toC, src, cst, S0]
  case h_2 => exact absurd (h1 rfl) (by omega)
  case h_3 => exact absurd (h2 rfl) (by omega)
  case h_4 => exact absurd (h30 rfl) (by omega)
  case h_5 =>
    obtain ⟨hi, hk⟩ := hd
    match i, hi, k, hk with
    | 0, _, 0, _ => simp [s3, sC, a0, a1, a2, b0, b1, b2, c0, c1, c2, toC, src, cst, S0]
    | 0, _, 1, _ => simp [s3, sC, a0, a1, a2, b0, b1, b2, c0, c1, c2, toC, src, cst, S0]
    | 1, _, 0, _ => simp [s3, sC, a0, a1, a2, b0, b1, b2, c0, c1, c2, toC, src, cst, S0]
    | 1, _, 1, _ => simp [s3, sC, a0, a1, a2, b0, b1, b2, c0, c1, c2, toC, src, cst, S0]
  case h_6 =>
    obtain ⟨rfl, hk⟩ := hd
    match k, hk with
    | 0, _ => simp [s3, sC, a0, a1, a2, b0, b1, b2, c0, c1, c2, toC, src, cst, S0]
    | 1, _ => simp [s3, sC, a0, a1, a2, b0, b1, b2, c0, c1, c2, toC, src, cst, S0]
  case h_17 => exact absurd (h8 rfl) (by omega)
  case h_18 =>
    obtain ⟨rfl, hk⟩ := hd
    show _ = Sum.inl (S0 6 k)
    simp [s3, sC, a0, a1, a2, b0, b1, b2, c0, c1, c2, toC, src, cst, S0]
  case h_19 =>
    obtain ⟨rfl, hk⟩ := hd
    show _ = Sum.inl (S0 7 k)
    simp [s3, sC, a0, a1, a2, b0, b1, b2, c0, c1, c2, toC, src, cst, S0]
  all_goals (exfalso; simp [S0] at hd; try omega)
end CLS12
