section ENG2
variable {l : Launch} {D : va_G} {cA : Nat → ClassId} {A : Nat → Prop} {ad : Ad} {y : MethodName} {cc : ByteArray} {nL : Nat} {ret : Option FieldType} {R : Room} {Post : Pst} {cells slots : Nat} {lv : Lw} {V : Vw} {sz pc : Nat} {L : List (Option AV)} {st : List AV}
theorem HP.obj {H : Heap} (h : HP D cA A ad lv V sz H) {σ i ci : Nat} (hk : Kd σ i = .inl ci) (hl : lv σ i = true) : t_OB (ad σ i) (D.1 ci) (Nc ci) (D.2 ci) H (fun k => rl ad (V σ i k)) := by
  have := (h.2.1 σ i hl).2
  rw [hk] at this
  exact this
theorem HP.arr {H : Heap} (h : HP D cA A ad lv V sz H) {σ i t : Nat} (hk : Kd σ i = .inr t) (hl : lv σ i = true) : H[ad σ i]? = some (arrV (cA t) (Ln σ i) (fun k => rl ad (V σ i k))) := by
  have := (h.2.1 σ i hl).2
  rw [hk] at this
  exact this
theorem aw_get {idx σ i ci k : Nat} {v : AV} (hd : decode cc pc = .ok (.getfield idx, 3)) (hf : FL y.cls idx ci k) (hc : ci < 7) (hkc : k < Nc ci) (hk : Kd σ i = .inl ci) (hl : lv σ i = true) (hv : V σ i k = v) (kk : AW l D cA A ad y cc nL ret R Post cells slots lv V sz (pc + 3) L (v :: st)) : AW l D cA A ad y cc nL ret R Post cells slots lv V sz pc L (.inr (some (σ, i)) :: st) := by
  intro p e s m args below meth c H locs ls X hA hH hS hL
  obtain ⟨hx, hb, hml, hr, hlk, hown, hts, hK, hnm⟩ := id X
  obtain ⟨cell, q1, q2, q3, q4⟩ := hH.obj hk hl
  obtain ⟨hSl, hfc, kC, hkC, hkind⟩ := hK.1.1 ci _ (cl_at hc)
  obtain ⟨cf, kf, fi, f, hi, hsl⟩ := hSl k hkc
  refine W.getf hx hb hown (hts _ hf) hi (u_facts hfc hkC (u_lays hts (cl_uw hc) hkc) hi).1 q1 (by rw [q3]; exact fun h => by cases h) (v := rl ad v) ?_ rfl rfl hd (kk p e s m args below meth c H locs ls X hA hH hS hL)
  rw [hsl, q4 k hkc]
  show some (rl ad (V σ i k)) = _
  rw [hv]
theorem aw_getN {idx σ i ci k : Nat} {v : AV} (hd : decode cc pc = .ok (.getfield idx, 3)) (hf : FN y.cls idx ci k) (hc : ci < 7) (hkc : k < Nc ci) (hk : Kd σ i = .inl ci) (hl : lv σ i = true) (hv : V σ i k = v) (kk : AW l D cA A ad y cc nL ret R Post cells slots lv V sz (pc + 3) L (v :: st)) : AW l D cA A ad y cc nL ret R Post cells slots lv V sz pc L (.inr (some (σ, i)) :: st) := by
  intro p e s m args below meth c H locs ls X hA hH hS hL
  obtain ⟨hx, hb, hml, hr, hlk, hown, hts, hK, hnm⟩ := id X
  obtain ⟨cell, q1, q2, q3, q4⟩ := hH.obj hk hl
  obtain ⟨hSl, hfc, kC, hkC, hkind⟩ := hK.1.1 ci _ (cl_at hc)
  obtain ⟨cf, kf, fi, f, hi, hsl⟩ := hSl k hkc
  obtain ⟨host, hf⟩ := hf
  refine va_Wgetf hx hb hown (va_Nw.use rfl (hK.2.1 _ hf)) hi (u_facts hfc hkC (u_lays hts (cl_uw hc) hkc) hi).1 q1 (by rw [q3]; exact fun h => by cases h) (v := rl ad v) ?_ rfl rfl hd (kk p e s m args below meth c H locs ls X hA hH hS hL)
  rw [hsl, q4 k hkc]
  show some (rl ad (V σ i k)) = _
  rw [hv]
/-- a value that a field or an array of a type may hold -/
def FT : FieldType → AV → Prop
  | .int, .inl _ => True
  | .boolean, .inl e => e = 0 ∨ e = 1
  | .object _, .inr _ => True
  | .array _, .inr _ => True
  | _, _ => False
theorem nb0 : narrow .boolean (.int (Int32.ofInt 0)) = .int (Int32.ofInt 0) ∧ fits .boolean (.int (Int32.ofInt 0)) = true := ⟨by decide +kernel, by decide +kernel⟩
theorem nb1 : narrow .boolean (.int (Int32.ofInt 1)) = .int (Int32.ofInt 1) ∧ fits .boolean (.int (Int32.ofInt 1)) = true := ⟨by decide +kernel, by decide +kernel⟩
theorem FT.ok {ty : FieldType} {v : AV} (h : FT ty v) (ad : Ad) : narrow ty (rl ad v) = rl ad v ∧ fits ty (rl ad v) = true := by
  rcases v with x | _ | q
  · cases ty <;> first | exact False.elim h | exact ⟨rfl, rfl⟩ | (rcases h with rfl | rfl <;> first | exact nb0 | exact nb1)
  · cases ty <;> first | exact False.elim h | exact ⟨rfl, rfl⟩
  · cases ty <;> first | exact False.elim h | exact ⟨rfl, rfl⟩
theorem cl_apart {s : State} {args : Array Value} (hts : ∀ w ∈ TB, w.before args s = true) (hK : KK D cA s) {ci : Nat} (hc : ci < 7) : ∀ x z, x < Nc ci → z < Nc ci → x ≠ z → (D.2 ci) x ≠ (D.2 ci) z := va_apart (own := RR ci) hts (cl_uw hc) (tyT ci) (cl_ty hc) (cl_nm hc) hK.1 (cl_at hc)
theorem aw_put {idx σ i ci k : Nat} {v : AV} (hd : decode cc pc = .ok (.putfield idx, 3)) (hf : FL y.cls idx ci k) (hc : ci < 7) (hkc : k < Nc ci) (hfin : (TT ci k).2.2.2 = false) (hk : Kd σ i = .inl ci) (hl : lv σ i = true) (hv : FT (tyT ci k) v) (kk : AW l D cA A ad y cc nL ret R Post cells slots lv (s3 V σ i k v) sz (pc + 3) L st) : AW l D cA A ad y cc nL ret R Post cells slots lv V sz pc L (v :: .inr (some (σ, i)) :: st) := by
  intro p e s m args below meth c H locs ls X hA hH hS hL
  obtain ⟨hx, hb, hml, hr, hlk, hown, hts, hK, hnm⟩ := id X
  obtain ⟨cell, q1, q2, q3, q4⟩ := hH.obj hk hl
  obtain ⟨hSl, hfc, kC, hkC, hkind⟩ := hK.1.1 ci _ (cl_at hc)
  obtain ⟨cf, kf, fi, f, hi, hsl⟩ := hSl k hkc
  have hlay := hts _ (cl_uw hc _ (u_in_lay hkc))
  unfold u_lay at hlay
  rw [if_neg (by rw [hfin]; decide)] at hlay
  have hst := (u_facts hfc hkC (u_lays hts (cl_uw hc) hkc) hi).1
  have h6 := u_store hfc hkC hkind hlay hi (cl_ty hc k hkc) (hv.ok ad).1 (hv.ok ad).2
  refine W.putK hx hb (f := f) ⟨hown, hts _ hf, ⟨_, _, _, hi⟩, hst⟩ (by rw [q2]; exact h6) q1 q3 (by rw [hsl]; exact k2_hasslot (q4 k hkc)) rfl rfl hd fun H' e1 e2 e3 => ?_
  rw [hsl] at e1
  refine kk p e s m args below meth c H' _ ls X hA (hH.set hl e2 e3 ?_) (hS.put e2 e3 (hH.2.1 σ i hl).1) hL
  rw [hk]
  exact ⟨_, e1, q2, q3, t_set q4 (cl_apart hts hK hc) hkc (rl ad v)⟩
theorem aw_putN {idx σ i ci k : Nat} {v : AV} (hd : decode cc pc = .ok (.putfield idx, 3)) (hf : FN y.cls idx ci k) (hc : ci < 7) (hkc : k < Nc ci) (hfin : (TT ci k).2.2.2 = false) (hk : Kd σ i = .inl ci) (hl : lv σ i = true) (hv : FT (tyT ci k) v) (kk : AW l D cA A ad y cc nL ret R Post cells slots lv (s3 V σ i k v) sz (pc + 3) L st) : AW l D cA A ad y cc nL ret R Post cells slots lv V sz pc L (v :: .inr (some (σ, i)) :: st) := by
  intro p e s m args below meth c H locs ls X hA hH hS hL
  obtain ⟨hx, hb, hml, hr, hlk, hown, hts, hK, hnm⟩ := id X
  obtain ⟨cell, q1, q2, q3, q4⟩ := hH.obj hk hl
  obtain ⟨hSl, hfc, kC, hkC, hkind⟩ := hK.1.1 ci _ (cl_at hc)
  obtain ⟨cf, kf, fi, f, hi, hsl⟩ := hSl k hkc
  obtain ⟨host, hf⟩ := hf
  have hlay := hts _ (cl_uw hc _ (u_in_lay hkc))
  unfold u_lay at hlay
  rw [if_neg (by rw [hfin]; decide)] at hlay
  have hst := (u_facts hfc hkC (u_lays hts (cl_uw hc) hkc) hi).1
  have h6 := u_store hfc hkC hkind hlay hi (cl_ty hc k hkc) (hv.ok ad).1 (hv.ok ad).2
  refine va_WputK hx hb (f := f) hown (va_Nw.use rfl (hK.2.1 _ hf)) hi hst (by rw [q2]; exact h6) q1 q3 (by rw [hsl]; exact k2_hasslot (q4 k hkc)) rfl rfl hd fun H' e1 e2 e3 => ?_
  rw [hsl] at e1
  refine kk p e s m args below meth c H' _ ls X hA (hH.set hl e2 e3 ?_) (hS.put e2 e3 (hH.2.1 σ i hl).1) hL
  rw [hk]
  exact ⟨_, e1, q2, q3, t_set q4 (cl_apart hts hK hc) hkc (rl ad v)⟩
/-- a final field, in a constructor of its class -/
theorem aw_putF {idx σ i ci k : Nat} {v : AV} (hd : decode cc pc = .ok (.putfield idx, 3)) (hf : FL y.cls idx ci k) (hc : ci < 7) (hkc : k < Nc ci) (hfin : (TT ci k).2.2.2 = true) (hdecl : (TT ci k).1 = y.cls) (hini : y.name = "<init>") (hk : Kd σ i = .inl ci) (hl : lv σ i = true) (hv : FT (tyT ci k) v) (kk : AW l D cA A ad y cc nL ret R Post cells slots lv (s3 V σ i k v) sz (pc + 3) L st) : AW l D cA A ad y cc nL ret R Post cells slots lv V sz pc L (v :: .inr (some (σ, i)) :: st) := by
  intro p e s m args below meth c H locs ls X hA hH hS hL
  obtain ⟨hx, hb, hml, hr, hlk, hown, hts, hK, hnm⟩ := id X
  obtain ⟨cell, q1, q2, q3, q4⟩ := hH.obj hk hl
  obtain ⟨hSl, hfc, kC, hkC, hkind⟩ := hK.1.1 ci _ (cl_at hc)
  obtain ⟨cf, kf, fi, f, hi, hsl⟩ := hSl k hkc
  have hlay := hts _ (cl_uw hc _ (u_in_lay hkc))
  unfold u_lay at hlay
  rw [if_pos hfin] at hlay
  have hst := (u_facts hfc hkC (u_lays hts (cl_uw hc) hkc) hi).1
  have hcf : m.cls = cf := by
    obtain ⟨_, _, c', _, _, _, -, -, hf', -, -, -, hown2, -⟩ := Cond.laysFinal_spec hlay
    have e1 : c' = cf := by have := hi.symm.trans hf'; simp at this; exact this.1.symm
    rw [hdecl] at hown2
    rw [← e1]; exact Option.some.inj (hown.symm.trans hown2)
  have h6 := u_fits hfc hkC hkind (Or.inr hlay) hi (cl_ty hc k hkc) (hv.ok ad).1 (hv.ok ad).2
  refine W.putFinK hx hb hown (hts _ hf) hi hst hcf (hnm.trans hini) (by rw [q2]; exact h6) q1 q3 (by rw [hsl]; exact k2_hasslot (q4 k hkc)) rfl rfl hd fun H' e1 e2 e3 => ?_
  rw [hsl] at e1
  refine kk p e s m args below meth c H' _ ls X hA (hH.set hl e2 e3 ?_) (hS.put e2 e3 (hH.2.1 σ i hl).1) hL
  rw [hk]
  exact ⟨_, e1, q2, q3, t_set q4 (cl_apart hts hK hc) hkc (rl ad v)⟩
theorem KK.arr {s : State} (hK : KK D cA s) {t : Nat} (ht : t < 5) (n : Nat) (f : Nat → Value) : s.isArrayOf (arrV (cA t) n f) (aty t) := (hK.1.2 t _ (tyA_at cA ht)).1 n f
theorem aw_iald {σ i : Nat} {x : Int} {v : AV} (hd : decode cc pc = .ok (.iaload, 1)) (hk : Kd σ i = .inr 0) (hl : lv σ i = true) (h0 : 0 ≤ x) (h1 : x < (Ln σ i : Nat)) (hv : V σ i x.toNat = v) (kk : AW l D cA A ad y cc nL ret R Post cells slots lv V sz (pc + 1) L (v :: st)) : AW l D cA A ad y cc nL ret R Post cells slots lv V sz pc L (.inl x :: .inr (some (σ, i)) :: st) := by
  intro p e s m args below meth c H locs ls X hA hH hS hL
  obtain ⟨hx, hb, hml, hr, hlk, hown, hts, hK, hnm⟩ := id X
  have hle := Ln_le σ i
  have hin := rg_in h0 h1 (by omega)
  refine W.iald (v := rl ad v) hx hb (hH.arr hk hl) (hK.arr (t := 0) (by decide) _ _) (fun q => by cases q) (by rw [arrV_size]; exact hin) ?_ rfl rfl hd (kk p e s m args below meth c H locs ls X hA hH hS hL)
  rw [rg_clamp ⟨by omega, by omega⟩, arrV_read _ _ (by omega), hv]
theorem aw_zald {σ i : Nat} {x : Int} {v : AV} (hd : decode cc pc = .ok (.baload, 1)) (hk : Kd σ i = .inr 1) (hl : lv σ i = true) (h0 : 0 ≤ x) (h1 : x < (Ln σ i : Nat)) (hv : V σ i x.toNat = v) (kk : AW l D cA A ad y cc nL ret R Post cells slots lv V sz (pc + 1) L (v :: st)) : AW l D cA A ad y cc nL ret R Post cells slots lv V sz pc L (.inl x :: .inr (some (σ, i)) :: st) := by
  intro p e s m args below meth c H locs ls X hA hH hS hL
  obtain ⟨hx, hb, hml, hr, hlk, hown, hts, hK, hnm⟩ := id X
  have hle := Ln_le σ i
  have hin := rg_in h0 h1 (by omega)
  refine W.zald (v := rl ad v) hx hb (hH.arr hk hl) (hK.arr (t := 1) (by decide) _ _) (fun q => by cases q) (by rw [arrV_size]; exact hin) ?_ rfl rfl hd (kk p e s m args below meth c H locs ls X hA hH hS hL)
  rw [rg_clamp ⟨by omega, by omega⟩, arrV_read _ _ (by omega), hv]
theorem aty_ref {t : Nat} (h2 : 2 ≤ t) : (aty t).isReference = true := by
  match t, h2 with
  | 2, _ => rfl
  | 3, _ => rfl
  | (t + 4), _ => rfl
theorem aw_aald {σ i t : Nat} {x : Int} {v : AV} (hd : decode cc pc = .ok (.aaload, 1)) (hk : Kd σ i = .inr t) (ht : t < 5) (h2 : 2 ≤ t) (hl : lv σ i = true) (h0 : 0 ≤ x) (h1 : x < (Ln σ i : Nat)) (hv : V σ i x.toNat = v) (kk : AW l D cA A ad y cc nL ret R Post cells slots lv V sz (pc + 1) L (v :: st)) : AW l D cA A ad y cc nL ret R Post cells slots lv V sz pc L (.inl x :: .inr (some (σ, i)) :: st) := by
  intro p e s m args below meth c H locs ls X hA hH hS hL
  obtain ⟨hx, hb, hml, hr, hlk, hown, hts, hK, hnm⟩ := id X
  have hle := Ln_le σ i
  have hin := rg_in h0 h1 (by omega)
  refine W.aald (v := rl ad v) hx hb (hH.arr hk hl) (hK.arr ht _ _) (aty_ref h2) (fun q => by cases q) (by rw [arrV_size]; exact hin) ?_ rfl rfl hd (kk p e s m args below meth c H locs ls X hA hH hS hL)
  rw [rg_clamp ⟨by omega, by omega⟩, arrV_read _ _ (by omega), hv]
theorem aw_alen {σ i t : Nat} (hd : decode cc pc = .ok (.arraylength, 1)) (hk : Kd σ i = .inr t) (ht : t < 5) (hl : lv σ i = true) (kk : AW l D cA A ad y cc nL ret R Post cells slots lv V sz (pc + 1) L (.inl (Ln σ i : Nat) :: st)) : AW l D cA A ad y cc nL ret R Post cells slots lv V sz pc L (.inr (some (σ, i)) :: st) := by
  intro p e s m args below meth c H locs ls X hA hH hS hL
  obtain ⟨hx, hb, hml, hr, hlk, hown, hts, hK, hnm⟩ := id X
  refine W.alen (n := Int32.ofInt (Ln σ i : Nat)) hx hb (hH.arr hk hl) (hK.arr ht _ _) ?_ rfl rfl hd (kk p e s m args below meth c H locs ls X hA hH hS hL)
  rw [arrV_size, Int32.ofInt_eq_ofNat]
theorem arr_upd (cI : ClassId) (n : Nat) (f : Nat → Value) (x : Int) (h0 : 0 ≤ x) (hr : Rg x) (w : Value) : (arrV cI n f).setSlot (Int32.ofInt x).toNatClampNeg w = arrV cI n (updV f x.toNat w) := by
  rw [arrV_store, rg_clamp hr]
theorem aw_iast {σ i : Nat} {x v : Int} (hd : decode cc pc = .ok (.iastore, 1)) (hk : Kd σ i = .inr 0) (hl : lv σ i = true) (h0 : 0 ≤ x) (h1 : x < (Ln σ i : Nat)) (kk : AW l D cA A ad y cc nL ret R Post cells slots lv (s3 V σ i x.toNat (.inl v)) sz (pc + 1) L st) : AW l D cA A ad y cc nL ret R Post cells slots lv V sz pc L (.inl v :: .inl x :: .inr (some (σ, i)) :: st) := by
  intro p e s m args below meth c H locs ls X hA hH hS hL
  obtain ⟨hx, hb, hml, hr, hlk, hown, hts, hK, hnm⟩ := id X
  have hle := Ln_le σ i
  have hin := rg_in h0 h1 (by omega)
  refine W.iast hx hb (hH.arr hk hl) (hK.arr (t := 0) (by decide) _ _) (fun q => by cases q) (by rw [arrV_size]; exact hin) rfl rfl hd fun H' e1 e2 e3 => ?_
  refine kk p e s m args below meth c H' _ ls X hA (hH.set hl e2 e3 ?_) (hS.put e2 e3 (hH.2.1 σ i hl).1) hL
  rw [hk]
  show H'[ad σ i]? = _
  rw [e1, arr_upd _ _ _ _ h0 ⟨by omega, by omega⟩]
  rfl
theorem aw_zast {σ i : Nat} {x v : Int} (hd : decode cc pc = .ok (.bastore, 1)) (hk : Kd σ i = .inr 1) (hl : lv σ i = true) (h0 : 0 ≤ x) (h1 : x < (Ln σ i : Nat)) (hv : v = 0 ∨ v = 1) (kk : AW l D cA A ad y cc nL ret R Post cells slots lv (s3 V σ i x.toNat (.inl v)) sz (pc + 1) L st) : AW l D cA A ad y cc nL ret R Post cells slots lv V sz pc L (.inl v :: .inl x :: .inr (some (σ, i)) :: st) := by
  intro p e s m args below meth c H locs ls X hA hH hS hL
  obtain ⟨hx, hb, hml, hr, hlk, hown, hts, hK, hnm⟩ := id X
  have hle := Ln_le σ i
  have hin := rg_in h0 h1 (by omega)
  refine W.zast hx hb (hH.arr hk hl) (hK.arr (t := 1) (by decide) _ _) (fun q => by cases q) (by rw [arrV_size]; exact hin) rfl rfl hd fun H' e1 e2 e3 => ?_
  refine kk p e s m args below meth c H' _ ls X hA (hH.set hl e2 e3 ?_) (hS.put e2 e3 (hH.2.1 σ i hl).1) hL
  rw [hk]
  show H'[ad σ i]? = _
  have hn : narrow .boolean (.int (Int32.ofInt v)) = .int (Int32.ofInt v) := by rcases hv with rfl | rfl <;> decide +kernel
  rw [e1, arr_upd _ _ _ _ h0 ⟨by omega, by omega⟩]
  first | rfl | (rw [hn]; rfl) | (simp only [narrow] at hn; rw [hn]; rfl) | (congr 2)
/-- the class of the elements of an array of references -/
def eCl : Nat → Nat
  | 2 => 4
  | 3 => 3
  | _ => 0
theorem aw_aast {σ i t τ j : Nat} {x : Int} (hd : decode cc pc = .ok (.aastore, 1)) (hk : Kd σ i = .inr t) (ht : t < 5) (h2 : 2 ≤ t) (hl : lv σ i = true) (h0 : 0 ≤ x) (h1 : x < (Ln σ i : Nat)) (hkv : Kd τ j = .inl (eCl t)) (hlv : lv τ j = true) (kk : AW l D cA A ad y cc nL ret R Post cells slots lv (s3 V σ i x.toNat (.inr (some (τ, j)))) sz (pc + 1) L st) : AW l D cA A ad y cc nL ret R Post cells slots lv V sz pc L (.inr (some (τ, j)) :: .inl x :: .inr (some (σ, i)) :: st) := by
  intro p e s m args below meth c H locs ls X hA hH hS hL
  obtain ⟨hx, hb, hml, hr, hlk, hown, hts, hK, hnm⟩ := id X
  have hle := Ln_le σ i
  have hin := rg_in h0 h1 (by omega)
  obtain ⟨cellV, g1, g2, g3, -⟩ := hH.obj hkv hlv
  have hat : aty t = .object (RR (eCl t)) := by
    match t, ht, h2 with
    | 2, _, _ => rfl
    | 3, _, _ => rfl
    | 4, _, _ => rfl
  have he : eCl t < 7 := by
    match t, ht, h2 with
    | 2, _, _ => decide
    | 3, _, _ => decide
    | 4, _, _ => decide
  have hcls := (hK.1.1 (eCl t) _ (cl_at he)).2
  have hra := (hK.1.2 t _ (tyA_at cA ht)).2
  rw [hat] at hra
  obtain ⟨kA, comp, k1, k2, k3, -⟩ := hra
  have hcomp : comp = D.1 (eCl t) := Option.some.inj (k3.symm.trans hcls.1)
  subst hcomp
  obtain ⟨kC, hkC, -⟩ := hcls.2
  refine W.aast hx hb (hH.arr hk hl) (fun q h => by cases h) (fun h => by cases h) k1 k2 rfl hkC ⟨fun q => hin (Or.inl q), by rw [arrV_size]; exact Nat.not_le.mp fun q => hin (Or.inr q)⟩ g1 (fun q h => by rw [g3] at h; cases h) (by rw [g2]; exact hkC) (by rw [g2]; exact va_assign hcls) rfl rfl hd fun H' e1 e2 e3 => ?_
  refine kk p e s m args below meth c H' _ ls X hA (hH.set hl e2 e3 ?_) (hS.put e2 e3 (hH.2.1 σ i hl).1) hL
  rw [hk]
  show H'[ad σ i]? = _
  rw [e1, arr_upd _ _ _ _ h0 ⟨by omega, by omega⟩]
  rfl
theorem aw_aastN {σ i t : Nat} {x : Int} (hd : decode cc pc = .ok (.aastore, 1)) (hk : Kd σ i = .inr t) (ht : t < 5) (h2 : 2 ≤ t) (hl : lv σ i = true) (h0 : 0 ≤ x) (h1 : x < (Ln σ i : Nat)) (kk : AW l D cA A ad y cc nL ret R Post cells slots lv (s3 V σ i x.toNat (.inr none)) sz (pc + 1) L st) : AW l D cA A ad y cc nL ret R Post cells slots lv V sz pc L (.inr none :: .inl x :: .inr (some (σ, i)) :: st) := by
  intro p e s m args below meth c H locs ls X hA hH hS hL
  obtain ⟨hx, hb, hml, hr, hlk, hown, hts, hK, hnm⟩ := id X
  have hle := Ln_le σ i
  have hin := rg_in h0 h1 (by omega)
  have hat : aty t = .object (RR (eCl t)) := by
    match t, ht, h2 with
    | 2, _, _ => rfl
    | 3, _, _ => rfl
    | 4, _, _ => rfl
  have har := hK.arr ht (Ln σ i) (fun k => rl ad (V σ i k))
  rw [hat] at har
  refine va_WaastN hx hb (hH.arr hk hl) har (fun h => by cases h) (by rw [arrV_size]; exact hin) rfl rfl hd fun H' e1 e2 e3 => ?_
  refine kk p e s m args below meth c H' _ ls X hA (hH.set hl e2 e3 ?_) (hS.put e2 e3 (hH.2.1 σ i hl).1) hL
  rw [hk]
  show H'[ad σ i]? = _
  rw [e1, arr_upd _ _ _ _ h0 ⟨by omega, by omega⟩]
  rfl
end ENG2
