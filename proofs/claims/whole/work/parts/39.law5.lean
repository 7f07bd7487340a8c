/-! ===== the law, from its entry ===== -/
set_option maxHeartbeats 4000000 in
set_option maxRecDepth 100000 in
theorem whole_start {p : Program} {e : Env} {s : State} {m : MethodId} {below : List Frame} {meth : Method} {c : Code} (l : Launch) {b L : Nat} {xs : Nat → Int32} (hL : L ≤ 3584) (C0 : lw_At p s m meth c b L xs) : W p l e room_1 s m #[Value.ref b] below meth c s.heap [] 0 0 (lw_Z below #[Value.ref b] s) (entryFrame m ([Value.ref b] : List Value).toArray 4) := by
  obtain ⟨hx, hb, hr, hml, hown, hts0, hX, hbl, hlk, hgv⟩ := id C0
  obtain ⟨D, cA, hK⟩ := law_KK C0
  have hS : va_S (Bs s) s.heap s.heap [] := va_S.rf
  have hl := lv_entry ([.ref b]) (n := 4) (Nat.le_of_ble_eq_true rfl)
  rw [lg_entry_eq]
  generalize (lg_sl ([.ref b]) ++ List.replicate (4 - (lg_sl ([.ref b])).length) Slot.unset).toArray = ls at hl ⊢
  have hl : lv_has ls 4 [(0, .ref b)] := hl
  refine lw_new (A := Bs s) (ad := adC s.heap.size) (V := fun _ _ _ => .inr none) (ci := 5) (σ := 0) (i := 0) C0 hK hS dL_law_0 clL_7 ci_X5 in_X5 (by decide) rfl rfl (Nat.le_refl _) (Nat.le_of_ble_eq_true rfl) (Nat.le_of_ble_eq_true rfl) (fun H1 z1 o1 hH1 hS1 => ?_)
  refine lv_dup hx hb dL_law_3 rfl ?_
  have hM1 : CT l D cA (Bs s) (adC s.heap.size) yX5_init cX5_init 2 none rm_X5_init [.inr (some (0, 0))] (l2 (fun _ _ => false) 0 0) (sC (fun _ _ _ => .inr none) 0 0 (fun k => dfl (tyT 5 k))) H1.size (PU none S0) := by
    rw [z1]
    refine c_X5_init rfl rfl rfl rfl rfl rfl rfl rfl rfl rfl (fun n hn => ⟨?_, ?_, ?_, ?_, ?_, ?_, ?_⟩)
    · show s.heap.size + 11 + 7 * n = _; omega
    · show s.heap.size + 12 + 7 * ((2 * n) / 2) + 3 * ((2 * n) % 2) = _; omega
    · show s.heap.size + 13 + 7 * ((2 * n) / 2) + 3 * ((2 * n) % 2) = _; omega
    · show s.heap.size + 14 + 7 * ((2 * n) / 2) + 3 * ((2 * n) % 2) = _; omega
    · show s.heap.size + 12 + 7 * ((2 * n + 1) / 2) + 3 * ((2 * n + 1) % 2) = _; omega
    · show s.heap.size + 13 + 7 * ((2 * n + 1) / 2) + 3 * ((2 * n + 1) % 2) = _; omega
    · show s.heap.size + 14 + 7 * ((2 * n + 1) / 2) + 3 * ((2 * n + 1) % 2) = _; omega
  refine lw_callI (σ := 0) (i := 0) (rest := [.ref s.heap.size]) C0 hK hH1 (fun q hq => Nat.le_trans hS1.1 hq) (fun q hq => hq) hS1 hM1 mv_X5_init mlL_9 dL_law_4 ⟨⟨Nat.le_of_ble_eq_true rfl, Nat.le_of_ble_eq_true rfl⟩, Nat.le_of_ble_eq_true rfl, Nat.le_of_ble_eq_true rfl⟩ hl.1 (Nat.le_of_ble_eq_true rfl) (fun r lv' V' H2 locs2 hp hH2 hz2 hk2 hS2 => ?_)
  obtain ⟨rfl, rfl, hC⟩ := hp
  refine lv_astore_n (lv' := [(1, .ref s.heap.size), (0, .ref b)]) hx hb dL_law_7 rfl hl (by decide) rfl (fun ls hl => ?_)
  refine lw_new (A := fun q => H2.size ≤ q) (ad := adR H2.size) (V := fun _ _ _ => .inr none) (ci := 6) (σ := 50) (i := 0) C0 hK hS2 dL_law_8 clL_10 ci_X6 in_X6 (by decide) rfl rfl (Nat.le_refl _) (Nat.le_of_ble_eq_true rfl) (Nat.le_of_ble_eq_true rfl) (fun H3 z3 o3 hH3 hS3 => ?_)
  have w3 : HP D cA (Bs s) (adC s.heap.size) (lvC (S0 8 0) (S0 24 0)) V' H3.size H3 := hH2.stay rfl (fun σ i hi => o3 _ (hH2.lt hi))
  refine lv_dup hx hb dL_law_11 rfl ?_
  have hM2 : CT l D cA (fun q => H2.size ≤ q) (adR H2.size) yX6_init cX6_init 2 none rm_X6_init [.inr (some (50, 0))] (l2 (fun _ _ => false) 50 0) (sC (fun _ _ _ => .inr none) 50 0 (fun k => dfl (tyT 6 k))) H3.size (PR none S0 (H3.size + 31)) := by
    refine c_X6_init (fun q => by rw [sC_self]) (fun i k hk => ?_)
    rw [z3]
    exact adR_at H2.size i k hk
  refine lw_callI (σ := 50) (i := 0) (rest := [.ref H2.size]) C0 hK hH3 (fun q hq => by show H2.size ≤ q; omega) (fun q hq => Nat.le_trans hS2.1 hq) hS3 hM2 mv_X6_init mlL_12 dL_law_12 ⟨⟨Nat.le_of_ble_eq_true rfl, Nat.le_of_ble_eq_true rfl⟩, Nat.le_of_ble_eq_true rfl, Nat.le_of_ble_eq_true rfl⟩ hl.1 (Nat.le_of_ble_eq_true rfl) (fun r lv' V2 H4 locs4 hp hH4 hz4 hk4 hS4 => ?_)
  obtain ⟨rfl, rfl, rfl, -⟩ := hp
  have lt2 : ∀ σ i, lvC (S0 8 0) (S0 24 0) σ i = true → adC s.heap.size σ i < H2.size := fun σ i hi => hH2.lt hi
  have w4 : HP D cA (Bs s) (adC s.heap.size) (lvC (S0 8 0) (S0 24 0)) V' H4.size H4 := w3.stay rfl (fun σ i hi => hk4 _ (w3.lt hi) (Nat.not_le.mpr (lt2 σ i hi)))
  refine lv_astore_n (lv' := [(2, .ref H2.size), (1, .ref s.heap.size), (0, .ref b)]) hx hb dL_law_15 rfl hl (by decide) rfl (fun ls hl => ?_)
  refine lv_iconst (v := Int32.ofInt ((0 : Nat) : Int)) hx hb dL_law_16 (by decide) ?_
  refine lv_istore_n (lv' := [(3, .int (Int32.ofInt ((0 : Nat) : Int))), (2, .ref H2.size), (1, .ref s.heap.size), (0, .ref b)]) hx hb dL_law_17 rfl hl (by decide) rfl (fun ls hl => ?_)
  refine W.widen (k := 200 + 10 * 0) (n := 5000 + 100 * 0) (Nat.le_of_ble_eq_true rfl) (Nat.le_of_ble_eq_true rfl) ?_
  refine law_loop (a1 := s.heap.size) (a2 := H2.size) hL C0 hK L 0 S0 H4 locs4 ls (by omega) (by omega) Inv.start ⟨adC s.heap.size, V', adR H2.size, w4, hC, hH4.base (fun q hq => Nat.le_trans hS2.1 hq), rfl, rfl, fun σ i τ j hi hj q => ?_⟩ hS4 (lv_sub hl [3, 0, 2, 1] rfl)
  have a := lt2 σ i hi
  have bb := (hH4.2.1 τ j hj).1
  omega
set_option maxHeartbeats 4000000 in
theorem lw_walk (l : Launch) (b : Addr) (xs : List Int32) : MetFree l x (headSpec (Jvm.Cond.code x code maxLocals ret :: tables_1) room_1) (lw_P b xs) (fun _ _ _ _ _ => True) lw_Q := by
  refine MetFree.of_bodyS (code := code) (maxLocals := maxLocals) (ret := ret) (by decide) ?_ ?_
  · intro args s m h hn
    obtain ⟨meth, c, h1, h2, h3, h4, h5, h6, -, -⟩ := Cond.code_spec hn (atoms_spec (ws := Jvm.Cond.code x code maxLocals ret :: tables_1) h _ List.mem_cons_self)
    exact ⟨meth, c, h1, h2, h3, h4, h5, h6⟩
  · intro p e s m args below meth c s₁ B hml0 hP _
    obtain ⟨rfl, hx, hbd, hgv⟩ := hP
    obtain ⟨scr, harrAt, hlist, hof, hsmall⟩ := hx
    obtain ⟨hcb, hkn, -, -⟩ := State.arrayAt?_spec harrAt
    have hown : s.vm.findClass R_law = some m.cls := findClass_of_methodNamed B.named
    have hts0 : ∀ c ∈ (Jvm.Cond.code x code maxLocals ret :: tables_1), c.before #[Value.ref b] s = true := atoms_spec (ws := Jvm.Cond.code x code maxLocals ret :: tables_1) B.pre
    have hts : ∀ w ∈ lw_tbl, w.before #[Value.ref b] s = true := k2_hts_sels lw_privs (fun w hw => hts0 w (List.mem_cons_of_mem _ hw)) lw_privs_ok
    have hml : c.maxLocals = 4 := B.maxLocals_eq (hts0 _ List.mem_cons_self)
    have X₀ : Stand p l e room_1 s m #[Value.ref b] below meth c s₁ [] 0 0 := Stand.of_body B
    have hh0 : s₁.heap = s.heap := by rw [B.state]; rfl
    have hsz : scr.slots.size = xs.length := by rw [← Array.length_toList, hlist, List.length_map]
    have hval : ∀ j : Nat, j < xs.length → scr.slots[j]? = some (.int (xs.getD j 0)) := fun j hj => by
      rw [← Array.getElem?_toList, hlist]
      simp [hj]
    have hbl : b < s.heap.size := (Array.getElem?_eq_some_iff.mp hcb).1
    have hX : va_X b xs.length (fun j => xs.getD j 0) s s.heap := ⟨scr, hcb, hof, hkn, hsz, hval⟩
    have K : W p l e room_1 s m #[Value.ref b] below meth c s₁.heap [] 0 0 (lw_Z below #[Value.ref b] s) (entryFrame m ([Value.ref b] : List Value).toArray 4) := by
      rw [hh0]
      exact whole_start l hbd ⟨B.exec, B.bytes, B.returns, hml, hown, hts, hX, hbl, B.notSynchronized, hgv⟩
    obtain ⟨t, a1, o, b1, b2, b3⟩ := K s₁ rfl X₀
    exact ⟨t, o, a1, b1, b2, b3⟩
theorem lw_pre_spec {args : Array Value} {s : State} (h : (Jvm.Cond.and given_1 narrow_1).before args s = true) (hr : rest_1_c.before args s = true) : ∃ (b : Addr) (xs : List Int32), lw_P b xs args s := by
  have hs := flat_of_before _ h
  have hq := flat_of_before _ hr
  have hc : (Cond.count 1).before args s = true := hs _ (by decide +kernel)
  have harr : (Cond.arrayOf (.arg 0) .int).before args s = true := hs _ (by decide +kernel)
  have hle : (Cond.le (.length (.arg 0)) (.int 3584)).before args s = true := hs _ (by decide +kernel)
  have hlen : (Cond.isInt (.length (.arg 0))).before args s = true := hq _ (by decide +kernel)
  have hall : (Cond.all (.arg 0) (.isInt (.elem (.arg 0) (.index 0)))).before args s = true := hq _ (by decide +kernel)
  obtain ⟨b, xs, hb, hx⟩ := State.ints_of_pre rfl harr hlen hall
  have hsm : xs.length < 2 ^ 31 := hx.choose_spec.2.2.2
  have hev : (Term.length (.arg 0)).eval args s none [] s = some (.int xs.length.toInt32) := hx.length_eval hb
  have hv := Cond.le_ints hev (show (Term.int 3584).eval args s none [] s = some (.int 3584) from rfl)
  have hd : xs.length.toInt32 ≤ 3584 := by
    simpa [Cond.before, Cond.holds, hv] using hle
  have hN : xs.length ≤ 3584 := (Int32.ofNat_le_ofNat hsm (by decide)).mp (show Int32.ofNat xs.length ≤ Int32.ofNat 3584 from hd)
  exact ⟨b, xs, Cond.one_arg hc (show args[0]? = some (.ref b) from hb), hx, hN, h⟩
theorem lw_comes (l : Launch) : Comes l x (Jvm.Cond.code x code maxLocals ret :: tables_1) room_1 (fun tb e args s => Calls_1 tb e args s ∧ rest_1 tb e args s ∧ Pre_1 tb e args s)
    (fun _ _ args s o t => lw_Q args s o t) := by
  intro p e ha hc hk s m args below hf hfit hheap happ hpre
  obtain ⟨b, xs, hP⟩ := lw_pre_spec hpre.2.2 hpre.2.1
  obtain ⟨k, o, h1, h2, h3, hQ⟩ := lw_walk l b xs p e ha hc hk s m args below hf ((Spec.applies_iff_loose hf).mp happ).1 hP trivial
  exact ⟨k, o, h1, h2, h3, hQ⟩
theorem lw_frame {s t : State} {o : Outcome} {args : Array Value} (h : Framed s o t [] 600000 7302250) :
    Framed s o t (fieldLocs frame_1_writes args s ++ arrayLocs frame_1_arrays args s ++ staticLocs frame_1_statics s) 600000 7302250 := h
theorem lw_limb (L : Cond) (hL : ∀ (args : Array Value) (s t : State), L.after args s (.returned (some (.int 1))) t = true) :
    ArmFor flags0 classFile x code maxLocals ret World_1 tables_1 room_1 Calls_1 rest_1 Pre_1
      (fun tb e a s o t => postC L tb e a s o t ∧ Framed s o t (fieldLocs frame_1_writes a s ++ arrayLocs frame_1_arrays a s ++ staticLocs frame_1_statics s) 600000 7302250) := by
  intro l _ _ _ p e ha hc hk s m args below hf hfit hheap happ hpre
  obtain ⟨k, o, h1, h2, h3, rfl, hF⟩ := lw_comes l p e ha hc hk s m args below hf hfit hheap happ hpre
  exact ⟨k, _, h1, h2, h3, hL args s _, lw_frame hF⟩
theorem i_vc : Claimed_1_1 ∧ Claimed_1_2 := ⟨lw_limb limb_1_1 (fun args s t => by simp [limb_1_1, Cond.after, Cond.holds, Cond.value]), lw_limb limb_1_2 (fun args s t => Cond.after_iff.mpr (by
  first | (rw [show limb_1_2 = Cond.eq .result (.int 1) from rfl, Cond.eq_ints (x := 1) (y := 1) rfl rfl]; simp; done) | (simp [limb_1_2, Cond.value, Term.eval]; done)))⟩
