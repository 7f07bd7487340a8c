/-! ===== the law's fourteen cases (written by gen37.py) ===== -/
section LAW3
variable {p : Program} {l : Launch} {e : Env} {s : State} {m : MethodId} {below : List Frame} {meth : Method} {c : Code} {b L : Nat} {xs : Nat → Int32} {D : va_G} {cA : Nat → ClassId} {H : Heap} {locs : List Loc} {ls : Array Slot} {Q : State → Prop} {S : SS} {a1 a2 i : Nat}
theorem Inv.zs (hI : Inv S) : S 8 0 < 30 → S 16 (S 8 0) = 0 ∧ S 17 (S 8 0) = 0 ∧ S 18 (S 8 0) = 0 ∧ S 36 (S 8 0) = 0 ∧ ∀ k : Nat, k < 7 → S 23 (7 * S 8 0 + k) = 0 := fun h => by
  obtain ⟨-, -, -, -, -, z1, z2, z3⟩ := hI
  have a := z1 (S 8 0) (Int.le_refl _) h
  have b := z2 (S 8 0) (Int.le_refl _) h
  exact ⟨a.1, b.1, b.2.1, b.2.2.2, fun k hk => a.2 k (by omega) (by omega)⟩
theorem Inv.zc (hI : Inv S) : S 24 0 < 12 → S 27 (S 24 0) = 0 ∧ S 29 (S 24 0) = 0 := fun h => hI.2.2.2.2.2.2.2 (S 24 0) (Int.le_refl _) h
theorem grd_1 (s n : Int) : (opGrdC S s n).1 = (opGrd S s n).1 := by
  unfold opGrdC opGrd
  by_cases c1 : ¬ ((0 ≤ s ∧ s ≤ S 8 0 - 1) ∧ (1 ≤ n ∧ n ≤ 500))
  · rw [if_pos c1, if_pos c1]
  · rw [if_neg c1, if_neg c1]
    by_cases c2 : ¬ (0 ≤ S 15 s ∧ S 15 s ≤ 7) ∨ 0 < S 21 s
    · rw [if_pos c2, if_pos c2]
    · rw [if_neg c2, if_neg c2]
theorem grd_2 (s n : Int) : ∀ k, k < 36 → ∀ x, (opGrdC S s n).2 k x = (opGrd S s n).2 k x := by
  intro k hk x
  unfold opGrdC opGrd
  by_cases c1 : ¬ ((0 ≤ s ∧ s ≤ S 8 0 - 1) ∧ (1 ≤ n ∧ n ≤ 500))
  · rw [if_pos c1, if_pos c1]
  · rw [if_neg c1, if_neg c1]
    by_cases c2 : ¬ (0 ≤ S 15 s ∧ S 15 s ≤ 7) ∨ 0 < S 21 s
    · rw [if_pos c2, if_pos c2]
    · rw [if_neg c2, if_neg c2]
      exact u2_ne (by omega) _ _ _
abbrev lw_ls (b a1 a2 i : Nat) : List (Nat × Value) := (0, .ref b) :: (3, .int (Int32.ofInt (i : Int))) :: [(1, .ref a1), (2, .ref a2)]
set_option maxRecDepth 100000 in
set_option maxHeartbeats 4000000 in
theorem lw_case0 (C0 : lw_At p s m meth c b L xs) (hK : KK D cA s) (hI : Inv S) (hW : WL D cA s.heap.size a1 a2 S S H) (hS : va_S (Bs s) s.heap H locs) (hl : lv_has ls 4 (lw_ls b a1 a2 i)) (hlt : i + 6 < L) (hL : L ≤ 3584) (kk : ∀ (S' : SS) (H' : Heap) (locs' : List Loc), Inv S' → WL D cA s.heap.size a1 a2 S' S' H' → va_S (Bs s) s.heap H' locs' → W p l e room_1 s m #[Value.ref b] below meth c H' locs' (200 + 10 * i + 10) (5000 + 100 * i + 100) Q (F0 m 666 ls [])) : W p l e room_1 s m #[Value.ref b] below meth c H locs (200 + 10 * i) (5000 + 100 * i) Q (F0 m 104 ls []) := by
  have hx := C0.1
  have hb := C0.2.1
  refine lv_aload_n hx hb dL_law_104 rfl (lv_at hl 2 rfl) ?_
  refine lw_ld (k := 1) C0 hS hl rfl (by omega) hL dL_law_105 dL_law_106 dL_law_107 dL_law_108 dL_law_109 ?_
  refine lw_ld (k := 2) C0 hS hl rfl (by omega) hL dL_law_110 dL_law_111 dL_law_112 dL_law_113 dL_law_114 ?_
  refine lw_ld (k := 3) C0 hS hl rfl (by omega) hL dL_law_115 dL_law_116 dL_law_117 dL_law_118 dL_law_119 ?_
  refine lw_ld (k := 4) C0 hS hl rfl (by omega) hL dL_law_120 dL_law_121 dL_law_122 dL_law_123 dL_law_124 ?_
  refine lw_bool C0 (rg_int _) dL_law_125 dL_law_128 dL_law_129 dL_law_132 ?_
  refine lw_call1 (zs := [(xs (i + 1)).toInt, (xs (i + 2)).toInt, (xs (i + 3)).toInt, (bz (xs (i + 4)).toInt)]) (r := (opSec S ((xs (i + 1)).toInt) ((xs (i + 2)).toInt) ((xs (i + 3)).toInt) (bz (xs (i + 4)).toInt)).1) (S' := (opSec S ((xs (i + 1)).toInt) ((xs (i + 2)).toInt) ((xs (i + 3)).toInt) (bz (xs (i + 4)).toInt)).2) C0 hK hI hW hS (fun A ad V hC hFA => ⟨_, c_X5_section hI.1 hC (rg_int _) (rg_int _) (rg_int _) (bz_01 _), fun _ _ _ _ h => PC.toU h⟩) mv_X5_section mlL_13 dL_law_133 ⟨⟨Nat.le_of_ble_eq_true rfl, Nat.le_of_ble_eq_true rfl⟩, by show 200 + 10 * i + 0 ≤ 600000; omega, by show 5000 + 100 * i + 0 ≤ 7302250; omega⟩ rfl hl.1 (Nat.le_of_ble_eq_true rfl) rfl (fun H1 locs1 hW hS => ?_)
  refine lv_aload_n hx hb dL_law_136 rfl (lv_at hl 3 rfl) ?_
  refine lw_ld (k := 1) C0 hS hl rfl (by omega) hL dL_law_137 dL_law_138 dL_law_139 dL_law_140 dL_law_141 ?_
  refine lw_ld (k := 2) C0 hS hl rfl (by omega) hL dL_law_142 dL_law_143 dL_law_144 dL_law_145 dL_law_146 ?_
  refine lw_ld (k := 3) C0 hS hl rfl (by omega) hL dL_law_147 dL_law_148 dL_law_149 dL_law_150 dL_law_151 ?_
  refine lw_ld (k := 4) C0 hS hl rfl (by omega) hL dL_law_152 dL_law_153 dL_law_154 dL_law_155 dL_law_156 ?_
  refine lw_bool C0 (rg_int _) dL_law_157 dL_law_160 dL_law_161 dL_law_164 ?_
  refine lw_call2 (zs := [(xs (i + 1)).toInt, (xs (i + 2)).toInt, (xs (i + 3)).toInt, (bz (xs (i + 4)).toInt)]) (r := (opSec S ((xs (i + 1)).toInt) ((xs (i + 2)).toInt) ((xs (i + 3)).toInt) (bz (xs (i + 4)).toInt)).1) (S' := (opSec S ((xs (i + 1)).toInt) ((xs (i + 2)).toInt) ((xs (i + 3)).toInt) (bz (xs (i + 4)).toInt)).2) C0 hK hW hS (fun A ad => c_X6_section hI.1 (rg_int _) (rg_int _) (rg_int _) (bz_01 _)) mv_X6_section mlL_17 dL_law_165 ⟨⟨Nat.le_of_ble_eq_true rfl, Nat.le_of_ble_eq_true rfl⟩, by show 200 + 10 * i + 0 + 0 ≤ 600000; omega, by show 5000 + 100 * i + 0 + 0 ≤ 7302250; omega⟩ rfl hl.1 (Nat.le_of_ble_eq_true rfl) rfl (fun H2 locs2 hW hS => ?_)
  refine lv_icmp_eq (tgt := 666) hx hb dL_law_168 (by decide) (fun _ => ?_) (fun h => absurd (rfl) h)
  refine W.widen (k := 200 + 10 * i + 10) (n := 5000 + 100 * i + 100) (by show 200 + 10 * i + 0 + 0 ≤ _; omega) (by show 5000 + 100 * i + 0 + 0 ≤ _; omega) ?_
  exact kk (opSec S ((xs (i + 1)).toInt) ((xs (i + 2)).toInt) ((xs (i + 3)).toInt) (bz (xs (i + 4)).toInt)).2 H2 locs2 (hI.sec (bz_01 _)) hW hS
set_option maxRecDepth 100000 in
set_option maxHeartbeats 4000000 in
theorem lw_case1 (C0 : lw_At p s m meth c b L xs) (hK : KK D cA s) (hI : Inv S) (hW : WL D cA s.heap.size a1 a2 S S H) (hS : va_S (Bs s) s.heap H locs) (hl : lv_has ls 4 (lw_ls b a1 a2 i)) (hlt : i + 6 < L) (hL : L ≤ 3584) (kk : ∀ (S' : SS) (H' : Heap) (locs' : List Loc), Inv S' → WL D cA s.heap.size a1 a2 S' S' H' → va_S (Bs s) s.heap H' locs' → W p l e room_1 s m #[Value.ref b] below meth c H' locs' (200 + 10 * i + 10) (5000 + 100 * i + 100) Q (F0 m 666 ls [])) : W p l e room_1 s m #[Value.ref b] below meth c H locs (200 + 10 * i) (5000 + 100 * i) Q (F0 m 173 ls []) := by
  have hx := C0.1
  have hb := C0.2.1
  refine lv_aload_n hx hb dL_law_173 rfl (lv_at hl 2 rfl) ?_
  refine lw_ld (k := 1) C0 hS hl rfl (by omega) hL dL_law_174 dL_law_175 dL_law_176 dL_law_177 dL_law_178 ?_
  refine lw_ld (k := 2) C0 hS hl rfl (by omega) hL dL_law_179 dL_law_180 dL_law_181 dL_law_182 dL_law_183 ?_
  refine lw_call1 (zs := [(xs (i + 1)).toInt, (xs (i + 2)).toInt]) (r := (opTide S ((xs (i + 1)).toInt) ((xs (i + 2)).toInt)).1) (S' := (opTide S ((xs (i + 1)).toInt) ((xs (i + 2)).toInt)).2) C0 hK hI hW hS (fun A ad V hC hFA => ⟨_, c_X5_tide hI.1 hC (rg_int _) (rg_int _), fun _ _ _ _ h => PC.toU h⟩) mv_X5_tide mlL_18 dL_law_184 ⟨⟨Nat.le_of_ble_eq_true rfl, Nat.le_of_ble_eq_true rfl⟩, by show 200 + 10 * i + 0 ≤ 600000; omega, by show 5000 + 100 * i + 0 ≤ 7302250; omega⟩ rfl hl.1 (Nat.le_of_ble_eq_true rfl) rfl (fun H1 locs1 hW hS => ?_)
  refine lv_aload_n hx hb dL_law_187 rfl (lv_at hl 3 rfl) ?_
  refine lw_ld (k := 1) C0 hS hl rfl (by omega) hL dL_law_188 dL_law_189 dL_law_190 dL_law_191 dL_law_192 ?_
  refine lw_ld (k := 2) C0 hS hl rfl (by omega) hL dL_law_193 dL_law_194 dL_law_195 dL_law_196 dL_law_197 ?_
  refine lw_call2 (zs := [(xs (i + 1)).toInt, (xs (i + 2)).toInt]) (r := (opTide S ((xs (i + 1)).toInt) ((xs (i + 2)).toInt)).1) (S' := (opTide S ((xs (i + 1)).toInt) ((xs (i + 2)).toInt)).2) C0 hK hW hS (fun A ad => c_X6_tide (rg_int _) (rg_int _)) mv_X6_tide mlL_22 dL_law_198 ⟨⟨Nat.le_of_ble_eq_true rfl, Nat.le_of_ble_eq_true rfl⟩, by show 200 + 10 * i + 0 + 0 ≤ 600000; omega, by show 5000 + 100 * i + 0 + 0 ≤ 7302250; omega⟩ rfl hl.1 (Nat.le_of_ble_eq_true rfl) rfl (fun H2 locs2 hW hS => ?_)
  refine lv_icmp_eq (tgt := 666) hx hb dL_law_201 (by decide) (fun _ => ?_) (fun h => absurd (rfl) h)
  refine W.widen (k := 200 + 10 * i + 10) (n := 5000 + 100 * i + 100) (by show 200 + 10 * i + 0 + 0 ≤ _; omega) (by show 5000 + 100 * i + 0 + 0 ≤ _; omega) ?_
  exact kk (opTide S ((xs (i + 1)).toInt) ((xs (i + 2)).toInt)).2 H2 locs2 hI.tide hW hS
set_option maxRecDepth 100000 in
set_option maxHeartbeats 4000000 in
theorem lw_case2 (C0 : lw_At p s m meth c b L xs) (hK : KK D cA s) (hI : Inv S) (hW : WL D cA s.heap.size a1 a2 S S H) (hS : va_S (Bs s) s.heap H locs) (hl : lv_has ls 4 (lw_ls b a1 a2 i)) (hlt : i + 6 < L) (hL : L ≤ 3584) (kk : ∀ (S' : SS) (H' : Heap) (locs' : List Loc), Inv S' → WL D cA s.heap.size a1 a2 S' S' H' → va_S (Bs s) s.heap H' locs' → W p l e room_1 s m #[Value.ref b] below meth c H' locs' (200 + 10 * i + 10) (5000 + 100 * i + 100) Q (F0 m 666 ls [])) : W p l e room_1 s m #[Value.ref b] below meth c H locs (200 + 10 * i) (5000 + 100 * i) Q (F0 m 206 ls []) := by
  have hx := C0.1
  have hb := C0.2.1
  refine lv_aload_n hx hb dL_law_206 rfl (lv_at hl 2 rfl) ?_
  refine lw_ld (k := 1) C0 hS hl rfl (by omega) hL dL_law_207 dL_law_208 dL_law_209 dL_law_210 dL_law_211 ?_
  refine lw_ld (k := 2) C0 hS hl rfl (by omega) hL dL_law_212 dL_law_213 dL_law_214 dL_law_215 dL_law_216 ?_
  refine lw_call1 (zs := [(xs (i + 1)).toInt, (xs (i + 2)).toInt]) (r := (opWind S ((xs (i + 1)).toInt) ((xs (i + 2)).toInt)).1) (S' := (opWind S ((xs (i + 1)).toInt) ((xs (i + 2)).toInt)).2) C0 hK hI hW hS (fun A ad V hC hFA => ⟨_, c_X5_wind hI.1 hC (rg_int _) (rg_int _), fun _ _ _ _ h => PC.toU h⟩) mv_X5_wind mlL_23 dL_law_217 ⟨⟨Nat.le_of_ble_eq_true rfl, Nat.le_of_ble_eq_true rfl⟩, by show 200 + 10 * i + 0 ≤ 600000; omega, by show 5000 + 100 * i + 0 ≤ 7302250; omega⟩ rfl hl.1 (Nat.le_of_ble_eq_true rfl) rfl (fun H1 locs1 hW hS => ?_)
  refine lv_aload_n hx hb dL_law_220 rfl (lv_at hl 3 rfl) ?_
  refine lw_ld (k := 1) C0 hS hl rfl (by omega) hL dL_law_221 dL_law_222 dL_law_223 dL_law_224 dL_law_225 ?_
  refine lw_ld (k := 2) C0 hS hl rfl (by omega) hL dL_law_226 dL_law_227 dL_law_228 dL_law_229 dL_law_230 ?_
  refine lw_call2 (zs := [(xs (i + 1)).toInt, (xs (i + 2)).toInt]) (r := (opWind S ((xs (i + 1)).toInt) ((xs (i + 2)).toInt)).1) (S' := (opWind S ((xs (i + 1)).toInt) ((xs (i + 2)).toInt)).2) C0 hK hW hS (fun A ad => c_X6_wind (rg_int _) (rg_int _)) mv_X6_wind mlL_26 dL_law_231 ⟨⟨Nat.le_of_ble_eq_true rfl, Nat.le_of_ble_eq_true rfl⟩, by show 200 + 10 * i + 0 + 0 ≤ 600000; omega, by show 5000 + 100 * i + 0 + 0 ≤ 7302250; omega⟩ rfl hl.1 (Nat.le_of_ble_eq_true rfl) rfl (fun H2 locs2 hW hS => ?_)
  refine lv_icmp_eq (tgt := 666) hx hb dL_law_234 (by decide) (fun _ => ?_) (fun h => absurd (rfl) h)
  refine W.widen (k := 200 + 10 * i + 10) (n := 5000 + 100 * i + 100) (by show 200 + 10 * i + 0 + 0 ≤ _; omega) (by show 5000 + 100 * i + 0 + 0 ≤ _; omega) ?_
  exact kk (opWind S ((xs (i + 1)).toInt) ((xs (i + 2)).toInt)).2 H2 locs2 hI.wind hW hS
set_option maxRecDepth 100000 in
set_option maxHeartbeats 4000000 in
theorem lw_case3 (C0 : lw_At p s m meth c b L xs) (hK : KK D cA s) (hI : Inv S) (hW : WL D cA s.heap.size a1 a2 S S H) (hS : va_S (Bs s) s.heap H locs) (hl : lv_has ls 4 (lw_ls b a1 a2 i)) (hlt : i + 6 < L) (hL : L ≤ 3584) (kk : ∀ (S' : SS) (H' : Heap) (locs' : List Loc), Inv S' → WL D cA s.heap.size a1 a2 S' S' H' → va_S (Bs s) s.heap H' locs' → W p l e room_1 s m #[Value.ref b] below meth c H' locs' (200 + 10 * i + 10) (5000 + 100 * i + 100) Q (F0 m 666 ls [])) : W p l e room_1 s m #[Value.ref b] below meth c H locs (200 + 10 * i) (5000 + 100 * i) Q (F0 m 239 ls []) := by
  have hx := C0.1
  have hb := C0.2.1
  refine lv_aload_n hx hb dL_law_239 rfl (lv_at hl 2 rfl) ?_
  refine lw_ld (k := 1) C0 hS hl rfl (by omega) hL dL_law_240 dL_law_241 dL_law_242 dL_law_243 dL_law_244 ?_
  refine lw_ld (k := 2) C0 hS hl rfl (by omega) hL dL_law_245 dL_law_246 dL_law_247 dL_law_248 dL_law_249 ?_
  refine lw_call1 (zs := [(xs (i + 1)).toInt, (xs (i + 2)).toInt]) (r := (opRule S ((xs (i + 1)).toInt) ((xs (i + 2)).toInt)).1) (S' := (opRule S ((xs (i + 1)).toInt) ((xs (i + 2)).toInt)).2) C0 hK hI hW hS (fun A ad V hC hFA => ⟨_, c_X5_rule hI.1 hC (rg_int _) (rg_int _), fun _ _ _ _ h => PC.toU h⟩) mv_X5_rule mlL_27 dL_law_250 ⟨⟨Nat.le_of_ble_eq_true rfl, Nat.le_of_ble_eq_true rfl⟩, by show 200 + 10 * i + 0 ≤ 600000; omega, by show 5000 + 100 * i + 0 ≤ 7302250; omega⟩ rfl hl.1 (Nat.le_of_ble_eq_true rfl) rfl (fun H1 locs1 hW hS => ?_)
  refine lv_aload_n hx hb dL_law_253 rfl (lv_at hl 3 rfl) ?_
  refine lw_ld (k := 1) C0 hS hl rfl (by omega) hL dL_law_254 dL_law_255 dL_law_256 dL_law_257 dL_law_258 ?_
  refine lw_ld (k := 2) C0 hS hl rfl (by omega) hL dL_law_259 dL_law_260 dL_law_261 dL_law_262 dL_law_263 ?_
  refine lw_call2 (zs := [(xs (i + 1)).toInt, (xs (i + 2)).toInt]) (r := (opRule S ((xs (i + 1)).toInt) ((xs (i + 2)).toInt)).1) (S' := (opRule S ((xs (i + 1)).toInt) ((xs (i + 2)).toInt)).2) C0 hK hW hS (fun A ad => c_X6_rule (rg_int _) (rg_int _)) mv_X6_rule mlL_30 dL_law_264 ⟨⟨Nat.le_of_ble_eq_true rfl, Nat.le_of_ble_eq_true rfl⟩, by show 200 + 10 * i + 0 + 0 ≤ 600000; omega, by show 5000 + 100 * i + 0 + 0 ≤ 7302250; omega⟩ rfl hl.1 (Nat.le_of_ble_eq_true rfl) rfl (fun H2 locs2 hW hS => ?_)
  refine lv_icmp_eq (tgt := 666) hx hb dL_law_267 (by decide) (fun _ => ?_) (fun h => absurd (rfl) h)
  refine W.widen (k := 200 + 10 * i + 10) (n := 5000 + 100 * i + 100) (by show 200 + 10 * i + 0 + 0 ≤ _; omega) (by show 5000 + 100 * i + 0 + 0 ≤ _; omega) ?_
  exact kk (opRule S ((xs (i + 1)).toInt) ((xs (i + 2)).toInt)).2 H2 locs2 hI.rule hW hS
set_option maxRecDepth 100000 in
set_option maxHeartbeats 4000000 in
theorem lw_case4 (C0 : lw_At p s m meth c b L xs) (hK : KK D cA s) (hI : Inv S) (hW : WL D cA s.heap.size a1 a2 S S H) (hS : va_S (Bs s) s.heap H locs) (hl : lv_has ls 4 (lw_ls b a1 a2 i)) (hlt : i + 6 < L) (hL : L ≤ 3584) (kk : ∀ (S' : SS) (H' : Heap) (locs' : List Loc), Inv S' → WL D cA s.heap.size a1 a2 S' S' H' → va_S (Bs s) s.heap H' locs' → W p l e room_1 s m #[Value.ref b] below meth c H' locs' (200 + 10 * i + 10) (5000 + 100 * i + 100) Q (F0 m 666 ls [])) : W p l e room_1 s m #[Value.ref b] below meth c H locs (200 + 10 * i) (5000 + 100 * i) Q (F0 m 272 ls []) := by
  have hx := C0.1
  have hb := C0.2.1
  refine lv_aload_n hx hb dL_law_272 rfl (lv_at hl 2 rfl) ?_
  refine lw_ld (k := 1) C0 hS hl rfl (by omega) hL dL_law_273 dL_law_274 dL_law_275 dL_law_276 dL_law_277 ?_
  refine lw_ld (k := 2) C0 hS hl rfl (by omega) hL dL_law_278 dL_law_279 dL_law_280 dL_law_281 dL_law_282 ?_
  refine lw_ld (k := 3) C0 hS hl rfl (by omega) hL dL_law_283 dL_law_284 dL_law_285 dL_law_286 dL_law_287 ?_
  refine lw_bool C0 (rg_int _) dL_law_288 dL_law_291 dL_law_292 dL_law_295 ?_
  refine lw_ld (k := 4) C0 hS hl rfl (by omega) hL dL_law_296 dL_law_297 dL_law_298 dL_law_299 dL_law_300 ?_
  refine lw_ld (k := 5) C0 hS hl rfl (by omega) hL dL_law_301 dL_law_302 dL_law_303 dL_law_304 dL_law_305 ?_
  refine lw_bool C0 (rg_int _) dL_law_306 dL_law_309 dL_law_310 dL_law_313 ?_
  refine lw_ld6 C0 hS hl (by omega) hL dL_law_314 dL_law_315 dL_law_316 dL_law_318 dL_law_319 ?_
  refine lw_call1 (zs := [(xs (i + 1)).toInt, (xs (i + 2)).toInt, (bz (xs (i + 3)).toInt), (xs (i + 4)).toInt, (bz (xs (i + 5)).toInt), (xs (i + 6)).toInt]) (r := (opShip S ((xs (i + 1)).toInt) ((xs (i + 2)).toInt) (bz (xs (i + 3)).toInt) ((xs (i + 4)).toInt) (bz (xs (i + 5)).toInt) ((xs (i + 6)).toInt)).1) (S' := (opShip S ((xs (i + 1)).toInt) ((xs (i + 2)).toInt) (bz (xs (i + 3)).toInt) ((xs (i + 4)).toInt) (bz (xs (i + 5)).toInt) ((xs (i + 6)).toInt)).2) C0 hK hI hW hS (fun A ad V hC hFA => ⟨_, c_X5_ship hI.1 hC (rg_int _) (rg_int _) (bz_01 _) (rg_int _) (bz_01 _) (rg_int _) hI.zs (fun _ => hFA.1), fun _ _ _ _ h => h⟩) mv_X5_ship mlL_31 dL_law_320 ⟨⟨Nat.le_of_ble_eq_true rfl, Nat.le_of_ble_eq_true rfl⟩, by show 200 + 10 * i + 2 ≤ 600000; omega, by show 5000 + 100 * i + 23 ≤ 7302250; omega⟩ rfl hl.1 (Nat.le_of_ble_eq_true rfl) rfl (fun H1 locs1 hW hS => ?_)
  refine lv_aload_n hx hb dL_law_323 rfl (lv_at hl 3 rfl) ?_
  refine lw_ld (k := 1) C0 hS hl rfl (by omega) hL dL_law_324 dL_law_325 dL_law_326 dL_law_327 dL_law_328 ?_
  refine lw_ld (k := 2) C0 hS hl rfl (by omega) hL dL_law_329 dL_law_330 dL_law_331 dL_law_332 dL_law_333 ?_
  refine lw_ld (k := 3) C0 hS hl rfl (by omega) hL dL_law_334 dL_law_335 dL_law_336 dL_law_337 dL_law_338 ?_
  refine lw_bool C0 (rg_int _) dL_law_339 dL_law_342 dL_law_343 dL_law_346 ?_
  refine lw_ld (k := 4) C0 hS hl rfl (by omega) hL dL_law_347 dL_law_348 dL_law_349 dL_law_350 dL_law_351 ?_
  refine lw_ld (k := 5) C0 hS hl rfl (by omega) hL dL_law_352 dL_law_353 dL_law_354 dL_law_355 dL_law_356 ?_
  refine lw_bool C0 (rg_int _) dL_law_357 dL_law_360 dL_law_361 dL_law_364 ?_
  refine lw_ld6 C0 hS hl (by omega) hL dL_law_365 dL_law_366 dL_law_367 dL_law_369 dL_law_370 ?_
  refine lw_call2 (zs := [(xs (i + 1)).toInt, (xs (i + 2)).toInt, (bz (xs (i + 3)).toInt), (xs (i + 4)).toInt, (bz (xs (i + 5)).toInt), (xs (i + 6)).toInt]) (r := (opShip S ((xs (i + 1)).toInt) ((xs (i + 2)).toInt) (bz (xs (i + 3)).toInt) ((xs (i + 4)).toInt) (bz (xs (i + 5)).toInt) ((xs (i + 6)).toInt)).1) (S' := (opShip S ((xs (i + 1)).toInt) ((xs (i + 2)).toInt) (bz (xs (i + 3)).toInt) ((xs (i + 4)).toInt) (bz (xs (i + 5)).toInt) ((xs (i + 6)).toInt)).2) C0 hK hW hS (fun A ad => c_X6_ship hI.1 (rg_int _) (rg_int _) (bz_01 _) (rg_int _) (bz_01 _) (rg_int _)) mv_X6_ship mlL_35 dL_law_371 ⟨⟨Nat.le_of_ble_eq_true rfl, Nat.le_of_ble_eq_true rfl⟩, by show 200 + 10 * i + 2 + 0 ≤ 600000; omega, by show 5000 + 100 * i + 23 + 0 ≤ 7302250; omega⟩ rfl hl.1 (Nat.le_of_ble_eq_true rfl) rfl (fun H2 locs2 hW hS => ?_)
  refine lv_icmp_eq (tgt := 666) hx hb dL_law_374 (by decide) (fun _ => ?_) (fun h => absurd (rfl) h)
  refine W.widen (k := 200 + 10 * i + 10) (n := 5000 + 100 * i + 100) (by show 200 + 10 * i + 2 + 0 ≤ _; omega) (by show 5000 + 100 * i + 23 + 0 ≤ _; omega) ?_
  exact kk (opShip S ((xs (i + 1)).toInt) ((xs (i + 2)).toInt) (bz (xs (i + 3)).toInt) ((xs (i + 4)).toInt) (bz (xs (i + 5)).toInt) ((xs (i + 6)).toInt)).2 H2 locs2 (hI.ship (bz_01 _) (bz_01 _)) hW hS
set_option maxRecDepth 100000 in
set_option maxHeartbeats 4000000 in
theorem lw_case5 (C0 : lw_At p s m meth c b L xs) (hK : KK D cA s) (hI : Inv S) (hW : WL D cA s.heap.size a1 a2 S S H) (hS : va_S (Bs s) s.heap H locs) (hl : lv_has ls 4 (lw_ls b a1 a2 i)) (hlt : i + 6 < L) (hL : L ≤ 3584) (kk : ∀ (S' : SS) (H' : Heap) (locs' : List Loc), Inv S' → WL D cA s.heap.size a1 a2 S' S' H' → va_S (Bs s) s.heap H' locs' → W p l e room_1 s m #[Value.ref b] below meth c H' locs' (200 + 10 * i + 10) (5000 + 100 * i + 100) Q (F0 m 666 ls [])) : W p l e room_1 s m #[Value.ref b] below meth c H locs (200 + 10 * i) (5000 + 100 * i) Q (F0 m 379 ls []) := by
  have hx := C0.1
  have hb := C0.2.1
  refine lv_aload_n hx hb dL_law_379 rfl (lv_at hl 2 rfl) ?_
  refine lw_ld (k := 1) C0 hS hl rfl (by omega) hL dL_law_380 dL_law_381 dL_law_382 dL_law_383 dL_law_384 ?_
  refine lw_ld (k := 2) C0 hS hl rfl (by omega) hL dL_law_385 dL_law_386 dL_law_387 dL_law_388 dL_law_389 ?_
  refine lw_call1 (zs := [(xs (i + 1)).toInt, (xs (i + 2)).toInt]) (r := (opConv S ((xs (i + 1)).toInt) ((xs (i + 2)).toInt)).1) (S' := (opConv S ((xs (i + 1)).toInt) ((xs (i + 2)).toInt)).2) C0 hK hI hW hS (fun A ad V hC hFA => ⟨_, c_X5_convoy hI.1 hC (rg_int _) (rg_int _) hI.zc (fun _ => hFA.2), fun _ _ _ _ h => h⟩) mv_X5_convoy mlL_36 dL_law_390 ⟨⟨Nat.le_of_ble_eq_true rfl, Nat.le_of_ble_eq_true rfl⟩, by show 200 + 10 * i + 5 ≤ 600000; omega, by show 5000 + 100 * i + 68 ≤ 7302250; omega⟩ rfl hl.1 (Nat.le_of_ble_eq_true rfl) rfl (fun H1 locs1 hW hS => ?_)
  refine lv_aload_n hx hb dL_law_393 rfl (lv_at hl 3 rfl) ?_
  refine lw_ld (k := 1) C0 hS hl rfl (by omega) hL dL_law_394 dL_law_395 dL_law_396 dL_law_397 dL_law_398 ?_
  refine lw_ld (k := 2) C0 hS hl rfl (by omega) hL dL_law_399 dL_law_400 dL_law_401 dL_law_402 dL_law_403 ?_
  refine lw_call2 (zs := [(xs (i + 1)).toInt, (xs (i + 2)).toInt]) (r := (opConv S ((xs (i + 1)).toInt) ((xs (i + 2)).toInt)).1) (S' := (opConv S ((xs (i + 1)).toInt) ((xs (i + 2)).toInt)).2) C0 hK hW hS (fun A ad => c_X6_convoy hI.1 (rg_int _) (rg_int _)) mv_X6_convoy mlL_39 dL_law_404 ⟨⟨Nat.le_of_ble_eq_true rfl, Nat.le_of_ble_eq_true rfl⟩, by show 200 + 10 * i + 5 + 0 ≤ 600000; omega, by show 5000 + 100 * i + 68 + 0 ≤ 7302250; omega⟩ rfl hl.1 (Nat.le_of_ble_eq_true rfl) rfl (fun H2 locs2 hW hS => ?_)
  refine lv_icmp_eq (tgt := 666) hx hb dL_law_407 (by decide) (fun _ => ?_) (fun h => absurd (rfl) h)
  refine W.widen (k := 200 + 10 * i + 10) (n := 5000 + 100 * i + 100) (by show 200 + 10 * i + 5 + 0 ≤ _; omega) (by show 5000 + 100 * i + 68 + 0 ≤ _; omega) ?_
  exact kk (opConv S ((xs (i + 1)).toInt) ((xs (i + 2)).toInt)).2 H2 locs2 hI.conv hW hS
set_option maxRecDepth 100000 in
set_option maxHeartbeats 4000000 in
theorem lw_case6 (C0 : lw_At p s m meth c b L xs) (hK : KK D cA s) (hI : Inv S) (hW : WL D cA s.heap.size a1 a2 S S H) (hS : va_S (Bs s) s.heap H locs) (hl : lv_has ls 4 (lw_ls b a1 a2 i)) (hlt : i + 6 < L) (hL : L ≤ 3584) (kk : ∀ (S' : SS) (H' : Heap) (locs' : List Loc), Inv S' → WL D cA s.heap.size a1 a2 S' S' H' → va_S (Bs s) s.heap H' locs' → W p l e room_1 s m #[Value.ref b] below meth c H' locs' (200 + 10 * i + 10) (5000 + 100 * i + 100) Q (F0 m 666 ls [])) : W p l e room_1 s m #[Value.ref b] below meth c H locs (200 + 10 * i) (5000 + 100 * i) Q (F0 m 412 ls []) := by
  have hx := C0.1
  have hb := C0.2.1
  refine lv_aload_n hx hb dL_law_412 rfl (lv_at hl 2 rfl) ?_
  refine lw_ld (k := 1) C0 hS hl rfl (by omega) hL dL_law_413 dL_law_414 dL_law_415 dL_law_416 dL_law_417 ?_
  refine lw_ld (k := 2) C0 hS hl rfl (by omega) hL dL_law_418 dL_law_419 dL_law_420 dL_law_421 dL_law_422 ?_
  refine lw_call1 (zs := [(xs (i + 1)).toInt, (xs (i + 2)).toInt]) (r := (opBook S ((xs (i + 1)).toInt) ((xs (i + 2)).toInt)).1) (S' := (opBook S ((xs (i + 1)).toInt) ((xs (i + 2)).toInt)).2) C0 hK hI hW hS (fun A ad V hC hFA => ⟨_, c_X5_book hI.1 hC (rg_int _) (rg_int _) (fun x h0 h1 => (hI.2.2.2.2.1 x h0 h1).2), fun _ _ _ _ h => PC.toU h⟩) mv_X5_book mlL_40 dL_law_423 ⟨⟨Nat.le_of_ble_eq_true rfl, Nat.le_of_ble_eq_true rfl⟩, by show 200 + 10 * i + 0 ≤ 600000; omega, by show 5000 + 100 * i + 0 ≤ 7302250; omega⟩ rfl hl.1 (Nat.le_of_ble_eq_true rfl) rfl (fun H1 locs1 hW hS => ?_)
  refine lv_aload_n hx hb dL_law_426 rfl (lv_at hl 3 rfl) ?_
  refine lw_ld (k := 1) C0 hS hl rfl (by omega) hL dL_law_427 dL_law_428 dL_law_429 dL_law_430 dL_law_431 ?_
  refine lw_ld (k := 2) C0 hS hl rfl (by omega) hL dL_law_432 dL_law_433 dL_law_434 dL_law_435 dL_law_436 ?_
  refine lw_call2 (zs := [(xs (i + 1)).toInt, (xs (i + 2)).toInt]) (r := (opBook S ((xs (i + 1)).toInt) ((xs (i + 2)).toInt)).1) (S' := (opBook S ((xs (i + 1)).toInt) ((xs (i + 2)).toInt)).2) C0 hK hW hS (fun A ad => c_X6_book hI.1 (rg_int _) (rg_int _)) mv_X6_book mlL_43 dL_law_437 ⟨⟨Nat.le_of_ble_eq_true rfl, Nat.le_of_ble_eq_true rfl⟩, by show 200 + 10 * i + 0 + 0 ≤ 600000; omega, by show 5000 + 100 * i + 0 + 0 ≤ 7302250; omega⟩ rfl hl.1 (Nat.le_of_ble_eq_true rfl) rfl (fun H2 locs2 hW hS => ?_)
  refine lv_icmp_eq (tgt := 666) hx hb dL_law_440 (by decide) (fun _ => ?_) (fun h => absurd (rfl) h)
  refine W.widen (k := 200 + 10 * i + 10) (n := 5000 + 100 * i + 100) (by show 200 + 10 * i + 0 + 0 ≤ _; omega) (by show 5000 + 100 * i + 0 + 0 ≤ _; omega) ?_
  exact kk (opBook S ((xs (i + 1)).toInt) ((xs (i + 2)).toInt)).2 H2 locs2 hI.book hW hS
set_option maxRecDepth 100000 in
set_option maxHeartbeats 4000000 in
theorem lw_case7 (C0 : lw_At p s m meth c b L xs) (hK : KK D cA s) (hI : Inv S) (hW : WL D cA s.heap.size a1 a2 S S H) (hS : va_S (Bs s) s.heap H locs) (hl : lv_has ls 4 (lw_ls b a1 a2 i)) (hlt : i + 6 < L) (hL : L ≤ 3584) (kk : ∀ (S' : SS) (H' : Heap) (locs' : List Loc), Inv S' → WL D cA s.heap.size a1 a2 S' S' H' → va_S (Bs s) s.heap H' locs' → W p l e room_1 s m #[Value.ref b] below meth c H' locs' (200 + 10 * i + 10) (5000 + 100 * i + 100) Q (F0 m 666 ls [])) : W p l e room_1 s m #[Value.ref b] below meth c H locs (200 + 10 * i) (5000 + 100 * i) Q (F0 m 445 ls []) := by
  have hx := C0.1
  have hb := C0.2.1
  refine lv_aload_n hx hb dL_law_445 rfl (lv_at hl 2 rfl) ?_
  refine lw_ld (k := 1) C0 hS hl rfl (by omega) hL dL_law_446 dL_law_447 dL_law_448 dL_law_449 dL_law_450 ?_
  refine lw_ld (k := 2) C0 hS hl rfl (by omega) hL dL_law_451 dL_law_452 dL_law_453 dL_law_454 dL_law_455 ?_
  refine lw_call1 (zs := [(xs (i + 1)).toInt, (xs (i + 2)).toInt]) (r := (opGrdC S ((xs (i + 1)).toInt) ((xs (i + 2)).toInt)).1) (S' := (opGrdC S ((xs (i + 1)).toInt) ((xs (i + 2)).toInt)).2) C0 hK hI hW hS (fun A ad V hC hFA => ⟨_, c_X5_ground hI.1 hI.2.2.2.1 hC (rg_int _) (rg_int _), fun _ _ _ _ h => PC.toU h⟩) mv_X5_ground mlL_44 dL_law_456 ⟨⟨Nat.le_of_ble_eq_true rfl, Nat.le_of_ble_eq_true rfl⟩, by show 200 + 10 * i + 0 ≤ 600000; omega, by show 5000 + 100 * i + 0 ≤ 7302250; omega⟩ rfl hl.1 (Nat.le_of_ble_eq_true rfl) rfl (fun H1 locs1 hW hS => ?_)
  refine lv_aload_n hx hb dL_law_459 rfl (lv_at hl 3 rfl) ?_
  refine lw_ld (k := 1) C0 hS hl rfl (by omega) hL dL_law_460 dL_law_461 dL_law_462 dL_law_463 dL_law_464 ?_
  refine lw_ld (k := 2) C0 hS hl rfl (by omega) hL dL_law_465 dL_law_466 dL_law_467 dL_law_468 dL_law_469 ?_
  refine lw_call2 (zs := [(xs (i + 1)).toInt, (xs (i + 2)).toInt]) (r := (opGrd S ((xs (i + 1)).toInt) ((xs (i + 2)).toInt)).1) (S' := (opGrd S ((xs (i + 1)).toInt) ((xs (i + 2)).toInt)).2) C0 hK hW hS (fun A ad => c_X6_ground hI.1 (rg_int _) (rg_int _)) mv_X6_ground mlL_47 dL_law_470 ⟨⟨Nat.le_of_ble_eq_true rfl, Nat.le_of_ble_eq_true rfl⟩, by show 200 + 10 * i + 0 + 0 ≤ 600000; omega, by show 5000 + 100 * i + 0 + 0 ≤ 7302250; omega⟩ rfl hl.1 (Nat.le_of_ble_eq_true rfl) rfl (fun H2 locs2 hW hS => ?_)
  refine lv_icmp_eq (tgt := 666) hx hb dL_law_473 (by decide) (fun _ => ?_) (fun h => absurd (congrArg Int32.ofInt (grd_1 _ _)) h)
  refine W.widen (k := 200 + 10 * i + 10) (n := 5000 + 100 * i + 100) (by show 200 + 10 * i + 0 + 0 ≤ _; omega) (by show 5000 + 100 * i + 0 + 0 ≤ _; omega) ?_
  exact kk (opGrdC S ((xs (i + 1)).toInt) ((xs (i + 2)).toInt)).2 H2 locs2 hI.grd (hW.ghost (grd_2 _ _)) hS
set_option maxRecDepth 100000 in
set_option maxHeartbeats 4000000 in
theorem lw_case8 (C0 : lw_At p s m meth c b L xs) (hK : KK D cA s) (hI : Inv S) (hW : WL D cA s.heap.size a1 a2 S S H) (hS : va_S (Bs s) s.heap H locs) (hl : lv_has ls 4 (lw_ls b a1 a2 i)) (hlt : i + 6 < L) (hL : L ≤ 3584) (kk : ∀ (S' : SS) (H' : Heap) (locs' : List Loc), Inv S' → WL D cA s.heap.size a1 a2 S' S' H' → va_S (Bs s) s.heap H' locs' → W p l e room_1 s m #[Value.ref b] below meth c H' locs' (200 + 10 * i + 10) (5000 + 100 * i + 100) Q (F0 m 666 ls [])) : W p l e room_1 s m #[Value.ref b] below meth c H locs (200 + 10 * i) (5000 + 100 * i) Q (F0 m 478 ls []) := by
  have hx := C0.1
  have hb := C0.2.1
  refine lv_aload_n hx hb dL_law_478 rfl (lv_at hl 2 rfl) ?_
  refine lw_ld (k := 1) C0 hS hl rfl (by omega) hL dL_law_479 dL_law_480 dL_law_481 dL_law_482 dL_law_483 ?_
  refine lw_call1 (zs := [(xs (i + 1)).toInt]) (r := (opMin S ((xs (i + 1)).toInt)).1) (S' := (opMin S ((xs (i + 1)).toInt)).2) C0 hK hI hW hS (fun A ad V hC hFA => ⟨_, c_X5_minutes hI.1 hC (rg_int _) hI.okts, fun _ _ _ _ h => PC.toU h⟩) mv_X5_minutes mlL_48 dL_law_484 ⟨⟨Nat.le_of_ble_eq_true rfl, Nat.le_of_ble_eq_true rfl⟩, by show 200 + 10 * i + 0 ≤ 600000; omega, by show 5000 + 100 * i + 0 ≤ 7302250; omega⟩ rfl hl.1 (Nat.le_of_ble_eq_true rfl) rfl (fun H1 locs1 hW hS => ?_)
  refine lv_aload_n hx hb dL_law_487 rfl (lv_at hl 3 rfl) ?_
  refine lw_ld (k := 1) C0 hS hl rfl (by omega) hL dL_law_488 dL_law_489 dL_law_490 dL_law_491 dL_law_492 ?_
  refine lw_call2 (zs := [(xs (i + 1)).toInt]) (r := (opMin S ((xs (i + 1)).toInt)).1) (S' := (opMin S ((xs (i + 1)).toInt)).2) C0 hK hW hS (fun A ad => c_X6_minutes hI.1 (rg_int _) (fun h1 h2 j hj => (hI.okts h1 h2 j hj).ok)) mv_X6_minutes mlL_52 dL_law_493 ⟨⟨Nat.le_of_ble_eq_true rfl, Nat.le_of_ble_eq_true rfl⟩, by show 200 + 10 * i + 0 + 0 ≤ 600000; omega, by show 5000 + 100 * i + 0 + 0 ≤ 7302250; omega⟩ rfl hl.1 (Nat.le_of_ble_eq_true rfl) rfl (fun H2 locs2 hW hS => ?_)
  refine lv_icmp_eq (tgt := 666) hx hb dL_law_496 (by decide) (fun _ => ?_) (fun h => absurd (rfl) h)
  refine W.widen (k := 200 + 10 * i + 10) (n := 5000 + 100 * i + 100) (by show 200 + 10 * i + 0 + 0 ≤ _; omega) (by show 5000 + 100 * i + 0 + 0 ≤ _; omega) ?_
  exact kk (opMin S ((xs (i + 1)).toInt)).2 H2 locs2 (hI.min _) hW hS
set_option maxRecDepth 100000 in
set_option maxHeartbeats 4000000 in
theorem lw_case9 (C0 : lw_At p s m meth c b L xs) (hK : KK D cA s) (hI : Inv S) (hW : WL D cA s.heap.size a1 a2 S S H) (hS : va_S (Bs s) s.heap H locs) (hl : lv_has ls 4 (lw_ls b a1 a2 i)) (hlt : i + 6 < L) (hL : L ≤ 3584) (kk : ∀ (S' : SS) (H' : Heap) (locs' : List Loc), Inv S' → WL D cA s.heap.size a1 a2 S' S' H' → va_S (Bs s) s.heap H' locs' → W p l e room_1 s m #[Value.ref b] below meth c H' locs' (200 + 10 * i + 10) (5000 + 100 * i + 100) Q (F0 m 666 ls [])) : W p l e room_1 s m #[Value.ref b] below meth c H locs (200 + 10 * i) (5000 + 100 * i) Q (F0 m 501 ls []) := by
  have hx := C0.1
  have hb := C0.2.1
  refine lv_aload_n hx hb dL_law_501 rfl (lv_at hl 2 rfl) ?_
  refine lw_ld (k := 1) C0 hS hl rfl (by omega) hL dL_law_502 dL_law_503 dL_law_504 dL_law_505 dL_law_506 ?_
  refine lw_ld (k := 2) C0 hS hl rfl (by omega) hL dL_law_507 dL_law_508 dL_law_509 dL_law_510 dL_law_511 ?_
  refine lw_call1 (zs := [(xs (i + 1)).toInt, (xs (i + 2)).toInt]) (r := (opTold S ((xs (i + 1)).toInt) ((xs (i + 2)).toInt))) (S' := S) C0 hK hI hW hS (fun A ad V hC hFA => ⟨_, c_X5_told hI.1 hI.2.2.2.1 (fun x h0 h1 h2 => hI.2.1.tg x h0 h1 (by omega) h2) hC (rg_int _) (rg_int _), fun _ _ _ _ h => PC.toU h⟩) mv_X5_told mlL_53 dL_law_512 ⟨⟨Nat.le_of_ble_eq_true rfl, Nat.le_of_ble_eq_true rfl⟩, by show 200 + 10 * i + 0 ≤ 600000; omega, by show 5000 + 100 * i + 0 ≤ 7302250; omega⟩ rfl hl.1 (Nat.le_of_ble_eq_true rfl) rfl (fun H1 locs1 hW hS => ?_)
  refine lv_aload_n hx hb dL_law_515 rfl (lv_at hl 3 rfl) ?_
  refine lw_ld (k := 1) C0 hS hl rfl (by omega) hL dL_law_516 dL_law_517 dL_law_518 dL_law_519 dL_law_520 ?_
  refine lw_ld (k := 2) C0 hS hl rfl (by omega) hL dL_law_521 dL_law_522 dL_law_523 dL_law_524 dL_law_525 ?_
  refine lw_call2 (zs := [(xs (i + 1)).toInt, (xs (i + 2)).toInt]) (r := (opTold S ((xs (i + 1)).toInt) ((xs (i + 2)).toInt))) (S' := S) C0 hK hW hS (fun A ad => c_X6_told hI.1 (rg_int _) (rg_int _)) mv_X6_told mlL_56 dL_law_526 ⟨⟨Nat.le_of_ble_eq_true rfl, Nat.le_of_ble_eq_true rfl⟩, by show 200 + 10 * i + 0 + 0 ≤ 600000; omega, by show 5000 + 100 * i + 0 + 0 ≤ 7302250; omega⟩ rfl hl.1 (Nat.le_of_ble_eq_true rfl) rfl (fun H2 locs2 hW hS => ?_)
  refine lv_icmp_eq (tgt := 666) hx hb dL_law_529 (by decide) (fun _ => ?_) (fun h => absurd (rfl) h)
  refine W.widen (k := 200 + 10 * i + 10) (n := 5000 + 100 * i + 100) (by show 200 + 10 * i + 0 + 0 ≤ _; omega) (by show 5000 + 100 * i + 0 + 0 ≤ _; omega) ?_
  exact kk S H2 locs2 hI hW hS
set_option maxRecDepth 100000 in
set_option maxHeartbeats 4000000 in
theorem lw_case10 (C0 : lw_At p s m meth c b L xs) (hK : KK D cA s) (hI : Inv S) (hW : WL D cA s.heap.size a1 a2 S S H) (hS : va_S (Bs s) s.heap H locs) (hl : lv_has ls 4 (lw_ls b a1 a2 i)) (hlt : i + 6 < L) (hL : L ≤ 3584) (kk : ∀ (S' : SS) (H' : Heap) (locs' : List Loc), Inv S' → WL D cA s.heap.size a1 a2 S' S' H' → va_S (Bs s) s.heap H' locs' → W p l e room_1 s m #[Value.ref b] below meth c H' locs' (200 + 10 * i + 10) (5000 + 100 * i + 100) Q (F0 m 666 ls [])) : W p l e room_1 s m #[Value.ref b] below meth c H locs (200 + 10 * i) (5000 + 100 * i) Q (F0 m 534 ls []) := by
  have hx := C0.1
  have hb := C0.2.1
  refine lv_aload_n hx hb dL_law_534 rfl (lv_at hl 2 rfl) ?_
  refine lw_ld (k := 1) C0 hS hl rfl (by omega) hL dL_law_535 dL_law_536 dL_law_537 dL_law_538 dL_law_539 ?_
  refine lw_ld (k := 2) C0 hS hl rfl (by omega) hL dL_law_540 dL_law_541 dL_law_542 dL_law_543 dL_law_544 ?_
  refine lw_call1 (zs := [(xs (i + 1)).toInt, (xs (i + 2)).toInt]) (r := (opWaited S ((xs (i + 1)).toInt) ((xs (i + 2)).toInt))) (S' := S) C0 hK hI hW hS (fun A ad V hC hFA => ⟨_, c_X5_waited hI.1 hC (rg_int _) (rg_int _), fun _ _ _ _ h => PC.toU h⟩) mv_X5_waited mlL_57 dL_law_545 ⟨⟨Nat.le_of_ble_eq_true rfl, Nat.le_of_ble_eq_true rfl⟩, by show 200 + 10 * i + 0 ≤ 600000; omega, by show 5000 + 100 * i + 0 ≤ 7302250; omega⟩ rfl hl.1 (Nat.le_of_ble_eq_true rfl) rfl (fun H1 locs1 hW hS => ?_)
  refine lv_aload_n hx hb dL_law_548 rfl (lv_at hl 3 rfl) ?_
  refine lw_ld (k := 1) C0 hS hl rfl (by omega) hL dL_law_549 dL_law_550 dL_law_551 dL_law_552 dL_law_553 ?_
  refine lw_ld (k := 2) C0 hS hl rfl (by omega) hL dL_law_554 dL_law_555 dL_law_556 dL_law_557 dL_law_558 ?_
  refine lw_call2 (zs := [(xs (i + 1)).toInt, (xs (i + 2)).toInt]) (r := (opWaited S ((xs (i + 1)).toInt) ((xs (i + 2)).toInt))) (S' := S) C0 hK hW hS (fun A ad => c_X6_waited hI.1 (rg_int _) (rg_int _)) mv_X6_waited mlL_60 dL_law_559 ⟨⟨Nat.le_of_ble_eq_true rfl, Nat.le_of_ble_eq_true rfl⟩, by show 200 + 10 * i + 0 + 0 ≤ 600000; omega, by show 5000 + 100 * i + 0 + 0 ≤ 7302250; omega⟩ rfl hl.1 (Nat.le_of_ble_eq_true rfl) rfl (fun H2 locs2 hW hS => ?_)
  refine lv_icmp_eq (tgt := 666) hx hb dL_law_562 (by decide) (fun _ => ?_) (fun h => absurd (rfl) h)
  refine W.widen (k := 200 + 10 * i + 10) (n := 5000 + 100 * i + 100) (by show 200 + 10 * i + 0 + 0 ≤ _; omega) (by show 5000 + 100 * i + 0 + 0 ≤ _; omega) ?_
  exact kk S H2 locs2 hI hW hS
set_option maxRecDepth 100000 in
set_option maxHeartbeats 4000000 in
theorem lw_case11 (C0 : lw_At p s m meth c b L xs) (hK : KK D cA s) (hI : Inv S) (hW : WL D cA s.heap.size a1 a2 S S H) (hS : va_S (Bs s) s.heap H locs) (hl : lv_has ls 4 (lw_ls b a1 a2 i)) (hlt : i + 6 < L) (hL : L ≤ 3584) (kk : ∀ (S' : SS) (H' : Heap) (locs' : List Loc), Inv S' → WL D cA s.heap.size a1 a2 S' S' H' → va_S (Bs s) s.heap H' locs' → W p l e room_1 s m #[Value.ref b] below meth c H' locs' (200 + 10 * i + 10) (5000 + 100 * i + 100) Q (F0 m 666 ls [])) : W p l e room_1 s m #[Value.ref b] below meth c H locs (200 + 10 * i) (5000 + 100 * i) Q (F0 m 567 ls []) := by
  have hx := C0.1
  have hb := C0.2.1
  refine lv_aload_n hx hb dL_law_567 rfl (lv_at hl 2 rfl) ?_
  refine lw_ld (k := 1) C0 hS hl rfl (by omega) hL dL_law_568 dL_law_569 dL_law_570 dL_law_571 dL_law_572 ?_
  refine lw_ld (k := 2) C0 hS hl rfl (by omega) hL dL_law_573 dL_law_574 dL_law_575 dL_law_576 dL_law_577 ?_
  refine lw_call1 (zs := [(xs (i + 1)).toInt, (xs (i + 2)).toInt]) (r := (opLine S ((xs (i + 1)).toInt) ((xs (i + 2)).toInt))) (S' := S) C0 hK hI hW hS (fun A ad V hC hFA => ⟨_, c_X5_line hI.ci hC (rg_int _) (rg_int _), fun _ _ _ _ h => PC.toU h⟩) mv_X5_line mlL_61 dL_law_578 ⟨⟨Nat.le_of_ble_eq_true rfl, Nat.le_of_ble_eq_true rfl⟩, by show 200 + 10 * i + 0 ≤ 600000; omega, by show 5000 + 100 * i + 0 ≤ 7302250; omega⟩ rfl hl.1 (Nat.le_of_ble_eq_true rfl) rfl (fun H1 locs1 hW hS => ?_)
  refine lv_aload_n hx hb dL_law_581 rfl (lv_at hl 3 rfl) ?_
  refine lw_ld (k := 1) C0 hS hl rfl (by omega) hL dL_law_582 dL_law_583 dL_law_584 dL_law_585 dL_law_586 ?_
  refine lw_ld (k := 2) C0 hS hl rfl (by omega) hL dL_law_587 dL_law_588 dL_law_589 dL_law_590 dL_law_591 ?_
  refine lw_call2 (zs := [(xs (i + 1)).toInt, (xs (i + 2)).toInt]) (r := (opLine S ((xs (i + 1)).toInt) ((xs (i + 2)).toInt))) (S' := S) C0 hK hW hS (fun A ad => c_X6_line hI.1 (rg_int _) (rg_int _)) mv_X6_line mlL_64 dL_law_592 ⟨⟨Nat.le_of_ble_eq_true rfl, Nat.le_of_ble_eq_true rfl⟩, by show 200 + 10 * i + 0 + 0 ≤ 600000; omega, by show 5000 + 100 * i + 0 + 0 ≤ 7302250; omega⟩ rfl hl.1 (Nat.le_of_ble_eq_true rfl) rfl (fun H2 locs2 hW hS => ?_)
  refine lv_icmp_eq (tgt := 666) hx hb dL_law_595 (by decide) (fun _ => ?_) (fun h => absurd (rfl) h)
  refine W.widen (k := 200 + 10 * i + 10) (n := 5000 + 100 * i + 100) (by show 200 + 10 * i + 0 + 0 ≤ _; omega) (by show 5000 + 100 * i + 0 + 0 ≤ _; omega) ?_
  exact kk S H2 locs2 hI hW hS
set_option maxRecDepth 100000 in
set_option maxHeartbeats 4000000 in
theorem lw_case12 (C0 : lw_At p s m meth c b L xs) (hK : KK D cA s) (hI : Inv S) (hW : WL D cA s.heap.size a1 a2 S S H) (hS : va_S (Bs s) s.heap H locs) (hl : lv_has ls 4 (lw_ls b a1 a2 i)) (hlt : i + 6 < L) (hL : L ≤ 3584) (kk : ∀ (S' : SS) (H' : Heap) (locs' : List Loc), Inv S' → WL D cA s.heap.size a1 a2 S' S' H' → va_S (Bs s) s.heap H' locs' → W p l e room_1 s m #[Value.ref b] below meth c H' locs' (200 + 10 * i + 10) (5000 + 100 * i + 100) Q (F0 m 666 ls [])) : W p l e room_1 s m #[Value.ref b] below meth c H locs (200 + 10 * i) (5000 + 100 * i) Q (F0 m 600 ls []) := by
  have hx := C0.1
  have hb := C0.2.1
  refine lv_aload_n hx hb dL_law_600 rfl (lv_at hl 2 rfl) ?_
  refine lw_ld (k := 1) C0 hS hl rfl (by omega) hL dL_law_601 dL_law_602 dL_law_603 dL_law_604 dL_law_605 ?_
  refine lw_ld (k := 2) C0 hS hl rfl (by omega) hL dL_law_606 dL_law_607 dL_law_608 dL_law_609 dL_law_610 ?_
  refine lw_ld (k := 3) C0 hS hl rfl (by omega) hL dL_law_611 dL_law_612 dL_law_613 dL_law_614 dL_law_615 ?_
  refine lw_call1 (zs := [(xs (i + 1)).toInt, (xs (i + 2)).toInt, (xs (i + 3)).toInt]) (r := (opIn S ((xs (i + 1)).toInt) ((xs (i + 2)).toInt) ((xs (i + 3)).toInt))) (S' := S) C0 hK hI hW hS (fun A ad V hC hFA => ⟨_, c_X5_in hI.ci hC (rg_int _) (rg_int _) (rg_int _), fun _ _ _ _ h => PC.toU h⟩) mv_X5_in mlL_65 dL_law_616 ⟨⟨Nat.le_of_ble_eq_true rfl, Nat.le_of_ble_eq_true rfl⟩, by show 200 + 10 * i + 0 ≤ 600000; omega, by show 5000 + 100 * i + 0 ≤ 7302250; omega⟩ rfl hl.1 (Nat.le_of_ble_eq_true rfl) rfl (fun H1 locs1 hW hS => ?_)
  refine lv_aload_n hx hb dL_law_619 rfl (lv_at hl 3 rfl) ?_
  refine lw_ld (k := 1) C0 hS hl rfl (by omega) hL dL_law_620 dL_law_621 dL_law_622 dL_law_623 dL_law_624 ?_
  refine lw_ld (k := 2) C0 hS hl rfl (by omega) hL dL_law_625 dL_law_626 dL_law_627 dL_law_628 dL_law_629 ?_
  refine lw_ld (k := 3) C0 hS hl rfl (by omega) hL dL_law_630 dL_law_631 dL_law_632 dL_law_633 dL_law_634 ?_
  refine lw_call2 (zs := [(xs (i + 1)).toInt, (xs (i + 2)).toInt, (xs (i + 3)).toInt]) (r := (opIn S ((xs (i + 1)).toInt) ((xs (i + 2)).toInt) ((xs (i + 3)).toInt))) (S' := S) C0 hK hW hS (fun A ad => c_X6_in hI.1 (rg_int _) (rg_int _) (rg_int _)) mv_X6_in mlL_69 dL_law_635 ⟨⟨Nat.le_of_ble_eq_true rfl, Nat.le_of_ble_eq_true rfl⟩, by show 200 + 10 * i + 0 + 0 ≤ 600000; omega, by show 5000 + 100 * i + 0 + 0 ≤ 7302250; omega⟩ rfl hl.1 (Nat.le_of_ble_eq_true rfl) rfl (fun H2 locs2 hW hS => ?_)
  refine lv_icmp_eq (tgt := 666) hx hb dL_law_638 (by decide) (fun _ => ?_) (fun h => absurd (rfl) h)
  refine W.widen (k := 200 + 10 * i + 10) (n := 5000 + 100 * i + 100) (by show 200 + 10 * i + 0 + 0 ≤ _; omega) (by show 5000 + 100 * i + 0 + 0 ≤ _; omega) ?_
  exact kk S H2 locs2 hI hW hS
set_option maxRecDepth 100000 in
set_option maxHeartbeats 4000000 in
theorem lw_case13 (C0 : lw_At p s m meth c b L xs) (hK : KK D cA s) (hI : Inv S) (hW : WL D cA s.heap.size a1 a2 S S H) (hS : va_S (Bs s) s.heap H locs) (hl : lv_has ls 4 (lw_ls b a1 a2 i)) (hlt : i + 6 < L) (hL : L ≤ 3584) (kk : ∀ (S' : SS) (H' : Heap) (locs' : List Loc), Inv S' → WL D cA s.heap.size a1 a2 S' S' H' → va_S (Bs s) s.heap H' locs' → W p l e room_1 s m #[Value.ref b] below meth c H' locs' (200 + 10 * i + 10) (5000 + 100 * i + 100) Q (F0 m 666 ls [])) : W p l e room_1 s m #[Value.ref b] below meth c H locs (200 + 10 * i) (5000 + 100 * i) Q (F0 m 643 ls []) := by
  have hx := C0.1
  have hb := C0.2.1
  refine lv_aload_n hx hb dL_law_643 rfl (lv_at hl 2 rfl) ?_
  refine lw_ld (k := 1) C0 hS hl rfl (by omega) hL dL_law_644 dL_law_645 dL_law_646 dL_law_647 dL_law_648 ?_
  refine lw_call1 (zs := [(xs (i + 1)).toInt]) (r := (opCnt S ((xs (i + 1)).toInt))) (S' := S) C0 hK hI hW hS (fun A ad V hC hFA => ⟨_, c_X5_count hI.1 hC (rg_int _), fun _ _ _ _ h => PC.toU h⟩) mv_X5_count mlL_70 dL_law_649 ⟨⟨Nat.le_of_ble_eq_true rfl, Nat.le_of_ble_eq_true rfl⟩, by show 200 + 10 * i + 0 ≤ 600000; omega, by show 5000 + 100 * i + 0 ≤ 7302250; omega⟩ rfl hl.1 (Nat.le_of_ble_eq_true rfl) rfl (fun H1 locs1 hW hS => ?_)
  refine lv_aload_n hx hb dL_law_652 rfl (lv_at hl 3 rfl) ?_
  refine lw_ld (k := 1) C0 hS hl rfl (by omega) hL dL_law_653 dL_law_654 dL_law_655 dL_law_656 dL_law_657 ?_
  refine lw_call2 (zs := [(xs (i + 1)).toInt]) (r := (opCnt S ((xs (i + 1)).toInt))) (S' := S) C0 hK hW hS (fun A ad => c_X6_count hI.1 (rg_int _)) mv_X6_count mlL_73 dL_law_658 ⟨⟨Nat.le_of_ble_eq_true rfl, Nat.le_of_ble_eq_true rfl⟩, by show 200 + 10 * i + 0 + 0 ≤ 600000; omega, by show 5000 + 100 * i + 0 + 0 ≤ 7302250; omega⟩ rfl hl.1 (Nat.le_of_ble_eq_true rfl) rfl (fun H2 locs2 hW hS => ?_)
  refine lv_icmp_eq (tgt := 666) hx hb dL_law_661 (by decide) (fun _ => ?_) (fun h => absurd (rfl) h)
  refine W.widen (k := 200 + 10 * i + 10) (n := 5000 + 100 * i + 100) (by show 200 + 10 * i + 0 + 0 ≤ _; omega) (by show 5000 + 100 * i + 0 + 0 ≤ _; omega) ?_
  exact kk S H2 locs2 hI hW hS
end LAW3
