/-! ===== the law, a call of each kind ===== -/
theorem lc_0 {K : KT} {ll : Launch} {g : GT} {k n c L b t N : Nat} {xs : Nat → Int32} {B A : Nat → Nat} {S : OS} {hC hR : Hp} (X : Cx K ll g cL_law RL 4 room_1) (sx : SX K b L xs) (hc : 6 * c + 6 ≤ L) (hL : L ≤ 3072) (cC : CR g hC B S) (mR : MW g hR t A S) (hI : SOk S N) (hN : N + 400 ≤ 204800) (hx : hX hC hR) (hk : k + 5 ≤ 667156) (hn : n + 29 ≤ 7100779) (kk : ∀ (S2 : OS) (hC2 hR2 : Hp), CR g hC2 B S2 → MW g hR2 t A S2 → SOk S2 (N + 400) → hX hC2 hR2 → VJ K (k + 5) (n + 29) (hS hC2 hR2) 1404 [(3, .int (nI (6 * c))), (2, .ref t), (1, .ref (B 0)), (0, .ref b)] []) : VJ K k n (hS hC hR) 188 [(3, .int (nI (6 * c))), (2, .ref t), (1, .ref (B 0)), (0, .ref b)] [] := by
  obtain ⟨d, k1, hk1, fo, tape, tp, bits, sz, num⟩ := S
  obtain ⟨_, cX, _⟩ := id cC
  obtain ⟨_, _, _, _, _, _, _, _, _, _, m0, _⟩ := id mR
  have hL31 : L < 2 ^ 31 := by omega
  refine v_aload_n X dL_law_188 2 rfl ?_
  refine v_aload_n X dL_law_189 3 rfl ?_
  refine v_iload_n X dL_law_190 0 rfl ?_
  refine v_iconst X dL_law_191 (v := 1) (by decide) ?_
  refine v_iadd X dL_law_192 ?_
  refine v_sld X sx (6 * c + 1) (ix_add rfl rfl) (by omega) hL31 dL_law_193 ?_
  refine v_aload_n X dL_law_194 3 rfl ?_
  refine v_iload_n X dL_law_195 0 rfl ?_
  refine v_iconst X dL_law_196 (v := 2) (by decide) ?_
  refine v_iadd X dL_law_197 ?_
  refine v_sld X sx (6 * c + 2) (ix_add rfl rfl) (by omega) hL31 dL_law_198 ?_
  refine v_cVF X (av := [.int (xs (6 * c + 1)), .int (xs (6 * c + 2))]) (st := []) hx sL_13 (ct_X7_roller ll g (xs (6 * c + 1)) (xs (6 * c + 2)) cC hI hN) cX (T := TX7) (N := 8) rfl dL_law_199 rfl rfl ⟨rfl, rfl⟩ ⟨(Nat.le_of_ble_eq_true rfl), (Nat.le_of_ble_eq_true rfl)⟩ ⟨(show k + 0 ≤ 667156 by omega), (show n + 0 ≤ 7100779 by omega)⟩ (Nat.le_of_ble_eq_true rfl) (fun r hh q hq => ?_)
  obtain ⟨rfl, cC2⟩ := q
  refine v_eqs (st2 := [.int (op_roller (d, k1, hk1, fo, tape, tp, bits, sz, num) (xs (6 * c + 1)) (xs (6 * c + 2))).1]) rfl (v_eqh (hS_c hq) ?_)
  refine v_aload_n X dL_law_202 1 rfl ?_
  refine v_aload_n X dL_law_203 3 rfl ?_
  refine v_iload_n X dL_law_204 0 rfl ?_
  refine v_iconst X dL_law_205 (v := 1) (by decide) ?_
  refine v_iadd X dL_law_206 ?_
  refine v_sld X sx (6 * c + 1) (ix_add rfl rfl) (by omega) hL31 dL_law_207 ?_
  refine v_aload_n X dL_law_208 3 rfl ?_
  refine v_iload_n X dL_law_209 0 rfl ?_
  refine v_iconst X dL_law_210 (v := 2) (by decide) ?_
  refine v_iadd X dL_law_211 ?_
  refine v_sld X sx (6 * c + 2) (ix_add rfl rfl) (by omega) hL31 dL_law_212 ?_
  refine v_cVF X (av := [.int (xs (6 * c + 1)), .int (xs (6 * c + 2))]) (st := [.int (op_roller (d, k1, hk1, fo, tape, tp, bits, sz, num) (xs (6 * c + 1)) (xs (6 * c + 2))).1]) (hX_s hq) sL_17 (rf_roller ll g (xs (6 * c + 1)) (xs (6 * c + 2)) mR hI hN) m0 (T := TX8) (N := 19) rfl dL_law_213 rfl rfl ⟨rfl, rfl⟩ ⟨(Nat.le_of_ble_eq_true rfl), (Nat.le_of_ble_eq_true rfl)⟩ ⟨(show k + 0 + 0 ≤ 667156 by omega), (show n + 0 + 0 ≤ 7100779 by omega)⟩ (Nat.le_of_ble_eq_true rfl) (fun r hh2 q2 hq2 => ?_)
  obtain ⟨rfl, mR2⟩ := q2
  refine v_eqs (st2 := [.int (op_roller (d, k1, hk1, fo, tape, tp, bits, sz, num) (xs (6 * c + 1)) (xs (6 * c + 2))).1, .int (op_roller (d, k1, hk1, fo, tape, tp, bits, sz, num) (xs (6 * c + 1)) (xs (6 * c + 2))).1]) rfl (v_eqh (hS_c hq2) ?_)
  exact v_icmp_eq X dL_law_216 (tgt := 1404) (by decide) (fun _ => (v_widen (by omega) (by omega) (kk _ _ _ cC2 mR2 (so_roller (xs (6 * c + 1)) (xs (6 * c + 2)) hI hN) (hX_s hq2)))) (fun z => absurd rfl z)
theorem lc_1 {K : KT} {ll : Launch} {g : GT} {k n c L b t N : Nat} {xs : Nat → Int32} {B A : Nat → Nat} {S : OS} {hC hR : Hp} (X : Cx K ll g cL_law RL 4 room_1) (sx : SX K b L xs) (hc : 6 * c + 6 ≤ L) (hL : L ≤ 3072) (cC : CR g hC B S) (mR : MW g hR t A S) (hI : SOk S N) (hN : N + 400 ≤ 204800) (hx : hX hC hR) (hk : k + 5 ≤ 667156) (hn : n + 29 ≤ 7100779) (kk : ∀ (S2 : OS) (hC2 hR2 : Hp), CR g hC2 B S2 → MW g hR2 t A S2 → SOk S2 (N + 400) → hX hC2 hR2 → VJ K (k + 5) (n + 29) (hS hC2 hR2) 1404 [(3, .int (nI (6 * c))), (2, .ref t), (1, .ref (B 0)), (0, .ref b)] []) : VJ K k n (hS hC hR) 221 [(3, .int (nI (6 * c))), (2, .ref t), (1, .ref (B 0)), (0, .ref b)] [] := by
  obtain ⟨d, k1, hk1, fo, tape, tp, bits, sz, num⟩ := S
  obtain ⟨_, cX, _⟩ := id cC
  obtain ⟨_, _, _, _, _, _, _, _, _, _, m0, _⟩ := id mR
  have hL31 : L < 2 ^ 31 := by omega
  refine v_aload_n X dL_law_221 2 rfl ?_
  refine v_aload_n X dL_law_222 3 rfl ?_
  refine v_iload_n X dL_law_223 0 rfl ?_
  refine v_iconst X dL_law_224 (v := 1) (by decide) ?_
  refine v_iadd X dL_law_225 ?_
  refine v_sld X sx (6 * c + 1) (ix_add rfl rfl) (by omega) hL31 dL_law_226 ?_
  refine v_aload_n X dL_law_227 3 rfl ?_
  refine v_iload_n X dL_law_228 0 rfl ?_
  refine v_iconst X dL_law_229 (v := 2) (by decide) ?_
  refine v_iadd X dL_law_230 ?_
  refine v_sld X sx (6 * c + 2) (ix_add rfl rfl) (by omega) hL31 dL_law_231 ?_
  refine v_cVF X (av := [.int (xs (6 * c + 1)), .int (xs (6 * c + 2))]) (st := []) hx sL_18 (ct_X7_of ll g (xs (6 * c + 1)) (xs (6 * c + 2)) cC hI hN) cX (T := TX7) (N := 8) rfl dL_law_232 rfl rfl ⟨rfl, rfl⟩ ⟨(Nat.le_of_ble_eq_true rfl), (Nat.le_of_ble_eq_true rfl)⟩ ⟨(show k + 0 ≤ 667156 by omega), (show n + 0 ≤ 7100779 by omega)⟩ (Nat.le_of_ble_eq_true rfl) (fun r hh q hq => ?_)
  obtain ⟨rfl, cC2⟩ := q
  refine v_eqs (st2 := [.int (op_of (d, k1, hk1, fo, tape, tp, bits, sz, num) (xs (6 * c + 1)) (xs (6 * c + 2))).1]) rfl (v_eqh (hS_c hq) ?_)
  refine v_aload_n X dL_law_235 1 rfl ?_
  refine v_aload_n X dL_law_236 3 rfl ?_
  refine v_iload_n X dL_law_237 0 rfl ?_
  refine v_iconst X dL_law_238 (v := 1) (by decide) ?_
  refine v_iadd X dL_law_239 ?_
  refine v_sld X sx (6 * c + 1) (ix_add rfl rfl) (by omega) hL31 dL_law_240 ?_
  refine v_aload_n X dL_law_241 3 rfl ?_
  refine v_iload_n X dL_law_242 0 rfl ?_
  refine v_iconst X dL_law_243 (v := 2) (by decide) ?_
  refine v_iadd X dL_law_244 ?_
  refine v_sld X sx (6 * c + 2) (ix_add rfl rfl) (by omega) hL31 dL_law_245 ?_
  refine v_cVF X (av := [.int (xs (6 * c + 1)), .int (xs (6 * c + 2))]) (st := [.int (op_of (d, k1, hk1, fo, tape, tp, bits, sz, num) (xs (6 * c + 1)) (xs (6 * c + 2))).1]) (hX_s hq) sL_21 (rf_of ll g (xs (6 * c + 1)) (xs (6 * c + 2)) mR hI hN) m0 (T := TX8) (N := 19) rfl dL_law_246 rfl rfl ⟨rfl, rfl⟩ ⟨(Nat.le_of_ble_eq_true rfl), (Nat.le_of_ble_eq_true rfl)⟩ ⟨(show k + 0 + 0 ≤ 667156 by omega), (show n + 0 + 0 ≤ 7100779 by omega)⟩ (Nat.le_of_ble_eq_true rfl) (fun r hh2 q2 hq2 => ?_)
  obtain ⟨rfl, mR2⟩ := q2
  refine v_eqs (st2 := [.int (op_of (d, k1, hk1, fo, tape, tp, bits, sz, num) (xs (6 * c + 1)) (xs (6 * c + 2))).1, .int (op_of (d, k1, hk1, fo, tape, tp, bits, sz, num) (xs (6 * c + 1)) (xs (6 * c + 2))).1]) rfl (v_eqh (hS_c hq2) ?_)
  exact v_icmp_eq X dL_law_249 (tgt := 1404) (by decide) (fun _ => (v_widen (by omega) (by omega) (kk _ _ _ cC2 mR2 (so_of (xs (6 * c + 1)) (xs (6 * c + 2)) hI hN) (hX_s hq2)))) (fun z => absurd rfl z)
theorem lc_2 {K : KT} {ll : Launch} {g : GT} {k n c L b t N : Nat} {xs : Nat → Int32} {B A : Nat → Nat} {S : OS} {hC hR : Hp} (X : Cx K ll g cL_law RL 4 room_1) (sx : SX K b L xs) (hc : 6 * c + 6 ≤ L) (hL : L ≤ 3072) (cC : CR g hC B S) (mR : MW g hR t A S) (hI : SOk S N) (hN : N + 400 ≤ 204800) (hx : hX hC hR) (hk : k + 5 ≤ 667156) (hn : n + 29 ≤ 7100779) (kk : ∀ (S2 : OS) (hC2 hR2 : Hp), CR g hC2 B S2 → MW g hR2 t A S2 → SOk S2 (N + 400) → hX hC2 hR2 → VJ K (k + 5) (n + 29) (hS hC2 hR2) 1404 [(3, .int (nI (6 * c))), (2, .ref t), (1, .ref (B 0)), (0, .ref b)] []) : VJ K k n (hS hC hR) 254 [(3, .int (nI (6 * c))), (2, .ref t), (1, .ref (B 0)), (0, .ref b)] [] := by
  obtain ⟨d, k1, hk1, fo, tape, tp, bits, sz, num⟩ := S
  obtain ⟨_, cX, _⟩ := id cC
  obtain ⟨_, _, _, _, _, _, _, _, _, _, m0, _⟩ := id mR
  have hL31 : L < 2 ^ 31 := by omega
  refine v_aload_n X dL_law_254 2 rfl ?_
  refine v_aload_n X dL_law_255 3 rfl ?_
  refine v_iload_n X dL_law_256 0 rfl ?_
  refine v_iconst X dL_law_257 (v := 1) (by decide) ?_
  refine v_iadd X dL_law_258 ?_
  refine v_sld X sx (6 * c + 1) (ix_add rfl rfl) (by omega) hL31 dL_law_259 ?_
  refine v_aload_n X dL_law_260 3 rfl ?_
  refine v_iload_n X dL_law_261 0 rfl ?_
  refine v_iconst X dL_law_262 (v := 2) (by decide) ?_
  refine v_iadd X dL_law_263 ?_
  refine v_sld X sx (6 * c + 2) (ix_add rfl rfl) (by omega) hL31 dL_law_264 ?_
  refine v_aload_n X dL_law_265 3 rfl ?_
  refine v_iload_n X dL_law_266 0 rfl ?_
  refine v_iconst X dL_law_267 (v := 3) (by decide) ?_
  refine v_iadd X dL_law_268 ?_
  refine v_sld X sx (6 * c + 3) (ix_add rfl rfl) (by omega) hL31 dL_law_269 ?_
  refine v_cVF X (av := [.int (xs (6 * c + 1)), .int (xs (6 * c + 2)), .int (xs (6 * c + 3))]) (st := []) hx sL_22 (ct_X7_set ll g (xs (6 * c + 1)) (xs (6 * c + 2)) (xs (6 * c + 3)) cC hI hN) cX (T := TX7) (N := 8) rfl dL_law_270 rfl rfl ⟨rfl, rfl⟩ ⟨(Nat.le_of_ble_eq_true rfl), (Nat.le_of_ble_eq_true rfl)⟩ ⟨(show k + 0 ≤ 667156 by omega), (show n + 0 ≤ 7100779 by omega)⟩ (Nat.le_of_ble_eq_true rfl) (fun r hh q hq => ?_)
  obtain ⟨rfl, cC2⟩ := q
  refine v_eqs (st2 := [.int (op_set (d, k1, hk1, fo, tape, tp, bits, sz, num) (xs (6 * c + 1)) (xs (6 * c + 2)) (xs (6 * c + 3))).1]) rfl (v_eqh (hS_c hq) ?_)
  refine v_aload_n X dL_law_273 1 rfl ?_
  refine v_aload_n X dL_law_274 3 rfl ?_
  refine v_iload_n X dL_law_275 0 rfl ?_
  refine v_iconst X dL_law_276 (v := 1) (by decide) ?_
  refine v_iadd X dL_law_277 ?_
  refine v_sld X sx (6 * c + 1) (ix_add rfl rfl) (by omega) hL31 dL_law_278 ?_
  refine v_aload_n X dL_law_279 3 rfl ?_
  refine v_iload_n X dL_law_280 0 rfl ?_
  refine v_iconst X dL_law_281 (v := 2) (by decide) ?_
  refine v_iadd X dL_law_282 ?_
  refine v_sld X sx (6 * c + 2) (ix_add rfl rfl) (by omega) hL31 dL_law_283 ?_
  refine v_aload_n X dL_law_284 3 rfl ?_
  refine v_iload_n X dL_law_285 0 rfl ?_
  refine v_iconst X dL_law_286 (v := 3) (by decide) ?_
  refine v_iadd X dL_law_287 ?_
  refine v_sld X sx (6 * c + 3) (ix_add rfl rfl) (by omega) hL31 dL_law_288 ?_
  refine v_cVF X (av := [.int (xs (6 * c + 1)), .int (xs (6 * c + 2)), .int (xs (6 * c + 3))]) (st := [.int (op_set (d, k1, hk1, fo, tape, tp, bits, sz, num) (xs (6 * c + 1)) (xs (6 * c + 2)) (xs (6 * c + 3))).1]) (hX_s hq) sL_26 (rf_set ll g (xs (6 * c + 1)) (xs (6 * c + 2)) (xs (6 * c + 3)) mR hI hN) m0 (T := TX8) (N := 19) rfl dL_law_289 rfl rfl ⟨rfl, rfl⟩ ⟨(Nat.le_of_ble_eq_true rfl), (Nat.le_of_ble_eq_true rfl)⟩ ⟨(show k + 0 + 0 ≤ 667156 by omega), (show n + 0 + 0 ≤ 7100779 by omega)⟩ (Nat.le_of_ble_eq_true rfl) (fun r hh2 q2 hq2 => ?_)
  obtain ⟨rfl, mR2⟩ := q2
  refine v_eqs (st2 := [.int (op_set (d, k1, hk1, fo, tape, tp, bits, sz, num) (xs (6 * c + 1)) (xs (6 * c + 2)) (xs (6 * c + 3))).1, .int (op_set (d, k1, hk1, fo, tape, tp, bits, sz, num) (xs (6 * c + 1)) (xs (6 * c + 2)) (xs (6 * c + 3))).1]) rfl (v_eqh (hS_c hq2) ?_)
  exact v_icmp_eq X dL_law_292 (tgt := 1404) (by decide) (fun _ => (v_widen (by omega) (by omega) (kk _ _ _ cC2 mR2 (so_set (xs (6 * c + 1)) (xs (6 * c + 2)) (xs (6 * c + 3)) hI hN) (hX_s hq2)))) (fun z => absurd rfl z)
theorem lc_3 {K : KT} {ll : Launch} {g : GT} {k n c L b t N : Nat} {xs : Nat → Int32} {B A : Nat → Nat} {S : OS} {hC hR : Hp} (X : Cx K ll g cL_law RL 4 room_1) (sx : SX K b L xs) (hc : 6 * c + 6 ≤ L) (hL : L ≤ 3072) (cC : CR g hC B S) (mR : MW g hR t A S) (hI : SOk S N) (hN : N + 400 ≤ 204800) (hx : hX hC hR) (hk : k + 5 ≤ 667156) (hn : n + 29 ≤ 7100779) (kk : ∀ (S2 : OS) (hC2 hR2 : Hp), CR g hC2 B S2 → MW g hR2 t A S2 → SOk S2 (N + 400) → hX hC2 hR2 → VJ K (k + 5) (n + 29) (hS hC2 hR2) 1404 [(3, .int (nI (6 * c))), (2, .ref t), (1, .ref (B 0)), (0, .ref b)] []) : VJ K k n (hS hC hR) 297 [(3, .int (nI (6 * c))), (2, .ref t), (1, .ref (B 0)), (0, .ref b)] [] := by
  obtain ⟨d, k1, hk1, fo, tape, tp, bits, sz, num⟩ := S
  obtain ⟨_, cX, _⟩ := id cC
  obtain ⟨_, _, _, _, _, _, _, _, _, _, m0, _⟩ := id mR
  have hL31 : L < 2 ^ 31 := by omega
  refine v_aload_n X dL_law_297 2 rfl ?_
  refine v_aload_n X dL_law_298 3 rfl ?_
  refine v_iload_n X dL_law_299 0 rfl ?_
  refine v_iconst X dL_law_300 (v := 1) (by decide) ?_
  refine v_iadd X dL_law_301 ?_
  refine v_sld X sx (6 * c + 1) (ix_add rfl rfl) (by omega) hL31 dL_law_302 ?_
  refine v_aload_n X dL_law_303 3 rfl ?_
  refine v_iload_n X dL_law_304 0 rfl ?_
  refine v_iconst X dL_law_305 (v := 2) (by decide) ?_
  refine v_iadd X dL_law_306 ?_
  refine v_sld X sx (6 * c + 2) (ix_add rfl rfl) (by omega) hL31 dL_law_307 ?_
  refine v_cVF X (av := [.int (xs (6 * c + 1)), .int (xs (6 * c + 2))]) (st := []) hx sL_27 (ct_X7_as ll g (xs (6 * c + 1)) (xs (6 * c + 2)) cC hI hN) cX (T := TX7) (N := 8) rfl dL_law_308 rfl rfl ⟨rfl, rfl⟩ ⟨(Nat.le_of_ble_eq_true rfl), (Nat.le_of_ble_eq_true rfl)⟩ ⟨(show k + 0 ≤ 667156 by omega), (show n + 0 ≤ 7100779 by omega)⟩ (Nat.le_of_ble_eq_true rfl) (fun r hh q hq => ?_)
  obtain ⟨rfl, cC2⟩ := q
  refine v_eqs (st2 := [.int (op_as (d, k1, hk1, fo, tape, tp, bits, sz, num) (xs (6 * c + 1)) (xs (6 * c + 2))).1]) rfl (v_eqh (hS_c hq) ?_)
  refine v_aload_n X dL_law_311 1 rfl ?_
  refine v_aload_n X dL_law_312 3 rfl ?_
  refine v_iload_n X dL_law_313 0 rfl ?_
  refine v_iconst X dL_law_314 (v := 1) (by decide) ?_
  refine v_iadd X dL_law_315 ?_
  refine v_sld X sx (6 * c + 1) (ix_add rfl rfl) (by omega) hL31 dL_law_316 ?_
  refine v_aload_n X dL_law_317 3 rfl ?_
  refine v_iload_n X dL_law_318 0 rfl ?_
  refine v_iconst X dL_law_319 (v := 2) (by decide) ?_
  refine v_iadd X dL_law_320 ?_
  refine v_sld X sx (6 * c + 2) (ix_add rfl rfl) (by omega) hL31 dL_law_321 ?_
  refine v_cVF X (av := [.int (xs (6 * c + 1)), .int (xs (6 * c + 2))]) (st := [.int (op_as (d, k1, hk1, fo, tape, tp, bits, sz, num) (xs (6 * c + 1)) (xs (6 * c + 2))).1]) (hX_s hq) sL_30 (rf_as ll g (xs (6 * c + 1)) (xs (6 * c + 2)) mR hI hN) m0 (T := TX8) (N := 19) rfl dL_law_322 rfl rfl ⟨rfl, rfl⟩ ⟨(Nat.le_of_ble_eq_true rfl), (Nat.le_of_ble_eq_true rfl)⟩ ⟨(show k + 0 + 0 ≤ 667156 by omega), (show n + 0 + 0 ≤ 7100779 by omega)⟩ (Nat.le_of_ble_eq_true rfl) (fun r hh2 q2 hq2 => ?_)
  obtain ⟨rfl, mR2⟩ := q2
  refine v_eqs (st2 := [.int (op_as (d, k1, hk1, fo, tape, tp, bits, sz, num) (xs (6 * c + 1)) (xs (6 * c + 2))).1, .int (op_as (d, k1, hk1, fo, tape, tp, bits, sz, num) (xs (6 * c + 1)) (xs (6 * c + 2))).1]) rfl (v_eqh (hS_c hq2) ?_)
  exact v_icmp_eq X dL_law_325 (tgt := 1404) (by decide) (fun _ => (v_widen (by omega) (by omega) (kk _ _ _ cC2 mR2 (so_as (xs (6 * c + 1)) (xs (6 * c + 2)) hI hN) (hX_s hq2)))) (fun z => absurd rfl z)
theorem lc_4 {K : KT} {ll : Launch} {g : GT} {k n c L b t N : Nat} {xs : Nat → Int32} {B A : Nat → Nat} {S : OS} {hC hR : Hp} (X : Cx K ll g cL_law RL 4 room_1) (sx : SX K b L xs) (hc : 6 * c + 6 ≤ L) (hL : L ≤ 3072) (cC : CR g hC B S) (mR : MW g hR t A S) (hI : SOk S N) (hN : N + 400 ≤ 204800) (hx : hX hC hR) (hk : k + 5 ≤ 667156) (hn : n + 29 ≤ 7100779) (kk : ∀ (S2 : OS) (hC2 hR2 : Hp), CR g hC2 B S2 → MW g hR2 t A S2 → SOk S2 (N + 400) → hX hC2 hR2 → VJ K (k + 5) (n + 29) (hS hC2 hR2) 1404 [(3, .int (nI (6 * c))), (2, .ref t), (1, .ref (B 0)), (0, .ref b)] []) : VJ K k n (hS hC hR) 330 [(3, .int (nI (6 * c))), (2, .ref t), (1, .ref (B 0)), (0, .ref b)] [] := by
  obtain ⟨d, k1, hk1, fo, tape, tp, bits, sz, num⟩ := S
  obtain ⟨_, cX, _⟩ := id cC
  obtain ⟨_, _, _, _, _, _, _, _, _, _, m0, _⟩ := id mR
  have hL31 : L < 2 ^ 31 := by omega
  refine v_aload_n X dL_law_330 2 rfl ?_
  refine v_aload_n X dL_law_331 3 rfl ?_
  refine v_iload_n X dL_law_332 0 rfl ?_
  refine v_iconst X dL_law_333 (v := 1) (by decide) ?_
  refine v_iadd X dL_law_334 ?_
  refine v_sld X sx (6 * c + 1) (ix_add rfl rfl) (by omega) hL31 dL_law_335 ?_
  refine v_aload_n X dL_law_336 3 rfl ?_
  refine v_iload_n X dL_law_337 0 rfl ?_
  refine v_iconst X dL_law_338 (v := 2) (by decide) ?_
  refine v_iadd X dL_law_339 ?_
  refine v_sld X sx (6 * c + 2) (ix_add rfl rfl) (by omega) hL31 dL_law_340 ?_
  refine v_cVF X (av := [.int (xs (6 * c + 1)), .int (xs (6 * c + 2))]) (st := []) hx sL_31 (ct_X7_log ll g (xs (6 * c + 1)) (xs (6 * c + 2)) cC hI hN) cX (T := TX7) (N := 8) rfl dL_law_341 rfl rfl ⟨rfl, rfl⟩ ⟨(Nat.le_of_ble_eq_true rfl), (Nat.le_of_ble_eq_true rfl)⟩ ⟨(show k + 0 ≤ 667156 by omega), (show n + 0 ≤ 7100779 by omega)⟩ (Nat.le_of_ble_eq_true rfl) (fun r hh q hq => ?_)
  obtain ⟨rfl, cC2⟩ := q
  refine v_eqs (st2 := [.int (op_log (d, k1, hk1, fo, tape, tp, bits, sz, num) (xs (6 * c + 1)) (xs (6 * c + 2))).1]) rfl (v_eqh (hS_c hq) ?_)
  refine v_aload_n X dL_law_344 1 rfl ?_
  refine v_aload_n X dL_law_345 3 rfl ?_
  refine v_iload_n X dL_law_346 0 rfl ?_
  refine v_iconst X dL_law_347 (v := 1) (by decide) ?_
  refine v_iadd X dL_law_348 ?_
  refine v_sld X sx (6 * c + 1) (ix_add rfl rfl) (by omega) hL31 dL_law_349 ?_
  refine v_aload_n X dL_law_350 3 rfl ?_
  refine v_iload_n X dL_law_351 0 rfl ?_
  refine v_iconst X dL_law_352 (v := 2) (by decide) ?_
  refine v_iadd X dL_law_353 ?_
  refine v_sld X sx (6 * c + 2) (ix_add rfl rfl) (by omega) hL31 dL_law_354 ?_
  refine v_cVF X (av := [.int (xs (6 * c + 1)), .int (xs (6 * c + 2))]) (st := [.int (op_log (d, k1, hk1, fo, tape, tp, bits, sz, num) (xs (6 * c + 1)) (xs (6 * c + 2))).1]) (hX_s hq) sL_34 (rf_log ll g (xs (6 * c + 1)) (xs (6 * c + 2)) mR hI hN) m0 (T := TX8) (N := 19) rfl dL_law_355 rfl rfl ⟨rfl, rfl⟩ ⟨(Nat.le_of_ble_eq_true rfl), (Nat.le_of_ble_eq_true rfl)⟩ ⟨(show k + 0 + 0 ≤ 667156 by omega), (show n + 0 + 0 ≤ 7100779 by omega)⟩ (Nat.le_of_ble_eq_true rfl) (fun r hh2 q2 hq2 => ?_)
  obtain ⟨rfl, mR2⟩ := q2
  refine v_eqs (st2 := [.int (op_log (d, k1, hk1, fo, tape, tp, bits, sz, num) (xs (6 * c + 1)) (xs (6 * c + 2))).1, .int (op_log (d, k1, hk1, fo, tape, tp, bits, sz, num) (xs (6 * c + 1)) (xs (6 * c + 2))).1]) rfl (v_eqh (hS_c hq2) ?_)
  exact v_icmp_eq X dL_law_358 (tgt := 1404) (by decide) (fun _ => (v_widen (by omega) (by omega) (kk _ _ _ cC2 mR2 (so_log (xs (6 * c + 1)) (xs (6 * c + 2)) hI hN) (hX_s hq2)))) (fun z => absurd rfl z)
theorem lc_5 {K : KT} {ll : Launch} {g : GT} {k n c L b t N : Nat} {xs : Nat → Int32} {B A : Nat → Nat} {S : OS} {hC hR : Hp} (X : Cx K ll g cL_law RL 4 room_1) (sx : SX K b L xs) (hc : 6 * c + 6 ≤ L) (hL : L ≤ 3072) (cC : CR g hC B S) (mR : MW g hR t A S) (hI : SOk S N) (hN : N + 400 ≤ 204800) (hx : hX hC hR) (hk : k + 5 ≤ 667156) (hn : n + 29 ≤ 7100779) (kk : ∀ (S2 : OS) (hC2 hR2 : Hp), CR g hC2 B S2 → MW g hR2 t A S2 → SOk S2 (N + 400) → hX hC2 hR2 → VJ K (k + 5) (n + 29) (hS hC2 hR2) 1404 [(3, .int (nI (6 * c))), (2, .ref t), (1, .ref (B 0)), (0, .ref b)] []) : VJ K k n (hS hC hR) 363 [(3, .int (nI (6 * c))), (2, .ref t), (1, .ref (B 0)), (0, .ref b)] [] := by
  obtain ⟨d, k1, hk1, fo, tape, tp, bits, sz, num⟩ := S
  obtain ⟨_, cX, _⟩ := id cC
  obtain ⟨_, _, _, _, _, _, _, _, _, _, m0, _⟩ := id mR
  have hL31 : L < 2 ^ 31 := by omega
  refine v_aload_n X dL_law_363 2 rfl ?_
  refine v_aload_n X dL_law_364 3 rfl ?_
  refine v_iload_n X dL_law_365 0 rfl ?_
  refine v_iconst X dL_law_366 (v := 1) (by decide) ?_
  refine v_iadd X dL_law_367 ?_
  refine v_sld X sx (6 * c + 1) (ix_add rfl rfl) (by omega) hL31 dL_law_368 ?_
  refine v_aload_n X dL_law_369 3 rfl ?_
  refine v_iload_n X dL_law_370 0 rfl ?_
  refine v_iconst X dL_law_371 (v := 2) (by decide) ?_
  refine v_iadd X dL_law_372 ?_
  refine v_sld X sx (6 * c + 2) (ix_add rfl rfl) (by omega) hL31 dL_law_373 ?_
  refine v_aload_n X dL_law_374 3 rfl ?_
  refine v_iload_n X dL_law_375 0 rfl ?_
  refine v_iconst X dL_law_376 (v := 3) (by decide) ?_
  refine v_iadd X dL_law_377 ?_
  refine v_sld X sx (6 * c + 3) (ix_add rfl rfl) (by omega) hL31 dL_law_378 ?_
  refine v_aload_n X dL_law_379 3 rfl ?_
  refine v_iload_n X dL_law_380 0 rfl ?_
  refine v_iconst X dL_law_381 (v := 4) (by decide) ?_
  refine v_iadd X dL_law_382 ?_
  refine v_sld X sx (6 * c + 4) (ix_add rfl rfl) (by omega) hL31 dL_law_383 ?_
  refine v_aload_n X dL_law_384 3 rfl ?_
  refine v_iload_n X dL_law_385 0 rfl ?_
  refine v_iconst X dL_law_386 (v := 5) (by decide) ?_
  refine v_iadd X dL_law_387 ?_
  refine v_sld X sx (6 * c + 5) (ix_add rfl rfl) (by omega) hL31 dL_law_388 ?_
  refine v_cVF X (av := [.int (xs (6 * c + 1)), .int (xs (6 * c + 2)), .int (xs (6 * c + 3)), .int (xs (6 * c + 4)), .int (xs (6 * c + 5))]) (st := []) hx sL_35 (ct_X7_push ll g (xs (6 * c + 1)) (xs (6 * c + 2)) (xs (6 * c + 3)) (xs (6 * c + 4)) (xs (6 * c + 5)) cC hI hN) cX (T := TX7) (N := 8) rfl dL_law_389 rfl rfl ⟨rfl, rfl⟩ ⟨(Nat.le_of_ble_eq_true rfl), (Nat.le_of_ble_eq_true rfl)⟩ ⟨(show k + 0 ≤ 667156 by omega), (show n + 0 ≤ 7100779 by omega)⟩ (Nat.le_of_ble_eq_true rfl) (fun r hh q hq => ?_)
  obtain ⟨rfl, cC2⟩ := q
  refine v_eqs (st2 := [.int (op_push (d, k1, hk1, fo, tape, tp, bits, sz, num) (xs (6 * c + 1)) (xs (6 * c + 2)) (xs (6 * c + 3)) (xs (6 * c + 4)) (xs (6 * c + 5))).1]) rfl (v_eqh (hS_c hq) ?_)
  refine v_aload_n X dL_law_392 1 rfl ?_
  refine v_aload_n X dL_law_393 3 rfl ?_
  refine v_iload_n X dL_law_394 0 rfl ?_
  refine v_iconst X dL_law_395 (v := 1) (by decide) ?_
  refine v_iadd X dL_law_396 ?_
  refine v_sld X sx (6 * c + 1) (ix_add rfl rfl) (by omega) hL31 dL_law_397 ?_
  refine v_aload_n X dL_law_398 3 rfl ?_
  refine v_iload_n X dL_law_399 0 rfl ?_
  refine v_iconst X dL_law_400 (v := 2) (by decide) ?_
  refine v_iadd X dL_law_401 ?_
  refine v_sld X sx (6 * c + 2) (ix_add rfl rfl) (by omega) hL31 dL_law_402 ?_
  refine v_aload_n X dL_law_403 3 rfl ?_
  refine v_iload_n X dL_law_404 0 rfl ?_
  refine v_iconst X dL_law_405 (v := 3) (by decide) ?_
  refine v_iadd X dL_law_406 ?_
  refine v_sld X sx (6 * c + 3) (ix_add rfl rfl) (by omega) hL31 dL_law_407 ?_
  refine v_aload_n X dL_law_408 3 rfl ?_
  refine v_iload_n X dL_law_409 0 rfl ?_
  refine v_iconst X dL_law_410 (v := 4) (by decide) ?_
  refine v_iadd X dL_law_411 ?_
  refine v_sld X sx (6 * c + 4) (ix_add rfl rfl) (by omega) hL31 dL_law_412 ?_
  refine v_aload_n X dL_law_413 3 rfl ?_
  refine v_iload_n X dL_law_414 0 rfl ?_
  refine v_iconst X dL_law_415 (v := 5) (by decide) ?_
  refine v_iadd X dL_law_416 ?_
  refine v_sld X sx (6 * c + 5) (ix_add rfl rfl) (by omega) hL31 dL_law_417 ?_
  refine v_cVF X (av := [.int (xs (6 * c + 1)), .int (xs (6 * c + 2)), .int (xs (6 * c + 3)), .int (xs (6 * c + 4)), .int (xs (6 * c + 5))]) (st := [.int (op_push (d, k1, hk1, fo, tape, tp, bits, sz, num) (xs (6 * c + 1)) (xs (6 * c + 2)) (xs (6 * c + 3)) (xs (6 * c + 4)) (xs (6 * c + 5))).1]) (hX_s hq) sL_39 (rf_push ll g (xs (6 * c + 1)) (xs (6 * c + 2)) (xs (6 * c + 3)) (xs (6 * c + 4)) (xs (6 * c + 5)) mR hI hN) m0 (T := TX8) (N := 19) rfl dL_law_418 rfl rfl ⟨rfl, rfl⟩ ⟨(Nat.le_of_ble_eq_true rfl), (Nat.le_of_ble_eq_true rfl)⟩ ⟨(show k + 0 + 0 ≤ 667156 by omega), (show n + 0 + 0 ≤ 7100779 by omega)⟩ (Nat.le_of_ble_eq_true rfl) (fun r hh2 q2 hq2 => ?_)
  obtain ⟨rfl, mR2⟩ := q2
  refine v_eqs (st2 := [.int (op_push (d, k1, hk1, fo, tape, tp, bits, sz, num) (xs (6 * c + 1)) (xs (6 * c + 2)) (xs (6 * c + 3)) (xs (6 * c + 4)) (xs (6 * c + 5))).1, .int (op_push (d, k1, hk1, fo, tape, tp, bits, sz, num) (xs (6 * c + 1)) (xs (6 * c + 2)) (xs (6 * c + 3)) (xs (6 * c + 4)) (xs (6 * c + 5))).1]) rfl (v_eqh (hS_c hq2) ?_)
  exact v_icmp_eq X dL_law_421 (tgt := 1404) (by decide) (fun _ => (v_widen (by omega) (by omega) (kk _ _ _ cC2 mR2 (so_push (xs (6 * c + 1)) (xs (6 * c + 2)) (xs (6 * c + 3)) (xs (6 * c + 4)) (xs (6 * c + 5)) hI hN) (hX_s hq2)))) (fun z => absurd rfl z)
theorem lc_6 {K : KT} {ll : Launch} {g : GT} {k n c L b t N : Nat} {xs : Nat → Int32} {B A : Nat → Nat} {S : OS} {hC hR : Hp} (X : Cx K ll g cL_law RL 4 room_1) (sx : SX K b L xs) (hc : 6 * c + 6 ≤ L) (hL : L ≤ 3072) (cC : CR g hC B S) (mR : MW g hR t A S) (hI : SOk S N) (hN : N + 400 ≤ 204800) (hx : hX hC hR) (hk : k + 5 ≤ 667156) (hn : n + 29 ≤ 7100779) (kk : ∀ (S2 : OS) (hC2 hR2 : Hp), CR g hC2 B S2 → MW g hR2 t A S2 → SOk S2 (N + 400) → hX hC2 hR2 → VJ K (k + 5) (n + 29) (hS hC2 hR2) 1404 [(3, .int (nI (6 * c))), (2, .ref t), (1, .ref (B 0)), (0, .ref b)] []) : VJ K k n (hS hC hR) 426 [(3, .int (nI (6 * c))), (2, .ref t), (1, .ref (B 0)), (0, .ref b)] [] := by
  obtain ⟨d, k1, hk1, fo, tape, tp, bits, sz, num⟩ := S
  obtain ⟨_, cX, _⟩ := id cC
  obtain ⟨_, _, _, _, _, _, _, _, _, _, m0, _⟩ := id mR
  have hL31 : L < 2 ^ 31 := by omega
  refine v_aload_n X dL_law_426 2 rfl ?_
  refine v_aload_n X dL_law_427 3 rfl ?_
  refine v_iload_n X dL_law_428 0 rfl ?_
  refine v_iconst X dL_law_429 (v := 1) (by decide) ?_
  refine v_iadd X dL_law_430 ?_
  refine v_sld X sx (6 * c + 1) (ix_add rfl rfl) (by omega) hL31 dL_law_431 ?_
  refine v_aload_n X dL_law_432 3 rfl ?_
  refine v_iload_n X dL_law_433 0 rfl ?_
  refine v_iconst X dL_law_434 (v := 2) (by decide) ?_
  refine v_iadd X dL_law_435 ?_
  refine v_sld X sx (6 * c + 2) (ix_add rfl rfl) (by omega) hL31 dL_law_436 ?_
  refine v_cVF X (av := [.int (xs (6 * c + 1)), .int (xs (6 * c + 2))]) (st := []) hx sL_40 (ct_X7_mount ll g (xs (6 * c + 1)) (xs (6 * c + 2)) cC hI hN) cX (T := TX7) (N := 8) rfl dL_law_437 rfl rfl ⟨rfl, rfl⟩ ⟨(Nat.le_of_ble_eq_true rfl), (Nat.le_of_ble_eq_true rfl)⟩ ⟨(show k + 0 ≤ 667156 by omega), (show n + 0 ≤ 7100779 by omega)⟩ (Nat.le_of_ble_eq_true rfl) (fun r hh q hq => ?_)
  obtain ⟨rfl, cC2⟩ := q
  refine v_eqs (st2 := [.int (op_mount (d, k1, hk1, fo, tape, tp, bits, sz, num) (xs (6 * c + 1)) (xs (6 * c + 2))).1]) rfl (v_eqh (hS_c hq) ?_)
  refine v_aload_n X dL_law_440 1 rfl ?_
  refine v_aload_n X dL_law_441 3 rfl ?_
  refine v_iload_n X dL_law_442 0 rfl ?_
  refine v_iconst X dL_law_443 (v := 1) (by decide) ?_
  refine v_iadd X dL_law_444 ?_
  refine v_sld X sx (6 * c + 1) (ix_add rfl rfl) (by omega) hL31 dL_law_445 ?_
  refine v_aload_n X dL_law_446 3 rfl ?_
  refine v_iload_n X dL_law_447 0 rfl ?_
  refine v_iconst X dL_law_448 (v := 2) (by decide) ?_
  refine v_iadd X dL_law_449 ?_
  refine v_sld X sx (6 * c + 2) (ix_add rfl rfl) (by omega) hL31 dL_law_450 ?_
  refine v_cVF X (av := [.int (xs (6 * c + 1)), .int (xs (6 * c + 2))]) (st := [.int (op_mount (d, k1, hk1, fo, tape, tp, bits, sz, num) (xs (6 * c + 1)) (xs (6 * c + 2))).1]) (hX_s hq) sL_43 (rf_mount ll g (xs (6 * c + 1)) (xs (6 * c + 2)) mR hI hN) m0 (T := TX8) (N := 19) rfl dL_law_451 rfl rfl ⟨rfl, rfl⟩ ⟨(Nat.le_of_ble_eq_true rfl), (Nat.le_of_ble_eq_true rfl)⟩ ⟨(show k + 0 + 0 ≤ 667156 by omega), (show n + 0 + 0 ≤ 7100779 by omega)⟩ (Nat.le_of_ble_eq_true rfl) (fun r hh2 q2 hq2 => ?_)
  obtain ⟨rfl, mR2⟩ := q2
  refine v_eqs (st2 := [.int (op_mount (d, k1, hk1, fo, tape, tp, bits, sz, num) (xs (6 * c + 1)) (xs (6 * c + 2))).1, .int (op_mount (d, k1, hk1, fo, tape, tp, bits, sz, num) (xs (6 * c + 1)) (xs (6 * c + 2))).1]) rfl (v_eqh (hS_c hq2) ?_)
  exact v_icmp_eq X dL_law_454 (tgt := 1404) (by decide) (fun _ => (v_widen (by omega) (by omega) (kk _ _ _ cC2 mR2 (so_mount (xs (6 * c + 1)) (xs (6 * c + 2)) hI hN) (hX_s hq2)))) (fun z => absurd rfl z)
theorem lc_7 {K : KT} {ll : Launch} {g : GT} {k n c L b t N : Nat} {xs : Nat → Int32} {B A : Nat → Nat} {S : OS} {hC hR : Hp} (X : Cx K ll g cL_law RL 4 room_1) (sx : SX K b L xs) (hc : 6 * c + 6 ≤ L) (hL : L ≤ 3072) (cC : CR g hC B S) (mR : MW g hR t A S) (hI : SOk S N) (hN : N + 400 ≤ 204800) (hx : hX hC hR) (hk : k + 5 ≤ 667156) (hn : n + 29 ≤ 7100779) (kk : ∀ (S2 : OS) (hC2 hR2 : Hp), CR g hC2 B S2 → MW g hR2 t A S2 → SOk S2 (N + 400) → hX hC2 hR2 → VJ K (k + 5) (n + 29) (hS hC2 hR2) 1404 [(3, .int (nI (6 * c))), (2, .ref t), (1, .ref (B 0)), (0, .ref b)] []) : VJ K k n (hS hC hR) 459 [(3, .int (nI (6 * c))), (2, .ref t), (1, .ref (B 0)), (0, .ref b)] [] := by
  obtain ⟨d, k1, hk1, fo, tape, tp, bits, sz, num⟩ := S
  obtain ⟨_, cX, _⟩ := id cC
  obtain ⟨_, _, _, _, _, _, _, _, _, _, m0, _⟩ := id mR
  have hL31 : L < 2 ^ 31 := by omega
  refine v_aload_n X dL_law_459 2 rfl ?_
  refine v_cVF X (av := []) (st := []) hx sL_44 (ct_X7_off ll g  cC hI hN) cX (T := TX7) (N := 8) rfl dL_law_460 rfl rfl ⟨rfl, rfl⟩ ⟨(Nat.le_of_ble_eq_true rfl), (Nat.le_of_ble_eq_true rfl)⟩ ⟨(show k + 0 ≤ 667156 by omega), (show n + 0 ≤ 7100779 by omega)⟩ (Nat.le_of_ble_eq_true rfl) (fun r hh q hq => ?_)
  obtain ⟨rfl, cC2⟩ := q
  refine v_eqs (st2 := [.int (op_off (d, k1, hk1, fo, tape, tp, bits, sz, num)).1]) rfl (v_eqh (hS_c hq) ?_)
  refine v_aload_n X dL_law_463 1 rfl ?_
  refine v_cVF X (av := []) (st := [.int (op_off (d, k1, hk1, fo, tape, tp, bits, sz, num)).1]) (hX_s hq) sL_48 (rf_off ll g  mR hI hN) m0 (T := TX8) (N := 19) rfl dL_law_464 rfl rfl ⟨rfl, rfl⟩ ⟨(Nat.le_of_ble_eq_true rfl), (Nat.le_of_ble_eq_true rfl)⟩ ⟨(show k + 0 + 0 ≤ 667156 by omega), (show n + 0 + 0 ≤ 7100779 by omega)⟩ (Nat.le_of_ble_eq_true rfl) (fun r hh2 q2 hq2 => ?_)
  obtain ⟨rfl, mR2⟩ := q2
  refine v_eqs (st2 := [.int (op_off (d, k1, hk1, fo, tape, tp, bits, sz, num)).1, .int (op_off (d, k1, hk1, fo, tape, tp, bits, sz, num)).1]) rfl (v_eqh (hS_c hq2) ?_)
  exact v_icmp_eq X dL_law_467 (tgt := 1404) (by decide) (fun _ => (v_widen (by omega) (by omega) (kk _ _ _ cC2 mR2 (so_off  hI hN) (hX_s hq2)))) (fun z => absurd rfl z)
theorem lc_8 {K : KT} {ll : Launch} {g : GT} {k n c L b t N : Nat} {xs : Nat → Int32} {B A : Nat → Nat} {S : OS} {hC hR : Hp} (X : Cx K ll g cL_law RL 4 room_1) (sx : SX K b L xs) (hc : 6 * c + 6 ≤ L) (hL : L ≤ 3072) (cC : CR g hC B S) (mR : MW g hR t A S) (hI : SOk S N) (hN : N + 400 ≤ 204800) (hx : hX hC hR) (hk : k + 5 ≤ 667156) (hn : n + 29 ≤ 7100779) (kk : ∀ (S2 : OS) (hC2 hR2 : Hp), CR g hC2 B S2 → MW g hR2 t A S2 → SOk S2 (N + 400) → hX hC2 hR2 → VJ K (k + 5) (n + 29) (hS hC2 hR2) 1404 [(3, .int (nI (6 * c))), (2, .ref t), (1, .ref (B 0)), (0, .ref b)] []) : VJ K k n (hS hC hR) 472 [(3, .int (nI (6 * c))), (2, .ref t), (1, .ref (B 0)), (0, .ref b)] [] := by
  obtain ⟨d, k1, hk1, fo, tape, tp, bits, sz, num⟩ := S
  obtain ⟨_, cX, _⟩ := id cC
  obtain ⟨_, _, _, _, _, _, _, _, _, _, m0, _⟩ := id mR
  have hL31 : L < 2 ^ 31 := by omega
  refine v_aload_n X dL_law_472 2 rfl ?_
  refine v_aload_n X dL_law_473 3 rfl ?_
  refine v_iload_n X dL_law_474 0 rfl ?_
  refine v_iconst X dL_law_475 (v := 1) (by decide) ?_
  refine v_iadd X dL_law_476 ?_
  refine v_sld X sx (6 * c + 1) (ix_add rfl rfl) (by omega) hL31 dL_law_477 ?_
  refine v_cVF X (av := [.int (xs (6 * c + 1))]) (st := []) hx sL_49 (ct_X7_bout ll g (xs (6 * c + 1)) cC hI hN) cX (T := TX7) (N := 8) rfl dL_law_478 rfl rfl ⟨rfl, rfl⟩ ⟨(Nat.le_of_ble_eq_true rfl), (Nat.le_of_ble_eq_true rfl)⟩ ⟨(show k + 0 ≤ 667156 by omega), (show n + 0 ≤ 7100779 by omega)⟩ (Nat.le_of_ble_eq_true rfl) (fun r hh q hq => ?_)
  obtain ⟨rfl, cC2⟩ := q
  refine v_eqs (st2 := [.int (op_bout (d, k1, hk1, fo, tape, tp, bits, sz, num) (xs (6 * c + 1))).1]) rfl (v_eqh (hS_c hq) ?_)
  refine v_aload_n X dL_law_481 1 rfl ?_
  refine v_aload_n X dL_law_482 3 rfl ?_
  refine v_iload_n X dL_law_483 0 rfl ?_
  refine v_iconst X dL_law_484 (v := 1) (by decide) ?_
  refine v_iadd X dL_law_485 ?_
  refine v_sld X sx (6 * c + 1) (ix_add rfl rfl) (by omega) hL31 dL_law_486 ?_
  refine v_cVF X (av := [.int (xs (6 * c + 1))]) (st := [.int (op_bout (d, k1, hk1, fo, tape, tp, bits, sz, num) (xs (6 * c + 1))).1]) (hX_s hq) sL_53 (rf_bout ll g (xs (6 * c + 1)) mR hI hN) m0 (T := TX8) (N := 19) rfl dL_law_487 rfl rfl ⟨rfl, rfl⟩ ⟨(Nat.le_of_ble_eq_true rfl), (Nat.le_of_ble_eq_true rfl)⟩ ⟨(show k + 0 + 0 ≤ 667156 by omega), (show n + 0 + 0 ≤ 7100779 by omega)⟩ (Nat.le_of_ble_eq_true rfl) (fun r hh2 q2 hq2 => ?_)
  obtain ⟨rfl, mR2⟩ := q2
  refine v_eqs (st2 := [.int (op_bout (d, k1, hk1, fo, tape, tp, bits, sz, num) (xs (6 * c + 1))).1, .int (op_bout (d, k1, hk1, fo, tape, tp, bits, sz, num) (xs (6 * c + 1))).1]) rfl (v_eqh (hS_c hq2) ?_)
  exact v_icmp_eq X dL_law_490 (tgt := 1404) (by decide) (fun _ => (v_widen (by omega) (by omega) (kk _ _ _ cC2 mR2 (so_bout (xs (6 * c + 1)) hI hN) (hX_s hq2)))) (fun z => absurd rfl z)
theorem lc_9 {K : KT} {ll : Launch} {g : GT} {k n c L b t N : Nat} {xs : Nat → Int32} {B A : Nat → Nat} {S : OS} {hC hR : Hp} (X : Cx K ll g cL_law RL 4 room_1) (sx : SX K b L xs) (hc : 6 * c + 6 ≤ L) (hL : L ≤ 3072) (cC : CR g hC B S) (mR : MW g hR t A S) (hI : SOk S N) (hN : N + 400 ≤ 204800) (hx : hX hC hR) (hk : k + 5 ≤ 667156) (hn : n + 29 ≤ 7100779) (kk : ∀ (S2 : OS) (hC2 hR2 : Hp), CR g hC2 B S2 → MW g hR2 t A S2 → SOk S2 (N + 400) → hX hC2 hR2 → VJ K (k + 5) (n + 29) (hS hC2 hR2) 1404 [(3, .int (nI (6 * c))), (2, .ref t), (1, .ref (B 0)), (0, .ref b)] []) : VJ K k n (hS hC hR) 495 [(3, .int (nI (6 * c))), (2, .ref t), (1, .ref (B 0)), (0, .ref b)] [] := by
  obtain ⟨d, k1, hk1, fo, tape, tp, bits, sz, num⟩ := S
  obtain ⟨_, cX, _⟩ := id cC
  obtain ⟨_, _, _, _, _, _, _, _, _, _, m0, _⟩ := id mR
  have hL31 : L < 2 ^ 31 := by omega
  refine v_aload_n X dL_law_495 2 rfl ?_
  refine v_aload_n X dL_law_496 3 rfl ?_
  refine v_iload_n X dL_law_497 0 rfl ?_
  refine v_iconst X dL_law_498 (v := 1) (by decide) ?_
  refine v_iadd X dL_law_499 ?_
  refine v_sld X sx (6 * c + 1) (ix_add rfl rfl) (by omega) hL31 dL_law_500 ?_
  refine v_aload_n X dL_law_501 3 rfl ?_
  refine v_iload_n X dL_law_502 0 rfl ?_
  refine v_iconst X dL_law_503 (v := 2) (by decide) ?_
  refine v_iadd X dL_law_504 ?_
  refine v_sld X sx (6 * c + 2) (ix_add rfl rfl) (by omega) hL31 dL_law_505 ?_
  refine v_cVF X (av := [.int (xs (6 * c + 1)), .int (xs (6 * c + 2))]) (st := []) hx sL_54 (ct_X7_stands ll g (xs (6 * c + 1)) (xs (6 * c + 2)) cC hI hN) cX (T := TX7) (N := 8) rfl dL_law_506 rfl rfl ⟨rfl, rfl⟩ ⟨(Nat.le_of_ble_eq_true rfl), (Nat.le_of_ble_eq_true rfl)⟩ ⟨(show k + 0 ≤ 667156 by omega), (show n + 0 ≤ 7100779 by omega)⟩ (Nat.le_of_ble_eq_true rfl) (fun r hh q hq => ?_)
  obtain ⟨rfl, cC2⟩ := q
  refine v_eqs (st2 := [.int (op_stands (d, k1, hk1, fo, tape, tp, bits, sz, num) (xs (6 * c + 1)) (xs (6 * c + 2))).1]) rfl (v_eqh (hS_c hq) ?_)
  refine v_aload_n X dL_law_509 1 rfl ?_
  refine v_aload_n X dL_law_510 3 rfl ?_
  refine v_iload_n X dL_law_511 0 rfl ?_
  refine v_iconst X dL_law_512 (v := 1) (by decide) ?_
  refine v_iadd X dL_law_513 ?_
  refine v_sld X sx (6 * c + 1) (ix_add rfl rfl) (by omega) hL31 dL_law_514 ?_
  refine v_aload_n X dL_law_515 3 rfl ?_
  refine v_iload_n X dL_law_516 0 rfl ?_
  refine v_iconst X dL_law_517 (v := 2) (by decide) ?_
  refine v_iadd X dL_law_518 ?_
  refine v_sld X sx (6 * c + 2) (ix_add rfl rfl) (by omega) hL31 dL_law_519 ?_
  refine v_cVF X (av := [.int (xs (6 * c + 1)), .int (xs (6 * c + 2))]) (st := [.int (op_stands (d, k1, hk1, fo, tape, tp, bits, sz, num) (xs (6 * c + 1)) (xs (6 * c + 2))).1]) (hX_s hq) sL_57 (rf_stands ll g (xs (6 * c + 1)) (xs (6 * c + 2)) mR hI hN) m0 (T := TX8) (N := 19) rfl dL_law_520 rfl rfl ⟨rfl, rfl⟩ ⟨(Nat.le_of_ble_eq_true rfl), (Nat.le_of_ble_eq_true rfl)⟩ ⟨(show k + 0 + 0 ≤ 667156 by omega), (show n + 0 + 0 ≤ 7100779 by omega)⟩ (Nat.le_of_ble_eq_true rfl) (fun r hh2 q2 hq2 => ?_)
  obtain ⟨rfl, mR2⟩ := q2
  refine v_eqs (st2 := [.int (op_stands (d, k1, hk1, fo, tape, tp, bits, sz, num) (xs (6 * c + 1)) (xs (6 * c + 2))).1, .int (op_stands (d, k1, hk1, fo, tape, tp, bits, sz, num) (xs (6 * c + 1)) (xs (6 * c + 2))).1]) rfl (v_eqh (hS_c hq2) ?_)
  exact v_icmp_eq X dL_law_523 (tgt := 1404) (by decide) (fun _ => (v_widen (by omega) (by omega) (kk _ _ _ cC2 mR2 (so_stands (xs (6 * c + 1)) (xs (6 * c + 2)) hI hN) (hX_s hq2)))) (fun z => absurd rfl z)
theorem lc_10 {K : KT} {ll : Launch} {g : GT} {k n c L b t N : Nat} {xs : Nat → Int32} {B A : Nat → Nat} {S : OS} {hC hR : Hp} (X : Cx K ll g cL_law RL 4 room_1) (sx : SX K b L xs) (hc : 6 * c + 6 ≤ L) (hL : L ≤ 3072) (cC : CR g hC B S) (mR : MW g hR t A S) (hI : SOk S N) (hN : N + 400 ≤ 204800) (hx : hX hC hR) (hk : k + 5 ≤ 667156) (hn : n + 29 ≤ 7100779) (kk : ∀ (S2 : OS) (hC2 hR2 : Hp), CR g hC2 B S2 → MW g hR2 t A S2 → SOk S2 (N + 400) → hX hC2 hR2 → VJ K (k + 5) (n + 29) (hS hC2 hR2) 1404 [(3, .int (nI (6 * c))), (2, .ref t), (1, .ref (B 0)), (0, .ref b)] []) : VJ K k n (hS hC hR) 528 [(3, .int (nI (6 * c))), (2, .ref t), (1, .ref (B 0)), (0, .ref b)] [] := by
  obtain ⟨d, k1, hk1, fo, tape, tp, bits, sz, num⟩ := S
  obtain ⟨_, cX, _⟩ := id cC
  obtain ⟨_, _, _, _, _, _, _, _, _, _, m0, _⟩ := id mR
  have hL31 : L < 2 ^ 31 := by omega
  refine v_aload_n X dL_law_528 2 rfl ?_
  refine v_aload_n X dL_law_529 3 rfl ?_
  refine v_iload_n X dL_law_530 0 rfl ?_
  refine v_iconst X dL_law_531 (v := 1) (by decide) ?_
  refine v_iadd X dL_law_532 ?_
  refine v_sld X sx (6 * c + 1) (ix_add rfl rfl) (by omega) hL31 dL_law_533 ?_
  refine v_cVF X (av := [.int (xs (6 * c + 1))]) (st := []) hx sL_58 (ct_X7_now ll g (xs (6 * c + 1)) cC hI hN) cX (T := TX7) (N := 8) rfl dL_law_534 rfl rfl ⟨rfl, rfl⟩ ⟨(Nat.le_of_ble_eq_true rfl), (Nat.le_of_ble_eq_true rfl)⟩ ⟨(show k + 0 ≤ 667156 by omega), (show n + 0 ≤ 7100779 by omega)⟩ (Nat.le_of_ble_eq_true rfl) (fun r hh q hq => ?_)
  obtain ⟨rfl, cC2⟩ := q
  refine v_eqs (st2 := [.int (op_now (d, k1, hk1, fo, tape, tp, bits, sz, num) (xs (6 * c + 1))).1]) rfl (v_eqh (hS_c hq) ?_)
  refine v_aload_n X dL_law_537 1 rfl ?_
  refine v_aload_n X dL_law_538 3 rfl ?_
  refine v_iload_n X dL_law_539 0 rfl ?_
  refine v_iconst X dL_law_540 (v := 1) (by decide) ?_
  refine v_iadd X dL_law_541 ?_
  refine v_sld X sx (6 * c + 1) (ix_add rfl rfl) (by omega) hL31 dL_law_542 ?_
  refine v_cVF X (av := [.int (xs (6 * c + 1))]) (st := [.int (op_now (d, k1, hk1, fo, tape, tp, bits, sz, num) (xs (6 * c + 1))).1]) (hX_s hq) sL_61 (rf_now ll g (xs (6 * c + 1)) mR hI hN) m0 (T := TX8) (N := 19) rfl dL_law_543 rfl rfl ⟨rfl, rfl⟩ ⟨(Nat.le_of_ble_eq_true rfl), (Nat.le_of_ble_eq_true rfl)⟩ ⟨(show k + 0 + 0 ≤ 667156 by omega), (show n + 0 + 0 ≤ 7100779 by omega)⟩ (Nat.le_of_ble_eq_true rfl) (fun r hh2 q2 hq2 => ?_)
  obtain ⟨rfl, mR2⟩ := q2
  refine v_eqs (st2 := [.int (op_now (d, k1, hk1, fo, tape, tp, bits, sz, num) (xs (6 * c + 1))).1, .int (op_now (d, k1, hk1, fo, tape, tp, bits, sz, num) (xs (6 * c + 1))).1]) rfl (v_eqh (hS_c hq2) ?_)
  exact v_icmp_eq X dL_law_546 (tgt := 1404) (by decide) (fun _ => (v_widen (by omega) (by omega) (kk _ _ _ cC2 mR2 (so_now (xs (6 * c + 1)) hI hN) (hX_s hq2)))) (fun z => absurd rfl z)
theorem lc_11 {K : KT} {ll : Launch} {g : GT} {k n c L b t N : Nat} {xs : Nat → Int32} {B A : Nat → Nat} {S : OS} {hC hR : Hp} (X : Cx K ll g cL_law RL 4 room_1) (sx : SX K b L xs) (hc : 6 * c + 6 ≤ L) (hL : L ≤ 3072) (cC : CR g hC B S) (mR : MW g hR t A S) (hI : SOk S N) (hN : N + 400 ≤ 204800) (hx : hX hC hR) (hk : k + 5 ≤ 667156) (hn : n + 29 ≤ 7100779) (kk : ∀ (S2 : OS) (hC2 hR2 : Hp), CR g hC2 B S2 → MW g hR2 t A S2 → SOk S2 (N + 400) → hX hC2 hR2 → VJ K (k + 5) (n + 29) (hS hC2 hR2) 1404 [(3, .int (nI (6 * c))), (2, .ref t), (1, .ref (B 0)), (0, .ref b)] []) : VJ K k n (hS hC hR) 551 [(3, .int (nI (6 * c))), (2, .ref t), (1, .ref (B 0)), (0, .ref b)] [] := by
  obtain ⟨d, k1, hk1, fo, tape, tp, bits, sz, num⟩ := S
  obtain ⟨_, cX, _⟩ := id cC
  obtain ⟨_, _, _, _, _, _, _, _, _, _, m0, _⟩ := id mR
  have hL31 : L < 2 ^ 31 := by omega
  refine v_aload_n X dL_law_551 2 rfl ?_
  refine v_aload_n X dL_law_552 3 rfl ?_
  refine v_iload_n X dL_law_553 0 rfl ?_
  refine v_iconst X dL_law_554 (v := 1) (by decide) ?_
  refine v_iadd X dL_law_555 ?_
  refine v_sld X sx (6 * c + 1) (ix_add rfl rfl) (by omega) hL31 dL_law_556 ?_
  refine v_cVF X (av := [.int (xs (6 * c + 1))]) (st := []) hx sL_62 (ct_X7_seed ll g (xs (6 * c + 1)) cC hI hN) cX (T := TX7) (N := 8) rfl dL_law_557 rfl rfl ⟨rfl, rfl⟩ ⟨(Nat.le_of_ble_eq_true rfl), (Nat.le_of_ble_eq_true rfl)⟩ ⟨(show k + 0 ≤ 667156 by omega), (show n + 0 ≤ 7100779 by omega)⟩ (Nat.le_of_ble_eq_true rfl) (fun r hh q hq => ?_)
  obtain ⟨rfl, cC2⟩ := q
  refine v_eqs (st2 := [.int (op_seed (d, k1, hk1, fo, tape, tp, bits, sz, num) (xs (6 * c + 1))).1]) rfl (v_eqh (hS_c hq) ?_)
  refine v_aload_n X dL_law_560 1 rfl ?_
  refine v_aload_n X dL_law_561 3 rfl ?_
  refine v_iload_n X dL_law_562 0 rfl ?_
  refine v_iconst X dL_law_563 (v := 1) (by decide) ?_
  refine v_iadd X dL_law_564 ?_
  refine v_sld X sx (6 * c + 1) (ix_add rfl rfl) (by omega) hL31 dL_law_565 ?_
  refine v_cVF X (av := [.int (xs (6 * c + 1))]) (st := [.int (op_seed (d, k1, hk1, fo, tape, tp, bits, sz, num) (xs (6 * c + 1))).1]) (hX_s hq) sL_65 (rf_seed ll g (xs (6 * c + 1)) mR hI hN) m0 (T := TX8) (N := 19) rfl dL_law_566 rfl rfl ⟨rfl, rfl⟩ ⟨(Nat.le_of_ble_eq_true rfl), (Nat.le_of_ble_eq_true rfl)⟩ ⟨(show k + 0 + 0 ≤ 667156 by omega), (show n + 0 + 0 ≤ 7100779 by omega)⟩ (Nat.le_of_ble_eq_true rfl) (fun r hh2 q2 hq2 => ?_)
  obtain ⟨rfl, mR2⟩ := q2
  refine v_eqs (st2 := [.int (op_seed (d, k1, hk1, fo, tape, tp, bits, sz, num) (xs (6 * c + 1))).1, .int (op_seed (d, k1, hk1, fo, tape, tp, bits, sz, num) (xs (6 * c + 1))).1]) rfl (v_eqh (hS_c hq2) ?_)
  exact v_icmp_eq X dL_law_569 (tgt := 1404) (by decide) (fun _ => (v_widen (by omega) (by omega) (kk _ _ _ cC2 mR2 (so_seed (xs (6 * c + 1)) hI hN) (hX_s hq2)))) (fun z => absurd rfl z)
theorem lc_12 {K : KT} {ll : Launch} {g : GT} {k n c L b t N : Nat} {xs : Nat → Int32} {B A : Nat → Nat} {S : OS} {hC hR : Hp} (X : Cx K ll g cL_law RL 4 room_1) (sx : SX K b L xs) (hc : 6 * c + 6 ≤ L) (hL : L ≤ 3072) (cC : CR g hC B S) (mR : MW g hR t A S) (hI : SOk S N) (hN : N + 400 ≤ 204800) (hx : hX hC hR) (hk : k + 5 ≤ 667156) (hn : n + 29 ≤ 7100779) (kk : ∀ (S2 : OS) (hC2 hR2 : Hp), CR g hC2 B S2 → MW g hR2 t A S2 → SOk S2 (N + 400) → hX hC2 hR2 → VJ K (k + 5) (n + 29) (hS hC2 hR2) 1404 [(3, .int (nI (6 * c))), (2, .ref t), (1, .ref (B 0)), (0, .ref b)] []) : VJ K k n (hS hC hR) 574 [(3, .int (nI (6 * c))), (2, .ref t), (1, .ref (B 0)), (0, .ref b)] [] := by
  obtain ⟨d, k1, hk1, fo, tape, tp, bits, sz, num⟩ := S
  obtain ⟨_, cX, _⟩ := id cC
  obtain ⟨_, _, _, _, _, _, _, _, _, _, m0, _⟩ := id mR
  have hL31 : L < 2 ^ 31 := by omega
  refine v_aload_n X dL_law_574 2 rfl ?_
  refine v_aload_n X dL_law_575 3 rfl ?_
  refine v_iload_n X dL_law_576 0 rfl ?_
  refine v_iconst X dL_law_577 (v := 1) (by decide) ?_
  refine v_iadd X dL_law_578 ?_
  refine v_sld X sx (6 * c + 1) (ix_add rfl rfl) (by omega) hL31 dL_law_579 ?_
  refine v_aload_n X dL_law_580 3 rfl ?_
  refine v_iload_n X dL_law_581 0 rfl ?_
  refine v_iconst X dL_law_582 (v := 2) (by decide) ?_
  refine v_iadd X dL_law_583 ?_
  refine v_sld X sx (6 * c + 2) (ix_add rfl rfl) (by omega) hL31 dL_law_584 ?_
  refine v_aload_n X dL_law_585 3 rfl ?_
  refine v_iload_n X dL_law_586 0 rfl ?_
  refine v_iconst X dL_law_587 (v := 3) (by decide) ?_
  refine v_iadd X dL_law_588 ?_
  refine v_sld X sx (6 * c + 3) (ix_add rfl rfl) (by omega) hL31 dL_law_589 ?_
  refine v_aload_n X dL_law_590 3 rfl ?_
  refine v_iload_n X dL_law_591 0 rfl ?_
  refine v_iconst X dL_law_592 (v := 4) (by decide) ?_
  refine v_iadd X dL_law_593 ?_
  refine v_sld X sx (6 * c + 4) (ix_add rfl rfl) (by omega) hL31 dL_law_594 ?_
  refine v_cVF X (av := [.int (xs (6 * c + 1)), .int (xs (6 * c + 2)), .int (xs (6 * c + 3)), .int (xs (6 * c + 4))]) (st := []) hx sL_66 (ct_X7_ahead ll g (xs (6 * c + 1)) (xs (6 * c + 2)) (xs (6 * c + 3)) (xs (6 * c + 4)) cC hI hN) cX (T := TX7) (N := 8) rfl dL_law_595 rfl rfl ⟨rfl, rfl⟩ ⟨(Nat.le_of_ble_eq_true rfl), (Nat.le_of_ble_eq_true rfl)⟩ ⟨(show k + 0 ≤ 667156 by omega), (show n + 0 ≤ 7100779 by omega)⟩ (Nat.le_of_ble_eq_true rfl) (fun r hh q hq => ?_)
  obtain ⟨rfl, cC2⟩ := q
  refine v_eqs (st2 := [.int (op_ahead (d, k1, hk1, fo, tape, tp, bits, sz, num) (xs (6 * c + 1)) (xs (6 * c + 2)) (xs (6 * c + 3)) (xs (6 * c + 4))).1]) rfl (v_eqh (hS_c hq) ?_)
  refine v_aload_n X dL_law_598 1 rfl ?_
  refine v_aload_n X dL_law_599 3 rfl ?_
  refine v_iload_n X dL_law_600 0 rfl ?_
  refine v_iconst X dL_law_601 (v := 1) (by decide) ?_
  refine v_iadd X dL_law_602 ?_
  refine v_sld X sx (6 * c + 1) (ix_add rfl rfl) (by omega) hL31 dL_law_603 ?_
  refine v_aload_n X dL_law_604 3 rfl ?_
  refine v_iload_n X dL_law_605 0 rfl ?_
  refine v_iconst X dL_law_606 (v := 2) (by decide) ?_
  refine v_iadd X dL_law_607 ?_
  refine v_sld X sx (6 * c + 2) (ix_add rfl rfl) (by omega) hL31 dL_law_608 ?_
  refine v_aload_n X dL_law_609 3 rfl ?_
  refine v_iload_n X dL_law_610 0 rfl ?_
  refine v_iconst X dL_law_611 (v := 3) (by decide) ?_
  refine v_iadd X dL_law_612 ?_
  refine v_sld X sx (6 * c + 3) (ix_add rfl rfl) (by omega) hL31 dL_law_613 ?_
  refine v_aload_n X dL_law_614 3 rfl ?_
  refine v_iload_n X dL_law_615 0 rfl ?_
  refine v_iconst X dL_law_616 (v := 4) (by decide) ?_
  refine v_iadd X dL_law_617 ?_
  refine v_sld X sx (6 * c + 4) (ix_add rfl rfl) (by omega) hL31 dL_law_618 ?_
  refine v_cVF X (av := [.int (xs (6 * c + 1)), .int (xs (6 * c + 2)), .int (xs (6 * c + 3)), .int (xs (6 * c + 4))]) (st := [.int (op_ahead (d, k1, hk1, fo, tape, tp, bits, sz, num) (xs (6 * c + 1)) (xs (6 * c + 2)) (xs (6 * c + 3)) (xs (6 * c + 4))).1]) (hX_s hq) sL_70 (rf_ahead ll g (xs (6 * c + 1)) (xs (6 * c + 2)) (xs (6 * c + 3)) (xs (6 * c + 4)) mR hI hN) m0 (T := TX8) (N := 19) rfl dL_law_619 rfl rfl ⟨rfl, rfl⟩ ⟨(Nat.le_of_ble_eq_true rfl), (Nat.le_of_ble_eq_true rfl)⟩ ⟨(show k + 0 + 0 ≤ 667156 by omega), (show n + 0 + 0 ≤ 7100779 by omega)⟩ (Nat.le_of_ble_eq_true rfl) (fun r hh2 q2 hq2 => ?_)
  obtain ⟨rfl, mR2⟩ := q2
  refine v_eqs (st2 := [.int (op_ahead (d, k1, hk1, fo, tape, tp, bits, sz, num) (xs (6 * c + 1)) (xs (6 * c + 2)) (xs (6 * c + 3)) (xs (6 * c + 4))).1, .int (op_ahead (d, k1, hk1, fo, tape, tp, bits, sz, num) (xs (6 * c + 1)) (xs (6 * c + 2)) (xs (6 * c + 3)) (xs (6 * c + 4))).1]) rfl (v_eqh (hS_c hq2) ?_)
  exact v_icmp_eq X dL_law_622 (tgt := 1404) (by decide) (fun _ => (v_widen (by omega) (by omega) (kk _ _ _ cC2 mR2 (so_ahead (xs (6 * c + 1)) (xs (6 * c + 2)) (xs (6 * c + 3)) (xs (6 * c + 4)) hI hN) (hX_s hq2)))) (fun z => absurd rfl z)
theorem lc_13 {K : KT} {ll : Launch} {g : GT} {k n c L b t N : Nat} {xs : Nat → Int32} {B A : Nat → Nat} {S : OS} {hC hR : Hp} (X : Cx K ll g cL_law RL 4 room_1) (sx : SX K b L xs) (hc : 6 * c + 6 ≤ L) (hL : L ≤ 3072) (cC : CR g hC B S) (mR : MW g hR t A S) (hI : SOk S N) (hN : N + 400 ≤ 204800) (hx : hX hC hR) (hk : k + 5 ≤ 667156) (hn : n + 29 ≤ 7100779) (kk : ∀ (S2 : OS) (hC2 hR2 : Hp), CR g hC2 B S2 → MW g hR2 t A S2 → SOk S2 (N + 400) → hX hC2 hR2 → VJ K (k + 5) (n + 29) (hS hC2 hR2) 1404 [(3, .int (nI (6 * c))), (2, .ref t), (1, .ref (B 0)), (0, .ref b)] []) : VJ K k n (hS hC hR) 627 [(3, .int (nI (6 * c))), (2, .ref t), (1, .ref (B 0)), (0, .ref b)] [] := by
  obtain ⟨d, k1, hk1, fo, tape, tp, bits, sz, num⟩ := S
  obtain ⟨_, cX, _⟩ := id cC
  obtain ⟨_, _, _, _, _, _, _, _, _, _, m0, _⟩ := id mR
  have hL31 : L < 2 ^ 31 := by omega
  refine v_aload_n X dL_law_627 2 rfl ?_
  refine v_aload_n X dL_law_628 3 rfl ?_
  refine v_iload_n X dL_law_629 0 rfl ?_
  refine v_iconst X dL_law_630 (v := 1) (by decide) ?_
  refine v_iadd X dL_law_631 ?_
  refine v_sld X sx (6 * c + 1) (ix_add rfl rfl) (by omega) hL31 dL_law_632 ?_
  refine v_aload_n X dL_law_633 3 rfl ?_
  refine v_iload_n X dL_law_634 0 rfl ?_
  refine v_iconst X dL_law_635 (v := 2) (by decide) ?_
  refine v_iadd X dL_law_636 ?_
  refine v_sld X sx (6 * c + 2) (ix_add rfl rfl) (by omega) hL31 dL_law_637 ?_
  refine v_aload_n X dL_law_638 3 rfl ?_
  refine v_iload_n X dL_law_639 0 rfl ?_
  refine v_iconst X dL_law_640 (v := 3) (by decide) ?_
  refine v_iadd X dL_law_641 ?_
  refine v_sld X sx (6 * c + 3) (ix_add rfl rfl) (by omega) hL31 dL_law_642 ?_
  refine v_cVF X (av := [.int (xs (6 * c + 1)), .int (xs (6 * c + 2)), .int (xs (6 * c + 3))]) (st := []) hx sL_71 (ct_X7_best ll g (xs (6 * c + 1)) (xs (6 * c + 2)) (xs (6 * c + 3)) cC hI hN) cX (T := TX7) (N := 8) rfl dL_law_643 rfl rfl ⟨rfl, rfl⟩ ⟨(Nat.le_of_ble_eq_true rfl), (Nat.le_of_ble_eq_true rfl)⟩ ⟨(show k + 0 ≤ 667156 by omega), (show n + 0 ≤ 7100779 by omega)⟩ (Nat.le_of_ble_eq_true rfl) (fun r hh q hq => ?_)
  obtain ⟨rfl, cC2⟩ := q
  refine v_eqs (st2 := [.int (op_best (d, k1, hk1, fo, tape, tp, bits, sz, num) (xs (6 * c + 1)) (xs (6 * c + 2)) (xs (6 * c + 3))).1]) rfl (v_eqh (hS_c hq) ?_)
  refine v_aload_n X dL_law_646 1 rfl ?_
  refine v_aload_n X dL_law_647 3 rfl ?_
  refine v_iload_n X dL_law_648 0 rfl ?_
  refine v_iconst X dL_law_649 (v := 1) (by decide) ?_
  refine v_iadd X dL_law_650 ?_
  refine v_sld X sx (6 * c + 1) (ix_add rfl rfl) (by omega) hL31 dL_law_651 ?_
  refine v_aload_n X dL_law_652 3 rfl ?_
  refine v_iload_n X dL_law_653 0 rfl ?_
  refine v_iconst X dL_law_654 (v := 2) (by decide) ?_
  refine v_iadd X dL_law_655 ?_
  refine v_sld X sx (6 * c + 2) (ix_add rfl rfl) (by omega) hL31 dL_law_656 ?_
  refine v_aload_n X dL_law_657 3 rfl ?_
  refine v_iload_n X dL_law_658 0 rfl ?_
  refine v_iconst X dL_law_659 (v := 3) (by decide) ?_
  refine v_iadd X dL_law_660 ?_
  refine v_sld X sx (6 * c + 3) (ix_add rfl rfl) (by omega) hL31 dL_law_661 ?_
  refine v_cVF X (av := [.int (xs (6 * c + 1)), .int (xs (6 * c + 2)), .int (xs (6 * c + 3))]) (st := [.int (op_best (d, k1, hk1, fo, tape, tp, bits, sz, num) (xs (6 * c + 1)) (xs (6 * c + 2)) (xs (6 * c + 3))).1]) (hX_s hq) sL_74 (rf_best ll g (xs (6 * c + 1)) (xs (6 * c + 2)) (xs (6 * c + 3)) mR hI hN) m0 (T := TX8) (N := 19) rfl dL_law_662 rfl rfl ⟨rfl, rfl⟩ ⟨(Nat.le_of_ble_eq_true rfl), (Nat.le_of_ble_eq_true rfl)⟩ ⟨(show k + 0 + 0 ≤ 667156 by omega), (show n + 0 + 0 ≤ 7100779 by omega)⟩ (Nat.le_of_ble_eq_true rfl) (fun r hh2 q2 hq2 => ?_)
  obtain ⟨rfl, mR2⟩ := q2
  refine v_eqs (st2 := [.int (op_best (d, k1, hk1, fo, tape, tp, bits, sz, num) (xs (6 * c + 1)) (xs (6 * c + 2)) (xs (6 * c + 3))).1, .int (op_best (d, k1, hk1, fo, tape, tp, bits, sz, num) (xs (6 * c + 1)) (xs (6 * c + 2)) (xs (6 * c + 3))).1]) rfl (v_eqh (hS_c hq2) ?_)
  exact v_icmp_eq X dL_law_665 (tgt := 1404) (by decide) (fun _ => (v_widen (by omega) (by omega) (kk _ _ _ cC2 mR2 (so_best (xs (6 * c + 1)) (xs (6 * c + 2)) (xs (6 * c + 3)) hI hN) (hX_s hq2)))) (fun z => absurd rfl z)
theorem lc_14 {K : KT} {ll : Launch} {g : GT} {k n c L b t N : Nat} {xs : Nat → Int32} {B A : Nat → Nat} {S : OS} {hC hR : Hp} (X : Cx K ll g cL_law RL 4 room_1) (sx : SX K b L xs) (hc : 6 * c + 6 ≤ L) (hL : L ≤ 3072) (cC : CR g hC B S) (mR : MW g hR t A S) (hI : SOk S N) (hN : N + 400 ≤ 204800) (hx : hX hC hR) (hk : k + 5 ≤ 667156) (hn : n + 29 ≤ 7100779) (kk : ∀ (S2 : OS) (hC2 hR2 : Hp), CR g hC2 B S2 → MW g hR2 t A S2 → SOk S2 (N + 400) → hX hC2 hR2 → VJ K (k + 5) (n + 29) (hS hC2 hR2) 1404 [(3, .int (nI (6 * c))), (2, .ref t), (1, .ref (B 0)), (0, .ref b)] []) : VJ K k n (hS hC hR) 670 [(3, .int (nI (6 * c))), (2, .ref t), (1, .ref (B 0)), (0, .ref b)] [] := by
  obtain ⟨d, k1, hk1, fo, tape, tp, bits, sz, num⟩ := S
  obtain ⟨_, cX, _⟩ := id cC
  obtain ⟨_, _, _, _, _, _, _, _, _, _, m0, _⟩ := id mR
  have hL31 : L < 2 ^ 31 := by omega
  refine v_aload_n X dL_law_670 2 rfl ?_
  refine v_aload_n X dL_law_671 3 rfl ?_
  refine v_iload_n X dL_law_672 0 rfl ?_
  refine v_iconst X dL_law_673 (v := 1) (by decide) ?_
  refine v_iadd X dL_law_674 ?_
  refine v_sld X sx (6 * c + 1) (ix_add rfl rfl) (by omega) hL31 dL_law_675 ?_
  refine v_aload_n X dL_law_676 3 rfl ?_
  refine v_iload_n X dL_law_677 0 rfl ?_
  refine v_iconst X dL_law_678 (v := 2) (by decide) ?_
  refine v_iadd X dL_law_679 ?_
  refine v_sld X sx (6 * c + 2) (ix_add rfl rfl) (by omega) hL31 dL_law_680 ?_
  refine v_aload_n X dL_law_681 3 rfl ?_
  refine v_iload_n X dL_law_682 0 rfl ?_
  refine v_iconst X dL_law_683 (v := 3) (by decide) ?_
  refine v_iadd X dL_law_684 ?_
  refine v_sld X sx (6 * c + 3) (ix_add rfl rfl) (by omega) hL31 dL_law_685 ?_
  refine v_cVF X (av := [.int (xs (6 * c + 1)), .int (xs (6 * c + 2)), .int (xs (6 * c + 3))]) (st := []) hx sL_75 (ct_X7_light ll g (xs (6 * c + 1)) (xs (6 * c + 2)) (xs (6 * c + 3)) cC hI hN) cX (T := TX7) (N := 8) rfl dL_law_686 rfl rfl ⟨rfl, rfl⟩ ⟨(Nat.le_of_ble_eq_true rfl), (Nat.le_of_ble_eq_true rfl)⟩ ⟨(show k + 0 ≤ 667156 by omega), (show n + 0 ≤ 7100779 by omega)⟩ (Nat.le_of_ble_eq_true rfl) (fun r hh q hq => ?_)
  obtain ⟨rfl, cC2⟩ := q
  refine v_eqs (st2 := [.int (op_light (d, k1, hk1, fo, tape, tp, bits, sz, num) (xs (6 * c + 1)) (xs (6 * c + 2)) (xs (6 * c + 3))).1]) rfl (v_eqh (hS_c hq) ?_)
  refine v_aload_n X dL_law_689 1 rfl ?_
  refine v_aload_n X dL_law_690 3 rfl ?_
  refine v_iload_n X dL_law_691 0 rfl ?_
  refine v_iconst X dL_law_692 (v := 1) (by decide) ?_
  refine v_iadd X dL_law_693 ?_
  refine v_sld X sx (6 * c + 1) (ix_add rfl rfl) (by omega) hL31 dL_law_694 ?_
  refine v_aload_n X dL_law_695 3 rfl ?_
  refine v_iload_n X dL_law_696 0 rfl ?_
  refine v_iconst X dL_law_697 (v := 2) (by decide) ?_
  refine v_iadd X dL_law_698 ?_
  refine v_sld X sx (6 * c + 2) (ix_add rfl rfl) (by omega) hL31 dL_law_699 ?_
  refine v_aload_n X dL_law_700 3 rfl ?_
  refine v_iload_n X dL_law_701 0 rfl ?_
  refine v_iconst X dL_law_702 (v := 3) (by decide) ?_
  refine v_iadd X dL_law_703 ?_
  refine v_sld X sx (6 * c + 3) (ix_add rfl rfl) (by omega) hL31 dL_law_704 ?_
  refine v_cVF X (av := [.int (xs (6 * c + 1)), .int (xs (6 * c + 2)), .int (xs (6 * c + 3))]) (st := [.int (op_light (d, k1, hk1, fo, tape, tp, bits, sz, num) (xs (6 * c + 1)) (xs (6 * c + 2)) (xs (6 * c + 3))).1]) (hX_s hq) sL_78 (rf_light ll g (xs (6 * c + 1)) (xs (6 * c + 2)) (xs (6 * c + 3)) mR hI hN) m0 (T := TX8) (N := 19) rfl dL_law_705 rfl rfl ⟨rfl, rfl⟩ ⟨(Nat.le_of_ble_eq_true rfl), (Nat.le_of_ble_eq_true rfl)⟩ ⟨(show k + 0 + 0 ≤ 667156 by omega), (show n + 0 + 0 ≤ 7100779 by omega)⟩ (Nat.le_of_ble_eq_true rfl) (fun r hh2 q2 hq2 => ?_)
  obtain ⟨rfl, mR2⟩ := q2
  refine v_eqs (st2 := [.int (op_light (d, k1, hk1, fo, tape, tp, bits, sz, num) (xs (6 * c + 1)) (xs (6 * c + 2)) (xs (6 * c + 3))).1, .int (op_light (d, k1, hk1, fo, tape, tp, bits, sz, num) (xs (6 * c + 1)) (xs (6 * c + 2)) (xs (6 * c + 3))).1]) rfl (v_eqh (hS_c hq2) ?_)
  exact v_icmp_eq X dL_law_708 (tgt := 1404) (by decide) (fun _ => (v_widen (by omega) (by omega) (kk _ _ _ cC2 mR2 (so_light (xs (6 * c + 1)) (xs (6 * c + 2)) (xs (6 * c + 3)) hI hN) (hX_s hq2)))) (fun z => absurd rfl z)
theorem lc_15 {K : KT} {ll : Launch} {g : GT} {k n c L b t N : Nat} {xs : Nat → Int32} {B A : Nat → Nat} {S : OS} {hC hR : Hp} (X : Cx K ll g cL_law RL 4 room_1) (sx : SX K b L xs) (hc : 6 * c + 6 ≤ L) (hL : L ≤ 3072) (cC : CR g hC B S) (mR : MW g hR t A S) (hI : SOk S N) (hN : N + 400 ≤ 204800) (hx : hX hC hR) (hk : k + 5 ≤ 667156) (hn : n + 29 ≤ 7100779) (kk : ∀ (S2 : OS) (hC2 hR2 : Hp), CR g hC2 B S2 → MW g hR2 t A S2 → SOk S2 (N + 400) → hX hC2 hR2 → VJ K (k + 5) (n + 29) (hS hC2 hR2) 1404 [(3, .int (nI (6 * c))), (2, .ref t), (1, .ref (B 0)), (0, .ref b)] []) : VJ K k n (hS hC hR) 713 [(3, .int (nI (6 * c))), (2, .ref t), (1, .ref (B 0)), (0, .ref b)] [] := by
  obtain ⟨d, k1, hk1, fo, tape, tp, bits, sz, num⟩ := S
  obtain ⟨_, cX, _⟩ := id cC
  obtain ⟨_, _, _, _, _, _, _, _, _, _, m0, _⟩ := id mR
  have hL31 : L < 2 ^ 31 := by omega
  refine v_aload_n X dL_law_713 2 rfl ?_
  refine v_aload_n X dL_law_714 3 rfl ?_
  refine v_iload_n X dL_law_715 0 rfl ?_
  refine v_iconst X dL_law_716 (v := 1) (by decide) ?_
  refine v_iadd X dL_law_717 ?_
  refine v_sld X sx (6 * c + 1) (ix_add rfl rfl) (by omega) hL31 dL_law_718 ?_
  refine v_aload_n X dL_law_719 3 rfl ?_
  refine v_iload_n X dL_law_720 0 rfl ?_
  refine v_iconst X dL_law_721 (v := 2) (by decide) ?_
  refine v_iadd X dL_law_722 ?_
  refine v_sld X sx (6 * c + 2) (ix_add rfl rfl) (by omega) hL31 dL_law_723 ?_
  refine v_aload_n X dL_law_724 3 rfl ?_
  refine v_iload_n X dL_law_725 0 rfl ?_
  refine v_iconst X dL_law_726 (v := 3) (by decide) ?_
  refine v_iadd X dL_law_727 ?_
  refine v_sld X sx (6 * c + 3) (ix_add rfl rfl) (by omega) hL31 dL_law_728 ?_
  refine v_cVF X (av := [.int (xs (6 * c + 1)), .int (xs (6 * c + 2)), .int (xs (6 * c + 3))]) (st := []) hx sL_79 (ct_X7_late ll g (xs (6 * c + 1)) (xs (6 * c + 2)) (xs (6 * c + 3)) cC hI hN) cX (T := TX7) (N := 8) rfl dL_law_729 rfl rfl ⟨rfl, rfl⟩ ⟨(Nat.le_of_ble_eq_true rfl), (Nat.le_of_ble_eq_true rfl)⟩ ⟨(show k + 0 ≤ 667156 by omega), (show n + 0 ≤ 7100779 by omega)⟩ (Nat.le_of_ble_eq_true rfl) (fun r hh q hq => ?_)
  obtain ⟨rfl, cC2⟩ := q
  refine v_eqs (st2 := [.int (op_late (d, k1, hk1, fo, tape, tp, bits, sz, num) (xs (6 * c + 1)) (xs (6 * c + 2)) (xs (6 * c + 3))).1]) rfl (v_eqh (hS_c hq) ?_)
  refine v_aload_n X dL_law_732 1 rfl ?_
  refine v_aload_n X dL_law_733 3 rfl ?_
  refine v_iload_n X dL_law_734 0 rfl ?_
  refine v_iconst X dL_law_735 (v := 1) (by decide) ?_
  refine v_iadd X dL_law_736 ?_
  refine v_sld X sx (6 * c + 1) (ix_add rfl rfl) (by omega) hL31 dL_law_737 ?_
  refine v_aload_n X dL_law_738 3 rfl ?_
  refine v_iload_n X dL_law_739 0 rfl ?_
  refine v_iconst X dL_law_740 (v := 2) (by decide) ?_
  refine v_iadd X dL_law_741 ?_
  refine v_sld X sx (6 * c + 2) (ix_add rfl rfl) (by omega) hL31 dL_law_742 ?_
  refine v_aload_n X dL_law_743 3 rfl ?_
  refine v_iload_n X dL_law_744 0 rfl ?_
  refine v_iconst X dL_law_745 (v := 3) (by decide) ?_
  refine v_iadd X dL_law_746 ?_
  refine v_sld X sx (6 * c + 3) (ix_add rfl rfl) (by omega) hL31 dL_law_747 ?_
  refine v_cVF X (av := [.int (xs (6 * c + 1)), .int (xs (6 * c + 2)), .int (xs (6 * c + 3))]) (st := [.int (op_late (d, k1, hk1, fo, tape, tp, bits, sz, num) (xs (6 * c + 1)) (xs (6 * c + 2)) (xs (6 * c + 3))).1]) (hX_s hq) sL_82 (rf_late ll g (xs (6 * c + 1)) (xs (6 * c + 2)) (xs (6 * c + 3)) mR hI hN) m0 (T := TX8) (N := 19) rfl dL_law_748 rfl rfl ⟨rfl, rfl⟩ ⟨(Nat.le_of_ble_eq_true rfl), (Nat.le_of_ble_eq_true rfl)⟩ ⟨(show k + 0 + 0 ≤ 667156 by omega), (show n + 0 + 0 ≤ 7100779 by omega)⟩ (Nat.le_of_ble_eq_true rfl) (fun r hh2 q2 hq2 => ?_)
  obtain ⟨rfl, mR2⟩ := q2
  refine v_eqs (st2 := [.int (op_late (d, k1, hk1, fo, tape, tp, bits, sz, num) (xs (6 * c + 1)) (xs (6 * c + 2)) (xs (6 * c + 3))).1, .int (op_late (d, k1, hk1, fo, tape, tp, bits, sz, num) (xs (6 * c + 1)) (xs (6 * c + 2)) (xs (6 * c + 3))).1]) rfl (v_eqh (hS_c hq2) ?_)
  exact v_icmp_eq X dL_law_751 (tgt := 1404) (by decide) (fun _ => (v_widen (by omega) (by omega) (kk _ _ _ cC2 mR2 (so_late (xs (6 * c + 1)) (xs (6 * c + 2)) (xs (6 * c + 3)) hI hN) (hX_s hq2)))) (fun z => absurd rfl z)
theorem lc_16 {K : KT} {ll : Launch} {g : GT} {k n c L b t N : Nat} {xs : Nat → Int32} {B A : Nat → Nat} {S : OS} {hC hR : Hp} (X : Cx K ll g cL_law RL 4 room_1) (sx : SX K b L xs) (hc : 6 * c + 6 ≤ L) (hL : L ≤ 3072) (cC : CR g hC B S) (mR : MW g hR t A S) (hI : SOk S N) (hN : N + 400 ≤ 204800) (hx : hX hC hR) (hk : k + 5 ≤ 667156) (hn : n + 29 ≤ 7100779) (kk : ∀ (S2 : OS) (hC2 hR2 : Hp), CR g hC2 B S2 → MW g hR2 t A S2 → SOk S2 (N + 400) → hX hC2 hR2 → VJ K (k + 5) (n + 29) (hS hC2 hR2) 1404 [(3, .int (nI (6 * c))), (2, .ref t), (1, .ref (B 0)), (0, .ref b)] []) : VJ K k n (hS hC hR) 756 [(3, .int (nI (6 * c))), (2, .ref t), (1, .ref (B 0)), (0, .ref b)] [] := by
  obtain ⟨d, k1, hk1, fo, tape, tp, bits, sz, num⟩ := S
  obtain ⟨_, cX, _⟩ := id cC
  obtain ⟨_, _, _, _, _, _, _, _, _, _, m0, _⟩ := id mR
  have hL31 : L < 2 ^ 31 := by omega
  refine v_aload_n X dL_law_756 2 rfl ?_
  refine v_aload_n X dL_law_757 3 rfl ?_
  refine v_iload_n X dL_law_758 0 rfl ?_
  refine v_iconst X dL_law_759 (v := 1) (by decide) ?_
  refine v_iadd X dL_law_760 ?_
  refine v_sld X sx (6 * c + 1) (ix_add rfl rfl) (by omega) hL31 dL_law_761 ?_
  refine v_aload_n X dL_law_762 3 rfl ?_
  refine v_iload_n X dL_law_763 0 rfl ?_
  refine v_iconst X dL_law_764 (v := 2) (by decide) ?_
  refine v_iadd X dL_law_765 ?_
  refine v_sld X sx (6 * c + 2) (ix_add rfl rfl) (by omega) hL31 dL_law_766 ?_
  refine v_aload_n X dL_law_767 3 rfl ?_
  refine v_iload_n X dL_law_768 0 rfl ?_
  refine v_iconst X dL_law_769 (v := 3) (by decide) ?_
  refine v_iadd X dL_law_770 ?_
  refine v_sld X sx (6 * c + 3) (ix_add rfl rfl) (by omega) hL31 dL_law_771 ?_
  refine v_aload_n X dL_law_772 3 rfl ?_
  refine v_iload_n X dL_law_773 0 rfl ?_
  refine v_iconst X dL_law_774 (v := 4) (by decide) ?_
  refine v_iadd X dL_law_775 ?_
  refine v_sld X sx (6 * c + 4) (ix_add rfl rfl) (by omega) hL31 dL_law_776 ?_
  refine v_cVF X (av := [.int (xs (6 * c + 1)), .int (xs (6 * c + 2)), .int (xs (6 * c + 3)), .int (xs (6 * c + 4))]) (st := []) hx sL_83 (ct_X7_swing ll g (xs (6 * c + 1)) (xs (6 * c + 2)) (xs (6 * c + 3)) (xs (6 * c + 4)) cC hI hN) cX (T := TX7) (N := 8) rfl dL_law_777 rfl rfl ⟨rfl, rfl⟩ ⟨(Nat.le_of_ble_eq_true rfl), (Nat.le_of_ble_eq_true rfl)⟩ ⟨(show k + 0 ≤ 667156 by omega), (show n + 0 ≤ 7100779 by omega)⟩ (Nat.le_of_ble_eq_true rfl) (fun r hh q hq => ?_)
  obtain ⟨rfl, cC2⟩ := q
  refine v_eqs (st2 := [.int (op_swing (d, k1, hk1, fo, tape, tp, bits, sz, num) (xs (6 * c + 1)) (xs (6 * c + 2)) (xs (6 * c + 3)) (xs (6 * c + 4))).1]) rfl (v_eqh (hS_c hq) ?_)
  refine v_aload_n X dL_law_780 1 rfl ?_
  refine v_aload_n X dL_law_781 3 rfl ?_
  refine v_iload_n X dL_law_782 0 rfl ?_
  refine v_iconst X dL_law_783 (v := 1) (by decide) ?_
  refine v_iadd X dL_law_784 ?_
  refine v_sld X sx (6 * c + 1) (ix_add rfl rfl) (by omega) hL31 dL_law_785 ?_
  refine v_aload_n X dL_law_786 3 rfl ?_
  refine v_iload_n X dL_law_787 0 rfl ?_
  refine v_iconst X dL_law_788 (v := 2) (by decide) ?_
  refine v_iadd X dL_law_789 ?_
  refine v_sld X sx (6 * c + 2) (ix_add rfl rfl) (by omega) hL31 dL_law_790 ?_
  refine v_aload_n X dL_law_791 3 rfl ?_
  refine v_iload_n X dL_law_792 0 rfl ?_
  refine v_iconst X dL_law_793 (v := 3) (by decide) ?_
  refine v_iadd X dL_law_794 ?_
  refine v_sld X sx (6 * c + 3) (ix_add rfl rfl) (by omega) hL31 dL_law_795 ?_
  refine v_aload_n X dL_law_796 3 rfl ?_
  refine v_iload_n X dL_law_797 0 rfl ?_
  refine v_iconst X dL_law_798 (v := 4) (by decide) ?_
  refine v_iadd X dL_law_799 ?_
  refine v_sld X sx (6 * c + 4) (ix_add rfl rfl) (by omega) hL31 dL_law_800 ?_
  refine v_cVF X (av := [.int (xs (6 * c + 1)), .int (xs (6 * c + 2)), .int (xs (6 * c + 3)), .int (xs (6 * c + 4))]) (st := [.int (op_swing (d, k1, hk1, fo, tape, tp, bits, sz, num) (xs (6 * c + 1)) (xs (6 * c + 2)) (xs (6 * c + 3)) (xs (6 * c + 4))).1]) (hX_s hq) sL_86 (rf_swing ll g (xs (6 * c + 1)) (xs (6 * c + 2)) (xs (6 * c + 3)) (xs (6 * c + 4)) mR hI hN) m0 (T := TX8) (N := 19) rfl dL_law_801 rfl rfl ⟨rfl, rfl⟩ ⟨(Nat.le_of_ble_eq_true rfl), (Nat.le_of_ble_eq_true rfl)⟩ ⟨(show k + 0 + 0 ≤ 667156 by omega), (show n + 0 + 0 ≤ 7100779 by omega)⟩ (Nat.le_of_ble_eq_true rfl) (fun r hh2 q2 hq2 => ?_)
  obtain ⟨rfl, mR2⟩ := q2
  refine v_eqs (st2 := [.int (op_swing (d, k1, hk1, fo, tape, tp, bits, sz, num) (xs (6 * c + 1)) (xs (6 * c + 2)) (xs (6 * c + 3)) (xs (6 * c + 4))).1, .int (op_swing (d, k1, hk1, fo, tape, tp, bits, sz, num) (xs (6 * c + 1)) (xs (6 * c + 2)) (xs (6 * c + 3)) (xs (6 * c + 4))).1]) rfl (v_eqh (hS_c hq2) ?_)
  exact v_icmp_eq X dL_law_804 (tgt := 1404) (by decide) (fun _ => (v_widen (by omega) (by omega) (kk _ _ _ cC2 mR2 (so_swing (xs (6 * c + 1)) (xs (6 * c + 2)) (xs (6 * c + 3)) (xs (6 * c + 4)) hI hN) (hX_s hq2)))) (fun z => absurd rfl z)
theorem lc_17 {K : KT} {ll : Launch} {g : GT} {k n c L b t N : Nat} {xs : Nat → Int32} {B A : Nat → Nat} {S : OS} {hC hR : Hp} (X : Cx K ll g cL_law RL 4 room_1) (sx : SX K b L xs) (hc : 6 * c + 6 ≤ L) (hL : L ≤ 3072) (cC : CR g hC B S) (mR : MW g hR t A S) (hI : SOk S N) (hN : N + 400 ≤ 204800) (hx : hX hC hR) (hk : k + 5 ≤ 667156) (hn : n + 29 ≤ 7100779) (kk : ∀ (S2 : OS) (hC2 hR2 : Hp), CR g hC2 B S2 → MW g hR2 t A S2 → SOk S2 (N + 400) → hX hC2 hR2 → VJ K (k + 5) (n + 29) (hS hC2 hR2) 1404 [(3, .int (nI (6 * c))), (2, .ref t), (1, .ref (B 0)), (0, .ref b)] []) : VJ K k n (hS hC hR) 809 [(3, .int (nI (6 * c))), (2, .ref t), (1, .ref (B 0)), (0, .ref b)] [] := by
  obtain ⟨d, k1, hk1, fo, tape, tp, bits, sz, num⟩ := S
  obtain ⟨_, cX, _⟩ := id cC
  obtain ⟨_, _, _, _, _, _, _, _, _, _, m0, _⟩ := id mR
  have hL31 : L < 2 ^ 31 := by omega
  refine v_aload_n X dL_law_809 2 rfl ?_
  refine v_aload_n X dL_law_810 3 rfl ?_
  refine v_iload_n X dL_law_811 0 rfl ?_
  refine v_iconst X dL_law_812 (v := 1) (by decide) ?_
  refine v_iadd X dL_law_813 ?_
  refine v_sld X sx (6 * c + 1) (ix_add rfl rfl) (by omega) hL31 dL_law_814 ?_
  refine v_aload_n X dL_law_815 3 rfl ?_
  refine v_iload_n X dL_law_816 0 rfl ?_
  refine v_iconst X dL_law_817 (v := 2) (by decide) ?_
  refine v_iadd X dL_law_818 ?_
  refine v_sld X sx (6 * c + 2) (ix_add rfl rfl) (by omega) hL31 dL_law_819 ?_
  refine v_cVF X (av := [.int (xs (6 * c + 1)), .int (xs (6 * c + 2))]) (st := []) hx sL_87 (ct_X7_beats ll g (xs (6 * c + 1)) (xs (6 * c + 2)) cC hI hN) cX (T := TX7) (N := 8) rfl dL_law_820 rfl rfl ⟨rfl, rfl⟩ ⟨(Nat.le_of_ble_eq_true rfl), (Nat.le_of_ble_eq_true rfl)⟩ ⟨(show k + 0 ≤ 667156 by omega), (show n + 0 ≤ 7100779 by omega)⟩ (Nat.le_of_ble_eq_true rfl) (fun r hh q hq => ?_)
  obtain ⟨rfl, cC2⟩ := q
  refine v_eqs (st2 := [.int (op_beats (d, k1, hk1, fo, tape, tp, bits, sz, num) (xs (6 * c + 1)) (xs (6 * c + 2))).1]) rfl (v_eqh (hS_c hq) ?_)
  refine v_aload_n X dL_law_823 1 rfl ?_
  refine v_aload_n X dL_law_824 3 rfl ?_
  refine v_iload_n X dL_law_825 0 rfl ?_
  refine v_iconst X dL_law_826 (v := 1) (by decide) ?_
  refine v_iadd X dL_law_827 ?_
  refine v_sld X sx (6 * c + 1) (ix_add rfl rfl) (by omega) hL31 dL_law_828 ?_
  refine v_aload_n X dL_law_829 3 rfl ?_
  refine v_iload_n X dL_law_830 0 rfl ?_
  refine v_iconst X dL_law_831 (v := 2) (by decide) ?_
  refine v_iadd X dL_law_832 ?_
  refine v_sld X sx (6 * c + 2) (ix_add rfl rfl) (by omega) hL31 dL_law_833 ?_
  refine v_cVF X (av := [.int (xs (6 * c + 1)), .int (xs (6 * c + 2))]) (st := [.int (op_beats (d, k1, hk1, fo, tape, tp, bits, sz, num) (xs (6 * c + 1)) (xs (6 * c + 2))).1]) (hX_s hq) sL_90 (rf_beats ll g (xs (6 * c + 1)) (xs (6 * c + 2)) mR hI hN) m0 (T := TX8) (N := 19) rfl dL_law_834 rfl rfl ⟨rfl, rfl⟩ ⟨(Nat.le_of_ble_eq_true rfl), (Nat.le_of_ble_eq_true rfl)⟩ ⟨(show k + 0 + 0 ≤ 667156 by omega), (show n + 0 + 0 ≤ 7100779 by omega)⟩ (Nat.le_of_ble_eq_true rfl) (fun r hh2 q2 hq2 => ?_)
  obtain ⟨rfl, mR2⟩ := q2
  refine v_eqs (st2 := [.int (op_beats (d, k1, hk1, fo, tape, tp, bits, sz, num) (xs (6 * c + 1)) (xs (6 * c + 2))).1, .int (op_beats (d, k1, hk1, fo, tape, tp, bits, sz, num) (xs (6 * c + 1)) (xs (6 * c + 2))).1]) rfl (v_eqh (hS_c hq2) ?_)
  exact v_icmp_eq X dL_law_837 (tgt := 1404) (by decide) (fun _ => (v_widen (by omega) (by omega) (kk _ _ _ cC2 mR2 (so_beats (xs (6 * c + 1)) (xs (6 * c + 2)) hI hN) (hX_s hq2)))) (fun z => absurd rfl z)
theorem lc_18 {K : KT} {ll : Launch} {g : GT} {k n c L b t N : Nat} {xs : Nat → Int32} {B A : Nat → Nat} {S : OS} {hC hR : Hp} (X : Cx K ll g cL_law RL 4 room_1) (sx : SX K b L xs) (hc : 6 * c + 6 ≤ L) (hL : L ≤ 3072) (cC : CR g hC B S) (mR : MW g hR t A S) (hI : SOk S N) (hN : N + 400 ≤ 204800) (hx : hX hC hR) (hk : k + 5 ≤ 667156) (hn : n + 29 ≤ 7100779) (kk : ∀ (S2 : OS) (hC2 hR2 : Hp), CR g hC2 B S2 → MW g hR2 t A S2 → SOk S2 (N + 400) → hX hC2 hR2 → VJ K (k + 5) (n + 29) (hS hC2 hR2) 1404 [(3, .int (nI (6 * c))), (2, .ref t), (1, .ref (B 0)), (0, .ref b)] []) : VJ K k n (hS hC hR) 842 [(3, .int (nI (6 * c))), (2, .ref t), (1, .ref (B 0)), (0, .ref b)] [] := by
  obtain ⟨d, k1, hk1, fo, tape, tp, bits, sz, num⟩ := S
  obtain ⟨_, cX, _⟩ := id cC
  obtain ⟨_, _, _, _, _, _, _, _, _, _, m0, _⟩ := id mR
  have hL31 : L < 2 ^ 31 := by omega
  refine v_aload_n X dL_law_842 2 rfl ?_
  refine v_aload_n X dL_law_843 3 rfl ?_
  refine v_iload_n X dL_law_844 0 rfl ?_
  refine v_iconst X dL_law_845 (v := 1) (by decide) ?_
  refine v_iadd X dL_law_846 ?_
  refine v_sld X sx (6 * c + 1) (ix_add rfl rfl) (by omega) hL31 dL_law_847 ?_
  refine v_aload_n X dL_law_848 3 rfl ?_
  refine v_iload_n X dL_law_849 0 rfl ?_
  refine v_iconst X dL_law_850 (v := 2) (by decide) ?_
  refine v_iadd X dL_law_851 ?_
  refine v_sld X sx (6 * c + 2) (ix_add rfl rfl) (by omega) hL31 dL_law_852 ?_
  refine v_aload_n X dL_law_853 3 rfl ?_
  refine v_iload_n X dL_law_854 0 rfl ?_
  refine v_iconst X dL_law_855 (v := 3) (by decide) ?_
  refine v_iadd X dL_law_856 ?_
  refine v_sld X sx (6 * c + 3) (ix_add rfl rfl) (by omega) hL31 dL_law_857 ?_
  refine v_cVF X (av := [.int (xs (6 * c + 1)), .int (xs (6 * c + 2)), .int (xs (6 * c + 3))]) (st := []) hx sL_91 (ct_X7_five ll g (xs (6 * c + 1)) (xs (6 * c + 2)) (xs (6 * c + 3)) cC hI hN) cX (T := TX7) (N := 8) rfl dL_law_858 rfl rfl ⟨rfl, rfl⟩ ⟨(Nat.le_of_ble_eq_true rfl), (Nat.le_of_ble_eq_true rfl)⟩ ⟨(show k + 0 ≤ 667156 by omega), (show n + 0 ≤ 7100779 by omega)⟩ (Nat.le_of_ble_eq_true rfl) (fun r hh q hq => ?_)
  obtain ⟨rfl, cC2⟩ := q
  refine v_eqs (st2 := [.int (op_five (d, k1, hk1, fo, tape, tp, bits, sz, num) (xs (6 * c + 1)) (xs (6 * c + 2)) (xs (6 * c + 3))).1]) rfl (v_eqh (hS_c hq) ?_)
  refine v_aload_n X dL_law_861 1 rfl ?_
  refine v_aload_n X dL_law_862 3 rfl ?_
  refine v_iload_n X dL_law_863 0 rfl ?_
  refine v_iconst X dL_law_864 (v := 1) (by decide) ?_
  refine v_iadd X dL_law_865 ?_
  refine v_sld X sx (6 * c + 1) (ix_add rfl rfl) (by omega) hL31 dL_law_866 ?_
  refine v_aload_n X dL_law_867 3 rfl ?_
  refine v_iload_n X dL_law_868 0 rfl ?_
  refine v_iconst X dL_law_869 (v := 2) (by decide) ?_
  refine v_iadd X dL_law_870 ?_
  refine v_sld X sx (6 * c + 2) (ix_add rfl rfl) (by omega) hL31 dL_law_871 ?_
  refine v_aload_n X dL_law_872 3 rfl ?_
  refine v_iload_n X dL_law_873 0 rfl ?_
  refine v_iconst X dL_law_874 (v := 3) (by decide) ?_
  refine v_iadd X dL_law_875 ?_
  refine v_sld X sx (6 * c + 3) (ix_add rfl rfl) (by omega) hL31 dL_law_876 ?_
  refine v_cVF X (av := [.int (xs (6 * c + 1)), .int (xs (6 * c + 2)), .int (xs (6 * c + 3))]) (st := [.int (op_five (d, k1, hk1, fo, tape, tp, bits, sz, num) (xs (6 * c + 1)) (xs (6 * c + 2)) (xs (6 * c + 3))).1]) (hX_s hq) sL_94 (rf_five ll g (xs (6 * c + 1)) (xs (6 * c + 2)) (xs (6 * c + 3)) mR hI hN) m0 (T := TX8) (N := 19) rfl dL_law_877 rfl rfl ⟨rfl, rfl⟩ ⟨(Nat.le_of_ble_eq_true rfl), (Nat.le_of_ble_eq_true rfl)⟩ ⟨(show k + 0 + 0 ≤ 667156 by omega), (show n + 0 + 0 ≤ 7100779 by omega)⟩ (Nat.le_of_ble_eq_true rfl) (fun r hh2 q2 hq2 => ?_)
  obtain ⟨rfl, mR2⟩ := q2
  refine v_eqs (st2 := [.int (op_five (d, k1, hk1, fo, tape, tp, bits, sz, num) (xs (6 * c + 1)) (xs (6 * c + 2)) (xs (6 * c + 3))).1, .int (op_five (d, k1, hk1, fo, tape, tp, bits, sz, num) (xs (6 * c + 1)) (xs (6 * c + 2)) (xs (6 * c + 3))).1]) rfl (v_eqh (hS_c hq2) ?_)
  exact v_icmp_eq X dL_law_880 (tgt := 1404) (by decide) (fun _ => (v_widen (by omega) (by omega) (kk _ _ _ cC2 mR2 (so_five (xs (6 * c + 1)) (xs (6 * c + 2)) (xs (6 * c + 3)) hI hN) (hX_s hq2)))) (fun z => absurd rfl z)
theorem lc_19 {K : KT} {ll : Launch} {g : GT} {k n c L b t N : Nat} {xs : Nat → Int32} {B A : Nat → Nat} {S : OS} {hC hR : Hp} (X : Cx K ll g cL_law RL 4 room_1) (sx : SX K b L xs) (hc : 6 * c + 6 ≤ L) (hL : L ≤ 3072) (cC : CR g hC B S) (mR : MW g hR t A S) (hI : SOk S N) (hN : N + 400 ≤ 204800) (hx : hX hC hR) (hk : k + 5 ≤ 667156) (hn : n + 29 ≤ 7100779) (kk : ∀ (S2 : OS) (hC2 hR2 : Hp), CR g hC2 B S2 → MW g hR2 t A S2 → SOk S2 (N + 400) → hX hC2 hR2 → VJ K (k + 5) (n + 29) (hS hC2 hR2) 1404 [(3, .int (nI (6 * c))), (2, .ref t), (1, .ref (B 0)), (0, .ref b)] []) : VJ K k n (hS hC hR) 885 [(3, .int (nI (6 * c))), (2, .ref t), (1, .ref (B 0)), (0, .ref b)] [] := by
  obtain ⟨d, k1, hk1, fo, tape, tp, bits, sz, num⟩ := S
  obtain ⟨_, cX, _⟩ := id cC
  obtain ⟨_, _, _, _, _, _, _, _, _, _, m0, _⟩ := id mR
  have hL31 : L < 2 ^ 31 := by omega
  refine v_aload_n X dL_law_885 2 rfl ?_
  refine v_aload_n X dL_law_886 3 rfl ?_
  refine v_iload_n X dL_law_887 0 rfl ?_
  refine v_iconst X dL_law_888 (v := 1) (by decide) ?_
  refine v_iadd X dL_law_889 ?_
  refine v_sld X sx (6 * c + 1) (ix_add rfl rfl) (by omega) hL31 dL_law_890 ?_
  refine v_cVF X (av := [.int (xs (6 * c + 1))]) (st := []) hx sL_95 (ct_X7_champion ll g (xs (6 * c + 1)) cC hI hN) cX (T := TX7) (N := 8) rfl dL_law_891 rfl rfl ⟨rfl, rfl⟩ ⟨(Nat.le_of_ble_eq_true rfl), (Nat.le_of_ble_eq_true rfl)⟩ ⟨(show k + 0 ≤ 667156 by omega), (show n + 0 ≤ 7100779 by omega)⟩ (Nat.le_of_ble_eq_true rfl) (fun r hh q hq => ?_)
  obtain ⟨rfl, cC2⟩ := q
  refine v_eqs (st2 := [.int (op_champion (d, k1, hk1, fo, tape, tp, bits, sz, num) (xs (6 * c + 1))).1]) rfl (v_eqh (hS_c hq) ?_)
  refine v_aload_n X dL_law_894 1 rfl ?_
  refine v_aload_n X dL_law_895 3 rfl ?_
  refine v_iload_n X dL_law_896 0 rfl ?_
  refine v_iconst X dL_law_897 (v := 1) (by decide) ?_
  refine v_iadd X dL_law_898 ?_
  refine v_sld X sx (6 * c + 1) (ix_add rfl rfl) (by omega) hL31 dL_law_899 ?_
  refine v_cVF X (av := [.int (xs (6 * c + 1))]) (st := [.int (op_champion (d, k1, hk1, fo, tape, tp, bits, sz, num) (xs (6 * c + 1))).1]) (hX_s hq) sL_98 (rf_champion ll g (xs (6 * c + 1)) mR hI hN) m0 (T := TX8) (N := 19) rfl dL_law_900 rfl rfl ⟨rfl, rfl⟩ ⟨(Nat.le_of_ble_eq_true rfl), (Nat.le_of_ble_eq_true rfl)⟩ ⟨(show k + 0 + 0 ≤ 667156 by omega), (show n + 0 + 0 ≤ 7100779 by omega)⟩ (Nat.le_of_ble_eq_true rfl) (fun r hh2 q2 hq2 => ?_)
  obtain ⟨rfl, mR2⟩ := q2
  refine v_eqs (st2 := [.int (op_champion (d, k1, hk1, fo, tape, tp, bits, sz, num) (xs (6 * c + 1))).1, .int (op_champion (d, k1, hk1, fo, tape, tp, bits, sz, num) (xs (6 * c + 1))).1]) rfl (v_eqh (hS_c hq2) ?_)
  exact v_icmp_eq X dL_law_903 (tgt := 1404) (by decide) (fun _ => (v_widen (by omega) (by omega) (kk _ _ _ cC2 mR2 (so_champion (xs (6 * c + 1)) hI hN) (hX_s hq2)))) (fun z => absurd rfl z)
theorem lc_20 {K : KT} {ll : Launch} {g : GT} {k n c L b t N : Nat} {xs : Nat → Int32} {B A : Nat → Nat} {S : OS} {hC hR : Hp} (X : Cx K ll g cL_law RL 4 room_1) (sx : SX K b L xs) (hc : 6 * c + 6 ≤ L) (hL : L ≤ 3072) (cC : CR g hC B S) (mR : MW g hR t A S) (hI : SOk S N) (hN : N + 400 ≤ 204800) (hx : hX hC hR) (hk : k + 5 ≤ 667156) (hn : n + 29 ≤ 7100779) (kk : ∀ (S2 : OS) (hC2 hR2 : Hp), CR g hC2 B S2 → MW g hR2 t A S2 → SOk S2 (N + 400) → hX hC2 hR2 → VJ K (k + 5) (n + 29) (hS hC2 hR2) 1404 [(3, .int (nI (6 * c))), (2, .ref t), (1, .ref (B 0)), (0, .ref b)] []) : VJ K k n (hS hC hR) 908 [(3, .int (nI (6 * c))), (2, .ref t), (1, .ref (B 0)), (0, .ref b)] [] := by
  obtain ⟨d, k1, hk1, fo, tape, tp, bits, sz, num⟩ := S
  obtain ⟨_, cX, _⟩ := id cC
  obtain ⟨_, _, _, _, _, _, _, _, _, _, m0, _⟩ := id mR
  have hL31 : L < 2 ^ 31 := by omega
  refine v_aload_n X dL_law_908 2 rfl ?_
  refine v_aload_n X dL_law_909 3 rfl ?_
  refine v_iload_n X dL_law_910 0 rfl ?_
  refine v_iconst X dL_law_911 (v := 1) (by decide) ?_
  refine v_iadd X dL_law_912 ?_
  refine v_sld X sx (6 * c + 1) (ix_add rfl rfl) (by omega) hL31 dL_law_913 ?_
  refine v_aload_n X dL_law_914 3 rfl ?_
  refine v_iload_n X dL_law_915 0 rfl ?_
  refine v_iconst X dL_law_916 (v := 2) (by decide) ?_
  refine v_iadd X dL_law_917 ?_
  refine v_sld X sx (6 * c + 2) (ix_add rfl rfl) (by omega) hL31 dL_law_918 ?_
  refine v_cVF X (av := [.int (xs (6 * c + 1)), .int (xs (6 * c + 2))]) (st := []) hx sL_99 (ct_X7_feed ll g (xs (6 * c + 1)) (xs (6 * c + 2)) cC hI hN) cX (T := TX7) (N := 8) rfl dL_law_919 rfl rfl ⟨rfl, rfl⟩ ⟨(Nat.le_of_ble_eq_true rfl), (Nat.le_of_ble_eq_true rfl)⟩ ⟨(show k + 0 ≤ 667156 by omega), (show n + 0 ≤ 7100779 by omega)⟩ (Nat.le_of_ble_eq_true rfl) (fun r hh q hq => ?_)
  obtain ⟨rfl, cC2⟩ := q
  refine v_eqs (st2 := [.int (op_feed (d, k1, hk1, fo, tape, tp, bits, sz, num) (xs (6 * c + 1)) (xs (6 * c + 2))).1]) rfl (v_eqh (hS_c hq) ?_)
  refine v_aload_n X dL_law_922 1 rfl ?_
  refine v_aload_n X dL_law_923 3 rfl ?_
  refine v_iload_n X dL_law_924 0 rfl ?_
  refine v_iconst X dL_law_925 (v := 1) (by decide) ?_
  refine v_iadd X dL_law_926 ?_
  refine v_sld X sx (6 * c + 1) (ix_add rfl rfl) (by omega) hL31 dL_law_927 ?_
  refine v_aload_n X dL_law_928 3 rfl ?_
  refine v_iload_n X dL_law_929 0 rfl ?_
  refine v_iconst X dL_law_930 (v := 2) (by decide) ?_
  refine v_iadd X dL_law_931 ?_
  refine v_sld X sx (6 * c + 2) (ix_add rfl rfl) (by omega) hL31 dL_law_932 ?_
  refine v_cVF X (av := [.int (xs (6 * c + 1)), .int (xs (6 * c + 2))]) (st := [.int (op_feed (d, k1, hk1, fo, tape, tp, bits, sz, num) (xs (6 * c + 1)) (xs (6 * c + 2))).1]) (hX_s hq) sL_102 (rf_feed ll g (xs (6 * c + 1)) (xs (6 * c + 2)) mR hI hN) m0 (T := TX8) (N := 19) rfl dL_law_933 rfl rfl ⟨rfl, rfl⟩ ⟨(Nat.le_of_ble_eq_true rfl), (Nat.le_of_ble_eq_true rfl)⟩ ⟨(show k + 0 + 0 ≤ 667156 by omega), (show n + 0 + 0 ≤ 7100779 by omega)⟩ (Nat.le_of_ble_eq_true rfl) (fun r hh2 q2 hq2 => ?_)
  obtain ⟨rfl, mR2⟩ := q2
  refine v_eqs (st2 := [.int (op_feed (d, k1, hk1, fo, tape, tp, bits, sz, num) (xs (6 * c + 1)) (xs (6 * c + 2))).1, .int (op_feed (d, k1, hk1, fo, tape, tp, bits, sz, num) (xs (6 * c + 1)) (xs (6 * c + 2))).1]) rfl (v_eqh (hS_c hq2) ?_)
  exact v_icmp_eq X dL_law_936 (tgt := 1404) (by decide) (fun _ => (v_widen (by omega) (by omega) (kk _ _ _ cC2 mR2 (so_feed (xs (6 * c + 1)) (xs (6 * c + 2)) hI hN) (hX_s hq2)))) (fun z => absurd rfl z)
theorem lc_21 {K : KT} {ll : Launch} {g : GT} {k n c L b t N : Nat} {xs : Nat → Int32} {B A : Nat → Nat} {S : OS} {hC hR : Hp} (X : Cx K ll g cL_law RL 4 room_1) (sx : SX K b L xs) (hc : 6 * c + 6 ≤ L) (hL : L ≤ 3072) (cC : CR g hC B S) (mR : MW g hR t A S) (hI : SOk S N) (hN : N + 400 ≤ 204800) (hx : hX hC hR) (hk : k + 5 ≤ 667156) (hn : n + 29 ≤ 7100779) (kk : ∀ (S2 : OS) (hC2 hR2 : Hp), CR g hC2 B S2 → MW g hR2 t A S2 → SOk S2 (N + 400) → hX hC2 hR2 → VJ K (k + 5) (n + 29) (hS hC2 hR2) 1404 [(3, .int (nI (6 * c))), (2, .ref t), (1, .ref (B 0)), (0, .ref b)] []) : VJ K k n (hS hC hR) 941 [(3, .int (nI (6 * c))), (2, .ref t), (1, .ref (B 0)), (0, .ref b)] [] := by
  obtain ⟨d, k1, hk1, fo, tape, tp, bits, sz, num⟩ := S
  obtain ⟨_, cX, _⟩ := id cC
  obtain ⟨_, _, _, _, _, _, _, _, _, _, m0, _⟩ := id mR
  have hL31 : L < 2 ^ 31 := by omega
  refine v_aload_n X dL_law_941 2 rfl ?_
  refine v_cVF X (av := []) (st := []) hx sL_103 (ct_X7_wipe ll g  cC hI hN) cX (T := TX7) (N := 8) rfl dL_law_942 rfl rfl ⟨rfl, rfl⟩ ⟨(Nat.le_of_ble_eq_true rfl), (Nat.le_of_ble_eq_true rfl)⟩ ⟨(show k + 0 ≤ 667156 by omega), (show n + 0 ≤ 7100779 by omega)⟩ (Nat.le_of_ble_eq_true rfl) (fun r hh q hq => ?_)
  obtain ⟨rfl, cC2⟩ := q
  refine v_eqs (st2 := [.int (op_wipe (d, k1, hk1, fo, tape, tp, bits, sz, num)).1]) rfl (v_eqh (hS_c hq) ?_)
  refine v_aload_n X dL_law_945 1 rfl ?_
  refine v_cVF X (av := []) (st := [.int (op_wipe (d, k1, hk1, fo, tape, tp, bits, sz, num)).1]) (hX_s hq) sL_106 (rf_wipe ll g  mR hI hN) m0 (T := TX8) (N := 19) rfl dL_law_946 rfl rfl ⟨rfl, rfl⟩ ⟨(Nat.le_of_ble_eq_true rfl), (Nat.le_of_ble_eq_true rfl)⟩ ⟨(show k + 0 + 0 ≤ 667156 by omega), (show n + 0 + 0 ≤ 7100779 by omega)⟩ (Nat.le_of_ble_eq_true rfl) (fun r hh2 q2 hq2 => ?_)
  obtain ⟨rfl, mR2⟩ := q2
  refine v_eqs (st2 := [.int (op_wipe (d, k1, hk1, fo, tape, tp, bits, sz, num)).1, .int (op_wipe (d, k1, hk1, fo, tape, tp, bits, sz, num)).1]) rfl (v_eqh (hS_c hq2) ?_)
  exact v_icmp_eq X dL_law_949 (tgt := 1404) (by decide) (fun _ => (v_widen (by omega) (by omega) (kk _ _ _ cC2 mR2 (so_wipe  hI hN) (hX_s hq2)))) (fun z => absurd rfl z)
theorem lc_22 {K : KT} {ll : Launch} {g : GT} {k n c L b t N : Nat} {xs : Nat → Int32} {B A : Nat → Nat} {S : OS} {hC hR : Hp} (X : Cx K ll g cL_law RL 4 room_1) (sx : SX K b L xs) (hc : 6 * c + 6 ≤ L) (hL : L ≤ 3072) (cC : CR g hC B S) (mR : MW g hR t A S) (hI : SOk S N) (hN : N + 400 ≤ 204800) (hx : hX hC hR) (hk : k + 5 ≤ 667156) (hn : n + 29 ≤ 7100779) (kk : ∀ (S2 : OS) (hC2 hR2 : Hp), CR g hC2 B S2 → MW g hR2 t A S2 → SOk S2 (N + 400) → hX hC2 hR2 → VJ K (k + 5) (n + 29) (hS hC2 hR2) 1404 [(3, .int (nI (6 * c))), (2, .ref t), (1, .ref (B 0)), (0, .ref b)] []) : VJ K k n (hS hC hR) 954 [(3, .int (nI (6 * c))), (2, .ref t), (1, .ref (B 0)), (0, .ref b)] [] := by
  obtain ⟨d, k1, hk1, fo, tape, tp, bits, sz, num⟩ := S
  obtain ⟨_, cX, _⟩ := id cC
  obtain ⟨_, _, _, _, _, _, _, _, _, _, m0, _⟩ := id mR
  have hL31 : L < 2 ^ 31 := by omega
  refine v_aload_n X dL_law_954 2 rfl ?_
  refine v_cVF X (av := []) (st := []) hx sL_107 (ct_X7_way ll g  cC hI hN) cX (T := TX7) (N := 8) rfl dL_law_955 rfl rfl ⟨rfl, rfl⟩ ⟨(Nat.le_of_ble_eq_true rfl), (Nat.le_of_ble_eq_true rfl)⟩ ⟨(show k + 5 ≤ 667156 by omega), (show n + 29 ≤ 7100779 by omega)⟩ (Nat.le_of_ble_eq_true rfl) (fun r hh q hq => ?_)
  obtain ⟨rfl, cC2⟩ := q
  refine v_eqs (st2 := [.int (op_way (d, k1, hk1, fo, tape, tp, bits, sz, num)).1]) rfl (v_eqh (hS_c hq) ?_)
  refine v_aload_n X dL_law_958 1 rfl ?_
  refine v_cVF X (av := []) (st := [.int (op_way (d, k1, hk1, fo, tape, tp, bits, sz, num)).1]) (hX_s hq) sL_110 (rf_way ll g  mR hI hN) m0 (T := TX8) (N := 19) rfl dL_law_959 rfl rfl ⟨rfl, rfl⟩ ⟨(Nat.le_of_ble_eq_true rfl), (Nat.le_of_ble_eq_true rfl)⟩ ⟨(show k + 5 + 0 ≤ 667156 by omega), (show n + 29 + 0 ≤ 7100779 by omega)⟩ (Nat.le_of_ble_eq_true rfl) (fun r hh2 q2 hq2 => ?_)
  obtain ⟨rfl, mR2⟩ := q2
  refine v_eqs (st2 := [.int (op_way (d, k1, hk1, fo, tape, tp, bits, sz, num)).1, .int (op_way (d, k1, hk1, fo, tape, tp, bits, sz, num)).1]) rfl (v_eqh (hS_c hq2) ?_)
  exact v_icmp_eq X dL_law_962 (tgt := 1404) (by decide) (fun _ => (v_widen (by omega) (by omega) (kk _ _ _ cC2 mR2 (so_way  hI hN) (hX_s hq2)))) (fun z => absurd rfl z)
theorem lc_23 {K : KT} {ll : Launch} {g : GT} {k n c L b t N : Nat} {xs : Nat → Int32} {B A : Nat → Nat} {S : OS} {hC hR : Hp} (X : Cx K ll g cL_law RL 4 room_1) (sx : SX K b L xs) (hc : 6 * c + 6 ≤ L) (hL : L ≤ 3072) (cC : CR g hC B S) (mR : MW g hR t A S) (hI : SOk S N) (hN : N + 400 ≤ 204800) (hx : hX hC hR) (hk : k + 5 ≤ 667156) (hn : n + 29 ≤ 7100779) (kk : ∀ (S2 : OS) (hC2 hR2 : Hp), CR g hC2 B S2 → MW g hR2 t A S2 → SOk S2 (N + 400) → hX hC2 hR2 → VJ K (k + 5) (n + 29) (hS hC2 hR2) 1404 [(3, .int (nI (6 * c))), (2, .ref t), (1, .ref (B 0)), (0, .ref b)] []) : VJ K k n (hS hC hR) 967 [(3, .int (nI (6 * c))), (2, .ref t), (1, .ref (B 0)), (0, .ref b)] [] := by
  obtain ⟨d, k1, hk1, fo, tape, tp, bits, sz, num⟩ := S
  obtain ⟨_, cX, _⟩ := id cC
  obtain ⟨_, _, _, _, _, _, _, _, _, _, m0, _⟩ := id mR
  have hL31 : L < 2 ^ 31 := by omega
  refine v_aload_n X dL_law_967 2 rfl ?_
  refine v_aload_n X dL_law_968 3 rfl ?_
  refine v_iload_n X dL_law_969 0 rfl ?_
  refine v_iconst X dL_law_970 (v := 1) (by decide) ?_
  refine v_iadd X dL_law_971 ?_
  refine v_sld X sx (6 * c + 1) (ix_add rfl rfl) (by omega) hL31 dL_law_972 ?_
  refine v_cVF X (av := [.int (xs (6 * c + 1))]) (st := []) hx sL_111 (ct_X7_rules ll g (xs (6 * c + 1)) cC hI hN) cX (T := TX7) (N := 8) rfl dL_law_973 rfl rfl ⟨rfl, rfl⟩ ⟨(Nat.le_of_ble_eq_true rfl), (Nat.le_of_ble_eq_true rfl)⟩ ⟨(show k + 0 ≤ 667156 by omega), (show n + 0 ≤ 7100779 by omega)⟩ (Nat.le_of_ble_eq_true rfl) (fun r hh q hq => ?_)
  obtain ⟨rfl, cC2⟩ := q
  refine v_eqs (st2 := [.int (op_rules (d, k1, hk1, fo, tape, tp, bits, sz, num) (xs (6 * c + 1))).1]) rfl (v_eqh (hS_c hq) ?_)
  refine v_aload_n X dL_law_976 1 rfl ?_
  refine v_aload_n X dL_law_977 3 rfl ?_
  refine v_iload_n X dL_law_978 0 rfl ?_
  refine v_iconst X dL_law_979 (v := 1) (by decide) ?_
  refine v_iadd X dL_law_980 ?_
  refine v_sld X sx (6 * c + 1) (ix_add rfl rfl) (by omega) hL31 dL_law_981 ?_
  refine v_cVF X (av := [.int (xs (6 * c + 1))]) (st := [.int (op_rules (d, k1, hk1, fo, tape, tp, bits, sz, num) (xs (6 * c + 1))).1]) (hX_s hq) sL_114 (rf_rules ll g (xs (6 * c + 1)) mR hI hN) m0 (T := TX8) (N := 19) rfl dL_law_982 rfl rfl ⟨rfl, rfl⟩ ⟨(Nat.le_of_ble_eq_true rfl), (Nat.le_of_ble_eq_true rfl)⟩ ⟨(show k + 0 + 0 ≤ 667156 by omega), (show n + 0 + 0 ≤ 7100779 by omega)⟩ (Nat.le_of_ble_eq_true rfl) (fun r hh2 q2 hq2 => ?_)
  obtain ⟨rfl, mR2⟩ := q2
  refine v_eqs (st2 := [.int (op_rules (d, k1, hk1, fo, tape, tp, bits, sz, num) (xs (6 * c + 1))).1, .int (op_rules (d, k1, hk1, fo, tape, tp, bits, sz, num) (xs (6 * c + 1))).1]) rfl (v_eqh (hS_c hq2) ?_)
  exact v_icmp_eq X dL_law_985 (tgt := 1404) (by decide) (fun _ => (v_widen (by omega) (by omega) (kk _ _ _ cC2 mR2 (so_rules (xs (6 * c + 1)) hI hN) (hX_s hq2)))) (fun z => absurd rfl z)
theorem lc_24 {K : KT} {ll : Launch} {g : GT} {k n c L b t N : Nat} {xs : Nat → Int32} {B A : Nat → Nat} {S : OS} {hC hR : Hp} (X : Cx K ll g cL_law RL 4 room_1) (sx : SX K b L xs) (hc : 6 * c + 6 ≤ L) (hL : L ≤ 3072) (cC : CR g hC B S) (mR : MW g hR t A S) (hI : SOk S N) (hN : N + 400 ≤ 204800) (hx : hX hC hR) (hk : k + 5 ≤ 667156) (hn : n + 29 ≤ 7100779) (kk : ∀ (S2 : OS) (hC2 hR2 : Hp), CR g hC2 B S2 → MW g hR2 t A S2 → SOk S2 (N + 400) → hX hC2 hR2 → VJ K (k + 5) (n + 29) (hS hC2 hR2) 1404 [(3, .int (nI (6 * c))), (2, .ref t), (1, .ref (B 0)), (0, .ref b)] []) : VJ K k n (hS hC hR) 990 [(3, .int (nI (6 * c))), (2, .ref t), (1, .ref (B 0)), (0, .ref b)] [] := by
  obtain ⟨d, k1, hk1, fo, tape, tp, bits, sz, num⟩ := S
  obtain ⟨_, cX, _⟩ := id cC
  obtain ⟨_, _, _, _, _, _, _, _, _, _, m0, _⟩ := id mR
  have hL31 : L < 2 ^ 31 := by omega
  refine v_aload_n X dL_law_990 2 rfl ?_
  refine v_aload_n X dL_law_991 3 rfl ?_
  refine v_iload_n X dL_law_992 0 rfl ?_
  refine v_iconst X dL_law_993 (v := 1) (by decide) ?_
  refine v_iadd X dL_law_994 ?_
  refine v_sld X sx (6 * c + 1) (ix_add rfl rfl) (by omega) hL31 dL_law_995 ?_
  refine v_aload_n X dL_law_996 3 rfl ?_
  refine v_iload_n X dL_law_997 0 rfl ?_
  refine v_iconst X dL_law_998 (v := 2) (by decide) ?_
  refine v_iadd X dL_law_999 ?_
  refine v_sld X sx (6 * c + 2) (ix_add rfl rfl) (by omega) hL31 dL_law_1000 ?_
  refine v_aload_n X dL_law_1001 3 rfl ?_
  refine v_iload_n X dL_law_1002 0 rfl ?_
  refine v_iconst X dL_law_1003 (v := 3) (by decide) ?_
  refine v_iadd X dL_law_1004 ?_
  refine v_sld X sx (6 * c + 3) (ix_add rfl rfl) (by omega) hL31 dL_law_1005 ?_
  refine v_aload_n X dL_law_1006 3 rfl ?_
  refine v_iload_n X dL_law_1007 0 rfl ?_
  refine v_iconst X dL_law_1008 (v := 4) (by decide) ?_
  refine v_iadd X dL_law_1009 ?_
  refine v_sld X sx (6 * c + 4) (ix_add rfl rfl) (by omega) hL31 dL_law_1010 ?_
  refine v_aload_n X dL_law_1011 3 rfl ?_
  refine v_iload_n X dL_law_1012 0 rfl ?_
  refine v_iconst X dL_law_1013 (v := 5) (by decide) ?_
  refine v_iadd X dL_law_1014 ?_
  refine v_sld X sx (6 * c + 5) (ix_add rfl rfl) (by omega) hL31 dL_law_1015 ?_
  refine v_cVF X (av := [.int (xs (6 * c + 1)), .int (xs (6 * c + 2)), .int (xs (6 * c + 3)), .int (xs (6 * c + 4)), .int (xs (6 * c + 5))]) (st := []) hx sL_115 (ct_X7_holds ll g (xs (6 * c + 1)) (xs (6 * c + 2)) (xs (6 * c + 3)) (xs (6 * c + 4)) (xs (6 * c + 5)) cC hI hN) cX (T := TX7) (N := 8) rfl dL_law_1016 rfl rfl ⟨rfl, rfl⟩ ⟨(Nat.le_of_ble_eq_true rfl), (Nat.le_of_ble_eq_true rfl)⟩ ⟨(show k + 0 ≤ 667156 by omega), (show n + 0 ≤ 7100779 by omega)⟩ (Nat.le_of_ble_eq_true rfl) (fun r hh q hq => ?_)
  obtain ⟨rfl, cC2⟩ := q
  refine v_eqs (st2 := [.int (op_holds (d, k1, hk1, fo, tape, tp, bits, sz, num) (xs (6 * c + 1)) (xs (6 * c + 2)) (xs (6 * c + 3)) (xs (6 * c + 4)) (xs (6 * c + 5))).1]) rfl (v_eqh (hS_c hq) ?_)
  refine v_aload_n X dL_law_1019 1 rfl ?_
  refine v_aload_n X dL_law_1020 3 rfl ?_
  refine v_iload_n X dL_law_1021 0 rfl ?_
  refine v_iconst X dL_law_1022 (v := 1) (by decide) ?_
  refine v_iadd X dL_law_1023 ?_
  refine v_sld X sx (6 * c + 1) (ix_add rfl rfl) (by omega) hL31 dL_law_1024 ?_
  refine v_aload_n X dL_law_1025 3 rfl ?_
  refine v_iload_n X dL_law_1026 0 rfl ?_
  refine v_iconst X dL_law_1027 (v := 2) (by decide) ?_
  refine v_iadd X dL_law_1028 ?_
  refine v_sld X sx (6 * c + 2) (ix_add rfl rfl) (by omega) hL31 dL_law_1029 ?_
  refine v_aload_n X dL_law_1030 3 rfl ?_
  refine v_iload_n X dL_law_1031 0 rfl ?_
  refine v_iconst X dL_law_1032 (v := 3) (by decide) ?_
  refine v_iadd X dL_law_1033 ?_
  refine v_sld X sx (6 * c + 3) (ix_add rfl rfl) (by omega) hL31 dL_law_1034 ?_
  refine v_aload_n X dL_law_1035 3 rfl ?_
  refine v_iload_n X dL_law_1036 0 rfl ?_
  refine v_iconst X dL_law_1037 (v := 4) (by decide) ?_
  refine v_iadd X dL_law_1038 ?_
  refine v_sld X sx (6 * c + 4) (ix_add rfl rfl) (by omega) hL31 dL_law_1039 ?_
  refine v_aload_n X dL_law_1040 3 rfl ?_
  refine v_iload_n X dL_law_1041 0 rfl ?_
  refine v_iconst X dL_law_1042 (v := 5) (by decide) ?_
  refine v_iadd X dL_law_1043 ?_
  refine v_sld X sx (6 * c + 5) (ix_add rfl rfl) (by omega) hL31 dL_law_1044 ?_
  refine v_cVF X (av := [.int (xs (6 * c + 1)), .int (xs (6 * c + 2)), .int (xs (6 * c + 3)), .int (xs (6 * c + 4)), .int (xs (6 * c + 5))]) (st := [.int (op_holds (d, k1, hk1, fo, tape, tp, bits, sz, num) (xs (6 * c + 1)) (xs (6 * c + 2)) (xs (6 * c + 3)) (xs (6 * c + 4)) (xs (6 * c + 5))).1]) (hX_s hq) sL_118 (rf_holds ll g (xs (6 * c + 1)) (xs (6 * c + 2)) (xs (6 * c + 3)) (xs (6 * c + 4)) (xs (6 * c + 5)) mR hI hN) m0 (T := TX8) (N := 19) rfl dL_law_1045 rfl rfl ⟨rfl, rfl⟩ ⟨(Nat.le_of_ble_eq_true rfl), (Nat.le_of_ble_eq_true rfl)⟩ ⟨(show k + 0 + 0 ≤ 667156 by omega), (show n + 0 + 0 ≤ 7100779 by omega)⟩ (Nat.le_of_ble_eq_true rfl) (fun r hh2 q2 hq2 => ?_)
  obtain ⟨rfl, mR2⟩ := q2
  refine v_eqs (st2 := [.int (op_holds (d, k1, hk1, fo, tape, tp, bits, sz, num) (xs (6 * c + 1)) (xs (6 * c + 2)) (xs (6 * c + 3)) (xs (6 * c + 4)) (xs (6 * c + 5))).1, .int (op_holds (d, k1, hk1, fo, tape, tp, bits, sz, num) (xs (6 * c + 1)) (xs (6 * c + 2)) (xs (6 * c + 3)) (xs (6 * c + 4)) (xs (6 * c + 5))).1]) rfl (v_eqh (hS_c hq2) ?_)
  exact v_icmp_eq X dL_law_1048 (tgt := 1404) (by decide) (fun _ => (v_widen (by omega) (by omega) (kk _ _ _ cC2 mR2 (so_holds (xs (6 * c + 1)) (xs (6 * c + 2)) (xs (6 * c + 3)) (xs (6 * c + 4)) (xs (6 * c + 5)) hI hN) (hX_s hq2)))) (fun z => absurd rfl z)
theorem lc_25 {K : KT} {ll : Launch} {g : GT} {k n c L b t N : Nat} {xs : Nat → Int32} {B A : Nat → Nat} {S : OS} {hC hR : Hp} (X : Cx K ll g cL_law RL 4 room_1) (sx : SX K b L xs) (hc : 6 * c + 6 ≤ L) (hL : L ≤ 3072) (cC : CR g hC B S) (mR : MW g hR t A S) (hI : SOk S N) (hN : N + 400 ≤ 204800) (hx : hX hC hR) (hk : k + 5 ≤ 667156) (hn : n + 29 ≤ 7100779) (kk : ∀ (S2 : OS) (hC2 hR2 : Hp), CR g hC2 B S2 → MW g hR2 t A S2 → SOk S2 (N + 400) → hX hC2 hR2 → VJ K (k + 5) (n + 29) (hS hC2 hR2) 1404 [(3, .int (nI (6 * c))), (2, .ref t), (1, .ref (B 0)), (0, .ref b)] []) : VJ K k n (hS hC hR) 1053 [(3, .int (nI (6 * c))), (2, .ref t), (1, .ref (B 0)), (0, .ref b)] [] := by
  obtain ⟨d, k1, hk1, fo, tape, tp, bits, sz, num⟩ := S
  obtain ⟨_, cX, _⟩ := id cC
  obtain ⟨_, _, _, _, _, _, _, _, _, _, m0, _⟩ := id mR
  have hL31 : L < 2 ^ 31 := by omega
  refine v_aload_n X dL_law_1053 2 rfl ?_
  refine v_aload_n X dL_law_1054 3 rfl ?_
  refine v_iload_n X dL_law_1055 0 rfl ?_
  refine v_iconst X dL_law_1056 (v := 1) (by decide) ?_
  refine v_iadd X dL_law_1057 ?_
  refine v_sld X sx (6 * c + 1) (ix_add rfl rfl) (by omega) hL31 dL_law_1058 ?_
  refine v_aload_n X dL_law_1059 3 rfl ?_
  refine v_iload_n X dL_law_1060 0 rfl ?_
  refine v_iconst X dL_law_1061 (v := 2) (by decide) ?_
  refine v_iadd X dL_law_1062 ?_
  refine v_sld X sx (6 * c + 2) (ix_add rfl rfl) (by omega) hL31 dL_law_1063 ?_
  refine v_aload_n X dL_law_1064 3 rfl ?_
  refine v_iload_n X dL_law_1065 0 rfl ?_
  refine v_iconst X dL_law_1066 (v := 3) (by decide) ?_
  refine v_iadd X dL_law_1067 ?_
  refine v_sld X sx (6 * c + 3) (ix_add rfl rfl) (by omega) hL31 dL_law_1068 ?_
  refine v_cVF X (av := [.int (xs (6 * c + 1)), .int (xs (6 * c + 2)), .int (xs (6 * c + 3))]) (st := []) hx sL_119 (ct_X7_sheet ll g (xs (6 * c + 1)) (xs (6 * c + 2)) (xs (6 * c + 3)) cC hI hN) cX (T := TX7) (N := 8) rfl dL_law_1069 rfl rfl ⟨rfl, rfl⟩ ⟨(Nat.le_of_ble_eq_true rfl), (Nat.le_of_ble_eq_true rfl)⟩ ⟨(show k + 0 ≤ 667156 by omega), (show n + 0 ≤ 7100779 by omega)⟩ (Nat.le_of_ble_eq_true rfl) (fun r hh q hq => ?_)
  obtain ⟨rfl, cC2⟩ := q
  refine v_eqs (st2 := [.int (op_sheet (d, k1, hk1, fo, tape, tp, bits, sz, num) (xs (6 * c + 1)) (xs (6 * c + 2)) (xs (6 * c + 3))).1]) rfl (v_eqh (hS_c hq) ?_)
  refine v_aload_n X dL_law_1072 1 rfl ?_
  refine v_aload_n X dL_law_1073 3 rfl ?_
  refine v_iload_n X dL_law_1074 0 rfl ?_
  refine v_iconst X dL_law_1075 (v := 1) (by decide) ?_
  refine v_iadd X dL_law_1076 ?_
  refine v_sld X sx (6 * c + 1) (ix_add rfl rfl) (by omega) hL31 dL_law_1077 ?_
  refine v_aload_n X dL_law_1078 3 rfl ?_
  refine v_iload_n X dL_law_1079 0 rfl ?_
  refine v_iconst X dL_law_1080 (v := 2) (by decide) ?_
  refine v_iadd X dL_law_1081 ?_
  refine v_sld X sx (6 * c + 2) (ix_add rfl rfl) (by omega) hL31 dL_law_1082 ?_
  refine v_aload_n X dL_law_1083 3 rfl ?_
  refine v_iload_n X dL_law_1084 0 rfl ?_
  refine v_iconst X dL_law_1085 (v := 3) (by decide) ?_
  refine v_iadd X dL_law_1086 ?_
  refine v_sld X sx (6 * c + 3) (ix_add rfl rfl) (by omega) hL31 dL_law_1087 ?_
  refine v_cVF X (av := [.int (xs (6 * c + 1)), .int (xs (6 * c + 2)), .int (xs (6 * c + 3))]) (st := [.int (op_sheet (d, k1, hk1, fo, tape, tp, bits, sz, num) (xs (6 * c + 1)) (xs (6 * c + 2)) (xs (6 * c + 3))).1]) (hX_s hq) sL_122 (rf_sheet ll g (xs (6 * c + 1)) (xs (6 * c + 2)) (xs (6 * c + 3)) mR hI hN) m0 (T := TX8) (N := 19) rfl dL_law_1088 rfl rfl ⟨rfl, rfl⟩ ⟨(Nat.le_of_ble_eq_true rfl), (Nat.le_of_ble_eq_true rfl)⟩ ⟨(show k + 0 + 0 ≤ 667156 by omega), (show n + 0 + 0 ≤ 7100779 by omega)⟩ (Nat.le_of_ble_eq_true rfl) (fun r hh2 q2 hq2 => ?_)
  obtain ⟨rfl, mR2⟩ := q2
  refine v_eqs (st2 := [.int (op_sheet (d, k1, hk1, fo, tape, tp, bits, sz, num) (xs (6 * c + 1)) (xs (6 * c + 2)) (xs (6 * c + 3))).1, .int (op_sheet (d, k1, hk1, fo, tape, tp, bits, sz, num) (xs (6 * c + 1)) (xs (6 * c + 2)) (xs (6 * c + 3))).1]) rfl (v_eqh (hS_c hq2) ?_)
  exact v_icmp_eq X dL_law_1091 (tgt := 1404) (by decide) (fun _ => (v_widen (by omega) (by omega) (kk _ _ _ cC2 mR2 (so_sheet (xs (6 * c + 1)) (xs (6 * c + 2)) (xs (6 * c + 3)) hI hN) (hX_s hq2)))) (fun z => absurd rfl z)
theorem lc_26 {K : KT} {ll : Launch} {g : GT} {k n c L b t N : Nat} {xs : Nat → Int32} {B A : Nat → Nat} {S : OS} {hC hR : Hp} (X : Cx K ll g cL_law RL 4 room_1) (sx : SX K b L xs) (hc : 6 * c + 6 ≤ L) (hL : L ≤ 3072) (cC : CR g hC B S) (mR : MW g hR t A S) (hI : SOk S N) (hN : N + 400 ≤ 204800) (hx : hX hC hR) (hk : k + 5 ≤ 667156) (hn : n + 29 ≤ 7100779) (kk : ∀ (S2 : OS) (hC2 hR2 : Hp), CR g hC2 B S2 → MW g hR2 t A S2 → SOk S2 (N + 400) → hX hC2 hR2 → VJ K (k + 5) (n + 29) (hS hC2 hR2) 1404 [(3, .int (nI (6 * c))), (2, .ref t), (1, .ref (B 0)), (0, .ref b)] []) : VJ K k n (hS hC hR) 1096 [(3, .int (nI (6 * c))), (2, .ref t), (1, .ref (B 0)), (0, .ref b)] [] := by
  obtain ⟨d, k1, hk1, fo, tape, tp, bits, sz, num⟩ := S
  obtain ⟨_, cX, _⟩ := id cC
  obtain ⟨_, _, _, _, _, _, _, _, _, _, m0, _⟩ := id mR
  have hL31 : L < 2 ^ 31 := by omega
  refine v_aload_n X dL_law_1096 2 rfl ?_
  refine v_aload_n X dL_law_1097 3 rfl ?_
  refine v_iload_n X dL_law_1098 0 rfl ?_
  refine v_iconst X dL_law_1099 (v := 1) (by decide) ?_
  refine v_iadd X dL_law_1100 ?_
  refine v_sld X sx (6 * c + 1) (ix_add rfl rfl) (by omega) hL31 dL_law_1101 ?_
  refine v_aload_n X dL_law_1102 3 rfl ?_
  refine v_iload_n X dL_law_1103 0 rfl ?_
  refine v_iconst X dL_law_1104 (v := 2) (by decide) ?_
  refine v_iadd X dL_law_1105 ?_
  refine v_sld X sx (6 * c + 2) (ix_add rfl rfl) (by omega) hL31 dL_law_1106 ?_
  refine v_aload_n X dL_law_1107 3 rfl ?_
  refine v_iload_n X dL_law_1108 0 rfl ?_
  refine v_iconst X dL_law_1109 (v := 3) (by decide) ?_
  refine v_iadd X dL_law_1110 ?_
  refine v_sld X sx (6 * c + 3) (ix_add rfl rfl) (by omega) hL31 dL_law_1111 ?_
  refine v_i2l X dL_law_1112 ?_
  refine v_bipush X dL_law_1113 (v := 32) (by decide) ?_
  refine v_lshl X dL_law_1115 ?_
  refine v_aload_n X dL_law_1116 3 rfl ?_
  refine v_iload_n X dL_law_1117 0 rfl ?_
  refine v_iconst X dL_law_1118 (v := 4) (by decide) ?_
  refine v_iadd X dL_law_1119 ?_
  refine v_sld X sx (6 * c + 4) (ix_add rfl rfl) (by omega) hL31 dL_law_1120 ?_
  refine v_i2l X dL_law_1121 ?_
  refine v_ldc2 X dL_law_1122 kL_123 ?_
  refine v_land X dL_law_1125 ?_
  refine v_lor X dL_law_1126 ?_
  refine v_cVF X (av := [.int (xs (6 * c + 1)), .int (xs (6 * c + 2)), .long (((xs (6 * c + 3)).toInt64 <<< ((32 : Int32).toInt64 &&& 63)) ||| ((xs (6 * c + 4)).toInt64 &&& (4294967295 : Int64)))]) (st := []) hx sL_125 (ct_X7_write ll g (xs (6 * c + 1)) (xs (6 * c + 2)) (((xs (6 * c + 3)).toInt64 <<< ((32 : Int32).toInt64 &&& 63)) ||| ((xs (6 * c + 4)).toInt64 &&& (4294967295 : Int64))) cC hI hN) cX (T := TX7) (N := 8) rfl dL_law_1127 rfl rfl ⟨rfl, rfl⟩ ⟨(Nat.le_of_ble_eq_true rfl), (Nat.le_of_ble_eq_true rfl)⟩ ⟨(show k + 0 ≤ 667156 by omega), (show n + 0 ≤ 7100779 by omega)⟩ (Nat.le_of_ble_eq_true rfl) (fun r hh q hq => ?_)
  obtain ⟨rfl, cC2⟩ := q
  refine v_eqs (st2 := [.long (op_write (d, k1, hk1, fo, tape, tp, bits, sz, num) (xs (6 * c + 1)) (xs (6 * c + 2)) (((xs (6 * c + 3)).toInt64 <<< ((32 : Int32).toInt64 &&& 63)) ||| ((xs (6 * c + 4)).toInt64 &&& (4294967295 : Int64)))).1]) rfl (v_eqh (hS_c hq) ?_)
  refine v_aload_n X dL_law_1130 1 rfl ?_
  refine v_aload_n X dL_law_1131 3 rfl ?_
  refine v_iload_n X dL_law_1132 0 rfl ?_
  refine v_iconst X dL_law_1133 (v := 1) (by decide) ?_
  refine v_iadd X dL_law_1134 ?_
  refine v_sld X sx (6 * c + 1) (ix_add rfl rfl) (by omega) hL31 dL_law_1135 ?_
  refine v_aload_n X dL_law_1136 3 rfl ?_
  refine v_iload_n X dL_law_1137 0 rfl ?_
  refine v_iconst X dL_law_1138 (v := 2) (by decide) ?_
  refine v_iadd X dL_law_1139 ?_
  refine v_sld X sx (6 * c + 2) (ix_add rfl rfl) (by omega) hL31 dL_law_1140 ?_
  refine v_aload_n X dL_law_1141 3 rfl ?_
  refine v_iload_n X dL_law_1142 0 rfl ?_
  refine v_iconst X dL_law_1143 (v := 3) (by decide) ?_
  refine v_iadd X dL_law_1144 ?_
  refine v_sld X sx (6 * c + 3) (ix_add rfl rfl) (by omega) hL31 dL_law_1145 ?_
  refine v_i2l X dL_law_1146 ?_
  refine v_bipush X dL_law_1147 (v := 32) (by decide) ?_
  refine v_lshl X dL_law_1149 ?_
  refine v_aload_n X dL_law_1150 3 rfl ?_
  refine v_iload_n X dL_law_1151 0 rfl ?_
  refine v_iconst X dL_law_1152 (v := 4) (by decide) ?_
  refine v_iadd X dL_law_1153 ?_
  refine v_sld X sx (6 * c + 4) (ix_add rfl rfl) (by omega) hL31 dL_law_1154 ?_
  refine v_i2l X dL_law_1155 ?_
  refine v_ldc2 X dL_law_1156 kL_123 ?_
  refine v_land X dL_law_1159 ?_
  refine v_lor X dL_law_1160 ?_
  refine v_cVF X (av := [.int (xs (6 * c + 1)), .int (xs (6 * c + 2)), .long (((xs (6 * c + 3)).toInt64 <<< ((32 : Int32).toInt64 &&& 63)) ||| ((xs (6 * c + 4)).toInt64 &&& (4294967295 : Int64)))]) (st := [.long (op_write (d, k1, hk1, fo, tape, tp, bits, sz, num) (xs (6 * c + 1)) (xs (6 * c + 2)) (((xs (6 * c + 3)).toInt64 <<< ((32 : Int32).toInt64 &&& 63)) ||| ((xs (6 * c + 4)).toInt64 &&& (4294967295 : Int64)))).1]) (hX_s hq) sL_129 (rf_write ll g (xs (6 * c + 1)) (xs (6 * c + 2)) (((xs (6 * c + 3)).toInt64 <<< ((32 : Int32).toInt64 &&& 63)) ||| ((xs (6 * c + 4)).toInt64 &&& (4294967295 : Int64))) mR hI hN) m0 (T := TX8) (N := 19) rfl dL_law_1161 rfl rfl ⟨rfl, rfl⟩ ⟨(Nat.le_of_ble_eq_true rfl), (Nat.le_of_ble_eq_true rfl)⟩ ⟨(show k + 0 + 0 ≤ 667156 by omega), (show n + 0 + 0 ≤ 7100779 by omega)⟩ (Nat.le_of_ble_eq_true rfl) (fun r hh2 q2 hq2 => ?_)
  obtain ⟨rfl, mR2⟩ := q2
  refine v_eqs (st2 := [.long (op_write (d, k1, hk1, fo, tape, tp, bits, sz, num) (xs (6 * c + 1)) (xs (6 * c + 2)) (((xs (6 * c + 3)).toInt64 <<< ((32 : Int32).toInt64 &&& 63)) ||| ((xs (6 * c + 4)).toInt64 &&& (4294967295 : Int64)))).1, .long (op_write (d, k1, hk1, fo, tape, tp, bits, sz, num) (xs (6 * c + 1)) (xs (6 * c + 2)) (((xs (6 * c + 3)).toInt64 <<< ((32 : Int32).toInt64 &&& 63)) ||| ((xs (6 * c + 4)).toInt64 &&& (4294967295 : Int64)))).1]) rfl (v_eqh (hS_c hq2) ?_)
  refine v_lcmp X dL_law_1164 ?_
  exact v_if_eq X dL_law_1165 (tgt := 1404) (by decide) (fun _ => (v_widen (by omega) (by omega) (kk _ _ _ cC2 mR2 (so_write (xs (6 * c + 1)) (xs (6 * c + 2)) (((xs (6 * c + 3)).toInt64 <<< ((32 : Int32).toInt64 &&& 63)) ||| ((xs (6 * c + 4)).toInt64 &&& (4294967295 : Int64))) hI hN) (hX_s hq2)))) (fun z => absurd (lcmp_0.mpr rfl) z)
theorem lc_27 {K : KT} {ll : Launch} {g : GT} {k n c L b t N : Nat} {xs : Nat → Int32} {B A : Nat → Nat} {S : OS} {hC hR : Hp} (X : Cx K ll g cL_law RL 4 room_1) (sx : SX K b L xs) (hc : 6 * c + 6 ≤ L) (hL : L ≤ 3072) (cC : CR g hC B S) (mR : MW g hR t A S) (hI : SOk S N) (hN : N + 400 ≤ 204800) (hx : hX hC hR) (hk : k + 5 ≤ 667156) (hn : n + 29 ≤ 7100779) (kk : ∀ (S2 : OS) (hC2 hR2 : Hp), CR g hC2 B S2 → MW g hR2 t A S2 → SOk S2 (N + 400) → hX hC2 hR2 → VJ K (k + 5) (n + 29) (hS hC2 hR2) 1404 [(3, .int (nI (6 * c))), (2, .ref t), (1, .ref (B 0)), (0, .ref b)] []) : VJ K k n (hS hC hR) 1170 [(3, .int (nI (6 * c))), (2, .ref t), (1, .ref (B 0)), (0, .ref b)] [] := by
  obtain ⟨d, k1, hk1, fo, tape, tp, bits, sz, num⟩ := S
  obtain ⟨_, cX, _⟩ := id cC
  obtain ⟨_, _, _, _, _, _, _, _, _, _, m0, _⟩ := id mR
  have hL31 : L < 2 ^ 31 := by omega
  refine v_aload_n X dL_law_1170 2 rfl ?_
  refine v_aload_n X dL_law_1171 3 rfl ?_
  refine v_iload_n X dL_law_1172 0 rfl ?_
  refine v_iconst X dL_law_1173 (v := 1) (by decide) ?_
  refine v_iadd X dL_law_1174 ?_
  refine v_sld X sx (6 * c + 1) (ix_add rfl rfl) (by omega) hL31 dL_law_1175 ?_
  refine v_aload_n X dL_law_1176 3 rfl ?_
  refine v_iload_n X dL_law_1177 0 rfl ?_
  refine v_iconst X dL_law_1178 (v := 2) (by decide) ?_
  refine v_iadd X dL_law_1179 ?_
  refine v_sld X sx (6 * c + 2) (ix_add rfl rfl) (by omega) hL31 dL_law_1180 ?_
  refine v_aload_n X dL_law_1181 3 rfl ?_
  refine v_iload_n X dL_law_1182 0 rfl ?_
  refine v_iconst X dL_law_1183 (v := 3) (by decide) ?_
  refine v_iadd X dL_law_1184 ?_
  refine v_sld X sx (6 * c + 3) (ix_add rfl rfl) (by omega) hL31 dL_law_1185 ?_
  refine v_aload_n X dL_law_1186 3 rfl ?_
  refine v_iload_n X dL_law_1187 0 rfl ?_
  refine v_iconst X dL_law_1188 (v := 4) (by decide) ?_
  refine v_iadd X dL_law_1189 ?_
  refine v_sld X sx (6 * c + 4) (ix_add rfl rfl) (by omega) hL31 dL_law_1190 ?_
  refine v_aload_n X dL_law_1191 3 rfl ?_
  refine v_iload_n X dL_law_1192 0 rfl ?_
  refine v_iconst X dL_law_1193 (v := 5) (by decide) ?_
  refine v_iadd X dL_law_1194 ?_
  refine v_sld X sx (6 * c + 5) (ix_add rfl rfl) (by omega) hL31 dL_law_1195 ?_
  refine v_cVF X (av := [.int (xs (6 * c + 1)), .int (xs (6 * c + 2)), .int (xs (6 * c + 3)), .int (xs (6 * c + 4)), .int (xs (6 * c + 5))]) (st := []) hx sL_130 (ct_X7_copy ll g (xs (6 * c + 1)) (xs (6 * c + 2)) (xs (6 * c + 3)) (xs (6 * c + 4)) (xs (6 * c + 5)) cC hI hN) cX (T := TX7) (N := 8) rfl dL_law_1196 rfl rfl ⟨rfl, rfl⟩ ⟨(Nat.le_of_ble_eq_true rfl), (Nat.le_of_ble_eq_true rfl)⟩ ⟨(show k + 0 ≤ 667156 by omega), (show n + 0 ≤ 7100779 by omega)⟩ (Nat.le_of_ble_eq_true rfl) (fun r hh q hq => ?_)
  obtain ⟨rfl, cC2⟩ := q
  refine v_eqs (st2 := [.int (op_copy (d, k1, hk1, fo, tape, tp, bits, sz, num) (xs (6 * c + 1)) (xs (6 * c + 2)) (xs (6 * c + 3)) (xs (6 * c + 4)) (xs (6 * c + 5))).1]) rfl (v_eqh (hS_c hq) ?_)
  refine v_aload_n X dL_law_1199 1 rfl ?_
  refine v_aload_n X dL_law_1200 3 rfl ?_
  refine v_iload_n X dL_law_1201 0 rfl ?_
  refine v_iconst X dL_law_1202 (v := 1) (by decide) ?_
  refine v_iadd X dL_law_1203 ?_
  refine v_sld X sx (6 * c + 1) (ix_add rfl rfl) (by omega) hL31 dL_law_1204 ?_
  refine v_aload_n X dL_law_1205 3 rfl ?_
  refine v_iload_n X dL_law_1206 0 rfl ?_
  refine v_iconst X dL_law_1207 (v := 2) (by decide) ?_
  refine v_iadd X dL_law_1208 ?_
  refine v_sld X sx (6 * c + 2) (ix_add rfl rfl) (by omega) hL31 dL_law_1209 ?_
  refine v_aload_n X dL_law_1210 3 rfl ?_
  refine v_iload_n X dL_law_1211 0 rfl ?_
  refine v_iconst X dL_law_1212 (v := 3) (by decide) ?_
  refine v_iadd X dL_law_1213 ?_
  refine v_sld X sx (6 * c + 3) (ix_add rfl rfl) (by omega) hL31 dL_law_1214 ?_
  refine v_aload_n X dL_law_1215 3 rfl ?_
  refine v_iload_n X dL_law_1216 0 rfl ?_
  refine v_iconst X dL_law_1217 (v := 4) (by decide) ?_
  refine v_iadd X dL_law_1218 ?_
  refine v_sld X sx (6 * c + 4) (ix_add rfl rfl) (by omega) hL31 dL_law_1219 ?_
  refine v_aload_n X dL_law_1220 3 rfl ?_
  refine v_iload_n X dL_law_1221 0 rfl ?_
  refine v_iconst X dL_law_1222 (v := 5) (by decide) ?_
  refine v_iadd X dL_law_1223 ?_
  refine v_sld X sx (6 * c + 5) (ix_add rfl rfl) (by omega) hL31 dL_law_1224 ?_
  refine v_cVF X (av := [.int (xs (6 * c + 1)), .int (xs (6 * c + 2)), .int (xs (6 * c + 3)), .int (xs (6 * c + 4)), .int (xs (6 * c + 5))]) (st := [.int (op_copy (d, k1, hk1, fo, tape, tp, bits, sz, num) (xs (6 * c + 1)) (xs (6 * c + 2)) (xs (6 * c + 3)) (xs (6 * c + 4)) (xs (6 * c + 5))).1]) (hX_s hq) sL_133 (rf_copy ll g (xs (6 * c + 1)) (xs (6 * c + 2)) (xs (6 * c + 3)) (xs (6 * c + 4)) (xs (6 * c + 5)) mR hI hN) m0 (T := TX8) (N := 19) rfl dL_law_1225 rfl rfl ⟨rfl, rfl⟩ ⟨(Nat.le_of_ble_eq_true rfl), (Nat.le_of_ble_eq_true rfl)⟩ ⟨(show k + 0 + 0 ≤ 667156 by omega), (show n + 0 + 0 ≤ 7100779 by omega)⟩ (Nat.le_of_ble_eq_true rfl) (fun r hh2 q2 hq2 => ?_)
  obtain ⟨rfl, mR2⟩ := q2
  refine v_eqs (st2 := [.int (op_copy (d, k1, hk1, fo, tape, tp, bits, sz, num) (xs (6 * c + 1)) (xs (6 * c + 2)) (xs (6 * c + 3)) (xs (6 * c + 4)) (xs (6 * c + 5))).1, .int (op_copy (d, k1, hk1, fo, tape, tp, bits, sz, num) (xs (6 * c + 1)) (xs (6 * c + 2)) (xs (6 * c + 3)) (xs (6 * c + 4)) (xs (6 * c + 5))).1]) rfl (v_eqh (hS_c hq2) ?_)
  exact v_icmp_eq X dL_law_1228 (tgt := 1404) (by decide) (fun _ => (v_widen (by omega) (by omega) (kk _ _ _ cC2 mR2 (so_copy (xs (6 * c + 1)) (xs (6 * c + 2)) (xs (6 * c + 3)) (xs (6 * c + 4)) (xs (6 * c + 5)) hI hN) (hX_s hq2)))) (fun z => absurd rfl z)
theorem lc_28 {K : KT} {ll : Launch} {g : GT} {k n c L b t N : Nat} {xs : Nat → Int32} {B A : Nat → Nat} {S : OS} {hC hR : Hp} (X : Cx K ll g cL_law RL 4 room_1) (sx : SX K b L xs) (hc : 6 * c + 6 ≤ L) (hL : L ≤ 3072) (cC : CR g hC B S) (mR : MW g hR t A S) (hI : SOk S N) (hN : N + 400 ≤ 204800) (hx : hX hC hR) (hk : k + 5 ≤ 667156) (hn : n + 29 ≤ 7100779) (kk : ∀ (S2 : OS) (hC2 hR2 : Hp), CR g hC2 B S2 → MW g hR2 t A S2 → SOk S2 (N + 400) → hX hC2 hR2 → VJ K (k + 5) (n + 29) (hS hC2 hR2) 1404 [(3, .int (nI (6 * c))), (2, .ref t), (1, .ref (B 0)), (0, .ref b)] []) : VJ K k n (hS hC hR) 1233 [(3, .int (nI (6 * c))), (2, .ref t), (1, .ref (B 0)), (0, .ref b)] [] := by
  obtain ⟨d, k1, hk1, fo, tape, tp, bits, sz, num⟩ := S
  obtain ⟨_, cX, _⟩ := id cC
  obtain ⟨_, _, _, _, _, _, _, _, _, _, m0, _⟩ := id mR
  have hL31 : L < 2 ^ 31 := by omega
  refine v_aload_n X dL_law_1233 2 rfl ?_
  refine v_aload_n X dL_law_1234 3 rfl ?_
  refine v_iload_n X dL_law_1235 0 rfl ?_
  refine v_iconst X dL_law_1236 (v := 1) (by decide) ?_
  refine v_iadd X dL_law_1237 ?_
  refine v_sld X sx (6 * c + 1) (ix_add rfl rfl) (by omega) hL31 dL_law_1238 ?_
  refine v_aload_n X dL_law_1239 3 rfl ?_
  refine v_iload_n X dL_law_1240 0 rfl ?_
  refine v_iconst X dL_law_1241 (v := 2) (by decide) ?_
  refine v_iadd X dL_law_1242 ?_
  refine v_sld X sx (6 * c + 2) (ix_add rfl rfl) (by omega) hL31 dL_law_1243 ?_
  refine v_aload_n X dL_law_1244 3 rfl ?_
  refine v_iload_n X dL_law_1245 0 rfl ?_
  refine v_iconst X dL_law_1246 (v := 3) (by decide) ?_
  refine v_iadd X dL_law_1247 ?_
  refine v_sld X sx (6 * c + 3) (ix_add rfl rfl) (by omega) hL31 dL_law_1248 ?_
  refine v_cVF X (av := [.int (xs (6 * c + 1)), .int (xs (6 * c + 2)), .int (xs (6 * c + 3))]) (st := []) hx sL_134 (ct_X7_film ll g (xs (6 * c + 1)) (xs (6 * c + 2)) (xs (6 * c + 3)) cC hI hN) cX (T := TX7) (N := 8) rfl dL_law_1249 rfl rfl ⟨rfl, rfl⟩ ⟨(Nat.le_of_ble_eq_true rfl), (Nat.le_of_ble_eq_true rfl)⟩ ⟨(show k + 0 ≤ 667156 by omega), (show n + 0 ≤ 7100779 by omega)⟩ (Nat.le_of_ble_eq_true rfl) (fun r hh q hq => ?_)
  obtain ⟨rfl, cC2⟩ := q
  refine v_eqs (st2 := [.int (op_film (d, k1, hk1, fo, tape, tp, bits, sz, num) (xs (6 * c + 1)) (xs (6 * c + 2)) (xs (6 * c + 3))).1]) rfl (v_eqh (hS_c hq) ?_)
  refine v_aload_n X dL_law_1252 1 rfl ?_
  refine v_aload_n X dL_law_1253 3 rfl ?_
  refine v_iload_n X dL_law_1254 0 rfl ?_
  refine v_iconst X dL_law_1255 (v := 1) (by decide) ?_
  refine v_iadd X dL_law_1256 ?_
  refine v_sld X sx (6 * c + 1) (ix_add rfl rfl) (by omega) hL31 dL_law_1257 ?_
  refine v_aload_n X dL_law_1258 3 rfl ?_
  refine v_iload_n X dL_law_1259 0 rfl ?_
  refine v_iconst X dL_law_1260 (v := 2) (by decide) ?_
  refine v_iadd X dL_law_1261 ?_
  refine v_sld X sx (6 * c + 2) (ix_add rfl rfl) (by omega) hL31 dL_law_1262 ?_
  refine v_aload_n X dL_law_1263 3 rfl ?_
  refine v_iload_n X dL_law_1264 0 rfl ?_
  refine v_iconst X dL_law_1265 (v := 3) (by decide) ?_
  refine v_iadd X dL_law_1266 ?_
  refine v_sld X sx (6 * c + 3) (ix_add rfl rfl) (by omega) hL31 dL_law_1267 ?_
  refine v_cVF X (av := [.int (xs (6 * c + 1)), .int (xs (6 * c + 2)), .int (xs (6 * c + 3))]) (st := [.int (op_film (d, k1, hk1, fo, tape, tp, bits, sz, num) (xs (6 * c + 1)) (xs (6 * c + 2)) (xs (6 * c + 3))).1]) (hX_s hq) sL_137 (rf_film ll g (xs (6 * c + 1)) (xs (6 * c + 2)) (xs (6 * c + 3)) mR hI hN) m0 (T := TX8) (N := 19) rfl dL_law_1268 rfl rfl ⟨rfl, rfl⟩ ⟨(Nat.le_of_ble_eq_true rfl), (Nat.le_of_ble_eq_true rfl)⟩ ⟨(show k + 0 + 0 ≤ 667156 by omega), (show n + 0 + 0 ≤ 7100779 by omega)⟩ (Nat.le_of_ble_eq_true rfl) (fun r hh2 q2 hq2 => ?_)
  obtain ⟨rfl, mR2⟩ := q2
  refine v_eqs (st2 := [.int (op_film (d, k1, hk1, fo, tape, tp, bits, sz, num) (xs (6 * c + 1)) (xs (6 * c + 2)) (xs (6 * c + 3))).1, .int (op_film (d, k1, hk1, fo, tape, tp, bits, sz, num) (xs (6 * c + 1)) (xs (6 * c + 2)) (xs (6 * c + 3))).1]) rfl (v_eqh (hS_c hq2) ?_)
  exact v_icmp_eq X dL_law_1271 (tgt := 1404) (by decide) (fun _ => (v_widen (by omega) (by omega) (kk _ _ _ cC2 mR2 (so_film (xs (6 * c + 1)) (xs (6 * c + 2)) (xs (6 * c + 3)) hI hN) (hX_s hq2)))) (fun z => absurd rfl z)
theorem lc_29 {K : KT} {ll : Launch} {g : GT} {k n c L b t N : Nat} {xs : Nat → Int32} {B A : Nat → Nat} {S : OS} {hC hR : Hp} (X : Cx K ll g cL_law RL 4 room_1) (sx : SX K b L xs) (hc : 6 * c + 6 ≤ L) (hL : L ≤ 3072) (cC : CR g hC B S) (mR : MW g hR t A S) (hI : SOk S N) (hN : N + 400 ≤ 204800) (hx : hX hC hR) (hk : k + 5 ≤ 667156) (hn : n + 29 ≤ 7100779) (kk : ∀ (S2 : OS) (hC2 hR2 : Hp), CR g hC2 B S2 → MW g hR2 t A S2 → SOk S2 (N + 400) → hX hC2 hR2 → VJ K (k + 5) (n + 29) (hS hC2 hR2) 1404 [(3, .int (nI (6 * c))), (2, .ref t), (1, .ref (B 0)), (0, .ref b)] []) : VJ K k n (hS hC hR) 1276 [(3, .int (nI (6 * c))), (2, .ref t), (1, .ref (B 0)), (0, .ref b)] [] := by
  obtain ⟨d, k1, hk1, fo, tape, tp, bits, sz, num⟩ := S
  obtain ⟨_, cX, _⟩ := id cC
  obtain ⟨_, _, _, _, _, _, _, _, _, _, m0, _⟩ := id mR
  have hL31 : L < 2 ^ 31 := by omega
  refine v_aload_n X dL_law_1276 2 rfl ?_
  refine v_aload_n X dL_law_1277 3 rfl ?_
  refine v_iload_n X dL_law_1278 0 rfl ?_
  refine v_iconst X dL_law_1279 (v := 1) (by decide) ?_
  refine v_iadd X dL_law_1280 ?_
  refine v_sld X sx (6 * c + 1) (ix_add rfl rfl) (by omega) hL31 dL_law_1281 ?_
  refine v_aload_n X dL_law_1282 3 rfl ?_
  refine v_iload_n X dL_law_1283 0 rfl ?_
  refine v_iconst X dL_law_1284 (v := 2) (by decide) ?_
  refine v_iadd X dL_law_1285 ?_
  refine v_sld X sx (6 * c + 2) (ix_add rfl rfl) (by omega) hL31 dL_law_1286 ?_
  refine v_aload_n X dL_law_1287 3 rfl ?_
  refine v_iload_n X dL_law_1288 0 rfl ?_
  refine v_iconst X dL_law_1289 (v := 3) (by decide) ?_
  refine v_iadd X dL_law_1290 ?_
  refine v_sld X sx (6 * c + 3) (ix_add rfl rfl) (by omega) hL31 dL_law_1291 ?_
  refine v_cVF X (av := [.int (xs (6 * c + 1)), .int (xs (6 * c + 2)), .int (xs (6 * c + 3))]) (st := []) hx sL_138 (ct_X7_read ll g (xs (6 * c + 1)) (xs (6 * c + 2)) (xs (6 * c + 3)) cC hI hN) cX (T := TX7) (N := 8) rfl dL_law_1292 rfl rfl ⟨rfl, rfl⟩ ⟨(Nat.le_of_ble_eq_true rfl), (Nat.le_of_ble_eq_true rfl)⟩ ⟨(show k + 0 ≤ 667156 by omega), (show n + 0 ≤ 7100779 by omega)⟩ (Nat.le_of_ble_eq_true rfl) (fun r hh q hq => ?_)
  obtain ⟨rfl, cC2⟩ := q
  refine v_eqs (st2 := [.int (op_read (d, k1, hk1, fo, tape, tp, bits, sz, num) (xs (6 * c + 1)) (xs (6 * c + 2)) (xs (6 * c + 3))).1]) rfl (v_eqh (hS_c hq) ?_)
  refine v_aload_n X dL_law_1295 1 rfl ?_
  refine v_aload_n X dL_law_1296 3 rfl ?_
  refine v_iload_n X dL_law_1297 0 rfl ?_
  refine v_iconst X dL_law_1298 (v := 1) (by decide) ?_
  refine v_iadd X dL_law_1299 ?_
  refine v_sld X sx (6 * c + 1) (ix_add rfl rfl) (by omega) hL31 dL_law_1300 ?_
  refine v_aload_n X dL_law_1301 3 rfl ?_
  refine v_iload_n X dL_law_1302 0 rfl ?_
  refine v_iconst X dL_law_1303 (v := 2) (by decide) ?_
  refine v_iadd X dL_law_1304 ?_
  refine v_sld X sx (6 * c + 2) (ix_add rfl rfl) (by omega) hL31 dL_law_1305 ?_
  refine v_aload_n X dL_law_1306 3 rfl ?_
  refine v_iload_n X dL_law_1307 0 rfl ?_
  refine v_iconst X dL_law_1308 (v := 3) (by decide) ?_
  refine v_iadd X dL_law_1309 ?_
  refine v_sld X sx (6 * c + 3) (ix_add rfl rfl) (by omega) hL31 dL_law_1310 ?_
  refine v_cVF X (av := [.int (xs (6 * c + 1)), .int (xs (6 * c + 2)), .int (xs (6 * c + 3))]) (st := [.int (op_read (d, k1, hk1, fo, tape, tp, bits, sz, num) (xs (6 * c + 1)) (xs (6 * c + 2)) (xs (6 * c + 3))).1]) (hX_s hq) sL_141 (rf_read ll g (xs (6 * c + 1)) (xs (6 * c + 2)) (xs (6 * c + 3)) mR hI hN) m0 (T := TX8) (N := 19) rfl dL_law_1311 rfl rfl ⟨rfl, rfl⟩ ⟨(Nat.le_of_ble_eq_true rfl), (Nat.le_of_ble_eq_true rfl)⟩ ⟨(show k + 0 + 0 ≤ 667156 by omega), (show n + 0 + 0 ≤ 7100779 by omega)⟩ (Nat.le_of_ble_eq_true rfl) (fun r hh2 q2 hq2 => ?_)
  obtain ⟨rfl, mR2⟩ := q2
  refine v_eqs (st2 := [.int (op_read (d, k1, hk1, fo, tape, tp, bits, sz, num) (xs (6 * c + 1)) (xs (6 * c + 2)) (xs (6 * c + 3))).1, .int (op_read (d, k1, hk1, fo, tape, tp, bits, sz, num) (xs (6 * c + 1)) (xs (6 * c + 2)) (xs (6 * c + 3))).1]) rfl (v_eqh (hS_c hq2) ?_)
  exact v_icmp_eq X dL_law_1314 (tgt := 1404) (by decide) (fun _ => (v_widen (by omega) (by omega) (kk _ _ _ cC2 mR2 (so_read (xs (6 * c + 1)) (xs (6 * c + 2)) (xs (6 * c + 3)) hI hN) (hX_s hq2)))) (fun z => absurd rfl z)
theorem lc_30 {K : KT} {ll : Launch} {g : GT} {k n c L b t N : Nat} {xs : Nat → Int32} {B A : Nat → Nat} {S : OS} {hC hR : Hp} (X : Cx K ll g cL_law RL 4 room_1) (sx : SX K b L xs) (hc : 6 * c + 6 ≤ L) (hL : L ≤ 3072) (cC : CR g hC B S) (mR : MW g hR t A S) (hI : SOk S N) (hN : N + 400 ≤ 204800) (hx : hX hC hR) (hk : k + 5 ≤ 667156) (hn : n + 29 ≤ 7100779) (kk : ∀ (S2 : OS) (hC2 hR2 : Hp), CR g hC2 B S2 → MW g hR2 t A S2 → SOk S2 (N + 400) → hX hC2 hR2 → VJ K (k + 5) (n + 29) (hS hC2 hR2) 1404 [(3, .int (nI (6 * c))), (2, .ref t), (1, .ref (B 0)), (0, .ref b)] []) : VJ K k n (hS hC hR) 1319 [(3, .int (nI (6 * c))), (2, .ref t), (1, .ref (B 0)), (0, .ref b)] [] := by
  obtain ⟨d, k1, hk1, fo, tape, tp, bits, sz, num⟩ := S
  obtain ⟨_, cX, _⟩ := id cC
  obtain ⟨_, _, _, _, _, _, _, _, _, _, m0, _⟩ := id mR
  have hL31 : L < 2 ^ 31 := by omega
  refine v_aload_n X dL_law_1319 2 rfl ?_
  refine v_cVF X (av := []) (st := []) hx sL_142 (ct_X7_image ll g  cC hI hN) cX (T := TX7) (N := 8) rfl dL_law_1320 rfl rfl ⟨rfl, rfl⟩ ⟨(Nat.le_of_ble_eq_true rfl), (Nat.le_of_ble_eq_true rfl)⟩ ⟨(show k + 0 ≤ 667156 by omega), (show n + 0 ≤ 7100779 by omega)⟩ (Nat.le_of_ble_eq_true rfl) (fun r hh q hq => ?_)
  obtain ⟨rfl, cC2⟩ := q
  refine v_eqs (st2 := [.int (op_image (d, k1, hk1, fo, tape, tp, bits, sz, num)).1]) rfl (v_eqh (hS_c hq) ?_)
  refine v_aload_n X dL_law_1323 1 rfl ?_
  refine v_cVF X (av := []) (st := [.int (op_image (d, k1, hk1, fo, tape, tp, bits, sz, num)).1]) (hX_s hq) sL_145 (rf_image ll g  mR hI hN) m0 (T := TX8) (N := 19) rfl dL_law_1324 rfl rfl ⟨rfl, rfl⟩ ⟨(Nat.le_of_ble_eq_true rfl), (Nat.le_of_ble_eq_true rfl)⟩ ⟨(show k + 0 + 0 ≤ 667156 by omega), (show n + 0 + 0 ≤ 7100779 by omega)⟩ (Nat.le_of_ble_eq_true rfl) (fun r hh2 q2 hq2 => ?_)
  obtain ⟨rfl, mR2⟩ := q2
  refine v_eqs (st2 := [.int (op_image (d, k1, hk1, fo, tape, tp, bits, sz, num)).1, .int (op_image (d, k1, hk1, fo, tape, tp, bits, sz, num)).1]) rfl (v_eqh (hS_c hq2) ?_)
  exact v_icmp_eq X dL_law_1327 (tgt := 1404) (by decide) (fun _ => (v_widen (by omega) (by omega) (kk _ _ _ cC2 mR2 (so_image  hI hN) (hX_s hq2)))) (fun z => absurd rfl z)
theorem lc_31 {K : KT} {ll : Launch} {g : GT} {k n c L b t N : Nat} {xs : Nat → Int32} {B A : Nat → Nat} {S : OS} {hC hR : Hp} (X : Cx K ll g cL_law RL 4 room_1) (sx : SX K b L xs) (hc : 6 * c + 6 ≤ L) (hL : L ≤ 3072) (cC : CR g hC B S) (mR : MW g hR t A S) (hI : SOk S N) (hN : N + 400 ≤ 204800) (hx : hX hC hR) (hk : k + 5 ≤ 667156) (hn : n + 29 ≤ 7100779) (kk : ∀ (S2 : OS) (hC2 hR2 : Hp), CR g hC2 B S2 → MW g hR2 t A S2 → SOk S2 (N + 400) → hX hC2 hR2 → VJ K (k + 5) (n + 29) (hS hC2 hR2) 1404 [(3, .int (nI (6 * c))), (2, .ref t), (1, .ref (B 0)), (0, .ref b)] []) : VJ K k n (hS hC hR) 1332 [(3, .int (nI (6 * c))), (2, .ref t), (1, .ref (B 0)), (0, .ref b)] [] := by
  obtain ⟨d, k1, hk1, fo, tape, tp, bits, sz, num⟩ := S
  obtain ⟨_, cX, _⟩ := id cC
  obtain ⟨_, _, _, _, _, _, _, _, _, _, m0, _⟩ := id mR
  have hL31 : L < 2 ^ 31 := by omega
  refine v_aload_n X dL_law_1332 2 rfl ?_
  refine v_cVF X (av := []) (st := []) hx sL_146 (ct_X7_undo ll g  cC hI hN) cX (T := TX7) (N := 8) rfl dL_law_1333 rfl rfl ⟨rfl, rfl⟩ ⟨(Nat.le_of_ble_eq_true rfl), (Nat.le_of_ble_eq_true rfl)⟩ ⟨(show k + 0 ≤ 667156 by omega), (show n + 0 ≤ 7100779 by omega)⟩ (Nat.le_of_ble_eq_true rfl) (fun r hh q hq => ?_)
  obtain ⟨rfl, cC2⟩ := q
  refine v_eqs (st2 := [.int (op_undo (d, k1, hk1, fo, tape, tp, bits, sz, num)).1]) rfl (v_eqh (hS_c hq) ?_)
  refine v_aload_n X dL_law_1336 1 rfl ?_
  refine v_cVF X (av := []) (st := [.int (op_undo (d, k1, hk1, fo, tape, tp, bits, sz, num)).1]) (hX_s hq) sL_149 (rf_undo ll g  mR hI hN) m0 (T := TX8) (N := 19) rfl dL_law_1337 rfl rfl ⟨rfl, rfl⟩ ⟨(Nat.le_of_ble_eq_true rfl), (Nat.le_of_ble_eq_true rfl)⟩ ⟨(show k + 0 + 0 ≤ 667156 by omega), (show n + 0 + 0 ≤ 7100779 by omega)⟩ (Nat.le_of_ble_eq_true rfl) (fun r hh2 q2 hq2 => ?_)
  obtain ⟨rfl, mR2⟩ := q2
  refine v_eqs (st2 := [.int (op_undo (d, k1, hk1, fo, tape, tp, bits, sz, num)).1, .int (op_undo (d, k1, hk1, fo, tape, tp, bits, sz, num)).1]) rfl (v_eqh (hS_c hq2) ?_)
  exact v_icmp_eq X dL_law_1340 (tgt := 1404) (by decide) (fun _ => (v_widen (by omega) (by omega) (kk _ _ _ cC2 mR2 (so_undo  hI hN) (hX_s hq2)))) (fun z => absurd rfl z)
theorem lc_32 {K : KT} {ll : Launch} {g : GT} {k n c L b t N : Nat} {xs : Nat → Int32} {B A : Nat → Nat} {S : OS} {hC hR : Hp} (X : Cx K ll g cL_law RL 4 room_1) (sx : SX K b L xs) (hc : 6 * c + 6 ≤ L) (hL : L ≤ 3072) (cC : CR g hC B S) (mR : MW g hR t A S) (hI : SOk S N) (hN : N + 400 ≤ 204800) (hx : hX hC hR) (hk : k + 5 ≤ 667156) (hn : n + 29 ≤ 7100779) (kk : ∀ (S2 : OS) (hC2 hR2 : Hp), CR g hC2 B S2 → MW g hR2 t A S2 → SOk S2 (N + 400) → hX hC2 hR2 → VJ K (k + 5) (n + 29) (hS hC2 hR2) 1404 [(3, .int (nI (6 * c))), (2, .ref t), (1, .ref (B 0)), (0, .ref b)] []) : VJ K k n (hS hC hR) 1345 [(3, .int (nI (6 * c))), (2, .ref t), (1, .ref (B 0)), (0, .ref b)] [] := by
  obtain ⟨d, k1, hk1, fo, tape, tp, bits, sz, num⟩ := S
  obtain ⟨_, cX, _⟩ := id cC
  obtain ⟨_, _, _, _, _, _, _, _, _, _, m0, _⟩ := id mR
  have hL31 : L < 2 ^ 31 := by omega
  refine v_aload_n X dL_law_1345 2 rfl ?_
  refine v_cVF X (av := []) (st := []) hx sL_150 (ct_X7_tear ll g  cC hI hN) cX (T := TX7) (N := 8) rfl dL_law_1346 rfl rfl ⟨rfl, rfl⟩ ⟨(Nat.le_of_ble_eq_true rfl), (Nat.le_of_ble_eq_true rfl)⟩ ⟨(show k + 0 ≤ 667156 by omega), (show n + 0 ≤ 7100779 by omega)⟩ (Nat.le_of_ble_eq_true rfl) (fun r hh q hq => ?_)
  obtain ⟨rfl, cC2⟩ := q
  refine v_eqs (st2 := [.int (op_tear (d, k1, hk1, fo, tape, tp, bits, sz, num)).1]) rfl (v_eqh (hS_c hq) ?_)
  refine v_aload_n X dL_law_1349 1 rfl ?_
  refine v_cVF X (av := []) (st := [.int (op_tear (d, k1, hk1, fo, tape, tp, bits, sz, num)).1]) (hX_s hq) sL_153 (rf_tear ll g  mR hI hN) m0 (T := TX8) (N := 19) rfl dL_law_1350 rfl rfl ⟨rfl, rfl⟩ ⟨(Nat.le_of_ble_eq_true rfl), (Nat.le_of_ble_eq_true rfl)⟩ ⟨(show k + 0 + 0 ≤ 667156 by omega), (show n + 0 + 0 ≤ 7100779 by omega)⟩ (Nat.le_of_ble_eq_true rfl) (fun r hh2 q2 hq2 => ?_)
  obtain ⟨rfl, mR2⟩ := q2
  refine v_eqs (st2 := [.int (op_tear (d, k1, hk1, fo, tape, tp, bits, sz, num)).1, .int (op_tear (d, k1, hk1, fo, tape, tp, bits, sz, num)).1]) rfl (v_eqh (hS_c hq2) ?_)
  exact v_icmp_eq X dL_law_1353 (tgt := 1404) (by decide) (fun _ => (v_widen (by omega) (by omega) (kk _ _ _ cC2 mR2 (so_tear  hI hN) (hX_s hq2)))) (fun z => absurd rfl z)
theorem lc_33 {K : KT} {ll : Launch} {g : GT} {k n c L b t N : Nat} {xs : Nat → Int32} {B A : Nat → Nat} {S : OS} {hC hR : Hp} (X : Cx K ll g cL_law RL 4 room_1) (sx : SX K b L xs) (hc : 6 * c + 6 ≤ L) (hL : L ≤ 3072) (cC : CR g hC B S) (mR : MW g hR t A S) (hI : SOk S N) (hN : N + 400 ≤ 204800) (hx : hX hC hR) (hk : k + 5 ≤ 667156) (hn : n + 29 ≤ 7100779) (kk : ∀ (S2 : OS) (hC2 hR2 : Hp), CR g hC2 B S2 → MW g hR2 t A S2 → SOk S2 (N + 400) → hX hC2 hR2 → VJ K (k + 5) (n + 29) (hS hC2 hR2) 1404 [(3, .int (nI (6 * c))), (2, .ref t), (1, .ref (B 0)), (0, .ref b)] []) : VJ K k n (hS hC hR) 1358 [(3, .int (nI (6 * c))), (2, .ref t), (1, .ref (B 0)), (0, .ref b)] [] := by
  obtain ⟨d, k1, hk1, fo, tape, tp, bits, sz, num⟩ := S
  obtain ⟨_, cX, _⟩ := id cC
  obtain ⟨_, _, _, _, _, _, _, _, _, _, m0, _⟩ := id mR
  have hL31 : L < 2 ^ 31 := by omega
  refine v_aload_n X dL_law_1358 2 rfl ?_
  refine v_aload_n X dL_law_1359 3 rfl ?_
  refine v_iload_n X dL_law_1360 0 rfl ?_
  refine v_iconst X dL_law_1361 (v := 1) (by decide) ?_
  refine v_iadd X dL_law_1362 ?_
  refine v_sld X sx (6 * c + 1) (ix_add rfl rfl) (by omega) hL31 dL_law_1363 ?_
  refine v_cVF X (av := [.int (xs (6 * c + 1))]) (st := []) hx sL_154 (ct_X7_count ll g (xs (6 * c + 1)) cC hI hN) cX (T := TX7) (N := 8) rfl dL_law_1364 rfl rfl ⟨rfl, rfl⟩ ⟨(Nat.le_of_ble_eq_true rfl), (Nat.le_of_ble_eq_true rfl)⟩ ⟨(show k + 0 ≤ 667156 by omega), (show n + 0 ≤ 7100779 by omega)⟩ (Nat.le_of_ble_eq_true rfl) (fun r hh q hq => ?_)
  obtain ⟨rfl, cC2⟩ := q
  refine v_eqs (st2 := [.int (op_count (d, k1, hk1, fo, tape, tp, bits, sz, num) (xs (6 * c + 1))).1]) rfl (v_eqh (hS_c hq) ?_)
  refine v_aload_n X dL_law_1367 1 rfl ?_
  refine v_aload_n X dL_law_1368 3 rfl ?_
  refine v_iload_n X dL_law_1369 0 rfl ?_
  refine v_iconst X dL_law_1370 (v := 1) (by decide) ?_
  refine v_iadd X dL_law_1371 ?_
  refine v_sld X sx (6 * c + 1) (ix_add rfl rfl) (by omega) hL31 dL_law_1372 ?_
  refine v_cVF X (av := [.int (xs (6 * c + 1))]) (st := [.int (op_count (d, k1, hk1, fo, tape, tp, bits, sz, num) (xs (6 * c + 1))).1]) (hX_s hq) sL_157 (rf_count ll g (xs (6 * c + 1)) mR hI hN) m0 (T := TX8) (N := 19) rfl dL_law_1373 rfl rfl ⟨rfl, rfl⟩ ⟨(Nat.le_of_ble_eq_true rfl), (Nat.le_of_ble_eq_true rfl)⟩ ⟨(show k + 0 + 0 ≤ 667156 by omega), (show n + 0 + 0 ≤ 7100779 by omega)⟩ (Nat.le_of_ble_eq_true rfl) (fun r hh2 q2 hq2 => ?_)
  obtain ⟨rfl, mR2⟩ := q2
  refine v_eqs (st2 := [.int (op_count (d, k1, hk1, fo, tape, tp, bits, sz, num) (xs (6 * c + 1))).1, .int (op_count (d, k1, hk1, fo, tape, tp, bits, sz, num) (xs (6 * c + 1))).1]) rfl (v_eqh (hS_c hq2) ?_)
  exact v_icmp_eq X dL_law_1376 (tgt := 1404) (by decide) (fun _ => (v_widen (by omega) (by omega) (kk _ _ _ cC2 mR2 (so_count (xs (6 * c + 1)) hI hN) (hX_s hq2)))) (fun z => absurd rfl z)
theorem lc_34 {K : KT} {ll : Launch} {g : GT} {k n c L b t N : Nat} {xs : Nat → Int32} {B A : Nat → Nat} {S : OS} {hC hR : Hp} (X : Cx K ll g cL_law RL 4 room_1) (sx : SX K b L xs) (hc : 6 * c + 6 ≤ L) (hL : L ≤ 3072) (cC : CR g hC B S) (mR : MW g hR t A S) (hI : SOk S N) (hN : N + 400 ≤ 204800) (hx : hX hC hR) (hk : k + 5 ≤ 667156) (hn : n + 29 ≤ 7100779) (kk : ∀ (S2 : OS) (hC2 hR2 : Hp), CR g hC2 B S2 → MW g hR2 t A S2 → SOk S2 (N + 400) → hX hC2 hR2 → VJ K (k + 5) (n + 29) (hS hC2 hR2) 1404 [(3, .int (nI (6 * c))), (2, .ref t), (1, .ref (B 0)), (0, .ref b)] []) : VJ K k n (hS hC hR) 1381 [(3, .int (nI (6 * c))), (2, .ref t), (1, .ref (B 0)), (0, .ref b)] [] := by
  obtain ⟨d, k1, hk1, fo, tape, tp, bits, sz, num⟩ := S
  obtain ⟨_, cX, _⟩ := id cC
  obtain ⟨_, _, _, _, _, _, _, _, _, _, m0, _⟩ := id mR
  have hL31 : L < 2 ^ 31 := by omega
  refine v_aload_n X dL_law_1381 2 rfl ?_
  refine v_aload_n X dL_law_1382 3 rfl ?_
  refine v_iload_n X dL_law_1383 0 rfl ?_
  refine v_iconst X dL_law_1384 (v := 1) (by decide) ?_
  refine v_iadd X dL_law_1385 ?_
  refine v_sld X sx (6 * c + 1) (ix_add rfl rfl) (by omega) hL31 dL_law_1386 ?_
  refine v_cVF X (av := [.int (xs (6 * c + 1))]) (st := []) hx sL_158 (ct_X7_status ll g (xs (6 * c + 1)) cC hI hN) cX (T := TX7) (N := 8) rfl dL_law_1387 rfl rfl ⟨rfl, rfl⟩ ⟨(Nat.le_of_ble_eq_true rfl), (Nat.le_of_ble_eq_true rfl)⟩ ⟨(show k + 0 ≤ 667156 by omega), (show n + 0 ≤ 7100779 by omega)⟩ (Nat.le_of_ble_eq_true rfl) (fun r hh q hq => ?_)
  obtain ⟨rfl, cC2⟩ := q
  refine v_eqs (st2 := [.int (op_status (d, k1, hk1, fo, tape, tp, bits, sz, num) (xs (6 * c + 1))).1]) rfl (v_eqh (hS_c hq) ?_)
  refine v_aload_n X dL_law_1390 1 rfl ?_
  refine v_aload_n X dL_law_1391 3 rfl ?_
  refine v_iload_n X dL_law_1392 0 rfl ?_
  refine v_iconst X dL_law_1393 (v := 1) (by decide) ?_
  refine v_iadd X dL_law_1394 ?_
  refine v_sld X sx (6 * c + 1) (ix_add rfl rfl) (by omega) hL31 dL_law_1395 ?_
  refine v_cVF X (av := [.int (xs (6 * c + 1))]) (st := [.int (op_status (d, k1, hk1, fo, tape, tp, bits, sz, num) (xs (6 * c + 1))).1]) (hX_s hq) sL_161 (rf_status ll g (xs (6 * c + 1)) mR hI hN) m0 (T := TX8) (N := 19) rfl dL_law_1396 rfl rfl ⟨rfl, rfl⟩ ⟨(Nat.le_of_ble_eq_true rfl), (Nat.le_of_ble_eq_true rfl)⟩ ⟨(show k + 0 + 0 ≤ 667156 by omega), (show n + 0 + 0 ≤ 7100779 by omega)⟩ (Nat.le_of_ble_eq_true rfl) (fun r hh2 q2 hq2 => ?_)
  obtain ⟨rfl, mR2⟩ := q2
  refine v_eqs (st2 := [.int (op_status (d, k1, hk1, fo, tape, tp, bits, sz, num) (xs (6 * c + 1))).1, .int (op_status (d, k1, hk1, fo, tape, tp, bits, sz, num) (xs (6 * c + 1))).1]) rfl (v_eqh (hS_c hq2) ?_)
  exact v_icmp_eq X dL_law_1399 (tgt := 1404) (by decide) (fun _ => (v_widen (by omega) (by omega) (kk _ _ _ cC2 mR2 (so_status (xs (6 * c + 1)) hI hN) (hX_s hq2)))) (fun z => absurd rfl z)
