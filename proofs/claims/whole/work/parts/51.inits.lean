/-! ===== small constructors ===== -/
theorem df_X0 : ∀ j, j < 8 → defaultValue (tyX0 j) = vp_V [.null, .null, .null, .null, .null, .int 0, .int 0, .int 0] j := by
  intro j hj
  have hc : j = 0 ∨ j = 1 ∨ j = 2 ∨ j = 3 ∨ j = 4 ∨ j = 5 ∨ j = 6 ∨ j = 7 := by omega
  rcases hc with rfl | rfl | rfl | rfl | rfl | rfl | rfl | rfl <;> rfl
theorem df_X1 : ∀ j, j < 7 → defaultValue (tyX1 j) = vp_V [.int 0, .int 0, .int 0, .int 0, .int 0, .int 0, .int 0] j := by
  intro j hj
  have hc : j = 0 ∨ j = 1 ∨ j = 2 ∨ j = 3 ∨ j = 4 ∨ j = 5 ∨ j = 6 := by omega
  rcases hc with rfl | rfl | rfl | rfl | rfl | rfl | rfl <;> rfl
theorem df_X2 : ∀ j, j < 3 → defaultValue (tyX2 j) = vp_V [.int 0, .int 0, .null] j := by
  intro j hj
  have hc : j = 0 ∨ j = 1 ∨ j = 2 := by omega
  rcases hc with rfl | rfl | rfl <;> rfl
theorem df_X3 : ∀ j, j < 5 → defaultValue (tyX3 j) = vp_V [.int 0, .int 0, .int 0, .int 0, .int 0] j := by
  intro j hj
  have hc : j = 0 ∨ j = 1 ∨ j = 2 ∨ j = 3 ∨ j = 4 := by omega
  rcases hc with rfl | rfl | rfl | rfl | rfl <;> rfl
theorem df_X4 : ∀ j, j < 6 → defaultValue (tyX4 j) = vp_V [.null, .int 0, .int 0, .int 0, .int 0, .int 0] j := by
  intro j hj
  have hc : j = 0 ∨ j = 1 ∨ j = 2 ∨ j = 3 ∨ j = 4 ∨ j = 5 := by omega
  rcases hc with rfl | rfl | rfl | rfl | rfl | rfl <;> rfl
theorem df_X5 : ∀ j, j < 5 → defaultValue (tyX5 j) = vp_V [.int 0, .null, .null, .null, .null] j := by
  intro j hj
  have hc : j = 0 ∨ j = 1 ∨ j = 2 ∨ j = 3 ∨ j = 4 := by omega
  rcases hc with rfl | rfl | rfl | rfl | rfl <;> rfl
theorem df_X6 : ∀ j, j < 10 → defaultValue (tyX6 j) = vp_V [.null, .int 0, .null, .int 0, .null, .null, .int 0, .int 0, .int 0, .int 0] j := by
  intro j hj
  have hc : j = 0 ∨ j = 1 ∨ j = 2 ∨ j = 3 ∨ j = 4 ∨ j = 5 ∨ j = 6 ∨ j = 7 ∨ j = 8 ∨ j = 9 := by omega
  rcases hc with rfl | rfl | rfl | rfl | rfl | rfl | rfl | rfl | rfl | rfl <;> rfl
theorem df_X7 : ∀ j, j < 8 → defaultValue (tyX7 j) = vp_V [.null, .null, .int 0, .null, .null, .null, .null, .null] j := by
  intro j hj
  have hc : j = 0 ∨ j = 1 ∨ j = 2 ∨ j = 3 ∨ j = 4 ∨ j = 5 ∨ j = 6 ∨ j = 7 := by omega
  rcases hc with rfl | rfl | rfl | rfl | rfl | rfl | rfl | rfl <;> rfl
theorem df_X8 : ∀ j, j < 19 → defaultValue (tyX8 j) = vp_V [.null, .null, .null, .int 0, .null, .int 0, .int 0, .null, .int 0, .int 0, .int 0, .int 0, .int 0, .int 0, .int 0, .null, .null, .null, .null] j := by
  intro j hj
  have hc : j = 0 ∨ j = 1 ∨ j = 2 ∨ j = 3 ∨ j = 4 ∨ j = 5 ∨ j = 6 ∨ j = 7 ∨ j = 8 ∨ j = 9 ∨ j = 10 ∨ j = 11 ∨ j = 12 ∨ j = 13 ∨ j = 14 ∨ j = 15 ∨ j = 16 ∨ j = 17 ∨ j = 18 := by omega
  rcases hc with rfl | rfl | rfl | rfl | rfl | rfl | rfl | rfl | rfl | rfl | rfl | rfl | rfl | rfl | rfl | rfl | rfl | rfl | rfl <;> rfl
theorem fr_ne {h : Hp} {q a : Nat} {c : va_E} (hq : h q = none) (ha : h a = some c) : q ≠ a := fun e => by subst e; rw [hq] at ha; cases ha
theorem fr_U {h : Hp} {q a : Nat} {c : va_E} (hq : hU h a c q = none) : h q = none ∧ q ≠ a := by
  by_cases e : q = a
  · subst e; rw [hU_s] at hq; cases hq
  · rw [hU_n e] at hq; exact ⟨hq, e⟩
theorem v_aastK {K : KT} {l0 : Launch} {g0 : GT} {cc : ByteArray} {own : String} {nL0 : Nat} {rm : Room} {k n : Nat} {h : Hp} {pc pc1 : Nat} {lv : List (Nat × Value)} {st : List Value} (X : Cx K l0 g0 cc own nL0 rm) {a N b ci : Nat} {f : Nat → Option Nat} {i : Int32} {vs : List Value} {C : String} {T : u_T} {M : Nat} {h2 : Hp} (t : Nat) (ht : (gtys g0)[t]? = some (g0.2.1 t, .object C)) (hc : vwCl[ci]? = some (C, T, M)) (j : Nat) (hh : h a = some (ar g0 t N f)) (hb2 : h b = some (ob ci vs)) (hi : i = nI j) (hj : j < N) (hN : N < 2 ^ 31) (hd : DD cc pc (.aastore) 1 pc1) (he : hU h a (ar g0 t N (va_up f j (some b))) = h2) (kk : VJ K k n h2 pc1 lv st) : VJ K k n h pc lv (.ref b :: .int i :: .ref a :: st) :=
  v_aast X t ht hc hh hb2 (ix_in hi hj hN) hd (by rw [ix_cl hi (Nat.lt_trans hj hN), he]; exact kk)
theorem v_cIv {K : KT} {l0 : Launch} {g0 : GT} {cc : ByteArray} {own : String} {nL0 : Nat} {rm : Room} {k n : Nat} {h : Hp} {pc pc1 : Nat} {lv : List (Nat × Value)} {st st0 : List Value} (X : Cx K l0 g0 cc own nL0 rm) {y : MethodName} {cc1 : ByteArray} {nL1 ar idx : Nat} {rm1 : Room} {h2 : Hp} {b : Nat} (av : List Value) (hs : SI own idx y cc1 nL1 ar) (hM : MF l0 g0 y cc1 nL1 none rm1 (.ref b :: av) h none h2) (hd : DD cc pc (.invokespecial idx) 3 pc1) (hst : st0 = av.reverse ++ .ref b :: st) (har : av.length = ar) (hrm : rm1.cells = 0 ∧ rm1.slots = 0) (hR : rm1.frames + 1 ≤ rm.frames ∧ 8 + (nL1 + 11) + rm1.locals ≤ rm.locals) (hf : k ≤ rm.cells ∧ n ≤ rm.slots) (hW : (st.map fun v => v.category).sum ≤ 8) (kk : VJ K k n h2 pc1 lv st) : VJ K k n h pc lv st0 :=
  v_cI X hs hM hd hst har hrm hR hf hW (fun r hh q => by obtain ⟨rfl, rfl⟩ := q; exact kk)
theorem v_cInv {K : KT} {l0 : Launch} {g0 : GT} {cc : ByteArray} {own : String} {nL0 : Nat} {rm : Room} {k n : Nat} {h : Hp} {pc pc1 : Nat} {lv : List (Nat × Value)} {st st0 : List Value} (X : Cx K l0 g0 cc own nL0 rm) {y : MethodName} {cc1 : ByteArray} {nL1 ar idx : Nat} {rm1 : Room} {h2 : Hp} {b : Nat} (av : List Value) (hs : SIn own idx y cc1 nL1 ar) (hM : MF l0 g0 y cc1 nL1 none rm1 (.ref b :: av) h none h2) (hd : DD cc pc (.invokespecial idx) 3 pc1) (hst : st0 = av.reverse ++ .ref b :: st) (har : av.length = ar) (hrm : rm1.cells = 0 ∧ rm1.slots = 0) (hR : rm1.frames + 1 ≤ rm.frames ∧ 8 + (nL1 + 11) + rm1.locals ≤ rm.locals) (hf : k ≤ rm.cells ∧ n ≤ rm.slots) (hW : (st.map fun v => v.category).sum ≤ 8) (kk : VJ K k n h2 pc1 lv st) : VJ K k n h pc lv st0 :=
  v_cIn X hs hM hd hst har hrm hR hf hW (fun r hh q => by obtain ⟨rfl, rfl⟩ := q; exact kk)
set_option maxHeartbeats 4000000 in
set_option maxRecDepth 100000 in
theorem ct_X1_init (ll : Launch) (g : GT) {h : Hp} {a : Nat}  : MF ll g yX1_init cX1_init 1 none (k2_rm 1 20) [.ref a] h none h := by
  refine mc_ofI (by decide) rfl (Nat.le_of_ble_eq_true rfl) ?_
  intro K X r I
  refine v_eqv (lv2 := [(0, .ref a)]) rfl ?_
  refine v_aload_n X dX1_init_0 0 rfl ?_
  refine v_objI X oi_X1 (Nat.le_of_ble_eq_true rfl) (Nat.le_of_ble_eq_true rfl) dX1_init_1 ?_
  exact v_vret X r dX1_init_4 (Nat.le_refl _) (Nat.le_refl _) ⟨rfl, rfl⟩
set_option maxHeartbeats 4000000 in
set_option maxRecDepth 100000 in
theorem ct_X3_init (ll : Launch) (g : GT) {h : Hp} {a : Nat}  : MF ll g yX3_init cX3_init 1 none (k2_rm 1 20) [.ref a] h none h := by
  refine mc_ofI (by decide) rfl (Nat.le_of_ble_eq_true rfl) ?_
  intro K X r I
  refine v_eqv (lv2 := [(0, .ref a)]) rfl ?_
  refine v_aload_n X dX3_init_0 0 rfl ?_
  refine v_objI X oi_X3 (Nat.le_of_ble_eq_true rfl) (Nat.le_of_ble_eq_true rfl) dX3_init_1 ?_
  exact v_vret X r dX3_init_4 (Nat.le_refl _) (Nat.le_refl _) ⟨rfl, rfl⟩
set_option maxHeartbeats 4000000 in
set_option maxRecDepth 100000 in
theorem ct_X5_init (ll : Launch) (g : GT) {h : Hp} {a : Nat} (ha : h a = some (ob 5 [.int 0, .null, .null, .null, .null])) : MC ll g yX5_init cX5_init 1 none { frames := 1, cells := 4, slots := 24, locals := 20 } [.ref a] h (fun r h2 => r = none ∧ ∃ (q1 q2 q3 q4 : Nat), h q1 = none ∧ h q2 = none ∧ h q3 = none ∧ h q4 = none ∧ q2 ≠ q1 ∧ q3 ≠ q1 ∧ q3 ≠ q2 ∧ q4 ≠ q1 ∧ q4 ≠ q2 ∧ q4 ≠ q3 ∧ h2 = (hU (hU (hU (hU (hU h a (ob 5 [.int 0, .ref q1, .ref q2, .ref q3, .ref q4])) q1 (ai g 6 (fun _ => 0))) q2 (ai g 6 (fun _ => 0))) q3 (ai g 6 (fun _ => 0))) q4 (ai g 6 (fun _ => 0)))) 4 24 := by
  refine mc_ofI (by decide) rfl (Nat.le_of_ble_eq_true rfl) ?_
  intro K X r I
  refine v_eqv (lv2 := [(0, .ref a)]) rfl ?_
  refine v_aload_n X dX5_init_0 0 rfl ?_
  refine v_objI X oi_X5 (Nat.le_of_ble_eq_true rfl) (Nat.le_of_ble_eq_true rfl) dX5_init_1 ?_
  refine v_aload_n X dX5_init_4 0 rfl ?_
  refine v_iconst X dX5_init_5 (v := 0) (by decide) ?_
  refine v_putE (h2 := (hU h a (ob 5 [.int 0, .null, .null, .null, .null]))) X fX5_9 tyX5_ok nmX5 rfl pd_I ha rfl rfl (ltb rfl) dX5_init_6 rfl ?_
  refine v_aload_n X dX5_init_9 0 rfl ?_
  refine v_bipush X dX5_init_10 (v := 6) (by decide) ?_
  refine v_newI X 6 (rfl : (6 : Int32) = nI 6) (by decide) (Nat.le_of_ble_eq_true rfl) (Nat.le_of_ble_eq_true rfl) dX5_init_12 (fun q1 hq1 => ?_)
  have f_q1_a : q1 ≠ a := fr_ne hq1 hU_s
  have b_q1 : h q1 = none := (fr_U hq1).1
  refine v_putF (h2 := (hU (hU h a (ob 5 [.int 0, .ref q1, .null, .null, .null])) q1 (ai g 6 (fun _ => 0)))) (ty := .array (.int)) X I fX5_15 tyX5_ok nmX5 rfl rfl (by decide +kernel) ((hU_n (Ne.symm f_q1_a)).trans hU_s) rfl rfl (ltb rfl) dX5_init_14 (hU_u2 f_q1_a) ?_
  refine v_aload_n X dX5_init_17 0 rfl ?_
  refine v_bipush X dX5_init_18 (v := 6) (by decide) ?_
  refine v_newI X 6 (rfl : (6 : Int32) = nI 6) (by decide) (Nat.le_of_ble_eq_true rfl) (Nat.le_of_ble_eq_true rfl) dX5_init_20 (fun q2 hq2 => ?_)
  have f_q2_a : q2 ≠ a := fr_ne hq2 ((hU_n (Ne.symm f_q1_a)).trans hU_s)
  have f_q2_q1 : q2 ≠ q1 := fr_ne hq2 hU_s
  have b_q2 : h q2 = none := (fr_U (fr_U hq2).1).1
  refine v_putF (h2 := (hU (hU (hU h a (ob 5 [.int 0, .ref q1, .ref q2, .null, .null])) q1 (ai g 6 (fun _ => 0))) q2 (ai g 6 (fun _ => 0)))) (ty := .array (.int)) X I fX5_19 tyX5_ok nmX5 rfl rfl (by decide +kernel) ((hU_n (Ne.symm f_q2_a)).trans ((hU_n (Ne.symm f_q1_a)).trans hU_s)) rfl rfl (ltb rfl) dX5_init_22 (hU_u3 f_q1_a f_q2_a) ?_
  refine v_aload_n X dX5_init_25 0 rfl ?_
  refine v_bipush X dX5_init_26 (v := 6) (by decide) ?_
  refine v_newI X 6 (rfl : (6 : Int32) = nI 6) (by decide) (Nat.le_of_ble_eq_true rfl) (Nat.le_of_ble_eq_true rfl) dX5_init_28 (fun q3 hq3 => ?_)
  have f_q3_a : q3 ≠ a := fr_ne hq3 ((hU_n (Ne.symm f_q2_a)).trans ((hU_n (Ne.symm f_q1_a)).trans hU_s))
  have f_q3_q1 : q3 ≠ q1 := fr_ne hq3 ((hU_n (Ne.symm f_q2_q1)).trans hU_s)
  have f_q3_q2 : q3 ≠ q2 := fr_ne hq3 hU_s
  have b_q3 : h q3 = none := (fr_U (fr_U (fr_U hq3).1).1).1
  refine v_putF (h2 := (hU (hU (hU (hU h a (ob 5 [.int 0, .ref q1, .ref q2, .ref q3, .null])) q1 (ai g 6 (fun _ => 0))) q2 (ai g 6 (fun _ => 0))) q3 (ai g 6 (fun _ => 0)))) (ty := .array (.int)) X I fX5_22 tyX5_ok nmX5 rfl rfl (by decide +kernel) ((hU_n (Ne.symm f_q3_a)).trans ((hU_n (Ne.symm f_q2_a)).trans ((hU_n (Ne.symm f_q1_a)).trans hU_s))) rfl rfl (ltb rfl) dX5_init_30 (hU_u4 f_q1_a f_q2_a f_q3_a) ?_
  refine v_aload_n X dX5_init_33 0 rfl ?_
  refine v_bipush X dX5_init_34 (v := 6) (by decide) ?_
  refine v_newI X 6 (rfl : (6 : Int32) = nI 6) (by decide) (Nat.le_of_ble_eq_true rfl) (Nat.le_of_ble_eq_true rfl) dX5_init_36 (fun q4 hq4 => ?_)
  have f_q4_a : q4 ≠ a := fr_ne hq4 ((hU_n (Ne.symm f_q3_a)).trans ((hU_n (Ne.symm f_q2_a)).trans ((hU_n (Ne.symm f_q1_a)).trans hU_s)))
  have f_q4_q1 : q4 ≠ q1 := fr_ne hq4 ((hU_n (Ne.symm f_q3_q1)).trans ((hU_n (Ne.symm f_q2_q1)).trans hU_s))
  have f_q4_q2 : q4 ≠ q2 := fr_ne hq4 ((hU_n (Ne.symm f_q3_q2)).trans hU_s)
  have f_q4_q3 : q4 ≠ q3 := fr_ne hq4 hU_s
  have b_q4 : h q4 = none := (fr_U (fr_U (fr_U (fr_U hq4).1).1).1).1
  refine v_putF (h2 := (hU (hU (hU (hU (hU h a (ob 5 [.int 0, .ref q1, .ref q2, .ref q3, .ref q4])) q1 (ai g 6 (fun _ => 0))) q2 (ai g 6 (fun _ => 0))) q3 (ai g 6 (fun _ => 0))) q4 (ai g 6 (fun _ => 0)))) (ty := .array (.int)) X I fX5_25 tyX5_ok nmX5 rfl rfl (by decide +kernel) ((hU_n (Ne.symm f_q4_a)).trans ((hU_n (Ne.symm f_q3_a)).trans ((hU_n (Ne.symm f_q2_a)).trans ((hU_n (Ne.symm f_q1_a)).trans hU_s)))) rfl rfl (ltb rfl) dX5_init_38 (hU_u5 f_q1_a f_q2_a f_q3_a f_q4_a) ?_
  exact v_vret X r dX5_init_41 (Nat.le_of_ble_eq_true rfl) (Nat.le_of_ble_eq_true rfl) ⟨rfl, q1, q2, q3, q4, b_q1, b_q2, b_q3, b_q4, f_q2_q1, f_q3_q1, f_q3_q2, f_q4_q1, f_q4_q2, f_q4_q3, rfl⟩
set_option maxHeartbeats 4000000 in
set_option maxRecDepth 100000 in
theorem ct_X4_init (ll : Launch) (g : GT) {h : Hp} {a : Nat} (ha : h a = some (ob 4 [.null, .int 0, .int 0, .int 0, .int 0, .int 0])) : MC ll g yX4_init cX4_init 1 none { frames := 1, cells := 1, slots := 100, locals := 20 } [.ref a] h (fun r h2 => r = none ∧ ∃ (q1 : Nat), h q1 = none ∧ h2 = (hU (hU h q1 (ai g 100 (fun _ => 0))) a (ob 4 [.ref q1, .int 0, .int 0, .int 0, .int (-1), .int 0]))) 1 100 := by
  refine mc_ofI (by decide) rfl (Nat.le_of_ble_eq_true rfl) ?_
  intro K X r I
  refine v_eqv (lv2 := [(0, .ref a)]) rfl ?_
  refine v_aload_n X dX4_init_0 0 rfl ?_
  refine v_objI X oi_X4 (Nat.le_of_ble_eq_true rfl) (Nat.le_of_ble_eq_true rfl) dX4_init_1 ?_
  refine v_aload_n X dX4_init_4 0 rfl ?_
  refine v_bipush X dX4_init_5 (v := 100) (by decide) ?_
  refine v_newI X 100 (rfl : (100 : Int32) = nI 100) (by decide) (Nat.le_of_ble_eq_true rfl) (Nat.le_of_ble_eq_true rfl) dX4_init_7 (fun q1 hq1 => ?_)
  have f_q1_a : q1 ≠ a := fr_ne hq1 ha
  have b_q1 : h q1 = none := hq1
  refine v_putF (h2 := (hU (hU h q1 (ai g 100 (fun _ => 0))) a (ob 4 [.ref q1, .int 0, .int 0, .int 0, .int 0, .int 0]))) (ty := .array (.int)) X I fX4_9 tyX4_ok nmX4 rfl rfl (by decide +kernel) ((hU_n (Ne.symm f_q1_a)).trans ha) rfl rfl (ltb rfl) dX4_init_9 rfl ?_
  refine v_aload_n X dX4_init_12 0 rfl ?_
  refine v_iconst X dX4_init_13 (v := 0) (by decide) ?_
  refine v_putE (h2 := (hU (hU h q1 (ai g 100 (fun _ => 0))) a (ob 4 [.ref q1, .int 0, .int 0, .int 0, .int 0, .int 0]))) X fX4_15 tyX4_ok nmX4 rfl pd_I hU_s rfl rfl (ltb rfl) dX4_init_14 hU_u ?_
  refine v_aload_n X dX4_init_17 0 rfl ?_
  refine v_iconst X dX4_init_18 (v := 0) (by decide) ?_
  refine v_putE (h2 := (hU (hU h q1 (ai g 100 (fun _ => 0))) a (ob 4 [.ref q1, .int 0, .int 0, .int 0, .int 0, .int 0]))) X fX4_19 tyX4_ok nmX4 rfl pd_I hU_s rfl rfl (ltb rfl) dX4_init_19 hU_u ?_
  refine v_aload_n X dX4_init_22 0 rfl ?_
  refine v_iconst X dX4_init_23 (v := 0) (by decide) ?_
  refine v_putE (h2 := (hU (hU h q1 (ai g 100 (fun _ => 0))) a (ob 4 [.ref q1, .int 0, .int 0, .int 0, .int 0, .int 0]))) X fX4_22 tyX4_ok nmX4 rfl pd_I hU_s rfl rfl (ltb rfl) dX4_init_24 hU_u ?_
  refine v_aload_n X dX4_init_27 0 rfl ?_
  refine v_iconst X dX4_init_28 (v := (-1)) (by decide) ?_
  refine v_putE (h2 := (hU (hU h q1 (ai g 100 (fun _ => 0))) a (ob 4 [.ref q1, .int 0, .int 0, .int 0, .int (-1), .int 0]))) X fX4_25 tyX4_ok nmX4 rfl pd_I hU_s rfl rfl (ltb rfl) dX4_init_29 hU_u ?_
  refine v_aload_n X dX4_init_32 0 rfl ?_
  refine v_iconst X dX4_init_33 (v := 0) (by decide) ?_
  refine v_putE (h2 := (hU (hU h q1 (ai g 100 (fun _ => 0))) a (ob 4 [.ref q1, .int 0, .int 0, .int 0, .int (-1), .int 0]))) X fX4_28 tyX4_ok nmX4 rfl pd_I hU_s rfl rfl (ltb rfl) dX4_init_34 hU_u ?_
  exact v_vret X r dX4_init_37 (Nat.le_of_ble_eq_true rfl) (Nat.le_of_ble_eq_true rfl) ⟨rfl, q1, b_q1, rfl⟩
set_option maxHeartbeats 4000000 in
set_option maxRecDepth 100000 in
theorem ct_X2_init (ll : Launch) (g : GT) {h : Hp} {a : Nat} (ha : h a = some (ob 2 [.int 0, .int 0, .null])) : MC ll g yX2_init cX2_init 1 none { frames := 1, cells := 1, slots := 40, locals := 20 } [.ref a] h (fun r h2 => r = none ∧ ∃ (q1 : Nat), h q1 = none ∧ h2 = (hU (hU h a (ob 2 [.int 0, .int 0, .ref q1])) q1 (al g 40 (fun _ => 0)))) 1 40 := by
  refine mc_ofI (by decide) rfl (Nat.le_of_ble_eq_true rfl) ?_
  intro K X r I
  refine v_eqv (lv2 := [(0, .ref a)]) rfl ?_
  refine v_aload_n X dX2_init_0 0 rfl ?_
  refine v_objI X oi_X2 (Nat.le_of_ble_eq_true rfl) (Nat.le_of_ble_eq_true rfl) dX2_init_1 ?_
  refine v_aload_n X dX2_init_4 0 rfl ?_
  refine v_iconst X dX2_init_5 (v := 0) (by decide) ?_
  refine v_putE (h2 := (hU h a (ob 2 [.int 0, .int 0, .null]))) X fX2_9 tyX2_ok nmX2 rfl pd_I ha rfl rfl (ltb rfl) dX2_init_6 rfl ?_
  refine v_aload_n X dX2_init_9 0 rfl ?_
  refine v_iconst X dX2_init_10 (v := 0) (by decide) ?_
  refine v_putE (h2 := (hU h a (ob 2 [.int 0, .int 0, .null]))) X fX2_15 tyX2_ok nmX2 rfl pd_I hU_s rfl rfl (ltb rfl) dX2_init_11 hU_u ?_
  refine v_aload_n X dX2_init_14 0 rfl ?_
  refine v_bipush X dX2_init_15 (v := 40) (by decide) ?_
  refine v_newJ X 40 (rfl : (40 : Int32) = nI 40) (by decide) (Nat.le_of_ble_eq_true rfl) (Nat.le_of_ble_eq_true rfl) dX2_init_17 (fun q1 hq1 => ?_)
  have f_q1_a : q1 ≠ a := fr_ne hq1 hU_s
  have b_q1 : h q1 = none := (fr_U hq1).1
  refine v_putF (h2 := (hU (hU h a (ob 2 [.int 0, .int 0, .ref q1])) q1 (al g 40 (fun _ => 0)))) (ty := .array (.long)) X I fX2_18 tyX2_ok nmX2 rfl rfl (by decide +kernel) ((hU_n (Ne.symm f_q1_a)).trans hU_s) rfl rfl (ltb rfl) dX2_init_19 (hU_u2 f_q1_a) ?_
  exact v_vret X r dX2_init_22 (Nat.le_of_ble_eq_true rfl) (Nat.le_of_ble_eq_true rfl) ⟨rfl, q1, b_q1, rfl⟩
set_option maxHeartbeats 4000000 in
set_option maxRecDepth 100000 in
theorem ct_X0_init (ll : Launch) (g : GT) {h : Hp} {a p w : Nat} (ha : h a = some (ob 0 [.null, .null, .null, .null, .null, .int 0, .int 0, .int 0])) : MC ll g yX0_init cX0_init 3 none { frames := 2, cells := 3, slots := 20, locals := 40 } [.ref a, .ref p, .ref w] h (fun r h2 => r = none ∧ ∃ (q1 q2 q3 : Nat), h q1 = none ∧ h q2 = none ∧ h q3 = none ∧ q2 ≠ q1 ∧ q3 ≠ q1 ∧ q3 ≠ q2 ∧ h2 = (hU (hU (hU (hU h q1 (ai g 10 (fun _ => 0))) a (ob 0 [.ref p, .ref w, .ref q1, .ref q2, .ref q3, .int 0, .int 0, .int 1])) q2 (ob 3 [.int 0, .int 0, .int 0, .int 0, .int 0])) q3 (ob 3 [.int 0, .int 0, .int 0, .int 0, .int 0]))) 3 20 := by
  refine mc_ofI (by decide) rfl (Nat.le_of_ble_eq_true rfl) ?_
  intro K X r I
  refine v_eqv (lv2 := [(0, .ref a), (1, .ref p), (2, .ref w)]) rfl ?_
  refine v_aload_n X dX0_init_0 0 rfl ?_
  refine v_objI X oi_X0 (Nat.le_of_ble_eq_true rfl) (Nat.le_of_ble_eq_true rfl) dX0_init_1 ?_
  refine v_aload_n X dX0_init_4 0 rfl ?_
  refine v_bipush X dX0_init_5 (v := 10) (by decide) ?_
  refine v_newI X 10 (rfl : (10 : Int32) = nI 10) (by decide) (Nat.le_of_ble_eq_true rfl) (Nat.le_of_ble_eq_true rfl) dX0_init_7 (fun q1 hq1 => ?_)
  have f_q1_a : q1 ≠ a := fr_ne hq1 ha
  have b_q1 : h q1 = none := hq1
  refine v_putF (h2 := (hU (hU h q1 (ai g 10 (fun _ => 0))) a (ob 0 [.null, .null, .ref q1, .null, .null, .int 0, .int 0, .int 0]))) (ty := .array (.int)) X I fX0_11 tyX0_ok nmX0 rfl rfl (by decide +kernel) ((hU_n (Ne.symm f_q1_a)).trans ha) rfl rfl (ltb rfl) dX0_init_9 rfl ?_
  refine v_aload_n X dX0_init_12 0 rfl ?_
  refine v_newO (ci := 3) X [.int 0, .int 0, .int 0, .int 0, .int 0] cX0_15_l qx_X3 qi_X3 rfl u_X3 tyX3_ok df_X3 (Nat.le_of_ble_eq_true rfl) (Nat.le_of_ble_eq_true rfl) dX0_init_13 (fun q2 hq2 => ?_)
  have f_q2_q1 : q2 ≠ q1 := fr_ne hq2 ((hU_n f_q1_a).trans hU_s)
  have f_q2_a : q2 ≠ a := fr_ne hq2 hU_s
  have b_q2 : h q2 = none := (fr_U (fr_U hq2).1).1
  refine v_dup X dX0_init_16 rfl ?_
  refine v_cInv X [] sX0_17 (ct_X3_init ll g) dX0_init_17 rfl rfl ⟨rfl, rfl⟩ ⟨(Nat.le_of_ble_eq_true rfl), (Nat.le_of_ble_eq_true rfl)⟩ ⟨(Nat.le_of_ble_eq_true rfl), (Nat.le_of_ble_eq_true rfl)⟩ (Nat.le_of_ble_eq_true rfl) ?_
  refine v_putF (h2 := (hU (hU (hU h q1 (ai g 10 (fun _ => 0))) a (ob 0 [.null, .null, .ref q1, .ref q2, .null, .int 0, .int 0, .int 0])) q2 (ob 3 [.int 0, .int 0, .int 0, .int 0, .int 0]))) (ty := .object "LogRollers$Stander") X I fX0_18 tyX0_ok nmX0 rfl rfl (by decide +kernel) ((hU_n (Ne.symm f_q2_a)).trans hU_s) rfl rfl (ltb rfl) dX0_init_20 (hU_u2 f_q2_a) ?_
  refine v_aload_n X dX0_init_23 0 rfl ?_
  refine v_newO (ci := 3) X [.int 0, .int 0, .int 0, .int 0, .int 0] cX0_15_l qx_X3 qi_X3 rfl u_X3 tyX3_ok df_X3 (Nat.le_of_ble_eq_true rfl) (Nat.le_of_ble_eq_true rfl) dX0_init_24 (fun q3 hq3 => ?_)
  have f_q3_q1 : q3 ≠ q1 := fr_ne hq3 ((hU_n (Ne.symm f_q2_q1)).trans ((hU_n f_q1_a).trans hU_s))
  have f_q3_a : q3 ≠ a := fr_ne hq3 ((hU_n (Ne.symm f_q2_a)).trans hU_s)
  have f_q3_q2 : q3 ≠ q2 := fr_ne hq3 hU_s
  have b_q3 : h q3 = none := (fr_U (fr_U (fr_U hq3).1).1).1
  refine v_dup X dX0_init_27 rfl ?_
  refine v_cInv X [] sX0_17 (ct_X3_init ll g) dX0_init_28 rfl rfl ⟨rfl, rfl⟩ ⟨(Nat.le_of_ble_eq_true rfl), (Nat.le_of_ble_eq_true rfl)⟩ ⟨(Nat.le_of_ble_eq_true rfl), (Nat.le_of_ble_eq_true rfl)⟩ (Nat.le_of_ble_eq_true rfl) ?_
  refine v_putF (h2 := (hU (hU (hU (hU h q1 (ai g 10 (fun _ => 0))) a (ob 0 [.null, .null, .ref q1, .ref q2, .ref q3, .int 0, .int 0, .int 0])) q2 (ob 3 [.int 0, .int 0, .int 0, .int 0, .int 0])) q3 (ob 3 [.int 0, .int 0, .int 0, .int 0, .int 0]))) (ty := .object "LogRollers$Stander") X I fX0_22 tyX0_ok nmX0 rfl rfl (by decide +kernel) ((hU_n (Ne.symm f_q3_a)).trans ((hU_n (Ne.symm f_q2_a)).trans hU_s)) rfl rfl (ltb rfl) dX0_init_31 (hU_u3 f_q2_a f_q3_a) ?_
  refine v_aload_n X dX0_init_34 0 rfl ?_
  refine v_iconst X dX0_init_35 (v := 0) (by decide) ?_
  refine v_putE (h2 := (hU (hU (hU (hU h q1 (ai g 10 (fun _ => 0))) a (ob 0 [.null, .null, .ref q1, .ref q2, .ref q3, .int 0, .int 0, .int 0])) q2 (ob 3 [.int 0, .int 0, .int 0, .int 0, .int 0])) q3 (ob 3 [.int 0, .int 0, .int 0, .int 0, .int 0]))) X fX0_25 tyX0_ok nmX0 rfl pd_I ((hU_n (Ne.symm f_q3_a)).trans ((hU_n (Ne.symm f_q2_a)).trans hU_s)) rfl rfl (ltb rfl) dX0_init_36 (hU_u3 f_q2_a f_q3_a) ?_
  refine v_aload_n X dX0_init_39 0 rfl ?_
  refine v_iconst X dX0_init_40 (v := 0) (by decide) ?_
  refine v_putE (h2 := (hU (hU (hU (hU h q1 (ai g 10 (fun _ => 0))) a (ob 0 [.null, .null, .ref q1, .ref q2, .ref q3, .int 0, .int 0, .int 0])) q2 (ob 3 [.int 0, .int 0, .int 0, .int 0, .int 0])) q3 (ob 3 [.int 0, .int 0, .int 0, .int 0, .int 0]))) X fX0_29 tyX0_ok nmX0 rfl pd_I ((hU_n (Ne.symm f_q3_a)).trans ((hU_n (Ne.symm f_q2_a)).trans hU_s)) rfl rfl (ltb rfl) dX0_init_41 (hU_u3 f_q2_a f_q3_a) ?_
  refine v_aload_n X dX0_init_44 0 rfl ?_
  refine v_iconst X dX0_init_45 (v := 1) (by decide) ?_
  refine v_putE (h2 := (hU (hU (hU (hU h q1 (ai g 10 (fun _ => 0))) a (ob 0 [.null, .null, .ref q1, .ref q2, .ref q3, .int 0, .int 0, .int 1])) q2 (ob 3 [.int 0, .int 0, .int 0, .int 0, .int 0])) q3 (ob 3 [.int 0, .int 0, .int 0, .int 0, .int 0]))) X fX0_32 tyX0_ok nmX0 rfl pd_I ((hU_n (Ne.symm f_q3_a)).trans ((hU_n (Ne.symm f_q2_a)).trans hU_s)) rfl rfl (ltb rfl) dX0_init_46 (hU_u3 f_q2_a f_q3_a) ?_
  refine v_aload_n X dX0_init_49 0 rfl ?_
  refine v_aload_n X dX0_init_50 1 rfl ?_
  refine v_putF (h2 := (hU (hU (hU (hU h q1 (ai g 10 (fun _ => 0))) a (ob 0 [.ref p, .null, .ref q1, .ref q2, .ref q3, .int 0, .int 0, .int 1])) q2 (ob 3 [.int 0, .int 0, .int 0, .int 0, .int 0])) q3 (ob 3 [.int 0, .int 0, .int 0, .int 0, .int 0]))) (ty := .array (.int)) X I fX0_35 tyX0_ok nmX0 rfl rfl (by decide +kernel) ((hU_n (Ne.symm f_q3_a)).trans ((hU_n (Ne.symm f_q2_a)).trans hU_s)) rfl rfl (ltb rfl) dX0_init_51 (hU_u3 f_q2_a f_q3_a) ?_
  refine v_aload_n X dX0_init_54 0 rfl ?_
  refine v_aload_n X dX0_init_55 2 rfl ?_
  refine v_putF (h2 := (hU (hU (hU (hU h q1 (ai g 10 (fun _ => 0))) a (ob 0 [.ref p, .ref w, .ref q1, .ref q2, .ref q3, .int 0, .int 0, .int 1])) q2 (ob 3 [.int 0, .int 0, .int 0, .int 0, .int 0])) q3 (ob 3 [.int 0, .int 0, .int 0, .int 0, .int 0]))) (ty := .array (.object "LogRollers$Way")) X I fX0_38 tyX0_ok nmX0 rfl rfl (by decide +kernel) ((hU_n (Ne.symm f_q3_a)).trans ((hU_n (Ne.symm f_q2_a)).trans hU_s)) rfl rfl (ltb rfl) dX0_init_56 (hU_u3 f_q2_a f_q3_a) ?_
  exact v_vret X r dX0_init_59 (Nat.le_of_ble_eq_true rfl) (Nat.le_of_ble_eq_true rfl) ⟨rfl, q1, q2, q3, b_q1, b_q2, b_q3, f_q2_q1, f_q3_q1, f_q3_q2, rfl⟩
