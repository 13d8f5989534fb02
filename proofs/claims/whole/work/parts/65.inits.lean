/-! ===== the constructors ===== -/
def dI : Nat → Int32 := upd (upd (upd (upd (upd (fun _ => 0) 10 15) 11 5) 12 3) 13 60) 8 1
def sI : OS := (dI, fun _ => 0, 0, fun _ => 0, fun _ => 0, 0, fun _ => 0, fun _ => 0, fun _ => 0)
theorem nd_ne {L : List Nat} (hn : L.Nodup) {i j : Nat} (hi : i < L.length) (hj : j < L.length) (hne : i ≠ j) : L.getD i 0 ≠ L.getD j 0 := by
  have hp := List.pairwise_iff_getElem.mp hn
  rw [List.getD_eq_getElem?_getD, List.getD_eq_getElem?_getD, List.getElem?_eq_getElem hi, List.getElem?_eq_getElem hj]
  show L[i] ≠ L[j]
  rcases Nat.lt_or_gt_of_ne hne with h | h
  · exact hp i j hi hj h
  · exact Ne.symm (hp j i hj hi h)
theorem ptI : (fun j => tb0.getD j 0) = ptF dI := by
  funext j
  by_cases z : j < 5
  · have hc : j = 0 ∨ j = 1 ∨ j = 2 ∨ j = 3 ∨ j = 4 := by omega
    rcases hc with rfl | rfl | rfl | rfl | rfl <;> rfl
  · obtain ⟨n, rfl⟩ : ∃ n, j = n + 5 := ⟨j - 5, by omega⟩
    unfold ptF
    rw [if_neg z]; rfl
set_option maxHeartbeats 4000000 in
set_option maxRecDepth 100000 in
theorem ct_X6_init (ll : Launch) (g : GT) {h : Hp} {a : Nat} (ha : h a = some (ob 6 [.null, .int 0, .null, .int 0, .null, .null, .int 0, .int 0, .int 0, .int 0])) : MC ll g yX6_init cX6_init 2 none { frames := 3, cells := 15, slots := 103, locals := 80 } [.ref a] h (fun r h2 => r = none ∧ ∃ Q : Nat → Nat, Q 1 = a ∧ (∀ i j, 1 ≤ i → i ≤ 16 → 1 ≤ j → j ≤ 16 → i ≠ j → Q i ≠ Q j) ∧ (∀ i, 2 ≤ i → i ≤ 16 → h (Q i) = none) ∧ (∀ x, (∀ i, 1 ≤ i → i ≤ 16 → x ≠ Q i) → h2 x = h x) ∧ gWd g h2 Q dI) 15 103 := by
  refine mc_ofI (by decide) rfl (Nat.le_of_ble_eq_true rfl) ?_
  intro K X r I
  refine v_eqv (lv2 := [(0, .ref a)]) rfl ?_
  refine v_aload_n X dX6_init_0 0 rfl ?_
  refine v_objI X oi_X6 (Nat.le_of_ble_eq_true rfl) (Nat.le_of_ble_eq_true rfl) dX6_init_1 ?_
  refine v_aload_n X dX6_init_4 0 rfl ?_
  refine v_bipush X dX6_init_5 (v := 8) (by decide) ?_
  refine v_newQ X 2 8 rfl (by decide) cX6_9_l (rfl : (8 : Int32) = nI 8) (by decide) (Nat.le_of_ble_eq_true rfl) (Nat.le_of_ble_eq_true rfl) dX6_init_7 (fun q1 hq1 => ?_)
  have f_q1_a : q1 ≠ a := fr_ne hq1 ha
  have b_q1 : h q1 = none := hq1
  refine v_putF (h2 := (hU (hU h q1 (ar g 2 8 (fun _ => none))) a (ob 6 [.ref q1, .int 0, .null, .int 0, .null, .null, .int 0, .int 0, .int 0, .int 0]))) (ty := .array (.object "LogRollers$Person")) X I fX6_11 tyX6_ok nmX6 rfl rfl (by decide +kernel) ((hU_n (Ne.symm f_q1_a)).trans ha) rfl rfl (ltb rfl) dX6_init_10 rfl ?_
  refine v_aload_n X dX6_init_13 0 rfl ?_
  refine v_iconst X dX6_init_14 (v := 0) (by decide) ?_
  refine v_putE (h2 := (hU (hU h q1 (ar g 2 8 (fun _ => none))) a (ob 6 [.ref q1, .int 0, .null, .int 0, .null, .null, .int 0, .int 0, .int 0, .int 0]))) X fX6_17 tyX6_ok nmX6 rfl pd_I hU_s rfl rfl (ltb rfl) dX6_init_15 hU_u ?_
  refine v_aload_n X dX6_init_18 0 rfl ?_
  refine v_bipush X dX6_init_19 (v := 6) (by decide) ?_
  refine v_newQ X 4 6 rfl (by decide) cX6_21_l (rfl : (6 : Int32) = nI 6) (by decide) (Nat.le_of_ble_eq_true rfl) (Nat.le_of_ble_eq_true rfl) dX6_init_21 (fun q2 hq2 => ?_)
  have f_q2_q1 : q2 ≠ q1 := fr_ne hq2 ((hU_n f_q1_a).trans hU_s)
  have f_q2_a : q2 ≠ a := fr_ne hq2 hU_s
  have b_q2 : h q2 = none := (fr_U (fr_U hq2).1).1
  refine v_putF (h2 := (hU (hU (hU h q1 (ar g 2 8 (fun _ => none))) a (ob 6 [.ref q1, .int 0, .ref q2, .int 0, .null, .null, .int 0, .int 0, .int 0, .int 0])) q2 (ar g 4 6 (fun _ => none)))) (ty := .array (.object "LogRollers$Way")) X I fX6_23 tyX6_ok nmX6 rfl rfl (by decide +kernel) ((hU_n (Ne.symm f_q2_a)).trans hU_s) rfl rfl (ltb rfl) dX6_init_24 (hU_u2 f_q2_a) ?_
  refine v_aload_n X dX6_init_27 0 rfl ?_
  refine v_iconst X dX6_init_28 (v := 0) (by decide) ?_
  refine v_putE (h2 := (hU (hU (hU h q1 (ar g 2 8 (fun _ => none))) a (ob 6 [.ref q1, .int 0, .ref q2, .int 0, .null, .null, .int 0, .int 0, .int 0, .int 0])) q2 (ar g 4 6 (fun _ => none)))) X fX6_27 tyX6_ok nmX6 rfl pd_I ((hU_n (Ne.symm f_q2_a)).trans hU_s) rfl rfl (ltb rfl) dX6_init_29 (hU_u2 f_q2_a) ?_
  refine v_aload_n X dX6_init_32 0 rfl ?_
  refine v_gs0 X dX6_init_33 ?_
  refine v_cln X (Nat.le_of_ble_eq_true rfl) (Nat.le_of_ble_eq_true rfl) (Nat.le_of_ble_eq_true rfl) (Nat.le_of_ble_eq_true rfl) dX6_init_36 (fun q3 hq3 => ?_)
  have f_q3_q1 : q3 ≠ q1 := fr_ne hq3 ((hU_n (Ne.symm f_q2_q1)).trans ((hU_n f_q1_a).trans hU_s))
  have f_q3_a : q3 ≠ a := fr_ne hq3 ((hU_n (Ne.symm f_q2_a)).trans hU_s)
  have f_q3_q2 : q3 ≠ q2 := fr_ne hq3 hU_s
  have b_q3 : h q3 = none := (fr_U (fr_U (fr_U hq3).1).1).1
  refine v_castI X cX6_35_l hU_s dX6_init_39 ?_
  refine v_putF (h2 := (hU (hU (hU (hU h q1 (ar g 2 8 (fun _ => none))) a (ob 6 [.ref q1, .int 0, .ref q2, .int 0, .ref q3, .null, .int 0, .int 0, .int 0, .int 0])) q2 (ar g 4 6 (fun _ => none))) q3 (ai g 5 (fun j => tb0.getD j 0)))) (ty := .array (.int)) X I fX6_39 tyX6_ok nmX6 rfl rfl (by decide +kernel) ((hU_n (Ne.symm f_q3_a)).trans ((hU_n (Ne.symm f_q2_a)).trans hU_s)) rfl rfl (ltb rfl) dX6_init_42 (hU_u3 f_q2_a f_q3_a) ?_
  refine v_aload_n X dX6_init_45 0 rfl ?_
  refine v_newO (ci := 0) X [.null, .null, .null, .null, .null, .int 0, .int 0, .int 0] cX6_42_l qx_X0 qi_X0 rfl u_X0 tyX0_ok df_X0 (Nat.le_of_ble_eq_true rfl) (Nat.le_of_ble_eq_true rfl) dX6_init_46 (fun q4 hq4 => ?_)
  have f_q4_q1 : q4 ≠ q1 := fr_ne hq4 ((hU_n (Ne.symm f_q3_q1)).trans ((hU_n (Ne.symm f_q2_q1)).trans ((hU_n f_q1_a).trans hU_s)))
  have f_q4_a : q4 ≠ a := fr_ne hq4 ((hU_n (Ne.symm f_q3_a)).trans ((hU_n (Ne.symm f_q2_a)).trans hU_s))
  have f_q4_q2 : q4 ≠ q2 := fr_ne hq4 ((hU_n (Ne.symm f_q3_q2)).trans hU_s)
  have f_q4_q3 : q4 ≠ q3 := fr_ne hq4 hU_s
  have b_q4 : h q4 = none := (fr_U (fr_U (fr_U (fr_U hq4).1).1).1).1
  refine v_dup X dX6_init_49 rfl ?_
  refine v_aload_n X dX6_init_50 0 rfl ?_
  refine v_get X fX6_39 ((hU_n (Ne.symm f_q4_a)).trans ((hU_n (Ne.symm f_q3_a)).trans ((hU_n (Ne.symm f_q2_a)).trans hU_s))) rfl dX6_init_51 ?_
  refine v_aload_n X dX6_init_54 0 rfl ?_
  refine v_get X fX6_23 ((hU_n (Ne.symm f_q4_a)).trans ((hU_n (Ne.symm f_q3_a)).trans ((hU_n (Ne.symm f_q2_a)).trans hU_s))) rfl dX6_init_55 ?_
  refine v_cI X (av := [.ref q3, .ref q2]) sX6_44 (ct_X0_init ll g  hU_s) dX6_init_58 rfl rfl ⟨rfl, rfl⟩ ⟨(Nat.le_of_ble_eq_true rfl), (Nat.le_of_ble_eq_true rfl)⟩ ⟨(Nat.le_of_ble_eq_true rfl), (Nat.le_of_ble_eq_true rfl)⟩ (Nat.le_of_ble_eq_true rfl) (fun r_ h_ q_ => ?_)
  obtain ⟨e_, q5, q6, q7, b_q5, b_q6, b_q7, f_q6_q5, f_q7_q5, f_q7_q6, rfl⟩ := q_
  subst e_
  refine v_eqs (st2 := [.ref q4, .ref a]) rfl ?_
  have f_q5_q1 : q5 ≠ q1 := fr_ne b_q5 ((hU_n (Ne.symm f_q4_q1)).trans ((hU_n (Ne.symm f_q3_q1)).trans ((hU_n (Ne.symm f_q2_q1)).trans ((hU_n f_q1_a).trans hU_s))))
  have f_q5_a : q5 ≠ a := fr_ne b_q5 ((hU_n (Ne.symm f_q4_a)).trans ((hU_n (Ne.symm f_q3_a)).trans ((hU_n (Ne.symm f_q2_a)).trans hU_s)))
  have f_q5_q2 : q5 ≠ q2 := fr_ne b_q5 ((hU_n (Ne.symm f_q4_q2)).trans ((hU_n (Ne.symm f_q3_q2)).trans hU_s))
  have f_q5_q3 : q5 ≠ q3 := fr_ne b_q5 ((hU_n (Ne.symm f_q4_q3)).trans hU_s)
  have f_q5_q4 : q5 ≠ q4 := fr_ne b_q5 hU_s
  have f_q6_q1 : q6 ≠ q1 := fr_ne b_q6 ((hU_n (Ne.symm f_q4_q1)).trans ((hU_n (Ne.symm f_q3_q1)).trans ((hU_n (Ne.symm f_q2_q1)).trans ((hU_n f_q1_a).trans hU_s))))
  have f_q6_a : q6 ≠ a := fr_ne b_q6 ((hU_n (Ne.symm f_q4_a)).trans ((hU_n (Ne.symm f_q3_a)).trans ((hU_n (Ne.symm f_q2_a)).trans hU_s)))
  have f_q6_q2 : q6 ≠ q2 := fr_ne b_q6 ((hU_n (Ne.symm f_q4_q2)).trans ((hU_n (Ne.symm f_q3_q2)).trans hU_s))
  have f_q6_q3 : q6 ≠ q3 := fr_ne b_q6 ((hU_n (Ne.symm f_q4_q3)).trans hU_s)
  have f_q6_q4 : q6 ≠ q4 := fr_ne b_q6 hU_s
  have f_q7_q1 : q7 ≠ q1 := fr_ne b_q7 ((hU_n (Ne.symm f_q4_q1)).trans ((hU_n (Ne.symm f_q3_q1)).trans ((hU_n (Ne.symm f_q2_q1)).trans ((hU_n f_q1_a).trans hU_s))))
  have f_q7_a : q7 ≠ a := fr_ne b_q7 ((hU_n (Ne.symm f_q4_a)).trans ((hU_n (Ne.symm f_q3_a)).trans ((hU_n (Ne.symm f_q2_a)).trans hU_s)))
  have f_q7_q2 : q7 ≠ q2 := fr_ne b_q7 ((hU_n (Ne.symm f_q4_q2)).trans ((hU_n (Ne.symm f_q3_q2)).trans hU_s))
  have f_q7_q3 : q7 ≠ q3 := fr_ne b_q7 ((hU_n (Ne.symm f_q4_q3)).trans hU_s)
  have f_q7_q4 : q7 ≠ q4 := fr_ne b_q7 hU_s
  have b_q5 : h q5 = none := (fr_U (fr_U (fr_U (fr_U (fr_U b_q5).1).1).1).1).1
  have b_q6 : h q6 = none := (fr_U (fr_U (fr_U (fr_U (fr_U b_q6).1).1).1).1).1
  have b_q7 : h q7 = none := (fr_U (fr_U (fr_U (fr_U (fr_U b_q7).1).1).1).1).1
  refine v_eqh (h2 := (hU (hU (hU (hU (hU (hU (hU (hU h q1 (ar g 2 8 (fun _ => none))) a (ob 6 [.ref q1, .int 0, .ref q2, .int 0, .ref q3, .null, .int 0, .int 0, .int 0, .int 0])) q2 (ar g 4 6 (fun _ => none))) q3 (ai g 5 (fun j => tb0.getD j 0))) q4 (ob 0 [.ref q3, .ref q2, .ref q5, .ref q6, .ref q7, .int 0, .int 0, .int 1])) q5 (ai g 10 (fun _ => 0))) q6 (ob 3 [.int 0, .int 0, .int 0, .int 0, .int 0])) q7 (ob 3 [.int 0, .int 0, .int 0, .int 0, .int 0]))) (Eq.trans (Eq.trans (Eq.trans (congrArg (fun z => hU (hU (hU (z) q4 (ob 0 [.ref q3, .ref q2, .ref q5, .ref q6, .ref q7, .int 0, .int 0, .int 1])) q6 (ob 3 [.int 0, .int 0, .int 0, .int 0, .int 0])) q7 (ob 3 [.int 0, .int 0, .int 0, .int 0, .int 0])) rfl) (congrArg (fun z => hU (hU (z) q6 (ob 3 [.int 0, .int 0, .int 0, .int 0, .int 0])) q7 (ob 3 [.int 0, .int 0, .int 0, .int 0, .int 0])) (hU_u2 f_q5_q4))) (congrArg (fun z => hU (z) q7 (ob 3 [.int 0, .int 0, .int 0, .int 0, .int 0])) rfl)) rfl) ?_
  refine v_putF (h2 := (hU (hU (hU (hU (hU (hU (hU (hU h q1 (ar g 2 8 (fun _ => none))) a (ob 6 [.ref q1, .int 0, .ref q2, .int 0, .ref q3, .ref q4, .int 0, .int 0, .int 0, .int 0])) q2 (ar g 4 6 (fun _ => none))) q3 (ai g 5 (fun j => tb0.getD j 0))) q4 (ob 0 [.ref q3, .ref q2, .ref q5, .ref q6, .ref q7, .int 0, .int 0, .int 1])) q5 (ai g 10 (fun _ => 0))) q6 (ob 3 [.int 0, .int 0, .int 0, .int 0, .int 0])) q7 (ob 3 [.int 0, .int 0, .int 0, .int 0, .int 0]))) (ty := .object "LogRollers$Match") X I fX6_47 tyX6_ok nmX6 rfl rfl (by decide +kernel) ((hU_n (Ne.symm f_q7_a)).trans ((hU_n (Ne.symm f_q6_a)).trans ((hU_n (Ne.symm f_q5_a)).trans ((hU_n (Ne.symm f_q4_a)).trans ((hU_n (Ne.symm f_q3_a)).trans ((hU_n (Ne.symm f_q2_a)).trans hU_s)))))) rfl rfl (ltb rfl) dX6_init_61 (hU_u7 f_q2_a f_q3_a f_q4_a f_q5_a f_q6_a f_q7_a) ?_
  refine v_aload_n X dX6_init_64 0 rfl ?_
  refine v_iconst X dX6_init_65 (v := 0) (by decide) ?_
  refine v_putE (h2 := (hU (hU (hU (hU (hU (hU (hU (hU h q1 (ar g 2 8 (fun _ => none))) a (ob 6 [.ref q1, .int 0, .ref q2, .int 0, .ref q3, .ref q4, .int 0, .int 0, .int 0, .int 0])) q2 (ar g 4 6 (fun _ => none))) q3 (ai g 5 (fun j => tb0.getD j 0))) q4 (ob 0 [.ref q3, .ref q2, .ref q5, .ref q6, .ref q7, .int 0, .int 0, .int 1])) q5 (ai g 10 (fun _ => 0))) q6 (ob 3 [.int 0, .int 0, .int 0, .int 0, .int 0])) q7 (ob 3 [.int 0, .int 0, .int 0, .int 0, .int 0]))) X fX6_51 tyX6_ok nmX6 rfl pd_Z ((hU_n (Ne.symm f_q7_a)).trans ((hU_n (Ne.symm f_q6_a)).trans ((hU_n (Ne.symm f_q5_a)).trans ((hU_n (Ne.symm f_q4_a)).trans ((hU_n (Ne.symm f_q3_a)).trans ((hU_n (Ne.symm f_q2_a)).trans hU_s)))))) rfl rfl (ltb rfl) dX6_init_66 (hU_u7 f_q2_a f_q3_a f_q4_a f_q5_a f_q6_a f_q7_a) ?_
  refine v_aload_n X dX6_init_69 0 rfl ?_
  refine v_iconst X dX6_init_70 (v := 0) (by decide) ?_
  refine v_putE (h2 := (hU (hU (hU (hU (hU (hU (hU (hU h q1 (ar g 2 8 (fun _ => none))) a (ob 6 [.ref q1, .int 0, .ref q2, .int 0, .ref q3, .ref q4, .int 0, .int 0, .int 0, .int 0])) q2 (ar g 4 6 (fun _ => none))) q3 (ai g 5 (fun j => tb0.getD j 0))) q4 (ob 0 [.ref q3, .ref q2, .ref q5, .ref q6, .ref q7, .int 0, .int 0, .int 1])) q5 (ai g 10 (fun _ => 0))) q6 (ob 3 [.int 0, .int 0, .int 0, .int 0, .int 0])) q7 (ob 3 [.int 0, .int 0, .int 0, .int 0, .int 0]))) X fX6_55 tyX6_ok nmX6 rfl pd_I ((hU_n (Ne.symm f_q7_a)).trans ((hU_n (Ne.symm f_q6_a)).trans ((hU_n (Ne.symm f_q5_a)).trans ((hU_n (Ne.symm f_q4_a)).trans ((hU_n (Ne.symm f_q3_a)).trans ((hU_n (Ne.symm f_q2_a)).trans hU_s)))))) rfl rfl (ltb rfl) dX6_init_71 (hU_u7 f_q2_a f_q3_a f_q4_a f_q5_a f_q6_a f_q7_a) ?_
  refine v_aload_n X dX6_init_74 0 rfl ?_
  refine v_iconst X dX6_init_75 (v := 0) (by decide) ?_
  refine v_putE (h2 := (hU (hU (hU (hU (hU (hU (hU (hU h q1 (ar g 2 8 (fun _ => none))) a (ob 6 [.ref q1, .int 0, .ref q2, .int 0, .ref q3, .ref q4, .int 0, .int 0, .int 0, .int 0])) q2 (ar g 4 6 (fun _ => none))) q3 (ai g 5 (fun j => tb0.getD j 0))) q4 (ob 0 [.ref q3, .ref q2, .ref q5, .ref q6, .ref q7, .int 0, .int 0, .int 1])) q5 (ai g 10 (fun _ => 0))) q6 (ob 3 [.int 0, .int 0, .int 0, .int 0, .int 0])) q7 (ob 3 [.int 0, .int 0, .int 0, .int 0, .int 0]))) X fX6_58 tyX6_ok nmX6 rfl pd_I ((hU_n (Ne.symm f_q7_a)).trans ((hU_n (Ne.symm f_q6_a)).trans ((hU_n (Ne.symm f_q5_a)).trans ((hU_n (Ne.symm f_q4_a)).trans ((hU_n (Ne.symm f_q3_a)).trans ((hU_n (Ne.symm f_q2_a)).trans hU_s)))))) rfl rfl (ltb rfl) dX6_init_76 (hU_u7 f_q2_a f_q3_a f_q4_a f_q5_a f_q6_a f_q7_a) ?_
  refine v_aload_n X dX6_init_79 0 rfl ?_
  refine v_iconst X dX6_init_80 (v := 0) (by decide) ?_
  refine v_putE (h2 := (hU (hU (hU (hU (hU (hU (hU (hU h q1 (ar g 2 8 (fun _ => none))) a (ob 6 [.ref q1, .int 0, .ref q2, .int 0, .ref q3, .ref q4, .int 0, .int 0, .int 0, .int 0])) q2 (ar g 4 6 (fun _ => none))) q3 (ai g 5 (fun j => tb0.getD j 0))) q4 (ob 0 [.ref q3, .ref q2, .ref q5, .ref q6, .ref q7, .int 0, .int 0, .int 1])) q5 (ai g 10 (fun _ => 0))) q6 (ob 3 [.int 0, .int 0, .int 0, .int 0, .int 0])) q7 (ob 3 [.int 0, .int 0, .int 0, .int 0, .int 0]))) X fX6_61 tyX6_ok nmX6 rfl pd_I ((hU_n (Ne.symm f_q7_a)).trans ((hU_n (Ne.symm f_q6_a)).trans ((hU_n (Ne.symm f_q5_a)).trans ((hU_n (Ne.symm f_q4_a)).trans ((hU_n (Ne.symm f_q3_a)).trans ((hU_n (Ne.symm f_q2_a)).trans hU_s)))))) rfl rfl (ltb rfl) dX6_init_81 (hU_u7 f_q2_a f_q3_a f_q4_a f_q5_a f_q6_a f_q7_a) ?_
  refine v_iconst X dX6_init_84 (v := 0) (by decide) ?_
  refine v_istore_n (lv1 := [(1, .int 0), (0, .ref a)]) X dX6_init_85 (by decide) rfl ?_
  refine v_iload_n X dX6_init_86 0 rfl ?_
  refine v_bipush X dX6_init_87 (v := 8) (by decide) ?_
  refine v_icmp_ge X dX6_init_89 (tgt := 111) (by decide) (fun c => absurd c (by decide)) (fun _ => ?_)
  refine v_aload_n X dX6_init_92 1 rfl ?_
  refine v_get X fX6_11 ((hU_n (Ne.symm f_q7_a)).trans ((hU_n (Ne.symm f_q6_a)).trans ((hU_n (Ne.symm f_q5_a)).trans ((hU_n (Ne.symm f_q4_a)).trans ((hU_n (Ne.symm f_q3_a)).trans ((hU_n (Ne.symm f_q2_a)).trans hU_s)))))) rfl dX6_init_93 ?_
  refine v_iload_n X dX6_init_96 0 rfl ?_
  refine v_newO (ci := 1) X [.int 0, .int 0, .int 0, .int 0, .int 0, .int 0, .int 0] cX6_9_l qx_X1 qi_X1 rfl u_X1 tyX1_ok df_X1 (Nat.le_of_ble_eq_true rfl) (Nat.le_of_ble_eq_true rfl) dX6_init_97 (fun q8 hq8 => ?_)
  have f_q8_q1 : q8 ≠ q1 := fr_ne hq8 ((hU_n (Ne.symm f_q7_q1)).trans ((hU_n (Ne.symm f_q6_q1)).trans ((hU_n (Ne.symm f_q5_q1)).trans ((hU_n (Ne.symm f_q4_q1)).trans ((hU_n (Ne.symm f_q3_q1)).trans ((hU_n (Ne.symm f_q2_q1)).trans ((hU_n f_q1_a).trans hU_s)))))))
  have f_q8_a : q8 ≠ a := fr_ne hq8 ((hU_n (Ne.symm f_q7_a)).trans ((hU_n (Ne.symm f_q6_a)).trans ((hU_n (Ne.symm f_q5_a)).trans ((hU_n (Ne.symm f_q4_a)).trans ((hU_n (Ne.symm f_q3_a)).trans ((hU_n (Ne.symm f_q2_a)).trans hU_s))))))
  have f_q8_q2 : q8 ≠ q2 := fr_ne hq8 ((hU_n (Ne.symm f_q7_q2)).trans ((hU_n (Ne.symm f_q6_q2)).trans ((hU_n (Ne.symm f_q5_q2)).trans ((hU_n (Ne.symm f_q4_q2)).trans ((hU_n (Ne.symm f_q3_q2)).trans hU_s)))))
  have f_q8_q3 : q8 ≠ q3 := fr_ne hq8 ((hU_n (Ne.symm f_q7_q3)).trans ((hU_n (Ne.symm f_q6_q3)).trans ((hU_n (Ne.symm f_q5_q3)).trans ((hU_n (Ne.symm f_q4_q3)).trans hU_s))))
  have f_q8_q4 : q8 ≠ q4 := fr_ne hq8 ((hU_n (Ne.symm f_q7_q4)).trans ((hU_n (Ne.symm f_q6_q4)).trans ((hU_n (Ne.symm f_q5_q4)).trans hU_s)))
  have f_q8_q5 : q8 ≠ q5 := fr_ne hq8 ((hU_n (Ne.symm f_q7_q5)).trans ((hU_n (Ne.symm f_q6_q5)).trans hU_s))
  have f_q8_q6 : q8 ≠ q6 := fr_ne hq8 ((hU_n (Ne.symm f_q7_q6)).trans hU_s)
  have f_q8_q7 : q8 ≠ q7 := fr_ne hq8 hU_s
  have b_q8 : h q8 = none := (fr_U (fr_U (fr_U (fr_U (fr_U (fr_U (fr_U (fr_U hq8).1).1).1).1).1).1).1).1
  refine v_dup X dX6_init_100 rfl ?_
  refine v_cInv X [] sX6_64 (ct_X1_init ll g) dX6_init_101 rfl rfl ⟨rfl, rfl⟩ ⟨(Nat.le_of_ble_eq_true rfl), (Nat.le_of_ble_eq_true rfl)⟩ ⟨(Nat.le_of_ble_eq_true rfl), (Nat.le_of_ble_eq_true rfl)⟩ (Nat.le_of_ble_eq_true rfl) ?_
  refine v_aastK (h2 := (hU (hU (hU (hU (hU (hU (hU (hU (hU h q1 (ar g 2 8 (va_up (fun _ => none) 0 (some q8)))) a (ob 6 [.ref q1, .int 0, .ref q2, .int 0, .ref q3, .ref q4, .int 0, .int 0, .int 0, .int 0])) q2 (ar g 4 6 (fun _ => none))) q3 (ai g 5 (fun j => tb0.getD j 0))) q4 (ob 0 [.ref q3, .ref q2, .ref q5, .ref q6, .ref q7, .int 0, .int 0, .int 1])) q5 (ai g 10 (fun _ => 0))) q6 (ob 3 [.int 0, .int 0, .int 0, .int 0, .int 0])) q7 (ob 3 [.int 0, .int 0, .int 0, .int 0, .int 0])) q8 (ob 1 [.int 0, .int 0, .int 0, .int 0, .int 0, .int 0, .int 0]))) X 2 rfl rfl 0 ((hU_n (Ne.symm f_q8_q1)).trans ((hU_n (Ne.symm f_q7_q1)).trans ((hU_n (Ne.symm f_q6_q1)).trans ((hU_n (Ne.symm f_q5_q1)).trans ((hU_n (Ne.symm f_q4_q1)).trans ((hU_n (Ne.symm f_q3_q1)).trans ((hU_n (Ne.symm f_q2_q1)).trans ((hU_n f_q1_a).trans hU_s)))))))) hU_s (rfl : (0 : Int32) = nI 0) (by decide) (by decide) dX6_init_104 (hU_u9 (Ne.symm f_q1_a) f_q2_q1 f_q3_q1 f_q4_q1 f_q5_q1 f_q6_q1 f_q7_q1 f_q8_q1) ?_
  refine v_iinc (v := 1) (lv1 := [(1, .int 1), (0, .ref a)]) X dX6_init_105 0 rfl (by decide) (by decide) rfl ?_
  refine v_goto X dX6_init_108 (tgt := 86) (by decide) ?_
  refine v_iload_n X dX6_init_86 0 rfl ?_
  refine v_bipush X dX6_init_87 (v := 8) (by decide) ?_
  refine v_icmp_ge X dX6_init_89 (tgt := 111) (by decide) (fun c => absurd c (by decide)) (fun _ => ?_)
  refine v_aload_n X dX6_init_92 1 rfl ?_
  refine v_get X fX6_11 ((hU_n (Ne.symm f_q8_a)).trans ((hU_n (Ne.symm f_q7_a)).trans ((hU_n (Ne.symm f_q6_a)).trans ((hU_n (Ne.symm f_q5_a)).trans ((hU_n (Ne.symm f_q4_a)).trans ((hU_n (Ne.symm f_q3_a)).trans ((hU_n (Ne.symm f_q2_a)).trans hU_s))))))) rfl dX6_init_93 ?_
  refine v_iload_n X dX6_init_96 0 rfl ?_
  refine v_newO (ci := 1) X [.int 0, .int 0, .int 0, .int 0, .int 0, .int 0, .int 0] cX6_9_l qx_X1 qi_X1 rfl u_X1 tyX1_ok df_X1 (Nat.le_of_ble_eq_true rfl) (Nat.le_of_ble_eq_true rfl) dX6_init_97 (fun q9 hq9 => ?_)
  have f_q9_q1 : q9 ≠ q1 := fr_ne hq9 ((hU_n (Ne.symm f_q8_q1)).trans ((hU_n (Ne.symm f_q7_q1)).trans ((hU_n (Ne.symm f_q6_q1)).trans ((hU_n (Ne.symm f_q5_q1)).trans ((hU_n (Ne.symm f_q4_q1)).trans ((hU_n (Ne.symm f_q3_q1)).trans ((hU_n (Ne.symm f_q2_q1)).trans ((hU_n f_q1_a).trans hU_s))))))))
  have f_q9_a : q9 ≠ a := fr_ne hq9 ((hU_n (Ne.symm f_q8_a)).trans ((hU_n (Ne.symm f_q7_a)).trans ((hU_n (Ne.symm f_q6_a)).trans ((hU_n (Ne.symm f_q5_a)).trans ((hU_n (Ne.symm f_q4_a)).trans ((hU_n (Ne.symm f_q3_a)).trans ((hU_n (Ne.symm f_q2_a)).trans hU_s)))))))
  have f_q9_q2 : q9 ≠ q2 := fr_ne hq9 ((hU_n (Ne.symm f_q8_q2)).trans ((hU_n (Ne.symm f_q7_q2)).trans ((hU_n (Ne.symm f_q6_q2)).trans ((hU_n (Ne.symm f_q5_q2)).trans ((hU_n (Ne.symm f_q4_q2)).trans ((hU_n (Ne.symm f_q3_q2)).trans hU_s))))))
  have f_q9_q3 : q9 ≠ q3 := fr_ne hq9 ((hU_n (Ne.symm f_q8_q3)).trans ((hU_n (Ne.symm f_q7_q3)).trans ((hU_n (Ne.symm f_q6_q3)).trans ((hU_n (Ne.symm f_q5_q3)).trans ((hU_n (Ne.symm f_q4_q3)).trans hU_s)))))
  have f_q9_q4 : q9 ≠ q4 := fr_ne hq9 ((hU_n (Ne.symm f_q8_q4)).trans ((hU_n (Ne.symm f_q7_q4)).trans ((hU_n (Ne.symm f_q6_q4)).trans ((hU_n (Ne.symm f_q5_q4)).trans hU_s))))
  have f_q9_q5 : q9 ≠ q5 := fr_ne hq9 ((hU_n (Ne.symm f_q8_q5)).trans ((hU_n (Ne.symm f_q7_q5)).trans ((hU_n (Ne.symm f_q6_q5)).trans hU_s)))
  have f_q9_q6 : q9 ≠ q6 := fr_ne hq9 ((hU_n (Ne.symm f_q8_q6)).trans ((hU_n (Ne.symm f_q7_q6)).trans hU_s))
  have f_q9_q7 : q9 ≠ q7 := fr_ne hq9 ((hU_n (Ne.symm f_q8_q7)).trans hU_s)
  have f_q9_q8 : q9 ≠ q8 := fr_ne hq9 hU_s
  have b_q9 : h q9 = none := (fr_U (fr_U (fr_U (fr_U (fr_U (fr_U (fr_U (fr_U (fr_U hq9).1).1).1).1).1).1).1).1).1
  refine v_dup X dX6_init_100 rfl ?_
  refine v_cInv X [] sX6_64 (ct_X1_init ll g) dX6_init_101 rfl rfl ⟨rfl, rfl⟩ ⟨(Nat.le_of_ble_eq_true rfl), (Nat.le_of_ble_eq_true rfl)⟩ ⟨(Nat.le_of_ble_eq_true rfl), (Nat.le_of_ble_eq_true rfl)⟩ (Nat.le_of_ble_eq_true rfl) ?_
  refine v_aastK (h2 := (hU (hU (hU (hU (hU (hU (hU (hU (hU (hU h q1 (ar g 2 8 (va_up (va_up (fun _ => none) 0 (some q8)) 1 (some q9)))) a (ob 6 [.ref q1, .int 0, .ref q2, .int 0, .ref q3, .ref q4, .int 0, .int 0, .int 0, .int 0])) q2 (ar g 4 6 (fun _ => none))) q3 (ai g 5 (fun j => tb0.getD j 0))) q4 (ob 0 [.ref q3, .ref q2, .ref q5, .ref q6, .ref q7, .int 0, .int 0, .int 1])) q5 (ai g 10 (fun _ => 0))) q6 (ob 3 [.int 0, .int 0, .int 0, .int 0, .int 0])) q7 (ob 3 [.int 0, .int 0, .int 0, .int 0, .int 0])) q8 (ob 1 [.int 0, .int 0, .int 0, .int 0, .int 0, .int 0, .int 0])) q9 (ob 1 [.int 0, .int 0, .int 0, .int 0, .int 0, .int 0, .int 0]))) X 2 rfl rfl 1 ((hU_n (Ne.symm f_q9_q1)).trans ((hU_n (Ne.symm f_q8_q1)).trans ((hU_n (Ne.symm f_q7_q1)).trans ((hU_n (Ne.symm f_q6_q1)).trans ((hU_n (Ne.symm f_q5_q1)).trans ((hU_n (Ne.symm f_q4_q1)).trans ((hU_n (Ne.symm f_q3_q1)).trans ((hU_n (Ne.symm f_q2_q1)).trans ((hU_n f_q1_a).trans hU_s))))))))) hU_s (rfl : (1 : Int32) = nI 1) (by decide) (by decide) dX6_init_104 (hU_u10 (Ne.symm f_q1_a) f_q2_q1 f_q3_q1 f_q4_q1 f_q5_q1 f_q6_q1 f_q7_q1 f_q8_q1 f_q9_q1) ?_
  refine v_iinc (v := 2) (lv1 := [(1, .int 2), (0, .ref a)]) X dX6_init_105 0 rfl (by decide) (by decide) rfl ?_
  refine v_goto X dX6_init_108 (tgt := 86) (by decide) ?_
  refine v_iload_n X dX6_init_86 0 rfl ?_
  refine v_bipush X dX6_init_87 (v := 8) (by decide) ?_
  refine v_icmp_ge X dX6_init_89 (tgt := 111) (by decide) (fun c => absurd c (by decide)) (fun _ => ?_)
  refine v_aload_n X dX6_init_92 1 rfl ?_
  refine v_get X fX6_11 ((hU_n (Ne.symm f_q9_a)).trans ((hU_n (Ne.symm f_q8_a)).trans ((hU_n (Ne.symm f_q7_a)).trans ((hU_n (Ne.symm f_q6_a)).trans ((hU_n (Ne.symm f_q5_a)).trans ((hU_n (Ne.symm f_q4_a)).trans ((hU_n (Ne.symm f_q3_a)).trans ((hU_n (Ne.symm f_q2_a)).trans hU_s)))))))) rfl dX6_init_93 ?_
  refine v_iload_n X dX6_init_96 0 rfl ?_
  refine v_newO (ci := 1) X [.int 0, .int 0, .int 0, .int 0, .int 0, .int 0, .int 0] cX6_9_l qx_X1 qi_X1 rfl u_X1 tyX1_ok df_X1 (Nat.le_of_ble_eq_true rfl) (Nat.le_of_ble_eq_true rfl) dX6_init_97 (fun q10 hq10 => ?_)
  have f_q10_q1 : q10 ≠ q1 := fr_ne hq10 ((hU_n (Ne.symm f_q9_q1)).trans ((hU_n (Ne.symm f_q8_q1)).trans ((hU_n (Ne.symm f_q7_q1)).trans ((hU_n (Ne.symm f_q6_q1)).trans ((hU_n (Ne.symm f_q5_q1)).trans ((hU_n (Ne.symm f_q4_q1)).trans ((hU_n (Ne.symm f_q3_q1)).trans ((hU_n (Ne.symm f_q2_q1)).trans ((hU_n f_q1_a).trans hU_s)))))))))
  have f_q10_a : q10 ≠ a := fr_ne hq10 ((hU_n (Ne.symm f_q9_a)).trans ((hU_n (Ne.symm f_q8_a)).trans ((hU_n (Ne.symm f_q7_a)).trans ((hU_n (Ne.symm f_q6_a)).trans ((hU_n (Ne.symm f_q5_a)).trans ((hU_n (Ne.symm f_q4_a)).trans ((hU_n (Ne.symm f_q3_a)).trans ((hU_n (Ne.symm f_q2_a)).trans hU_s))))))))
  have f_q10_q2 : q10 ≠ q2 := fr_ne hq10 ((hU_n (Ne.symm f_q9_q2)).trans ((hU_n (Ne.symm f_q8_q2)).trans ((hU_n (Ne.symm f_q7_q2)).trans ((hU_n (Ne.symm f_q6_q2)).trans ((hU_n (Ne.symm f_q5_q2)).trans ((hU_n (Ne.symm f_q4_q2)).trans ((hU_n (Ne.symm f_q3_q2)).trans hU_s)))))))
  have f_q10_q3 : q10 ≠ q3 := fr_ne hq10 ((hU_n (Ne.symm f_q9_q3)).trans ((hU_n (Ne.symm f_q8_q3)).trans ((hU_n (Ne.symm f_q7_q3)).trans ((hU_n (Ne.symm f_q6_q3)).trans ((hU_n (Ne.symm f_q5_q3)).trans ((hU_n (Ne.symm f_q4_q3)).trans hU_s))))))
  have f_q10_q4 : q10 ≠ q4 := fr_ne hq10 ((hU_n (Ne.symm f_q9_q4)).trans ((hU_n (Ne.symm f_q8_q4)).trans ((hU_n (Ne.symm f_q7_q4)).trans ((hU_n (Ne.symm f_q6_q4)).trans ((hU_n (Ne.symm f_q5_q4)).trans hU_s)))))
  have f_q10_q5 : q10 ≠ q5 := fr_ne hq10 ((hU_n (Ne.symm f_q9_q5)).trans ((hU_n (Ne.symm f_q8_q5)).trans ((hU_n (Ne.symm f_q7_q5)).trans ((hU_n (Ne.symm f_q6_q5)).trans hU_s))))
  have f_q10_q6 : q10 ≠ q6 := fr_ne hq10 ((hU_n (Ne.symm f_q9_q6)).trans ((hU_n (Ne.symm f_q8_q6)).trans ((hU_n (Ne.symm f_q7_q6)).trans hU_s)))
  have f_q10_q7 : q10 ≠ q7 := fr_ne hq10 ((hU_n (Ne.symm f_q9_q7)).trans ((hU_n (Ne.symm f_q8_q7)).trans hU_s))
  have f_q10_q8 : q10 ≠ q8 := fr_ne hq10 ((hU_n (Ne.symm f_q9_q8)).trans hU_s)
  have f_q10_q9 : q10 ≠ q9 := fr_ne hq10 hU_s
  have b_q10 : h q10 = none := (fr_U (fr_U (fr_U (fr_U (fr_U (fr_U (fr_U (fr_U (fr_U (fr_U hq10).1).1).1).1).1).1).1).1).1).1
  refine v_dup X dX6_init_100 rfl ?_
  refine v_cInv X [] sX6_64 (ct_X1_init ll g) dX6_init_101 rfl rfl ⟨rfl, rfl⟩ ⟨(Nat.le_of_ble_eq_true rfl), (Nat.le_of_ble_eq_true rfl)⟩ ⟨(Nat.le_of_ble_eq_true rfl), (Nat.le_of_ble_eq_true rfl)⟩ (Nat.le_of_ble_eq_true rfl) ?_
  refine v_aastK (h2 := (hU (hU (hU (hU (hU (hU (hU (hU (hU (hU (hU h q1 (ar g 2 8 (va_up (va_up (va_up (fun _ => none) 0 (some q8)) 1 (some q9)) 2 (some q10)))) a (ob 6 [.ref q1, .int 0, .ref q2, .int 0, .ref q3, .ref q4, .int 0, .int 0, .int 0, .int 0])) q2 (ar g 4 6 (fun _ => none))) q3 (ai g 5 (fun j => tb0.getD j 0))) q4 (ob 0 [.ref q3, .ref q2, .ref q5, .ref q6, .ref q7, .int 0, .int 0, .int 1])) q5 (ai g 10 (fun _ => 0))) q6 (ob 3 [.int 0, .int 0, .int 0, .int 0, .int 0])) q7 (ob 3 [.int 0, .int 0, .int 0, .int 0, .int 0])) q8 (ob 1 [.int 0, .int 0, .int 0, .int 0, .int 0, .int 0, .int 0])) q9 (ob 1 [.int 0, .int 0, .int 0, .int 0, .int 0, .int 0, .int 0])) q10 (ob 1 [.int 0, .int 0, .int 0, .int 0, .int 0, .int 0, .int 0]))) X 2 rfl rfl 2 ((hU_n (Ne.symm f_q10_q1)).trans ((hU_n (Ne.symm f_q9_q1)).trans ((hU_n (Ne.symm f_q8_q1)).trans ((hU_n (Ne.symm f_q7_q1)).trans ((hU_n (Ne.symm f_q6_q1)).trans ((hU_n (Ne.symm f_q5_q1)).trans ((hU_n (Ne.symm f_q4_q1)).trans ((hU_n (Ne.symm f_q3_q1)).trans ((hU_n (Ne.symm f_q2_q1)).trans ((hU_n f_q1_a).trans hU_s)))))))))) hU_s (rfl : (2 : Int32) = nI 2) (by decide) (by decide) dX6_init_104 (hU_u11 (Ne.symm f_q1_a) f_q2_q1 f_q3_q1 f_q4_q1 f_q5_q1 f_q6_q1 f_q7_q1 f_q8_q1 f_q9_q1 f_q10_q1) ?_
  refine v_iinc (v := 3) (lv1 := [(1, .int 3), (0, .ref a)]) X dX6_init_105 0 rfl (by decide) (by decide) rfl ?_
  refine v_goto X dX6_init_108 (tgt := 86) (by decide) ?_
  refine v_iload_n X dX6_init_86 0 rfl ?_
  refine v_bipush X dX6_init_87 (v := 8) (by decide) ?_
  refine v_icmp_ge X dX6_init_89 (tgt := 111) (by decide) (fun c => absurd c (by decide)) (fun _ => ?_)
  refine v_aload_n X dX6_init_92 1 rfl ?_
  refine v_get X fX6_11 ((hU_n (Ne.symm f_q10_a)).trans ((hU_n (Ne.symm f_q9_a)).trans ((hU_n (Ne.symm f_q8_a)).trans ((hU_n (Ne.symm f_q7_a)).trans ((hU_n (Ne.symm f_q6_a)).trans ((hU_n (Ne.symm f_q5_a)).trans ((hU_n (Ne.symm f_q4_a)).trans ((hU_n (Ne.symm f_q3_a)).trans ((hU_n (Ne.symm f_q2_a)).trans hU_s))))))))) rfl dX6_init_93 ?_
  refine v_iload_n X dX6_init_96 0 rfl ?_
  refine v_newO (ci := 1) X [.int 0, .int 0, .int 0, .int 0, .int 0, .int 0, .int 0] cX6_9_l qx_X1 qi_X1 rfl u_X1 tyX1_ok df_X1 (Nat.le_of_ble_eq_true rfl) (Nat.le_of_ble_eq_true rfl) dX6_init_97 (fun q11 hq11 => ?_)
  have f_q11_q1 : q11 ≠ q1 := fr_ne hq11 ((hU_n (Ne.symm f_q10_q1)).trans ((hU_n (Ne.symm f_q9_q1)).trans ((hU_n (Ne.symm f_q8_q1)).trans ((hU_n (Ne.symm f_q7_q1)).trans ((hU_n (Ne.symm f_q6_q1)).trans ((hU_n (Ne.symm f_q5_q1)).trans ((hU_n (Ne.symm f_q4_q1)).trans ((hU_n (Ne.symm f_q3_q1)).trans ((hU_n (Ne.symm f_q2_q1)).trans ((hU_n f_q1_a).trans hU_s))))))))))
  have f_q11_a : q11 ≠ a := fr_ne hq11 ((hU_n (Ne.symm f_q10_a)).trans ((hU_n (Ne.symm f_q9_a)).trans ((hU_n (Ne.symm f_q8_a)).trans ((hU_n (Ne.symm f_q7_a)).trans ((hU_n (Ne.symm f_q6_a)).trans ((hU_n (Ne.symm f_q5_a)).trans ((hU_n (Ne.symm f_q4_a)).trans ((hU_n (Ne.symm f_q3_a)).trans ((hU_n (Ne.symm f_q2_a)).trans hU_s)))))))))
  have f_q11_q2 : q11 ≠ q2 := fr_ne hq11 ((hU_n (Ne.symm f_q10_q2)).trans ((hU_n (Ne.symm f_q9_q2)).trans ((hU_n (Ne.symm f_q8_q2)).trans ((hU_n (Ne.symm f_q7_q2)).trans ((hU_n (Ne.symm f_q6_q2)).trans ((hU_n (Ne.symm f_q5_q2)).trans ((hU_n (Ne.symm f_q4_q2)).trans ((hU_n (Ne.symm f_q3_q2)).trans hU_s))))))))
  have f_q11_q3 : q11 ≠ q3 := fr_ne hq11 ((hU_n (Ne.symm f_q10_q3)).trans ((hU_n (Ne.symm f_q9_q3)).trans ((hU_n (Ne.symm f_q8_q3)).trans ((hU_n (Ne.symm f_q7_q3)).trans ((hU_n (Ne.symm f_q6_q3)).trans ((hU_n (Ne.symm f_q5_q3)).trans ((hU_n (Ne.symm f_q4_q3)).trans hU_s)))))))
  have f_q11_q4 : q11 ≠ q4 := fr_ne hq11 ((hU_n (Ne.symm f_q10_q4)).trans ((hU_n (Ne.symm f_q9_q4)).trans ((hU_n (Ne.symm f_q8_q4)).trans ((hU_n (Ne.symm f_q7_q4)).trans ((hU_n (Ne.symm f_q6_q4)).trans ((hU_n (Ne.symm f_q5_q4)).trans hU_s))))))
  have f_q11_q5 : q11 ≠ q5 := fr_ne hq11 ((hU_n (Ne.symm f_q10_q5)).trans ((hU_n (Ne.symm f_q9_q5)).trans ((hU_n (Ne.symm f_q8_q5)).trans ((hU_n (Ne.symm f_q7_q5)).trans ((hU_n (Ne.symm f_q6_q5)).trans hU_s)))))
  have f_q11_q6 : q11 ≠ q6 := fr_ne hq11 ((hU_n (Ne.symm f_q10_q6)).trans ((hU_n (Ne.symm f_q9_q6)).trans ((hU_n (Ne.symm f_q8_q6)).trans ((hU_n (Ne.symm f_q7_q6)).trans hU_s))))
  have f_q11_q7 : q11 ≠ q7 := fr_ne hq11 ((hU_n (Ne.symm f_q10_q7)).trans ((hU_n (Ne.symm f_q9_q7)).trans ((hU_n (Ne.symm f_q8_q7)).trans hU_s)))
  have f_q11_q8 : q11 ≠ q8 := fr_ne hq11 ((hU_n (Ne.symm f_q10_q8)).trans ((hU_n (Ne.symm f_q9_q8)).trans hU_s))
  have f_q11_q9 : q11 ≠ q9 := fr_ne hq11 ((hU_n (Ne.symm f_q10_q9)).trans hU_s)
  have f_q11_q10 : q11 ≠ q10 := fr_ne hq11 hU_s
  have b_q11 : h q11 = none := (fr_U (fr_U (fr_U (fr_U (fr_U (fr_U (fr_U (fr_U (fr_U (fr_U (fr_U hq11).1).1).1).1).1).1).1).1).1).1).1
  refine v_dup X dX6_init_100 rfl ?_
  refine v_cInv X [] sX6_64 (ct_X1_init ll g) dX6_init_101 rfl rfl ⟨rfl, rfl⟩ ⟨(Nat.le_of_ble_eq_true rfl), (Nat.le_of_ble_eq_true rfl)⟩ ⟨(Nat.le_of_ble_eq_true rfl), (Nat.le_of_ble_eq_true rfl)⟩ (Nat.le_of_ble_eq_true rfl) ?_
  refine v_aastK (h2 := (hU (hU (hU (hU (hU (hU (hU (hU (hU (hU (hU (hU h q1 (ar g 2 8 (va_up (va_up (va_up (va_up (fun _ => none) 0 (some q8)) 1 (some q9)) 2 (some q10)) 3 (some q11)))) a (ob 6 [.ref q1, .int 0, .ref q2, .int 0, .ref q3, .ref q4, .int 0, .int 0, .int 0, .int 0])) q2 (ar g 4 6 (fun _ => none))) q3 (ai g 5 (fun j => tb0.getD j 0))) q4 (ob 0 [.ref q3, .ref q2, .ref q5, .ref q6, .ref q7, .int 0, .int 0, .int 1])) q5 (ai g 10 (fun _ => 0))) q6 (ob 3 [.int 0, .int 0, .int 0, .int 0, .int 0])) q7 (ob 3 [.int 0, .int 0, .int 0, .int 0, .int 0])) q8 (ob 1 [.int 0, .int 0, .int 0, .int 0, .int 0, .int 0, .int 0])) q9 (ob 1 [.int 0, .int 0, .int 0, .int 0, .int 0, .int 0, .int 0])) q10 (ob 1 [.int 0, .int 0, .int 0, .int 0, .int 0, .int 0, .int 0])) q11 (ob 1 [.int 0, .int 0, .int 0, .int 0, .int 0, .int 0, .int 0]))) X 2 rfl rfl 3 ((hU_n (Ne.symm f_q11_q1)).trans ((hU_n (Ne.symm f_q10_q1)).trans ((hU_n (Ne.symm f_q9_q1)).trans ((hU_n (Ne.symm f_q8_q1)).trans ((hU_n (Ne.symm f_q7_q1)).trans ((hU_n (Ne.symm f_q6_q1)).trans ((hU_n (Ne.symm f_q5_q1)).trans ((hU_n (Ne.symm f_q4_q1)).trans ((hU_n (Ne.symm f_q3_q1)).trans ((hU_n (Ne.symm f_q2_q1)).trans ((hU_n f_q1_a).trans hU_s))))))))))) hU_s (rfl : (3 : Int32) = nI 3) (by decide) (by decide) dX6_init_104 (hU_u12 (Ne.symm f_q1_a) f_q2_q1 f_q3_q1 f_q4_q1 f_q5_q1 f_q6_q1 f_q7_q1 f_q8_q1 f_q9_q1 f_q10_q1 f_q11_q1) ?_
  refine v_iinc (v := 4) (lv1 := [(1, .int 4), (0, .ref a)]) X dX6_init_105 0 rfl (by decide) (by decide) rfl ?_
  refine v_goto X dX6_init_108 (tgt := 86) (by decide) ?_
  refine v_iload_n X dX6_init_86 0 rfl ?_
  refine v_bipush X dX6_init_87 (v := 8) (by decide) ?_
  refine v_icmp_ge X dX6_init_89 (tgt := 111) (by decide) (fun c => absurd c (by decide)) (fun _ => ?_)
  refine v_aload_n X dX6_init_92 1 rfl ?_
  refine v_get X fX6_11 ((hU_n (Ne.symm f_q11_a)).trans ((hU_n (Ne.symm f_q10_a)).trans ((hU_n (Ne.symm f_q9_a)).trans ((hU_n (Ne.symm f_q8_a)).trans ((hU_n (Ne.symm f_q7_a)).trans ((hU_n (Ne.symm f_q6_a)).trans ((hU_n (Ne.symm f_q5_a)).trans ((hU_n (Ne.symm f_q4_a)).trans ((hU_n (Ne.symm f_q3_a)).trans ((hU_n (Ne.symm f_q2_a)).trans hU_s)))))))))) rfl dX6_init_93 ?_
  refine v_iload_n X dX6_init_96 0 rfl ?_
  refine v_newO (ci := 1) X [.int 0, .int 0, .int 0, .int 0, .int 0, .int 0, .int 0] cX6_9_l qx_X1 qi_X1 rfl u_X1 tyX1_ok df_X1 (Nat.le_of_ble_eq_true rfl) (Nat.le_of_ble_eq_true rfl) dX6_init_97 (fun q12 hq12 => ?_)
  have f_q12_q1 : q12 ≠ q1 := fr_ne hq12 ((hU_n (Ne.symm f_q11_q1)).trans ((hU_n (Ne.symm f_q10_q1)).trans ((hU_n (Ne.symm f_q9_q1)).trans ((hU_n (Ne.symm f_q8_q1)).trans ((hU_n (Ne.symm f_q7_q1)).trans ((hU_n (Ne.symm f_q6_q1)).trans ((hU_n (Ne.symm f_q5_q1)).trans ((hU_n (Ne.symm f_q4_q1)).trans ((hU_n (Ne.symm f_q3_q1)).trans ((hU_n (Ne.symm f_q2_q1)).trans ((hU_n f_q1_a).trans hU_s)))))))))))
  have f_q12_a : q12 ≠ a := fr_ne hq12 ((hU_n (Ne.symm f_q11_a)).trans ((hU_n (Ne.symm f_q10_a)).trans ((hU_n (Ne.symm f_q9_a)).trans ((hU_n (Ne.symm f_q8_a)).trans ((hU_n (Ne.symm f_q7_a)).trans ((hU_n (Ne.symm f_q6_a)).trans ((hU_n (Ne.symm f_q5_a)).trans ((hU_n (Ne.symm f_q4_a)).trans ((hU_n (Ne.symm f_q3_a)).trans ((hU_n (Ne.symm f_q2_a)).trans hU_s))))))))))
  have f_q12_q2 : q12 ≠ q2 := fr_ne hq12 ((hU_n (Ne.symm f_q11_q2)).trans ((hU_n (Ne.symm f_q10_q2)).trans ((hU_n (Ne.symm f_q9_q2)).trans ((hU_n (Ne.symm f_q8_q2)).trans ((hU_n (Ne.symm f_q7_q2)).trans ((hU_n (Ne.symm f_q6_q2)).trans ((hU_n (Ne.symm f_q5_q2)).trans ((hU_n (Ne.symm f_q4_q2)).trans ((hU_n (Ne.symm f_q3_q2)).trans hU_s)))))))))
  have f_q12_q3 : q12 ≠ q3 := fr_ne hq12 ((hU_n (Ne.symm f_q11_q3)).trans ((hU_n (Ne.symm f_q10_q3)).trans ((hU_n (Ne.symm f_q9_q3)).trans ((hU_n (Ne.symm f_q8_q3)).trans ((hU_n (Ne.symm f_q7_q3)).trans ((hU_n (Ne.symm f_q6_q3)).trans ((hU_n (Ne.symm f_q5_q3)).trans ((hU_n (Ne.symm f_q4_q3)).trans hU_s))))))))
  have f_q12_q4 : q12 ≠ q4 := fr_ne hq12 ((hU_n (Ne.symm f_q11_q4)).trans ((hU_n (Ne.symm f_q10_q4)).trans ((hU_n (Ne.symm f_q9_q4)).trans ((hU_n (Ne.symm f_q8_q4)).trans ((hU_n (Ne.symm f_q7_q4)).trans ((hU_n (Ne.symm f_q6_q4)).trans ((hU_n (Ne.symm f_q5_q4)).trans hU_s)))))))
  have f_q12_q5 : q12 ≠ q5 := fr_ne hq12 ((hU_n (Ne.symm f_q11_q5)).trans ((hU_n (Ne.symm f_q10_q5)).trans ((hU_n (Ne.symm f_q9_q5)).trans ((hU_n (Ne.symm f_q8_q5)).trans ((hU_n (Ne.symm f_q7_q5)).trans ((hU_n (Ne.symm f_q6_q5)).trans hU_s))))))
  have f_q12_q6 : q12 ≠ q6 := fr_ne hq12 ((hU_n (Ne.symm f_q11_q6)).trans ((hU_n (Ne.symm f_q10_q6)).trans ((hU_n (Ne.symm f_q9_q6)).trans ((hU_n (Ne.symm f_q8_q6)).trans ((hU_n (Ne.symm f_q7_q6)).trans hU_s)))))
  have f_q12_q7 : q12 ≠ q7 := fr_ne hq12 ((hU_n (Ne.symm f_q11_q7)).trans ((hU_n (Ne.symm f_q10_q7)).trans ((hU_n (Ne.symm f_q9_q7)).trans ((hU_n (Ne.symm f_q8_q7)).trans hU_s))))
  have f_q12_q8 : q12 ≠ q8 := fr_ne hq12 ((hU_n (Ne.symm f_q11_q8)).trans ((hU_n (Ne.symm f_q10_q8)).trans ((hU_n (Ne.symm f_q9_q8)).trans hU_s)))
  have f_q12_q9 : q12 ≠ q9 := fr_ne hq12 ((hU_n (Ne.symm f_q11_q9)).trans ((hU_n (Ne.symm f_q10_q9)).trans hU_s))
  have f_q12_q10 : q12 ≠ q10 := fr_ne hq12 ((hU_n (Ne.symm f_q11_q10)).trans hU_s)
  have f_q12_q11 : q12 ≠ q11 := fr_ne hq12 hU_s
  have b_q12 : h q12 = none := (fr_U (fr_U (fr_U (fr_U (fr_U (fr_U (fr_U (fr_U (fr_U (fr_U (fr_U (fr_U hq12).1).1).1).1).1).1).1).1).1).1).1).1
  refine v_dup X dX6_init_100 rfl ?_
  refine v_cInv X [] sX6_64 (ct_X1_init ll g) dX6_init_101 rfl rfl ⟨rfl, rfl⟩ ⟨(Nat.le_of_ble_eq_true rfl), (Nat.le_of_ble_eq_true rfl)⟩ ⟨(Nat.le_of_ble_eq_true rfl), (Nat.le_of_ble_eq_true rfl)⟩ (Nat.le_of_ble_eq_true rfl) ?_
  refine v_aastK (h2 := (hU (hU (hU (hU (hU (hU (hU (hU (hU (hU (hU (hU (hU h q1 (ar g 2 8 (va_up (va_up (va_up (va_up (va_up (fun _ => none) 0 (some q8)) 1 (some q9)) 2 (some q10)) 3 (some q11)) 4 (some q12)))) a (ob 6 [.ref q1, .int 0, .ref q2, .int 0, .ref q3, .ref q4, .int 0, .int 0, .int 0, .int 0])) q2 (ar g 4 6 (fun _ => none))) q3 (ai g 5 (fun j => tb0.getD j 0))) q4 (ob 0 [.ref q3, .ref q2, .ref q5, .ref q6, .ref q7, .int 0, .int 0, .int 1])) q5 (ai g 10 (fun _ => 0))) q6 (ob 3 [.int 0, .int 0, .int 0, .int 0, .int 0])) q7 (ob 3 [.int 0, .int 0, .int 0, .int 0, .int 0])) q8 (ob 1 [.int 0, .int 0, .int 0, .int 0, .int 0, .int 0, .int 0])) q9 (ob 1 [.int 0, .int 0, .int 0, .int 0, .int 0, .int 0, .int 0])) q10 (ob 1 [.int 0, .int 0, .int 0, .int 0, .int 0, .int 0, .int 0])) q11 (ob 1 [.int 0, .int 0, .int 0, .int 0, .int 0, .int 0, .int 0])) q12 (ob 1 [.int 0, .int 0, .int 0, .int 0, .int 0, .int 0, .int 0]))) X 2 rfl rfl 4 ((hU_n (Ne.symm f_q12_q1)).trans ((hU_n (Ne.symm f_q11_q1)).trans ((hU_n (Ne.symm f_q10_q1)).trans ((hU_n (Ne.symm f_q9_q1)).trans ((hU_n (Ne.symm f_q8_q1)).trans ((hU_n (Ne.symm f_q7_q1)).trans ((hU_n (Ne.symm f_q6_q1)).trans ((hU_n (Ne.symm f_q5_q1)).trans ((hU_n (Ne.symm f_q4_q1)).trans ((hU_n (Ne.symm f_q3_q1)).trans ((hU_n (Ne.symm f_q2_q1)).trans ((hU_n f_q1_a).trans hU_s)))))))))))) hU_s (rfl : (4 : Int32) = nI 4) (by decide) (by decide) dX6_init_104 (hU_u13 (Ne.symm f_q1_a) f_q2_q1 f_q3_q1 f_q4_q1 f_q5_q1 f_q6_q1 f_q7_q1 f_q8_q1 f_q9_q1 f_q10_q1 f_q11_q1 f_q12_q1) ?_
  refine v_iinc (v := 5) (lv1 := [(1, .int 5), (0, .ref a)]) X dX6_init_105 0 rfl (by decide) (by decide) rfl ?_
  refine v_goto X dX6_init_108 (tgt := 86) (by decide) ?_
  refine v_iload_n X dX6_init_86 0 rfl ?_
  refine v_bipush X dX6_init_87 (v := 8) (by decide) ?_
  refine v_icmp_ge X dX6_init_89 (tgt := 111) (by decide) (fun c => absurd c (by decide)) (fun _ => ?_)
  refine v_aload_n X dX6_init_92 1 rfl ?_
  refine v_get X fX6_11 ((hU_n (Ne.symm f_q12_a)).trans ((hU_n (Ne.symm f_q11_a)).trans ((hU_n (Ne.symm f_q10_a)).trans ((hU_n (Ne.symm f_q9_a)).trans ((hU_n (Ne.symm f_q8_a)).trans ((hU_n (Ne.symm f_q7_a)).trans ((hU_n (Ne.symm f_q6_a)).trans ((hU_n (Ne.symm f_q5_a)).trans ((hU_n (Ne.symm f_q4_a)).trans ((hU_n (Ne.symm f_q3_a)).trans ((hU_n (Ne.symm f_q2_a)).trans hU_s))))))))))) rfl dX6_init_93 ?_
  refine v_iload_n X dX6_init_96 0 rfl ?_
  refine v_newO (ci := 1) X [.int 0, .int 0, .int 0, .int 0, .int 0, .int 0, .int 0] cX6_9_l qx_X1 qi_X1 rfl u_X1 tyX1_ok df_X1 (Nat.le_of_ble_eq_true rfl) (Nat.le_of_ble_eq_true rfl) dX6_init_97 (fun q13 hq13 => ?_)
  have f_q13_q1 : q13 ≠ q1 := fr_ne hq13 ((hU_n (Ne.symm f_q12_q1)).trans ((hU_n (Ne.symm f_q11_q1)).trans ((hU_n (Ne.symm f_q10_q1)).trans ((hU_n (Ne.symm f_q9_q1)).trans ((hU_n (Ne.symm f_q8_q1)).trans ((hU_n (Ne.symm f_q7_q1)).trans ((hU_n (Ne.symm f_q6_q1)).trans ((hU_n (Ne.symm f_q5_q1)).trans ((hU_n (Ne.symm f_q4_q1)).trans ((hU_n (Ne.symm f_q3_q1)).trans ((hU_n (Ne.symm f_q2_q1)).trans ((hU_n f_q1_a).trans hU_s))))))))))))
  have f_q13_a : q13 ≠ a := fr_ne hq13 ((hU_n (Ne.symm f_q12_a)).trans ((hU_n (Ne.symm f_q11_a)).trans ((hU_n (Ne.symm f_q10_a)).trans ((hU_n (Ne.symm f_q9_a)).trans ((hU_n (Ne.symm f_q8_a)).trans ((hU_n (Ne.symm f_q7_a)).trans ((hU_n (Ne.symm f_q6_a)).trans ((hU_n (Ne.symm f_q5_a)).trans ((hU_n (Ne.symm f_q4_a)).trans ((hU_n (Ne.symm f_q3_a)).trans ((hU_n (Ne.symm f_q2_a)).trans hU_s)))))))))))
  have f_q13_q2 : q13 ≠ q2 := fr_ne hq13 ((hU_n (Ne.symm f_q12_q2)).trans ((hU_n (Ne.symm f_q11_q2)).trans ((hU_n (Ne.symm f_q10_q2)).trans ((hU_n (Ne.symm f_q9_q2)).trans ((hU_n (Ne.symm f_q8_q2)).trans ((hU_n (Ne.symm f_q7_q2)).trans ((hU_n (Ne.symm f_q6_q2)).trans ((hU_n (Ne.symm f_q5_q2)).trans ((hU_n (Ne.symm f_q4_q2)).trans ((hU_n (Ne.symm f_q3_q2)).trans hU_s))))))))))
  have f_q13_q3 : q13 ≠ q3 := fr_ne hq13 ((hU_n (Ne.symm f_q12_q3)).trans ((hU_n (Ne.symm f_q11_q3)).trans ((hU_n (Ne.symm f_q10_q3)).trans ((hU_n (Ne.symm f_q9_q3)).trans ((hU_n (Ne.symm f_q8_q3)).trans ((hU_n (Ne.symm f_q7_q3)).trans ((hU_n (Ne.symm f_q6_q3)).trans ((hU_n (Ne.symm f_q5_q3)).trans ((hU_n (Ne.symm f_q4_q3)).trans hU_s)))))))))
  have f_q13_q4 : q13 ≠ q4 := fr_ne hq13 ((hU_n (Ne.symm f_q12_q4)).trans ((hU_n (Ne.symm f_q11_q4)).trans ((hU_n (Ne.symm f_q10_q4)).trans ((hU_n (Ne.symm f_q9_q4)).trans ((hU_n (Ne.symm f_q8_q4)).trans ((hU_n (Ne.symm f_q7_q4)).trans ((hU_n (Ne.symm f_q6_q4)).trans ((hU_n (Ne.symm f_q5_q4)).trans hU_s))))))))
  have f_q13_q5 : q13 ≠ q5 := fr_ne hq13 ((hU_n (Ne.symm f_q12_q5)).trans ((hU_n (Ne.symm f_q11_q5)).trans ((hU_n (Ne.symm f_q10_q5)).trans ((hU_n (Ne.symm f_q9_q5)).trans ((hU_n (Ne.symm f_q8_q5)).trans ((hU_n (Ne.symm f_q7_q5)).trans ((hU_n (Ne.symm f_q6_q5)).trans hU_s)))))))
  have f_q13_q6 : q13 ≠ q6 := fr_ne hq13 ((hU_n (Ne.symm f_q12_q6)).trans ((hU_n (Ne.symm f_q11_q6)).trans ((hU_n (Ne.symm f_q10_q6)).trans ((hU_n (Ne.symm f_q9_q6)).trans ((hU_n (Ne.symm f_q8_q6)).trans ((hU_n (Ne.symm f_q7_q6)).trans hU_s))))))
  have f_q13_q7 : q13 ≠ q7 := fr_ne hq13 ((hU_n (Ne.symm f_q12_q7)).trans ((hU_n (Ne.symm f_q11_q7)).trans ((hU_n (Ne.symm f_q10_q7)).trans ((hU_n (Ne.symm f_q9_q7)).trans ((hU_n (Ne.symm f_q8_q7)).trans hU_s)))))
  have f_q13_q8 : q13 ≠ q8 := fr_ne hq13 ((hU_n (Ne.symm f_q12_q8)).trans ((hU_n (Ne.symm f_q11_q8)).trans ((hU_n (Ne.symm f_q10_q8)).trans ((hU_n (Ne.symm f_q9_q8)).trans hU_s))))
  have f_q13_q9 : q13 ≠ q9 := fr_ne hq13 ((hU_n (Ne.symm f_q12_q9)).trans ((hU_n (Ne.symm f_q11_q9)).trans ((hU_n (Ne.symm f_q10_q9)).trans hU_s)))
  have f_q13_q10 : q13 ≠ q10 := fr_ne hq13 ((hU_n (Ne.symm f_q12_q10)).trans ((hU_n (Ne.symm f_q11_q10)).trans hU_s))
  have f_q13_q11 : q13 ≠ q11 := fr_ne hq13 ((hU_n (Ne.symm f_q12_q11)).trans hU_s)
  have f_q13_q12 : q13 ≠ q12 := fr_ne hq13 hU_s
  have b_q13 : h q13 = none := (fr_U (fr_U (fr_U (fr_U (fr_U (fr_U (fr_U (fr_U (fr_U (fr_U (fr_U (fr_U (fr_U hq13).1).1).1).1).1).1).1).1).1).1).1).1).1
  refine v_dup X dX6_init_100 rfl ?_
  refine v_cInv X [] sX6_64 (ct_X1_init ll g) dX6_init_101 rfl rfl ⟨rfl, rfl⟩ ⟨(Nat.le_of_ble_eq_true rfl), (Nat.le_of_ble_eq_true rfl)⟩ ⟨(Nat.le_of_ble_eq_true rfl), (Nat.le_of_ble_eq_true rfl)⟩ (Nat.le_of_ble_eq_true rfl) ?_
  refine v_aastK (h2 := (hU (hU (hU (hU (hU (hU (hU (hU (hU (hU (hU (hU (hU (hU h q1 (ar g 2 8 (va_up (va_up (va_up (va_up (va_up (va_up (fun _ => none) 0 (some q8)) 1 (some q9)) 2 (some q10)) 3 (some q11)) 4 (some q12)) 5 (some q13)))) a (ob 6 [.ref q1, .int 0, .ref q2, .int 0, .ref q3, .ref q4, .int 0, .int 0, .int 0, .int 0])) q2 (ar g 4 6 (fun _ => none))) q3 (ai g 5 (fun j => tb0.getD j 0))) q4 (ob 0 [.ref q3, .ref q2, .ref q5, .ref q6, .ref q7, .int 0, .int 0, .int 1])) q5 (ai g 10 (fun _ => 0))) q6 (ob 3 [.int 0, .int 0, .int 0, .int 0, .int 0])) q7 (ob 3 [.int 0, .int 0, .int 0, .int 0, .int 0])) q8 (ob 1 [.int 0, .int 0, .int 0, .int 0, .int 0, .int 0, .int 0])) q9 (ob 1 [.int 0, .int 0, .int 0, .int 0, .int 0, .int 0, .int 0])) q10 (ob 1 [.int 0, .int 0, .int 0, .int 0, .int 0, .int 0, .int 0])) q11 (ob 1 [.int 0, .int 0, .int 0, .int 0, .int 0, .int 0, .int 0])) q12 (ob 1 [.int 0, .int 0, .int 0, .int 0, .int 0, .int 0, .int 0])) q13 (ob 1 [.int 0, .int 0, .int 0, .int 0, .int 0, .int 0, .int 0]))) X 2 rfl rfl 5 ((hU_n (Ne.symm f_q13_q1)).trans ((hU_n (Ne.symm f_q12_q1)).trans ((hU_n (Ne.symm f_q11_q1)).trans ((hU_n (Ne.symm f_q10_q1)).trans ((hU_n (Ne.symm f_q9_q1)).trans ((hU_n (Ne.symm f_q8_q1)).trans ((hU_n (Ne.symm f_q7_q1)).trans ((hU_n (Ne.symm f_q6_q1)).trans ((hU_n (Ne.symm f_q5_q1)).trans ((hU_n (Ne.symm f_q4_q1)).trans ((hU_n (Ne.symm f_q3_q1)).trans ((hU_n (Ne.symm f_q2_q1)).trans ((hU_n f_q1_a).trans hU_s))))))))))))) hU_s (rfl : (5 : Int32) = nI 5) (by decide) (by decide) dX6_init_104 (hU_u14 (Ne.symm f_q1_a) f_q2_q1 f_q3_q1 f_q4_q1 f_q5_q1 f_q6_q1 f_q7_q1 f_q8_q1 f_q9_q1 f_q10_q1 f_q11_q1 f_q12_q1 f_q13_q1) ?_
  refine v_iinc (v := 6) (lv1 := [(1, .int 6), (0, .ref a)]) X dX6_init_105 0 rfl (by decide) (by decide) rfl ?_
  refine v_goto X dX6_init_108 (tgt := 86) (by decide) ?_
  refine v_iload_n X dX6_init_86 0 rfl ?_
  refine v_bipush X dX6_init_87 (v := 8) (by decide) ?_
  refine v_icmp_ge X dX6_init_89 (tgt := 111) (by decide) (fun c => absurd c (by decide)) (fun _ => ?_)
  refine v_aload_n X dX6_init_92 1 rfl ?_
  refine v_get X fX6_11 ((hU_n (Ne.symm f_q13_a)).trans ((hU_n (Ne.symm f_q12_a)).trans ((hU_n (Ne.symm f_q11_a)).trans ((hU_n (Ne.symm f_q10_a)).trans ((hU_n (Ne.symm f_q9_a)).trans ((hU_n (Ne.symm f_q8_a)).trans ((hU_n (Ne.symm f_q7_a)).trans ((hU_n (Ne.symm f_q6_a)).trans ((hU_n (Ne.symm f_q5_a)).trans ((hU_n (Ne.symm f_q4_a)).trans ((hU_n (Ne.symm f_q3_a)).trans ((hU_n (Ne.symm f_q2_a)).trans hU_s)))))))))))) rfl dX6_init_93 ?_
  refine v_iload_n X dX6_init_96 0 rfl ?_
  refine v_newO (ci := 1) X [.int 0, .int 0, .int 0, .int 0, .int 0, .int 0, .int 0] cX6_9_l qx_X1 qi_X1 rfl u_X1 tyX1_ok df_X1 (Nat.le_of_ble_eq_true rfl) (Nat.le_of_ble_eq_true rfl) dX6_init_97 (fun q14 hq14 => ?_)
  have f_q14_q1 : q14 ≠ q1 := fr_ne hq14 ((hU_n (Ne.symm f_q13_q1)).trans ((hU_n (Ne.symm f_q12_q1)).trans ((hU_n (Ne.symm f_q11_q1)).trans ((hU_n (Ne.symm f_q10_q1)).trans ((hU_n (Ne.symm f_q9_q1)).trans ((hU_n (Ne.symm f_q8_q1)).trans ((hU_n (Ne.symm f_q7_q1)).trans ((hU_n (Ne.symm f_q6_q1)).trans ((hU_n (Ne.symm f_q5_q1)).trans ((hU_n (Ne.symm f_q4_q1)).trans ((hU_n (Ne.symm f_q3_q1)).trans ((hU_n (Ne.symm f_q2_q1)).trans ((hU_n f_q1_a).trans hU_s)))))))))))))
  have f_q14_a : q14 ≠ a := fr_ne hq14 ((hU_n (Ne.symm f_q13_a)).trans ((hU_n (Ne.symm f_q12_a)).trans ((hU_n (Ne.symm f_q11_a)).trans ((hU_n (Ne.symm f_q10_a)).trans ((hU_n (Ne.symm f_q9_a)).trans ((hU_n (Ne.symm f_q8_a)).trans ((hU_n (Ne.symm f_q7_a)).trans ((hU_n (Ne.symm f_q6_a)).trans ((hU_n (Ne.symm f_q5_a)).trans ((hU_n (Ne.symm f_q4_a)).trans ((hU_n (Ne.symm f_q3_a)).trans ((hU_n (Ne.symm f_q2_a)).trans hU_s))))))))))))
  have f_q14_q2 : q14 ≠ q2 := fr_ne hq14 ((hU_n (Ne.symm f_q13_q2)).trans ((hU_n (Ne.symm f_q12_q2)).trans ((hU_n (Ne.symm f_q11_q2)).trans ((hU_n (Ne.symm f_q10_q2)).trans ((hU_n (Ne.symm f_q9_q2)).trans ((hU_n (Ne.symm f_q8_q2)).trans ((hU_n (Ne.symm f_q7_q2)).trans ((hU_n (Ne.symm f_q6_q2)).trans ((hU_n (Ne.symm f_q5_q2)).trans ((hU_n (Ne.symm f_q4_q2)).trans ((hU_n (Ne.symm f_q3_q2)).trans hU_s)))))))))))
  have f_q14_q3 : q14 ≠ q3 := fr_ne hq14 ((hU_n (Ne.symm f_q13_q3)).trans ((hU_n (Ne.symm f_q12_q3)).trans ((hU_n (Ne.symm f_q11_q3)).trans ((hU_n (Ne.symm f_q10_q3)).trans ((hU_n (Ne.symm f_q9_q3)).trans ((hU_n (Ne.symm f_q8_q3)).trans ((hU_n (Ne.symm f_q7_q3)).trans ((hU_n (Ne.symm f_q6_q3)).trans ((hU_n (Ne.symm f_q5_q3)).trans ((hU_n (Ne.symm f_q4_q3)).trans hU_s))))))))))
  have f_q14_q4 : q14 ≠ q4 := fr_ne hq14 ((hU_n (Ne.symm f_q13_q4)).trans ((hU_n (Ne.symm f_q12_q4)).trans ((hU_n (Ne.symm f_q11_q4)).trans ((hU_n (Ne.symm f_q10_q4)).trans ((hU_n (Ne.symm f_q9_q4)).trans ((hU_n (Ne.symm f_q8_q4)).trans ((hU_n (Ne.symm f_q7_q4)).trans ((hU_n (Ne.symm f_q6_q4)).trans ((hU_n (Ne.symm f_q5_q4)).trans hU_s)))))))))
  have f_q14_q5 : q14 ≠ q5 := fr_ne hq14 ((hU_n (Ne.symm f_q13_q5)).trans ((hU_n (Ne.symm f_q12_q5)).trans ((hU_n (Ne.symm f_q11_q5)).trans ((hU_n (Ne.symm f_q10_q5)).trans ((hU_n (Ne.symm f_q9_q5)).trans ((hU_n (Ne.symm f_q8_q5)).trans ((hU_n (Ne.symm f_q7_q5)).trans ((hU_n (Ne.symm f_q6_q5)).trans hU_s))))))))
  have f_q14_q6 : q14 ≠ q6 := fr_ne hq14 ((hU_n (Ne.symm f_q13_q6)).trans ((hU_n (Ne.symm f_q12_q6)).trans ((hU_n (Ne.symm f_q11_q6)).trans ((hU_n (Ne.symm f_q10_q6)).trans ((hU_n (Ne.symm f_q9_q6)).trans ((hU_n (Ne.symm f_q8_q6)).trans ((hU_n (Ne.symm f_q7_q6)).trans hU_s)))))))
  have f_q14_q7 : q14 ≠ q7 := fr_ne hq14 ((hU_n (Ne.symm f_q13_q7)).trans ((hU_n (Ne.symm f_q12_q7)).trans ((hU_n (Ne.symm f_q11_q7)).trans ((hU_n (Ne.symm f_q10_q7)).trans ((hU_n (Ne.symm f_q9_q7)).trans ((hU_n (Ne.symm f_q8_q7)).trans hU_s))))))
  have f_q14_q8 : q14 ≠ q8 := fr_ne hq14 ((hU_n (Ne.symm f_q13_q8)).trans ((hU_n (Ne.symm f_q12_q8)).trans ((hU_n (Ne.symm f_q11_q8)).trans ((hU_n (Ne.symm f_q10_q8)).trans ((hU_n (Ne.symm f_q9_q8)).trans hU_s)))))
  have f_q14_q9 : q14 ≠ q9 := fr_ne hq14 ((hU_n (Ne.symm f_q13_q9)).trans ((hU_n (Ne.symm f_q12_q9)).trans ((hU_n (Ne.symm f_q11_q9)).trans ((hU_n (Ne.symm f_q10_q9)).trans hU_s))))
  have f_q14_q10 : q14 ≠ q10 := fr_ne hq14 ((hU_n (Ne.symm f_q13_q10)).trans ((hU_n (Ne.symm f_q12_q10)).trans ((hU_n (Ne.symm f_q11_q10)).trans hU_s)))
  have f_q14_q11 : q14 ≠ q11 := fr_ne hq14 ((hU_n (Ne.symm f_q13_q11)).trans ((hU_n (Ne.symm f_q12_q11)).trans hU_s))
  have f_q14_q12 : q14 ≠ q12 := fr_ne hq14 ((hU_n (Ne.symm f_q13_q12)).trans hU_s)
  have f_q14_q13 : q14 ≠ q13 := fr_ne hq14 hU_s
  have b_q14 : h q14 = none := (fr_U (fr_U (fr_U (fr_U (fr_U (fr_U (fr_U (fr_U (fr_U (fr_U (fr_U (fr_U (fr_U (fr_U hq14).1).1).1).1).1).1).1).1).1).1).1).1).1).1
  refine v_dup X dX6_init_100 rfl ?_
  refine v_cInv X [] sX6_64 (ct_X1_init ll g) dX6_init_101 rfl rfl ⟨rfl, rfl⟩ ⟨(Nat.le_of_ble_eq_true rfl), (Nat.le_of_ble_eq_true rfl)⟩ ⟨(Nat.le_of_ble_eq_true rfl), (Nat.le_of_ble_eq_true rfl)⟩ (Nat.le_of_ble_eq_true rfl) ?_
  refine v_aastK (h2 := (hU (hU (hU (hU (hU (hU (hU (hU (hU (hU (hU (hU (hU (hU (hU h q1 (ar g 2 8 (va_up (va_up (va_up (va_up (va_up (va_up (va_up (fun _ => none) 0 (some q8)) 1 (some q9)) 2 (some q10)) 3 (some q11)) 4 (some q12)) 5 (some q13)) 6 (some q14)))) a (ob 6 [.ref q1, .int 0, .ref q2, .int 0, .ref q3, .ref q4, .int 0, .int 0, .int 0, .int 0])) q2 (ar g 4 6 (fun _ => none))) q3 (ai g 5 (fun j => tb0.getD j 0))) q4 (ob 0 [.ref q3, .ref q2, .ref q5, .ref q6, .ref q7, .int 0, .int 0, .int 1])) q5 (ai g 10 (fun _ => 0))) q6 (ob 3 [.int 0, .int 0, .int 0, .int 0, .int 0])) q7 (ob 3 [.int 0, .int 0, .int 0, .int 0, .int 0])) q8 (ob 1 [.int 0, .int 0, .int 0, .int 0, .int 0, .int 0, .int 0])) q9 (ob 1 [.int 0, .int 0, .int 0, .int 0, .int 0, .int 0, .int 0])) q10 (ob 1 [.int 0, .int 0, .int 0, .int 0, .int 0, .int 0, .int 0])) q11 (ob 1 [.int 0, .int 0, .int 0, .int 0, .int 0, .int 0, .int 0])) q12 (ob 1 [.int 0, .int 0, .int 0, .int 0, .int 0, .int 0, .int 0])) q13 (ob 1 [.int 0, .int 0, .int 0, .int 0, .int 0, .int 0, .int 0])) q14 (ob 1 [.int 0, .int 0, .int 0, .int 0, .int 0, .int 0, .int 0]))) X 2 rfl rfl 6 ((hU_n (Ne.symm f_q14_q1)).trans ((hU_n (Ne.symm f_q13_q1)).trans ((hU_n (Ne.symm f_q12_q1)).trans ((hU_n (Ne.symm f_q11_q1)).trans ((hU_n (Ne.symm f_q10_q1)).trans ((hU_n (Ne.symm f_q9_q1)).trans ((hU_n (Ne.symm f_q8_q1)).trans ((hU_n (Ne.symm f_q7_q1)).trans ((hU_n (Ne.symm f_q6_q1)).trans ((hU_n (Ne.symm f_q5_q1)).trans ((hU_n (Ne.symm f_q4_q1)).trans ((hU_n (Ne.symm f_q3_q1)).trans ((hU_n (Ne.symm f_q2_q1)).trans ((hU_n f_q1_a).trans hU_s)))))))))))))) hU_s (rfl : (6 : Int32) = nI 6) (by decide) (by decide) dX6_init_104 (hU_u15 (Ne.symm f_q1_a) f_q2_q1 f_q3_q1 f_q4_q1 f_q5_q1 f_q6_q1 f_q7_q1 f_q8_q1 f_q9_q1 f_q10_q1 f_q11_q1 f_q12_q1 f_q13_q1 f_q14_q1) ?_
  refine v_iinc (v := 7) (lv1 := [(1, .int 7), (0, .ref a)]) X dX6_init_105 0 rfl (by decide) (by decide) rfl ?_
  refine v_goto X dX6_init_108 (tgt := 86) (by decide) ?_
  refine v_iload_n X dX6_init_86 0 rfl ?_
  refine v_bipush X dX6_init_87 (v := 8) (by decide) ?_
  refine v_icmp_ge X dX6_init_89 (tgt := 111) (by decide) (fun c => absurd c (by decide)) (fun _ => ?_)
  refine v_aload_n X dX6_init_92 1 rfl ?_
  refine v_get X fX6_11 ((hU_n (Ne.symm f_q14_a)).trans ((hU_n (Ne.symm f_q13_a)).trans ((hU_n (Ne.symm f_q12_a)).trans ((hU_n (Ne.symm f_q11_a)).trans ((hU_n (Ne.symm f_q10_a)).trans ((hU_n (Ne.symm f_q9_a)).trans ((hU_n (Ne.symm f_q8_a)).trans ((hU_n (Ne.symm f_q7_a)).trans ((hU_n (Ne.symm f_q6_a)).trans ((hU_n (Ne.symm f_q5_a)).trans ((hU_n (Ne.symm f_q4_a)).trans ((hU_n (Ne.symm f_q3_a)).trans ((hU_n (Ne.symm f_q2_a)).trans hU_s))))))))))))) rfl dX6_init_93 ?_
  refine v_iload_n X dX6_init_96 0 rfl ?_
  refine v_newO (ci := 1) X [.int 0, .int 0, .int 0, .int 0, .int 0, .int 0, .int 0] cX6_9_l qx_X1 qi_X1 rfl u_X1 tyX1_ok df_X1 (Nat.le_of_ble_eq_true rfl) (Nat.le_of_ble_eq_true rfl) dX6_init_97 (fun q15 hq15 => ?_)
  have f_q15_q1 : q15 ≠ q1 := fr_ne hq15 ((hU_n (Ne.symm f_q14_q1)).trans ((hU_n (Ne.symm f_q13_q1)).trans ((hU_n (Ne.symm f_q12_q1)).trans ((hU_n (Ne.symm f_q11_q1)).trans ((hU_n (Ne.symm f_q10_q1)).trans ((hU_n (Ne.symm f_q9_q1)).trans ((hU_n (Ne.symm f_q8_q1)).trans ((hU_n (Ne.symm f_q7_q1)).trans ((hU_n (Ne.symm f_q6_q1)).trans ((hU_n (Ne.symm f_q5_q1)).trans ((hU_n (Ne.symm f_q4_q1)).trans ((hU_n (Ne.symm f_q3_q1)).trans ((hU_n (Ne.symm f_q2_q1)).trans ((hU_n f_q1_a).trans hU_s))))))))))))))
  have f_q15_a : q15 ≠ a := fr_ne hq15 ((hU_n (Ne.symm f_q14_a)).trans ((hU_n (Ne.symm f_q13_a)).trans ((hU_n (Ne.symm f_q12_a)).trans ((hU_n (Ne.symm f_q11_a)).trans ((hU_n (Ne.symm f_q10_a)).trans ((hU_n (Ne.symm f_q9_a)).trans ((hU_n (Ne.symm f_q8_a)).trans ((hU_n (Ne.symm f_q7_a)).trans ((hU_n (Ne.symm f_q6_a)).trans ((hU_n (Ne.symm f_q5_a)).trans ((hU_n (Ne.symm f_q4_a)).trans ((hU_n (Ne.symm f_q3_a)).trans ((hU_n (Ne.symm f_q2_a)).trans hU_s)))))))))))))
  have f_q15_q2 : q15 ≠ q2 := fr_ne hq15 ((hU_n (Ne.symm f_q14_q2)).trans ((hU_n (Ne.symm f_q13_q2)).trans ((hU_n (Ne.symm f_q12_q2)).trans ((hU_n (Ne.symm f_q11_q2)).trans ((hU_n (Ne.symm f_q10_q2)).trans ((hU_n (Ne.symm f_q9_q2)).trans ((hU_n (Ne.symm f_q8_q2)).trans ((hU_n (Ne.symm f_q7_q2)).trans ((hU_n (Ne.symm f_q6_q2)).trans ((hU_n (Ne.symm f_q5_q2)).trans ((hU_n (Ne.symm f_q4_q2)).trans ((hU_n (Ne.symm f_q3_q2)).trans hU_s))))))))))))
  have f_q15_q3 : q15 ≠ q3 := fr_ne hq15 ((hU_n (Ne.symm f_q14_q3)).trans ((hU_n (Ne.symm f_q13_q3)).trans ((hU_n (Ne.symm f_q12_q3)).trans ((hU_n (Ne.symm f_q11_q3)).trans ((hU_n (Ne.symm f_q10_q3)).trans ((hU_n (Ne.symm f_q9_q3)).trans ((hU_n (Ne.symm f_q8_q3)).trans ((hU_n (Ne.symm f_q7_q3)).trans ((hU_n (Ne.symm f_q6_q3)).trans ((hU_n (Ne.symm f_q5_q3)).trans ((hU_n (Ne.symm f_q4_q3)).trans hU_s)))))))))))
  have f_q15_q4 : q15 ≠ q4 := fr_ne hq15 ((hU_n (Ne.symm f_q14_q4)).trans ((hU_n (Ne.symm f_q13_q4)).trans ((hU_n (Ne.symm f_q12_q4)).trans ((hU_n (Ne.symm f_q11_q4)).trans ((hU_n (Ne.symm f_q10_q4)).trans ((hU_n (Ne.symm f_q9_q4)).trans ((hU_n (Ne.symm f_q8_q4)).trans ((hU_n (Ne.symm f_q7_q4)).trans ((hU_n (Ne.symm f_q6_q4)).trans ((hU_n (Ne.symm f_q5_q4)).trans hU_s))))))))))
  have f_q15_q5 : q15 ≠ q5 := fr_ne hq15 ((hU_n (Ne.symm f_q14_q5)).trans ((hU_n (Ne.symm f_q13_q5)).trans ((hU_n (Ne.symm f_q12_q5)).trans ((hU_n (Ne.symm f_q11_q5)).trans ((hU_n (Ne.symm f_q10_q5)).trans ((hU_n (Ne.symm f_q9_q5)).trans ((hU_n (Ne.symm f_q8_q5)).trans ((hU_n (Ne.symm f_q7_q5)).trans ((hU_n (Ne.symm f_q6_q5)).trans hU_s)))))))))
  have f_q15_q6 : q15 ≠ q6 := fr_ne hq15 ((hU_n (Ne.symm f_q14_q6)).trans ((hU_n (Ne.symm f_q13_q6)).trans ((hU_n (Ne.symm f_q12_q6)).trans ((hU_n (Ne.symm f_q11_q6)).trans ((hU_n (Ne.symm f_q10_q6)).trans ((hU_n (Ne.symm f_q9_q6)).trans ((hU_n (Ne.symm f_q8_q6)).trans ((hU_n (Ne.symm f_q7_q6)).trans hU_s))))))))
  have f_q15_q7 : q15 ≠ q7 := fr_ne hq15 ((hU_n (Ne.symm f_q14_q7)).trans ((hU_n (Ne.symm f_q13_q7)).trans ((hU_n (Ne.symm f_q12_q7)).trans ((hU_n (Ne.symm f_q11_q7)).trans ((hU_n (Ne.symm f_q10_q7)).trans ((hU_n (Ne.symm f_q9_q7)).trans ((hU_n (Ne.symm f_q8_q7)).trans hU_s)))))))
  have f_q15_q8 : q15 ≠ q8 := fr_ne hq15 ((hU_n (Ne.symm f_q14_q8)).trans ((hU_n (Ne.symm f_q13_q8)).trans ((hU_n (Ne.symm f_q12_q8)).trans ((hU_n (Ne.symm f_q11_q8)).trans ((hU_n (Ne.symm f_q10_q8)).trans ((hU_n (Ne.symm f_q9_q8)).trans hU_s))))))
  have f_q15_q9 : q15 ≠ q9 := fr_ne hq15 ((hU_n (Ne.symm f_q14_q9)).trans ((hU_n (Ne.symm f_q13_q9)).trans ((hU_n (Ne.symm f_q12_q9)).trans ((hU_n (Ne.symm f_q11_q9)).trans ((hU_n (Ne.symm f_q10_q9)).trans hU_s)))))
  have f_q15_q10 : q15 ≠ q10 := fr_ne hq15 ((hU_n (Ne.symm f_q14_q10)).trans ((hU_n (Ne.symm f_q13_q10)).trans ((hU_n (Ne.symm f_q12_q10)).trans ((hU_n (Ne.symm f_q11_q10)).trans hU_s))))
  have f_q15_q11 : q15 ≠ q11 := fr_ne hq15 ((hU_n (Ne.symm f_q14_q11)).trans ((hU_n (Ne.symm f_q13_q11)).trans ((hU_n (Ne.symm f_q12_q11)).trans hU_s)))
  have f_q15_q12 : q15 ≠ q12 := fr_ne hq15 ((hU_n (Ne.symm f_q14_q12)).trans ((hU_n (Ne.symm f_q13_q12)).trans hU_s))
  have f_q15_q13 : q15 ≠ q13 := fr_ne hq15 ((hU_n (Ne.symm f_q14_q13)).trans hU_s)
  have f_q15_q14 : q15 ≠ q14 := fr_ne hq15 hU_s
  have b_q15 : h q15 = none := (fr_U (fr_U (fr_U (fr_U (fr_U (fr_U (fr_U (fr_U (fr_U (fr_U (fr_U (fr_U (fr_U (fr_U (fr_U hq15).1).1).1).1).1).1).1).1).1).1).1).1).1).1).1
  refine v_dup X dX6_init_100 rfl ?_
  refine v_cInv X [] sX6_64 (ct_X1_init ll g) dX6_init_101 rfl rfl ⟨rfl, rfl⟩ ⟨(Nat.le_of_ble_eq_true rfl), (Nat.le_of_ble_eq_true rfl)⟩ ⟨(Nat.le_of_ble_eq_true rfl), (Nat.le_of_ble_eq_true rfl)⟩ (Nat.le_of_ble_eq_true rfl) ?_
  refine v_aastK (h2 := (hU (hU (hU (hU (hU (hU (hU (hU (hU (hU (hU (hU (hU (hU (hU (hU h q1 (ar g 2 8 (va_up (va_up (va_up (va_up (va_up (va_up (va_up (va_up (fun _ => none) 0 (some q8)) 1 (some q9)) 2 (some q10)) 3 (some q11)) 4 (some q12)) 5 (some q13)) 6 (some q14)) 7 (some q15)))) a (ob 6 [.ref q1, .int 0, .ref q2, .int 0, .ref q3, .ref q4, .int 0, .int 0, .int 0, .int 0])) q2 (ar g 4 6 (fun _ => none))) q3 (ai g 5 (fun j => tb0.getD j 0))) q4 (ob 0 [.ref q3, .ref q2, .ref q5, .ref q6, .ref q7, .int 0, .int 0, .int 1])) q5 (ai g 10 (fun _ => 0))) q6 (ob 3 [.int 0, .int 0, .int 0, .int 0, .int 0])) q7 (ob 3 [.int 0, .int 0, .int 0, .int 0, .int 0])) q8 (ob 1 [.int 0, .int 0, .int 0, .int 0, .int 0, .int 0, .int 0])) q9 (ob 1 [.int 0, .int 0, .int 0, .int 0, .int 0, .int 0, .int 0])) q10 (ob 1 [.int 0, .int 0, .int 0, .int 0, .int 0, .int 0, .int 0])) q11 (ob 1 [.int 0, .int 0, .int 0, .int 0, .int 0, .int 0, .int 0])) q12 (ob 1 [.int 0, .int 0, .int 0, .int 0, .int 0, .int 0, .int 0])) q13 (ob 1 [.int 0, .int 0, .int 0, .int 0, .int 0, .int 0, .int 0])) q14 (ob 1 [.int 0, .int 0, .int 0, .int 0, .int 0, .int 0, .int 0])) q15 (ob 1 [.int 0, .int 0, .int 0, .int 0, .int 0, .int 0, .int 0]))) X 2 rfl rfl 7 ((hU_n (Ne.symm f_q15_q1)).trans ((hU_n (Ne.symm f_q14_q1)).trans ((hU_n (Ne.symm f_q13_q1)).trans ((hU_n (Ne.symm f_q12_q1)).trans ((hU_n (Ne.symm f_q11_q1)).trans ((hU_n (Ne.symm f_q10_q1)).trans ((hU_n (Ne.symm f_q9_q1)).trans ((hU_n (Ne.symm f_q8_q1)).trans ((hU_n (Ne.symm f_q7_q1)).trans ((hU_n (Ne.symm f_q6_q1)).trans ((hU_n (Ne.symm f_q5_q1)).trans ((hU_n (Ne.symm f_q4_q1)).trans ((hU_n (Ne.symm f_q3_q1)).trans ((hU_n (Ne.symm f_q2_q1)).trans ((hU_n f_q1_a).trans hU_s))))))))))))))) hU_s (rfl : (7 : Int32) = nI 7) (by decide) (by decide) dX6_init_104 (hU_u16 (Ne.symm f_q1_a) f_q2_q1 f_q3_q1 f_q4_q1 f_q5_q1 f_q6_q1 f_q7_q1 f_q8_q1 f_q9_q1 f_q10_q1 f_q11_q1 f_q12_q1 f_q13_q1 f_q14_q1 f_q15_q1) ?_
  refine v_iinc (v := 8) (lv1 := [(1, .int 8), (0, .ref a)]) X dX6_init_105 0 rfl (by decide) (by decide) rfl ?_
  refine v_goto X dX6_init_108 (tgt := 86) (by decide) ?_
  refine v_iload_n X dX6_init_86 0 rfl ?_
  refine v_bipush X dX6_init_87 (v := 8) (by decide) ?_
  refine v_icmp_ge X dX6_init_89 (tgt := 111) (by decide) (fun _ => ?_) (fun c => absurd c (by decide))
  have nd_15 : ([a] : List Nat).Nodup := List.nodup_cons.mpr ⟨by simp, List.nodup_nil⟩
  have nd_14 : ([q1, a] : List Nat).Nodup := List.nodup_cons.mpr ⟨by simp [f_q1_a], nd_15⟩
  have nd_13 : ([q2, q1, a] : List Nat).Nodup := List.nodup_cons.mpr ⟨by simp [f_q2_q1, f_q2_a], nd_14⟩
  have nd_12 : ([q3, q2, q1, a] : List Nat).Nodup := List.nodup_cons.mpr ⟨by simp [f_q3_q2, f_q3_q1, f_q3_a], nd_13⟩
  have nd_11 : ([q4, q3, q2, q1, a] : List Nat).Nodup := List.nodup_cons.mpr ⟨by simp [f_q4_q3, f_q4_q2, f_q4_q1, f_q4_a], nd_12⟩
  have nd_10 : ([q5, q4, q3, q2, q1, a] : List Nat).Nodup := List.nodup_cons.mpr ⟨by simp [f_q5_q4, f_q5_q3, f_q5_q2, f_q5_q1, f_q5_a], nd_11⟩
  have nd_9 : ([q6, q5, q4, q3, q2, q1, a] : List Nat).Nodup := List.nodup_cons.mpr ⟨by simp [f_q6_q5, f_q6_q4, f_q6_q3, f_q6_q2, f_q6_q1, f_q6_a], nd_10⟩
  have nd_8 : ([q7, q6, q5, q4, q3, q2, q1, a] : List Nat).Nodup := List.nodup_cons.mpr ⟨by simp [f_q7_q6, f_q7_q5, f_q7_q4, f_q7_q3, f_q7_q2, f_q7_q1, f_q7_a], nd_9⟩
  have nd_7 : ([q8, q7, q6, q5, q4, q3, q2, q1, a] : List Nat).Nodup := List.nodup_cons.mpr ⟨by simp [f_q8_q7, f_q8_q6, f_q8_q5, f_q8_q4, f_q8_q3, f_q8_q2, f_q8_q1, f_q8_a], nd_8⟩
  have nd_6 : ([q9, q8, q7, q6, q5, q4, q3, q2, q1, a] : List Nat).Nodup := List.nodup_cons.mpr ⟨by simp [f_q9_q8, f_q9_q7, f_q9_q6, f_q9_q5, f_q9_q4, f_q9_q3, f_q9_q2, f_q9_q1, f_q9_a], nd_7⟩
  have nd_5 : ([q10, q9, q8, q7, q6, q5, q4, q3, q2, q1, a] : List Nat).Nodup := List.nodup_cons.mpr ⟨by simp [f_q10_q9, f_q10_q8, f_q10_q7, f_q10_q6, f_q10_q5, f_q10_q4, f_q10_q3, f_q10_q2, f_q10_q1, f_q10_a], nd_6⟩
  have nd_4 : ([q11, q10, q9, q8, q7, q6, q5, q4, q3, q2, q1, a] : List Nat).Nodup := List.nodup_cons.mpr ⟨by simp [f_q11_q10, f_q11_q9, f_q11_q8, f_q11_q7, f_q11_q6, f_q11_q5, f_q11_q4, f_q11_q3, f_q11_q2, f_q11_q1, f_q11_a], nd_5⟩
  have nd_3 : ([q12, q11, q10, q9, q8, q7, q6, q5, q4, q3, q2, q1, a] : List Nat).Nodup := List.nodup_cons.mpr ⟨by simp [f_q12_q11, f_q12_q10, f_q12_q9, f_q12_q8, f_q12_q7, f_q12_q6, f_q12_q5, f_q12_q4, f_q12_q3, f_q12_q2, f_q12_q1, f_q12_a], nd_4⟩
  have nd_2 : ([q13, q12, q11, q10, q9, q8, q7, q6, q5, q4, q3, q2, q1, a] : List Nat).Nodup := List.nodup_cons.mpr ⟨by simp [f_q13_q12, f_q13_q11, f_q13_q10, f_q13_q9, f_q13_q8, f_q13_q7, f_q13_q6, f_q13_q5, f_q13_q4, f_q13_q3, f_q13_q2, f_q13_q1, f_q13_a], nd_3⟩
  have nd_1 : ([q14, q13, q12, q11, q10, q9, q8, q7, q6, q5, q4, q3, q2, q1, a] : List Nat).Nodup := List.nodup_cons.mpr ⟨by simp [f_q14_q13, f_q14_q12, f_q14_q11, f_q14_q10, f_q14_q9, f_q14_q8, f_q14_q7, f_q14_q6, f_q14_q5, f_q14_q4, f_q14_q3, f_q14_q2, f_q14_q1, f_q14_a], nd_2⟩
  have nd_0 : ([q15, q14, q13, q12, q11, q10, q9, q8, q7, q6, q5, q4, q3, q2, q1, a] : List Nat).Nodup := List.nodup_cons.mpr ⟨by simp [f_q15_q14, f_q15_q13, f_q15_q12, f_q15_q11, f_q15_q10, f_q15_q9, f_q15_q8, f_q15_q7, f_q15_q6, f_q15_q5, f_q15_q4, f_q15_q3, f_q15_q2, f_q15_q1, f_q15_a], nd_1⟩
  have hQ : ∀ i j, 1 ≤ i → i ≤ 16 → 1 ≤ j → j ≤ 16 → i ≠ j → ([q15, q14, q13, q12, q11, q10, q9, q8, q7, q6, q5, q4, q3, q2, q1, a] : List Nat).getD (16 - i) 0 ≠ ([q15, q14, q13, q12, q11, q10, q9, q8, q7, q6, q5, q4, q3, q2, q1, a] : List Nat).getD (16 - j) 0 := fun i j h1 h2 h3 h4 hne => nd_ne nd_0 (show 16 - i < 16 by omega) (show 16 - j < 16 by omega) (by omega)
  have hF0 : ∀ i, 2 ≤ i → i ≤ 16 → h (([q15, q14, q13, q12, q11, q10, q9, q8, q7, q6, q5, q4, q3, q2, q1, a] : List Nat).getD (16 - i) 0) = none := by
    intro i h1 h2
    have hc : i = 2 ∨ i = 3 ∨ i = 4 ∨ i = 5 ∨ i = 6 ∨ i = 7 ∨ i = 8 ∨ i = 9 ∨ i = 10 ∨ i = 11 ∨ i = 12 ∨ i = 13 ∨ i = 14 ∨ i = 15 ∨ i = 16 := by omega
    rcases hc with rfl | rfl | rfl | rfl | rfl | rfl | rfl | rfl | rfl | rfl | rfl | rfl | rfl | rfl | rfl
    · exact b_q1
    · exact b_q2
    · exact b_q3
    · exact b_q4
    · exact b_q5
    · exact b_q6
    · exact b_q7
    · exact b_q8
    · exact b_q9
    · exact b_q10
    · exact b_q11
    · exact b_q12
    · exact b_q13
    · exact b_q14
    · exact b_q15
  have hps : ∀ p, p < 8 → (hU (hU (hU (hU (hU (hU (hU (hU (hU (hU (hU (hU (hU (hU (hU (hU h q1 (ar g 2 8 (va_up (va_up (va_up (va_up (va_up (va_up (va_up (va_up (fun _ => none) 0 (some q8)) 1 (some q9)) 2 (some q10)) 3 (some q11)) 4 (some q12)) 5 (some q13)) 6 (some q14)) 7 (some q15)))) a (ob 6 [.ref q1, .int 0, .ref q2, .int 0, .ref q3, .ref q4, .int 0, .int 0, .int 0, .int 0])) q2 (ar g 4 6 (fun _ => none))) q3 (ai g 5 (fun j => tb0.getD j 0))) q4 (ob 0 [.ref q3, .ref q2, .ref q5, .ref q6, .ref q7, .int 0, .int 0, .int 1])) q5 (ai g 10 (fun _ => 0))) q6 (ob 3 [.int 0, .int 0, .int 0, .int 0, .int 0])) q7 (ob 3 [.int 0, .int 0, .int 0, .int 0, .int 0])) q8 (ob 1 [.int 0, .int 0, .int 0, .int 0, .int 0, .int 0, .int 0])) q9 (ob 1 [.int 0, .int 0, .int 0, .int 0, .int 0, .int 0, .int 0])) q10 (ob 1 [.int 0, .int 0, .int 0, .int 0, .int 0, .int 0, .int 0])) q11 (ob 1 [.int 0, .int 0, .int 0, .int 0, .int 0, .int 0, .int 0])) q12 (ob 1 [.int 0, .int 0, .int 0, .int 0, .int 0, .int 0, .int 0])) q13 (ob 1 [.int 0, .int 0, .int 0, .int 0, .int 0, .int 0, .int 0])) q14 (ob 1 [.int 0, .int 0, .int 0, .int 0, .int 0, .int 0, .int 0])) q15 (ob 1 [.int 0, .int 0, .int 0, .int 0, .int 0, .int 0, .int 0])) (([q15, q14, q13, q12, q11, q10, q9, q8, q7, q6, q5, q4, q3, q2, q1, a] : List Nat).getD (16 - (9 + p)) 0) = some (ob 1 [.int 0, .int 0, .int 0, .int 0, .int 0, .int 0, .int 0]) := by
    intro p hp
    have hc : p = 0 ∨ p = 1 ∨ p = 2 ∨ p = 3 ∨ p = 4 ∨ p = 5 ∨ p = 6 ∨ p = 7 := by omega
    rcases hc with rfl | rfl | rfl | rfl | rfl | rfl | rfl | rfl
    · exact ((hU_n (Ne.symm f_q15_q8)).trans ((hU_n (Ne.symm f_q14_q8)).trans ((hU_n (Ne.symm f_q13_q8)).trans ((hU_n (Ne.symm f_q12_q8)).trans ((hU_n (Ne.symm f_q11_q8)).trans ((hU_n (Ne.symm f_q10_q8)).trans ((hU_n (Ne.symm f_q9_q8)).trans hU_s)))))))
    · exact ((hU_n (Ne.symm f_q15_q9)).trans ((hU_n (Ne.symm f_q14_q9)).trans ((hU_n (Ne.symm f_q13_q9)).trans ((hU_n (Ne.symm f_q12_q9)).trans ((hU_n (Ne.symm f_q11_q9)).trans ((hU_n (Ne.symm f_q10_q9)).trans hU_s))))))
    · exact ((hU_n (Ne.symm f_q15_q10)).trans ((hU_n (Ne.symm f_q14_q10)).trans ((hU_n (Ne.symm f_q13_q10)).trans ((hU_n (Ne.symm f_q12_q10)).trans ((hU_n (Ne.symm f_q11_q10)).trans hU_s)))))
    · exact ((hU_n (Ne.symm f_q15_q11)).trans ((hU_n (Ne.symm f_q14_q11)).trans ((hU_n (Ne.symm f_q13_q11)).trans ((hU_n (Ne.symm f_q12_q11)).trans hU_s))))
    · exact ((hU_n (Ne.symm f_q15_q12)).trans ((hU_n (Ne.symm f_q14_q12)).trans ((hU_n (Ne.symm f_q13_q12)).trans hU_s)))
    · exact ((hU_n (Ne.symm f_q15_q13)).trans ((hU_n (Ne.symm f_q14_q13)).trans hU_s))
    · exact ((hU_n (Ne.symm f_q15_q14)).trans hU_s)
    · exact hU_s
  have hpf : ∀ p, p < 8 → (va_up (va_up (va_up (va_up (va_up (va_up (va_up (va_up (fun _ => none) 0 (some q8)) 1 (some q9)) 2 (some q10)) 3 (some q11)) 4 (some q12)) 5 (some q13)) 6 (some q14)) 7 (some q15)) p = some (([q15, q14, q13, q12, q11, q10, q9, q8, q7, q6, q5, q4, q3, q2, q1, a] : List Nat).getD (16 - (9 + p)) 0) := by
    intro p hp
    have hc : p = 0 ∨ p = 1 ∨ p = 2 ∨ p = 3 ∨ p = 4 ∨ p = 5 ∨ p = 6 ∨ p = 7 := by omega
    rcases hc with rfl | rfl | rfl | rfl | rfl | rfl | rfl | rfl <;> rfl
  exact v_vret X r dX6_init_111 (Nat.le_of_ble_eq_true rfl) (Nat.le_of_ble_eq_true rfl) ⟨rfl, fun i => ([q15, q14, q13, q12, q11, q10, q9, q8, q7, q6, q5, q4, q3, q2, q1, a] : List Nat).getD (16 - i) 0, rfl, hQ, hF0, fun x hx => ((hU_n (hx 16 (by decide) (by decide))).trans ((hU_n (hx 15 (by decide) (by decide))).trans ((hU_n (hx 14 (by decide) (by decide))).trans ((hU_n (hx 13 (by decide) (by decide))).trans ((hU_n (hx 12 (by decide) (by decide))).trans ((hU_n (hx 11 (by decide) (by decide))).trans ((hU_n (hx 10 (by decide) (by decide))).trans ((hU_n (hx 9 (by decide) (by decide))).trans ((hU_n (hx 8 (by decide) (by decide))).trans ((hU_n (hx 7 (by decide) (by decide))).trans ((hU_n (hx 6 (by decide) (by decide))).trans ((hU_n (hx 5 (by decide) (by decide))).trans ((hU_n (hx 4 (by decide) (by decide))).trans ((hU_n (hx 3 (by decide) (by decide))).trans ((hU_n (hx 1 (by decide) (by decide))).trans (hU_n (hx 2 (by decide) (by decide)))))))))))))))))), ⟨gW_i ((hU_n (Ne.symm f_q15_a)).trans ((hU_n (Ne.symm f_q14_a)).trans ((hU_n (Ne.symm f_q13_a)).trans ((hU_n (Ne.symm f_q12_a)).trans ((hU_n (Ne.symm f_q11_a)).trans ((hU_n (Ne.symm f_q10_a)).trans ((hU_n (Ne.symm f_q9_a)).trans ((hU_n (Ne.symm f_q8_a)).trans ((hU_n (Ne.symm f_q7_a)).trans ((hU_n (Ne.symm f_q6_a)).trans ((hU_n (Ne.symm f_q5_a)).trans ((hU_n (Ne.symm f_q4_a)).trans ((hU_n (Ne.symm f_q3_a)).trans ((hU_n (Ne.symm f_q2_a)).trans hU_s)))))))))))))) rfl rfl (bI_f (by decide)) rfl rfl rfl, ⟨_, fun _ _ => 0, ((hU_n (Ne.symm f_q15_q1)).trans ((hU_n (Ne.symm f_q14_q1)).trans ((hU_n (Ne.symm f_q13_q1)).trans ((hU_n (Ne.symm f_q12_q1)).trans ((hU_n (Ne.symm f_q11_q1)).trans ((hU_n (Ne.symm f_q10_q1)).trans ((hU_n (Ne.symm f_q9_q1)).trans ((hU_n (Ne.symm f_q8_q1)).trans ((hU_n (Ne.symm f_q7_q1)).trans ((hU_n (Ne.symm f_q6_q1)).trans ((hU_n (Ne.symm f_q5_q1)).trans ((hU_n (Ne.symm f_q4_q1)).trans ((hU_n (Ne.symm f_q3_q1)).trans ((hU_n (Ne.symm f_q2_q1)).trans ((hU_n f_q1_a).trans hU_s))))))))))))))), hpf, hps, fun p hp hn => absurd hn (Nat.not_lt_zero p)⟩, ⟨fun _ => none, ((hU_n (Ne.symm f_q15_q2)).trans ((hU_n (Ne.symm f_q14_q2)).trans ((hU_n (Ne.symm f_q13_q2)).trans ((hU_n (Ne.symm f_q12_q2)).trans ((hU_n (Ne.symm f_q11_q2)).trans ((hU_n (Ne.symm f_q10_q2)).trans ((hU_n (Ne.symm f_q9_q2)).trans ((hU_n (Ne.symm f_q8_q2)).trans ((hU_n (Ne.symm f_q7_q2)).trans ((hU_n (Ne.symm f_q6_q2)).trans ((hU_n (Ne.symm f_q5_q2)).trans ((hU_n (Ne.symm f_q4_q2)).trans ((hU_n (Ne.symm f_q3_q2)).trans hU_s))))))))))))), (fun _ _ _ hf => nomatch hf), fun w _ hw => absurd hw (Nat.not_lt_zero w)⟩, (by unfold gT; rw [← ptI]; exact ((hU_n (Ne.symm f_q15_q3)).trans ((hU_n (Ne.symm f_q14_q3)).trans ((hU_n (Ne.symm f_q13_q3)).trans ((hU_n (Ne.symm f_q12_q3)).trans ((hU_n (Ne.symm f_q11_q3)).trans ((hU_n (Ne.symm f_q10_q3)).trans ((hU_n (Ne.symm f_q9_q3)).trans ((hU_n (Ne.symm f_q8_q3)).trans ((hU_n (Ne.symm f_q7_q3)).trans ((hU_n (Ne.symm f_q6_q3)).trans ((hU_n (Ne.symm f_q5_q3)).trans ((hU_n (Ne.symm f_q4_q3)).trans hU_s))))))))))))), gM_i (T := 0) ((hU_n (Ne.symm f_q15_q4)).trans ((hU_n (Ne.symm f_q14_q4)).trans ((hU_n (Ne.symm f_q13_q4)).trans ((hU_n (Ne.symm f_q12_q4)).trans ((hU_n (Ne.symm f_q11_q4)).trans ((hU_n (Ne.symm f_q10_q4)).trans ((hU_n (Ne.symm f_q9_q4)).trans ((hU_n (Ne.symm f_q8_q4)).trans ((hU_n (Ne.symm f_q7_q4)).trans ((hU_n (Ne.symm f_q6_q4)).trans ((hU_n (Ne.symm f_q5_q4)).trans hU_s))))))))))) ((hU_n (Ne.symm f_q15_q5)).trans ((hU_n (Ne.symm f_q14_q5)).trans ((hU_n (Ne.symm f_q13_q5)).trans ((hU_n (Ne.symm f_q12_q5)).trans ((hU_n (Ne.symm f_q11_q5)).trans ((hU_n (Ne.symm f_q10_q5)).trans ((hU_n (Ne.symm f_q9_q5)).trans ((hU_n (Ne.symm f_q8_q5)).trans ((hU_n (Ne.symm f_q7_q5)).trans ((hU_n (Ne.symm f_q6_q5)).trans hU_s)))))))))) ((hU_n (Ne.symm f_q15_q6)).trans ((hU_n (Ne.symm f_q14_q6)).trans ((hU_n (Ne.symm f_q13_q6)).trans ((hU_n (Ne.symm f_q12_q6)).trans ((hU_n (Ne.symm f_q11_q6)).trans ((hU_n (Ne.symm f_q10_q6)).trans ((hU_n (Ne.symm f_q9_q6)).trans ((hU_n (Ne.symm f_q8_q6)).trans ((hU_n (Ne.symm f_q7_q6)).trans hU_s))))))))) ((hU_n (Ne.symm f_q15_q7)).trans ((hU_n (Ne.symm f_q14_q7)).trans ((hU_n (Ne.symm f_q13_q7)).trans ((hU_n (Ne.symm f_q12_q7)).trans ((hU_n (Ne.symm f_q11_q7)).trans ((hU_n (Ne.symm f_q10_q7)).trans ((hU_n (Ne.symm f_q9_q7)).trans ((hU_n (Ne.symm f_q8_q7)).trans hU_s)))))))) rfl rfl rfl rfl rfl rfl rfl rfl rfl rfl (by decide) ⟨rfl, fun j hj => absurd hj (Nat.not_lt_zero j)⟩ (fun j _ _ => zB (by omega))⟩⟩
set_option maxHeartbeats 4000000 in
set_option maxRecDepth 100000 in
theorem ct_X8_init (ll : Launch) (g : GT) {h : Hp} {a : Nat} (ha : h a = some (ob 8 [.null, .null, .null, .int 0, .null, .int 0, .int 0, .null, .int 0, .int 0, .int 0, .int 0, .int 0, .int 0, .int 0, .null, .null, .null, .null])) : MC ll g yX8_init cX8_init 1 none { frames := 1, cells := 9, slots := 1095, locals := 20 } [.ref a] h (fun r h2 => r = none ∧ ∃ A : Nat → Nat, MW g h2 a A sI) 9 1095 := by
  refine mc_ofI (by decide) rfl (Nat.le_of_ble_eq_true rfl) ?_
  intro K X r I
  refine v_eqv (lv2 := [(0, .ref a)]) rfl ?_
  refine v_aload_n X dX8_init_0 0 rfl ?_
  refine v_objI X oi_X8 (Nat.le_of_ble_eq_true rfl) (Nat.le_of_ble_eq_true rfl) dX8_init_1 ?_
  refine v_aload_n X dX8_init_4 0 rfl ?_
  refine v_sipush X dX8_init_5 (v := 260) (by decide) ?_
  refine v_newI X 260 (rfl : (260 : Int32) = nI 260) (by decide) (Nat.le_of_ble_eq_true rfl) (Nat.le_of_ble_eq_true rfl) dX8_init_8 (fun q1 hq1 => ?_)
  have f_q1_a : q1 ≠ a := fr_ne hq1 ha
  have b_q1 : h q1 = none := hq1
  refine v_putF (h2 := (hU (hU h q1 (ai g 260 (fun _ => 0))) a (ob 8 [.ref q1, .null, .null, .int 0, .null, .int 0, .int 0, .null, .int 0, .int 0, .int 0, .int 0, .int 0, .int 0, .int 0, .null, .null, .null, .null]))) (ty := .array (.int)) X I fX8_9 tyX8_ok nmX8 rfl rfl (by decide +kernel) ((hU_n (Ne.symm f_q1_a)).trans ha) rfl rfl (ltb rfl) dX8_init_10 rfl ?_
  refine v_aload_n X dX8_init_13 0 rfl ?_
  refine v_sipush X dX8_init_14 (v := 260) (by decide) ?_
  refine v_newI X 260 (rfl : (260 : Int32) = nI 260) (by decide) (Nat.le_of_ble_eq_true rfl) (Nat.le_of_ble_eq_true rfl) dX8_init_17 (fun q2 hq2 => ?_)
  have f_q2_q1 : q2 ≠ q1 := fr_ne hq2 ((hU_n f_q1_a).trans hU_s)
  have f_q2_a : q2 ≠ a := fr_ne hq2 hU_s
  have b_q2 : h q2 = none := (fr_U (fr_U hq2).1).1
  refine v_putF (h2 := (hU (hU (hU h q1 (ai g 260 (fun _ => 0))) a (ob 8 [.ref q1, .ref q2, .null, .int 0, .null, .int 0, .int 0, .null, .int 0, .int 0, .int 0, .int 0, .int 0, .int 0, .int 0, .null, .null, .null, .null])) q2 (ai g 260 (fun _ => 0)))) (ty := .array (.int)) X I fX8_13 tyX8_ok nmX8 rfl rfl (by decide +kernel) ((hU_n (Ne.symm f_q2_a)).trans hU_s) rfl rfl (ltb rfl) dX8_init_19 (hU_u2 f_q2_a) ?_
  refine v_aload_n X dX8_init_22 0 rfl ?_
  refine v_sipush X dX8_init_23 (v := 260) (by decide) ?_
  refine v_newI X 260 (rfl : (260 : Int32) = nI 260) (by decide) (Nat.le_of_ble_eq_true rfl) (Nat.le_of_ble_eq_true rfl) dX8_init_26 (fun q3 hq3 => ?_)
  have f_q3_q1 : q3 ≠ q1 := fr_ne hq3 ((hU_n (Ne.symm f_q2_q1)).trans ((hU_n f_q1_a).trans hU_s))
  have f_q3_a : q3 ≠ a := fr_ne hq3 ((hU_n (Ne.symm f_q2_a)).trans hU_s)
  have f_q3_q2 : q3 ≠ q2 := fr_ne hq3 hU_s
  have b_q3 : h q3 = none := (fr_U (fr_U (fr_U hq3).1).1).1
  refine v_putF (h2 := (hU (hU (hU (hU h q1 (ai g 260 (fun _ => 0))) a (ob 8 [.ref q1, .ref q2, .ref q3, .int 0, .null, .int 0, .int 0, .null, .int 0, .int 0, .int 0, .int 0, .int 0, .int 0, .int 0, .null, .null, .null, .null])) q2 (ai g 260 (fun _ => 0))) q3 (ai g 260 (fun _ => 0)))) (ty := .array (.int)) X I fX8_16 tyX8_ok nmX8 rfl rfl (by decide +kernel) ((hU_n (Ne.symm f_q3_a)).trans ((hU_n (Ne.symm f_q2_a)).trans hU_s)) rfl rfl (ltb rfl) dX8_init_28 (hU_u3 f_q2_a f_q3_a) ?_
  refine v_aload_n X dX8_init_31 0 rfl ?_
  refine v_bipush X dX8_init_32 (v := 7) (by decide) ?_
  refine v_newI X 7 (rfl : (7 : Int32) = nI 7) (by decide) (Nat.le_of_ble_eq_true rfl) (Nat.le_of_ble_eq_true rfl) dX8_init_34 (fun q4 hq4 => ?_)
  have f_q4_q1 : q4 ≠ q1 := fr_ne hq4 ((hU_n (Ne.symm f_q3_q1)).trans ((hU_n (Ne.symm f_q2_q1)).trans ((hU_n f_q1_a).trans hU_s)))
  have f_q4_a : q4 ≠ a := fr_ne hq4 ((hU_n (Ne.symm f_q3_a)).trans ((hU_n (Ne.symm f_q2_a)).trans hU_s))
  have f_q4_q2 : q4 ≠ q2 := fr_ne hq4 ((hU_n (Ne.symm f_q3_q2)).trans hU_s)
  have f_q4_q3 : q4 ≠ q3 := fr_ne hq4 hU_s
  have b_q4 : h q4 = none := (fr_U (fr_U (fr_U (fr_U hq4).1).1).1).1
  refine v_putF (h2 := (hU (hU (hU (hU (hU h q1 (ai g 260 (fun _ => 0))) a (ob 8 [.ref q1, .ref q2, .ref q3, .int 0, .ref q4, .int 0, .int 0, .null, .int 0, .int 0, .int 0, .int 0, .int 0, .int 0, .int 0, .null, .null, .null, .null])) q2 (ai g 260 (fun _ => 0))) q3 (ai g 260 (fun _ => 0))) q4 (ai g 7 (fun _ => 0)))) (ty := .array (.int)) X I fX8_19 tyX8_ok nmX8 rfl rfl (by decide +kernel) ((hU_n (Ne.symm f_q4_a)).trans ((hU_n (Ne.symm f_q3_a)).trans ((hU_n (Ne.symm f_q2_a)).trans hU_s))) rfl rfl (ltb rfl) dX8_init_36 (hU_u4 f_q2_a f_q3_a f_q4_a) ?_
  refine v_aload_n X dX8_init_39 0 rfl ?_
  refine v_bipush X dX8_init_40 (v := 100) (by decide) ?_
  refine v_newI X 100 (rfl : (100 : Int32) = nI 100) (by decide) (Nat.le_of_ble_eq_true rfl) (Nat.le_of_ble_eq_true rfl) dX8_init_42 (fun q5 hq5 => ?_)
  have f_q5_q1 : q5 ≠ q1 := fr_ne hq5 ((hU_n (Ne.symm f_q4_q1)).trans ((hU_n (Ne.symm f_q3_q1)).trans ((hU_n (Ne.symm f_q2_q1)).trans ((hU_n f_q1_a).trans hU_s))))
  have f_q5_a : q5 ≠ a := fr_ne hq5 ((hU_n (Ne.symm f_q4_a)).trans ((hU_n (Ne.symm f_q3_a)).trans ((hU_n (Ne.symm f_q2_a)).trans hU_s)))
  have f_q5_q2 : q5 ≠ q2 := fr_ne hq5 ((hU_n (Ne.symm f_q4_q2)).trans ((hU_n (Ne.symm f_q3_q2)).trans hU_s))
  have f_q5_q3 : q5 ≠ q3 := fr_ne hq5 ((hU_n (Ne.symm f_q4_q3)).trans hU_s)
  have f_q5_q4 : q5 ≠ q4 := fr_ne hq5 hU_s
  have b_q5 : h q5 = none := (fr_U (fr_U (fr_U (fr_U (fr_U hq5).1).1).1).1).1
  refine v_putF (h2 := (hU (hU (hU (hU (hU (hU h q1 (ai g 260 (fun _ => 0))) a (ob 8 [.ref q1, .ref q2, .ref q3, .int 0, .ref q4, .int 0, .int 0, .ref q5, .int 0, .int 0, .int 0, .int 0, .int 0, .int 0, .int 0, .null, .null, .null, .null])) q2 (ai g 260 (fun _ => 0))) q3 (ai g 260 (fun _ => 0))) q4 (ai g 7 (fun _ => 0))) q5 (ai g 100 (fun _ => 0)))) (ty := .array (.int)) X I fX8_22 tyX8_ok nmX8 rfl rfl (by decide +kernel) ((hU_n (Ne.symm f_q5_a)).trans ((hU_n (Ne.symm f_q4_a)).trans ((hU_n (Ne.symm f_q3_a)).trans ((hU_n (Ne.symm f_q2_a)).trans hU_s)))) rfl rfl (ltb rfl) dX8_init_44 (hU_u5 f_q2_a f_q3_a f_q4_a f_q5_a) ?_
  refine v_aload_n X dX8_init_47 0 rfl ?_
  refine v_iconst X dX8_init_48 (v := 4) (by decide) ?_
  refine v_newI X 4 (rfl : (4 : Int32) = nI 4) (by decide) (Nat.le_of_ble_eq_true rfl) (Nat.le_of_ble_eq_true rfl) dX8_init_49 (fun q6 hq6 => ?_)
  have f_q6_q1 : q6 ≠ q1 := fr_ne hq6 ((hU_n (Ne.symm f_q5_q1)).trans ((hU_n (Ne.symm f_q4_q1)).trans ((hU_n (Ne.symm f_q3_q1)).trans ((hU_n (Ne.symm f_q2_q1)).trans ((hU_n f_q1_a).trans hU_s)))))
  have f_q6_a : q6 ≠ a := fr_ne hq6 ((hU_n (Ne.symm f_q5_a)).trans ((hU_n (Ne.symm f_q4_a)).trans ((hU_n (Ne.symm f_q3_a)).trans ((hU_n (Ne.symm f_q2_a)).trans hU_s))))
  have f_q6_q2 : q6 ≠ q2 := fr_ne hq6 ((hU_n (Ne.symm f_q5_q2)).trans ((hU_n (Ne.symm f_q4_q2)).trans ((hU_n (Ne.symm f_q3_q2)).trans hU_s)))
  have f_q6_q3 : q6 ≠ q3 := fr_ne hq6 ((hU_n (Ne.symm f_q5_q3)).trans ((hU_n (Ne.symm f_q4_q3)).trans hU_s))
  have f_q6_q4 : q6 ≠ q4 := fr_ne hq6 ((hU_n (Ne.symm f_q5_q4)).trans hU_s)
  have f_q6_q5 : q6 ≠ q5 := fr_ne hq6 hU_s
  have b_q6 : h q6 = none := (fr_U (fr_U (fr_U (fr_U (fr_U (fr_U hq6).1).1).1).1).1).1
  refine v_putF (h2 := (hU (hU (hU (hU (hU (hU (hU h q1 (ai g 260 (fun _ => 0))) a (ob 8 [.ref q1, .ref q2, .ref q3, .int 0, .ref q4, .int 0, .int 0, .ref q5, .int 0, .int 0, .int 0, .int 0, .int 0, .int 0, .int 0, .ref q6, .null, .null, .null])) q2 (ai g 260 (fun _ => 0))) q3 (ai g 260 (fun _ => 0))) q4 (ai g 7 (fun _ => 0))) q5 (ai g 100 (fun _ => 0))) q6 (ai g 4 (fun _ => 0)))) (ty := .array (.int)) X I fX8_25 tyX8_ok nmX8 rfl rfl (by decide +kernel) ((hU_n (Ne.symm f_q6_a)).trans ((hU_n (Ne.symm f_q5_a)).trans ((hU_n (Ne.symm f_q4_a)).trans ((hU_n (Ne.symm f_q3_a)).trans ((hU_n (Ne.symm f_q2_a)).trans hU_s))))) rfl rfl (ltb rfl) dX8_init_51 (hU_u6 f_q2_a f_q3_a f_q4_a f_q5_a f_q6_a) ?_
  refine v_aload_n X dX8_init_54 0 rfl ?_
  refine v_iconst X dX8_init_55 (v := 4) (by decide) ?_
  refine v_newI X 4 (rfl : (4 : Int32) = nI 4) (by decide) (Nat.le_of_ble_eq_true rfl) (Nat.le_of_ble_eq_true rfl) dX8_init_56 (fun q7 hq7 => ?_)
  have f_q7_q1 : q7 ≠ q1 := fr_ne hq7 ((hU_n (Ne.symm f_q6_q1)).trans ((hU_n (Ne.symm f_q5_q1)).trans ((hU_n (Ne.symm f_q4_q1)).trans ((hU_n (Ne.symm f_q3_q1)).trans ((hU_n (Ne.symm f_q2_q1)).trans ((hU_n f_q1_a).trans hU_s))))))
  have f_q7_a : q7 ≠ a := fr_ne hq7 ((hU_n (Ne.symm f_q6_a)).trans ((hU_n (Ne.symm f_q5_a)).trans ((hU_n (Ne.symm f_q4_a)).trans ((hU_n (Ne.symm f_q3_a)).trans ((hU_n (Ne.symm f_q2_a)).trans hU_s)))))
  have f_q7_q2 : q7 ≠ q2 := fr_ne hq7 ((hU_n (Ne.symm f_q6_q2)).trans ((hU_n (Ne.symm f_q5_q2)).trans ((hU_n (Ne.symm f_q4_q2)).trans ((hU_n (Ne.symm f_q3_q2)).trans hU_s))))
  have f_q7_q3 : q7 ≠ q3 := fr_ne hq7 ((hU_n (Ne.symm f_q6_q3)).trans ((hU_n (Ne.symm f_q5_q3)).trans ((hU_n (Ne.symm f_q4_q3)).trans hU_s)))
  have f_q7_q4 : q7 ≠ q4 := fr_ne hq7 ((hU_n (Ne.symm f_q6_q4)).trans ((hU_n (Ne.symm f_q5_q4)).trans hU_s))
  have f_q7_q5 : q7 ≠ q5 := fr_ne hq7 ((hU_n (Ne.symm f_q6_q5)).trans hU_s)
  have f_q7_q6 : q7 ≠ q6 := fr_ne hq7 hU_s
  have b_q7 : h q7 = none := (fr_U (fr_U (fr_U (fr_U (fr_U (fr_U (fr_U hq7).1).1).1).1).1).1).1
  refine v_putF (h2 := (hU (hU (hU (hU (hU (hU (hU (hU h q1 (ai g 260 (fun _ => 0))) a (ob 8 [.ref q1, .ref q2, .ref q3, .int 0, .ref q4, .int 0, .int 0, .ref q5, .int 0, .int 0, .int 0, .int 0, .int 0, .int 0, .int 0, .ref q6, .ref q7, .null, .null])) q2 (ai g 260 (fun _ => 0))) q3 (ai g 260 (fun _ => 0))) q4 (ai g 7 (fun _ => 0))) q5 (ai g 100 (fun _ => 0))) q6 (ai g 4 (fun _ => 0))) q7 (ai g 4 (fun _ => 0)))) (ty := .array (.int)) X I fX8_28 tyX8_ok nmX8 rfl rfl (by decide +kernel) ((hU_n (Ne.symm f_q7_a)).trans ((hU_n (Ne.symm f_q6_a)).trans ((hU_n (Ne.symm f_q5_a)).trans ((hU_n (Ne.symm f_q4_a)).trans ((hU_n (Ne.symm f_q3_a)).trans ((hU_n (Ne.symm f_q2_a)).trans hU_s)))))) rfl rfl (ltb rfl) dX8_init_58 (hU_u7 f_q2_a f_q3_a f_q4_a f_q5_a f_q6_a f_q7_a) ?_
  refine v_aload_n X dX8_init_61 0 rfl ?_
  refine v_sipush X dX8_init_62 (v := 160) (by decide) ?_
  refine v_newJ X 160 (rfl : (160 : Int32) = nI 160) (by decide) (Nat.le_of_ble_eq_true rfl) (Nat.le_of_ble_eq_true rfl) dX8_init_65 (fun q8 hq8 => ?_)
  have f_q8_q1 : q8 ≠ q1 := fr_ne hq8 ((hU_n (Ne.symm f_q7_q1)).trans ((hU_n (Ne.symm f_q6_q1)).trans ((hU_n (Ne.symm f_q5_q1)).trans ((hU_n (Ne.symm f_q4_q1)).trans ((hU_n (Ne.symm f_q3_q1)).trans ((hU_n (Ne.symm f_q2_q1)).trans ((hU_n f_q1_a).trans hU_s)))))))
  have f_q8_a : q8 ≠ a := fr_ne hq8 ((hU_n (Ne.symm f_q7_a)).trans ((hU_n (Ne.symm f_q6_a)).trans ((hU_n (Ne.symm f_q5_a)).trans ((hU_n (Ne.symm f_q4_a)).trans ((hU_n (Ne.symm f_q3_a)).trans ((hU_n (Ne.symm f_q2_a)).trans hU_s))))))
  have f_q8_q2 : q8 ≠ q2 := fr_ne hq8 ((hU_n (Ne.symm f_q7_q2)).trans ((hU_n (Ne.symm f_q6_q2)).trans ((hU_n (Ne.symm f_q5_q2)).trans ((hU_n (Ne.symm f_q4_q2)).trans ((hU_n (Ne.symm f_q3_q2)).trans hU_s)))))
  have f_q8_q3 : q8 ≠ q3 := fr_ne hq8 ((hU_n (Ne.symm f_q7_q3)).trans ((hU_n (Ne.symm f_q6_q3)).trans ((hU_n (Ne.symm f_q5_q3)).trans ((hU_n (Ne.symm f_q4_q3)).trans hU_s))))
  have f_q8_q4 : q8 ≠ q4 := fr_ne hq8 ((hU_n (Ne.symm f_q7_q4)).trans ((hU_n (Ne.symm f_q6_q4)).trans ((hU_n (Ne.symm f_q5_q4)).trans hU_s)))
  have f_q8_q5 : q8 ≠ q5 := fr_ne hq8 ((hU_n (Ne.symm f_q7_q5)).trans ((hU_n (Ne.symm f_q6_q5)).trans hU_s))
  have f_q8_q6 : q8 ≠ q6 := fr_ne hq8 ((hU_n (Ne.symm f_q7_q6)).trans hU_s)
  have f_q8_q7 : q8 ≠ q7 := fr_ne hq8 hU_s
  have b_q8 : h q8 = none := (fr_U (fr_U (fr_U (fr_U (fr_U (fr_U (fr_U (fr_U hq8).1).1).1).1).1).1).1).1
  refine v_putF (h2 := (hU (hU (hU (hU (hU (hU (hU (hU (hU h q1 (ai g 260 (fun _ => 0))) a (ob 8 [.ref q1, .ref q2, .ref q3, .int 0, .ref q4, .int 0, .int 0, .ref q5, .int 0, .int 0, .int 0, .int 0, .int 0, .int 0, .int 0, .ref q6, .ref q7, .ref q8, .null])) q2 (ai g 260 (fun _ => 0))) q3 (ai g 260 (fun _ => 0))) q4 (ai g 7 (fun _ => 0))) q5 (ai g 100 (fun _ => 0))) q6 (ai g 4 (fun _ => 0))) q7 (ai g 4 (fun _ => 0))) q8 (al g 160 (fun _ => 0)))) (ty := .array (.long)) X I fX8_31 tyX8_ok nmX8 rfl rfl (by decide +kernel) ((hU_n (Ne.symm f_q8_a)).trans ((hU_n (Ne.symm f_q7_a)).trans ((hU_n (Ne.symm f_q6_a)).trans ((hU_n (Ne.symm f_q5_a)).trans ((hU_n (Ne.symm f_q4_a)).trans ((hU_n (Ne.symm f_q3_a)).trans ((hU_n (Ne.symm f_q2_a)).trans hU_s))))))) rfl rfl (ltb rfl) dX8_init_67 (hU_u8 f_q2_a f_q3_a f_q4_a f_q5_a f_q6_a f_q7_a f_q8_a) ?_
  refine v_aload_n X dX8_init_70 0 rfl ?_
  refine v_bipush X dX8_init_71 (v := 40) (by decide) ?_
  refine v_newJ X 40 (rfl : (40 : Int32) = nI 40) (by decide) (Nat.le_of_ble_eq_true rfl) (Nat.le_of_ble_eq_true rfl) dX8_init_73 (fun q9 hq9 => ?_)
  have f_q9_q1 : q9 ≠ q1 := fr_ne hq9 ((hU_n (Ne.symm f_q8_q1)).trans ((hU_n (Ne.symm f_q7_q1)).trans ((hU_n (Ne.symm f_q6_q1)).trans ((hU_n (Ne.symm f_q5_q1)).trans ((hU_n (Ne.symm f_q4_q1)).trans ((hU_n (Ne.symm f_q3_q1)).trans ((hU_n (Ne.symm f_q2_q1)).trans ((hU_n f_q1_a).trans hU_s))))))))
  have f_q9_a : q9 ≠ a := fr_ne hq9 ((hU_n (Ne.symm f_q8_a)).trans ((hU_n (Ne.symm f_q7_a)).trans ((hU_n (Ne.symm f_q6_a)).trans ((hU_n (Ne.symm f_q5_a)).trans ((hU_n (Ne.symm f_q4_a)).trans ((hU_n (Ne.symm f_q3_a)).trans ((hU_n (Ne.symm f_q2_a)).trans hU_s)))))))
  have f_q9_q2 : q9 ≠ q2 := fr_ne hq9 ((hU_n (Ne.symm f_q8_q2)).trans ((hU_n (Ne.symm f_q7_q2)).trans ((hU_n (Ne.symm f_q6_q2)).trans ((hU_n (Ne.symm f_q5_q2)).trans ((hU_n (Ne.symm f_q4_q2)).trans ((hU_n (Ne.symm f_q3_q2)).trans hU_s))))))
  have f_q9_q3 : q9 ≠ q3 := fr_ne hq9 ((hU_n (Ne.symm f_q8_q3)).trans ((hU_n (Ne.symm f_q7_q3)).trans ((hU_n (Ne.symm f_q6_q3)).trans ((hU_n (Ne.symm f_q5_q3)).trans ((hU_n (Ne.symm f_q4_q3)).trans hU_s)))))
  have f_q9_q4 : q9 ≠ q4 := fr_ne hq9 ((hU_n (Ne.symm f_q8_q4)).trans ((hU_n (Ne.symm f_q7_q4)).trans ((hU_n (Ne.symm f_q6_q4)).trans ((hU_n (Ne.symm f_q5_q4)).trans hU_s))))
  have f_q9_q5 : q9 ≠ q5 := fr_ne hq9 ((hU_n (Ne.symm f_q8_q5)).trans ((hU_n (Ne.symm f_q7_q5)).trans ((hU_n (Ne.symm f_q6_q5)).trans hU_s)))
  have f_q9_q6 : q9 ≠ q6 := fr_ne hq9 ((hU_n (Ne.symm f_q8_q6)).trans ((hU_n (Ne.symm f_q7_q6)).trans hU_s))
  have f_q9_q7 : q9 ≠ q7 := fr_ne hq9 ((hU_n (Ne.symm f_q8_q7)).trans hU_s)
  have f_q9_q8 : q9 ≠ q8 := fr_ne hq9 hU_s
  have b_q9 : h q9 = none := (fr_U (fr_U (fr_U (fr_U (fr_U (fr_U (fr_U (fr_U (fr_U hq9).1).1).1).1).1).1).1).1).1
  refine v_putF (h2 := (hU (hU (hU (hU (hU (hU (hU (hU (hU (hU h q1 (ai g 260 (fun _ => 0))) a (ob 8 [.ref q1, .ref q2, .ref q3, .int 0, .ref q4, .int 0, .int 0, .ref q5, .int 0, .int 0, .int 0, .int 0, .int 0, .int 0, .int 0, .ref q6, .ref q7, .ref q8, .ref q9])) q2 (ai g 260 (fun _ => 0))) q3 (ai g 260 (fun _ => 0))) q4 (ai g 7 (fun _ => 0))) q5 (ai g 100 (fun _ => 0))) q6 (ai g 4 (fun _ => 0))) q7 (ai g 4 (fun _ => 0))) q8 (al g 160 (fun _ => 0))) q9 (al g 40 (fun _ => 0)))) (ty := .array (.long)) X I fX8_35 tyX8_ok nmX8 rfl rfl (by decide +kernel) ((hU_n (Ne.symm f_q9_a)).trans ((hU_n (Ne.symm f_q8_a)).trans ((hU_n (Ne.symm f_q7_a)).trans ((hU_n (Ne.symm f_q6_a)).trans ((hU_n (Ne.symm f_q5_a)).trans ((hU_n (Ne.symm f_q4_a)).trans ((hU_n (Ne.symm f_q3_a)).trans ((hU_n (Ne.symm f_q2_a)).trans hU_s)))))))) rfl rfl (ltb rfl) dX8_init_75 (hU_u9 f_q2_a f_q3_a f_q4_a f_q5_a f_q6_a f_q7_a f_q8_a f_q9_a) ?_
  refine v_aload_n X dX8_init_78 0 rfl ?_
  refine v_get X fX8_9 ((hU_n (Ne.symm f_q9_a)).trans ((hU_n (Ne.symm f_q8_a)).trans ((hU_n (Ne.symm f_q7_a)).trans ((hU_n (Ne.symm f_q6_a)).trans ((hU_n (Ne.symm f_q5_a)).trans ((hU_n (Ne.symm f_q4_a)).trans ((hU_n (Ne.symm f_q3_a)).trans ((hU_n (Ne.symm f_q2_a)).trans hU_s)))))))) rfl dX8_init_79 ?_
  refine v_bipush X dX8_init_82 (v := 10) (by decide) ?_
  refine v_bipush X dX8_init_84 (v := 15) (by decide) ?_
  refine v_iastK (h2 := (hU (hU (hU (hU (hU (hU (hU (hU (hU (hU h q1 (ai g 260 (upd (fun _ => 0) 10 15))) a (ob 8 [.ref q1, .ref q2, .ref q3, .int 0, .ref q4, .int 0, .int 0, .ref q5, .int 0, .int 0, .int 0, .int 0, .int 0, .int 0, .int 0, .ref q6, .ref q7, .ref q8, .ref q9])) q2 (ai g 260 (fun _ => 0))) q3 (ai g 260 (fun _ => 0))) q4 (ai g 7 (fun _ => 0))) q5 (ai g 100 (fun _ => 0))) q6 (ai g 4 (fun _ => 0))) q7 (ai g 4 (fun _ => 0))) q8 (al g 160 (fun _ => 0))) q9 (al g 40 (fun _ => 0)))) X 10 ((hU_n (Ne.symm f_q9_q1)).trans ((hU_n (Ne.symm f_q8_q1)).trans ((hU_n (Ne.symm f_q7_q1)).trans ((hU_n (Ne.symm f_q6_q1)).trans ((hU_n (Ne.symm f_q5_q1)).trans ((hU_n (Ne.symm f_q4_q1)).trans ((hU_n (Ne.symm f_q3_q1)).trans ((hU_n (Ne.symm f_q2_q1)).trans ((hU_n f_q1_a).trans hU_s))))))))) (rfl : (10 : Int32) = nI 10) (by decide) (by decide) dX8_init_86 (hU_u10 (Ne.symm f_q1_a) f_q2_q1 f_q3_q1 f_q4_q1 f_q5_q1 f_q6_q1 f_q7_q1 f_q8_q1 f_q9_q1) ?_
  refine v_aload_n X dX8_init_87 0 rfl ?_
  refine v_get X fX8_9 ((hU_n (Ne.symm f_q9_a)).trans ((hU_n (Ne.symm f_q8_a)).trans ((hU_n (Ne.symm f_q7_a)).trans ((hU_n (Ne.symm f_q6_a)).trans ((hU_n (Ne.symm f_q5_a)).trans ((hU_n (Ne.symm f_q4_a)).trans ((hU_n (Ne.symm f_q3_a)).trans ((hU_n (Ne.symm f_q2_a)).trans hU_s)))))))) rfl dX8_init_88 ?_
  refine v_bipush X dX8_init_91 (v := 11) (by decide) ?_
  refine v_iconst X dX8_init_93 (v := 5) (by decide) ?_
  refine v_iastK (h2 := (hU (hU (hU (hU (hU (hU (hU (hU (hU (hU h q1 (ai g 260 (upd (upd (fun _ => 0) 10 15) 11 5))) a (ob 8 [.ref q1, .ref q2, .ref q3, .int 0, .ref q4, .int 0, .int 0, .ref q5, .int 0, .int 0, .int 0, .int 0, .int 0, .int 0, .int 0, .ref q6, .ref q7, .ref q8, .ref q9])) q2 (ai g 260 (fun _ => 0))) q3 (ai g 260 (fun _ => 0))) q4 (ai g 7 (fun _ => 0))) q5 (ai g 100 (fun _ => 0))) q6 (ai g 4 (fun _ => 0))) q7 (ai g 4 (fun _ => 0))) q8 (al g 160 (fun _ => 0))) q9 (al g 40 (fun _ => 0)))) X 11 ((hU_n (Ne.symm f_q9_q1)).trans ((hU_n (Ne.symm f_q8_q1)).trans ((hU_n (Ne.symm f_q7_q1)).trans ((hU_n (Ne.symm f_q6_q1)).trans ((hU_n (Ne.symm f_q5_q1)).trans ((hU_n (Ne.symm f_q4_q1)).trans ((hU_n (Ne.symm f_q3_q1)).trans ((hU_n (Ne.symm f_q2_q1)).trans ((hU_n f_q1_a).trans hU_s))))))))) (rfl : (11 : Int32) = nI 11) (by decide) (by decide) dX8_init_94 (hU_u10 (Ne.symm f_q1_a) f_q2_q1 f_q3_q1 f_q4_q1 f_q5_q1 f_q6_q1 f_q7_q1 f_q8_q1 f_q9_q1) ?_
  refine v_aload_n X dX8_init_95 0 rfl ?_
  refine v_get X fX8_9 ((hU_n (Ne.symm f_q9_a)).trans ((hU_n (Ne.symm f_q8_a)).trans ((hU_n (Ne.symm f_q7_a)).trans ((hU_n (Ne.symm f_q6_a)).trans ((hU_n (Ne.symm f_q5_a)).trans ((hU_n (Ne.symm f_q4_a)).trans ((hU_n (Ne.symm f_q3_a)).trans ((hU_n (Ne.symm f_q2_a)).trans hU_s)))))))) rfl dX8_init_96 ?_
  refine v_bipush X dX8_init_99 (v := 12) (by decide) ?_
  refine v_iconst X dX8_init_101 (v := 3) (by decide) ?_
  refine v_iastK (h2 := (hU (hU (hU (hU (hU (hU (hU (hU (hU (hU h q1 (ai g 260 (upd (upd (upd (fun _ => 0) 10 15) 11 5) 12 3))) a (ob 8 [.ref q1, .ref q2, .ref q3, .int 0, .ref q4, .int 0, .int 0, .ref q5, .int 0, .int 0, .int 0, .int 0, .int 0, .int 0, .int 0, .ref q6, .ref q7, .ref q8, .ref q9])) q2 (ai g 260 (fun _ => 0))) q3 (ai g 260 (fun _ => 0))) q4 (ai g 7 (fun _ => 0))) q5 (ai g 100 (fun _ => 0))) q6 (ai g 4 (fun _ => 0))) q7 (ai g 4 (fun _ => 0))) q8 (al g 160 (fun _ => 0))) q9 (al g 40 (fun _ => 0)))) X 12 ((hU_n (Ne.symm f_q9_q1)).trans ((hU_n (Ne.symm f_q8_q1)).trans ((hU_n (Ne.symm f_q7_q1)).trans ((hU_n (Ne.symm f_q6_q1)).trans ((hU_n (Ne.symm f_q5_q1)).trans ((hU_n (Ne.symm f_q4_q1)).trans ((hU_n (Ne.symm f_q3_q1)).trans ((hU_n (Ne.symm f_q2_q1)).trans ((hU_n f_q1_a).trans hU_s))))))))) (rfl : (12 : Int32) = nI 12) (by decide) (by decide) dX8_init_102 (hU_u10 (Ne.symm f_q1_a) f_q2_q1 f_q3_q1 f_q4_q1 f_q5_q1 f_q6_q1 f_q7_q1 f_q8_q1 f_q9_q1) ?_
  refine v_aload_n X dX8_init_103 0 rfl ?_
  refine v_get X fX8_9 ((hU_n (Ne.symm f_q9_a)).trans ((hU_n (Ne.symm f_q8_a)).trans ((hU_n (Ne.symm f_q7_a)).trans ((hU_n (Ne.symm f_q6_a)).trans ((hU_n (Ne.symm f_q5_a)).trans ((hU_n (Ne.symm f_q4_a)).trans ((hU_n (Ne.symm f_q3_a)).trans ((hU_n (Ne.symm f_q2_a)).trans hU_s)))))))) rfl dX8_init_104 ?_
  refine v_bipush X dX8_init_107 (v := 13) (by decide) ?_
  refine v_bipush X dX8_init_109 (v := 60) (by decide) ?_
  refine v_iastK (h2 := (hU (hU (hU (hU (hU (hU (hU (hU (hU (hU h q1 (ai g 260 (upd (upd (upd (upd (fun _ => 0) 10 15) 11 5) 12 3) 13 60))) a (ob 8 [.ref q1, .ref q2, .ref q3, .int 0, .ref q4, .int 0, .int 0, .ref q5, .int 0, .int 0, .int 0, .int 0, .int 0, .int 0, .int 0, .ref q6, .ref q7, .ref q8, .ref q9])) q2 (ai g 260 (fun _ => 0))) q3 (ai g 260 (fun _ => 0))) q4 (ai g 7 (fun _ => 0))) q5 (ai g 100 (fun _ => 0))) q6 (ai g 4 (fun _ => 0))) q7 (ai g 4 (fun _ => 0))) q8 (al g 160 (fun _ => 0))) q9 (al g 40 (fun _ => 0)))) X 13 ((hU_n (Ne.symm f_q9_q1)).trans ((hU_n (Ne.symm f_q8_q1)).trans ((hU_n (Ne.symm f_q7_q1)).trans ((hU_n (Ne.symm f_q6_q1)).trans ((hU_n (Ne.symm f_q5_q1)).trans ((hU_n (Ne.symm f_q4_q1)).trans ((hU_n (Ne.symm f_q3_q1)).trans ((hU_n (Ne.symm f_q2_q1)).trans ((hU_n f_q1_a).trans hU_s))))))))) (rfl : (13 : Int32) = nI 13) (by decide) (by decide) dX8_init_111 (hU_u10 (Ne.symm f_q1_a) f_q2_q1 f_q3_q1 f_q4_q1 f_q5_q1 f_q6_q1 f_q7_q1 f_q8_q1 f_q9_q1) ?_
  refine v_aload_n X dX8_init_112 0 rfl ?_
  refine v_get X fX8_9 ((hU_n (Ne.symm f_q9_a)).trans ((hU_n (Ne.symm f_q8_a)).trans ((hU_n (Ne.symm f_q7_a)).trans ((hU_n (Ne.symm f_q6_a)).trans ((hU_n (Ne.symm f_q5_a)).trans ((hU_n (Ne.symm f_q4_a)).trans ((hU_n (Ne.symm f_q3_a)).trans ((hU_n (Ne.symm f_q2_a)).trans hU_s)))))))) rfl dX8_init_113 ?_
  refine v_bipush X dX8_init_116 (v := 8) (by decide) ?_
  refine v_iconst X dX8_init_118 (v := 1) (by decide) ?_
  refine v_iastK (h2 := (hU (hU (hU (hU (hU (hU (hU (hU (hU (hU h q1 (ai g 260 (upd (upd (upd (upd (upd (fun _ => 0) 10 15) 11 5) 12 3) 13 60) 8 1))) a (ob 8 [.ref q1, .ref q2, .ref q3, .int 0, .ref q4, .int 0, .int 0, .ref q5, .int 0, .int 0, .int 0, .int 0, .int 0, .int 0, .int 0, .ref q6, .ref q7, .ref q8, .ref q9])) q2 (ai g 260 (fun _ => 0))) q3 (ai g 260 (fun _ => 0))) q4 (ai g 7 (fun _ => 0))) q5 (ai g 100 (fun _ => 0))) q6 (ai g 4 (fun _ => 0))) q7 (ai g 4 (fun _ => 0))) q8 (al g 160 (fun _ => 0))) q9 (al g 40 (fun _ => 0)))) X 8 ((hU_n (Ne.symm f_q9_q1)).trans ((hU_n (Ne.symm f_q8_q1)).trans ((hU_n (Ne.symm f_q7_q1)).trans ((hU_n (Ne.symm f_q6_q1)).trans ((hU_n (Ne.symm f_q5_q1)).trans ((hU_n (Ne.symm f_q4_q1)).trans ((hU_n (Ne.symm f_q3_q1)).trans ((hU_n (Ne.symm f_q2_q1)).trans ((hU_n f_q1_a).trans hU_s))))))))) (rfl : (8 : Int32) = nI 8) (by decide) (by decide) dX8_init_119 (hU_u10 (Ne.symm f_q1_a) f_q2_q1 f_q3_q1 f_q4_q1 f_q5_q1 f_q6_q1 f_q7_q1 f_q8_q1 f_q9_q1) ?_
  exact v_vret X r dX8_init_120 (Nat.le_of_ble_eq_true rfl) (Nat.le_of_ble_eq_true rfl) ⟨rfl, fun i => ([q1, q2, q3, q4, q5, q6, q7, q8, q9] : List Nat).getD i 0, fun _ => 0, fun _ => 0, 0, 0, 0, 0, 0, 0, 0, 0, ((hU_n (Ne.symm f_q9_a)).trans ((hU_n (Ne.symm f_q8_a)).trans ((hU_n (Ne.symm f_q7_a)).trans ((hU_n (Ne.symm f_q6_a)).trans ((hU_n (Ne.symm f_q5_a)).trans ((hU_n (Ne.symm f_q4_a)).trans ((hU_n (Ne.symm f_q3_a)).trans ((hU_n (Ne.symm f_q2_a)).trans hU_s)))))))), ((hU_n (Ne.symm f_q9_q1)).trans ((hU_n (Ne.symm f_q8_q1)).trans ((hU_n (Ne.symm f_q7_q1)).trans ((hU_n (Ne.symm f_q6_q1)).trans ((hU_n (Ne.symm f_q5_q1)).trans ((hU_n (Ne.symm f_q4_q1)).trans ((hU_n (Ne.symm f_q3_q1)).trans ((hU_n (Ne.symm f_q2_q1)).trans ((hU_n f_q1_a).trans hU_s))))))))), ((hU_n (Ne.symm f_q9_q2)).trans ((hU_n (Ne.symm f_q8_q2)).trans ((hU_n (Ne.symm f_q7_q2)).trans ((hU_n (Ne.symm f_q6_q2)).trans ((hU_n (Ne.symm f_q5_q2)).trans ((hU_n (Ne.symm f_q4_q2)).trans ((hU_n (Ne.symm f_q3_q2)).trans hU_s))))))), ((hU_n (Ne.symm f_q9_q3)).trans ((hU_n (Ne.symm f_q8_q3)).trans ((hU_n (Ne.symm f_q7_q3)).trans ((hU_n (Ne.symm f_q6_q3)).trans ((hU_n (Ne.symm f_q5_q3)).trans ((hU_n (Ne.symm f_q4_q3)).trans hU_s)))))), ((hU_n (Ne.symm f_q9_q4)).trans ((hU_n (Ne.symm f_q8_q4)).trans ((hU_n (Ne.symm f_q7_q4)).trans ((hU_n (Ne.symm f_q6_q4)).trans ((hU_n (Ne.symm f_q5_q4)).trans hU_s))))), ((hU_n (Ne.symm f_q9_q5)).trans ((hU_n (Ne.symm f_q8_q5)).trans ((hU_n (Ne.symm f_q7_q5)).trans ((hU_n (Ne.symm f_q6_q5)).trans hU_s)))), ((hU_n (Ne.symm f_q9_q6)).trans ((hU_n (Ne.symm f_q8_q6)).trans ((hU_n (Ne.symm f_q7_q6)).trans hU_s))), ((hU_n (Ne.symm f_q9_q7)).trans ((hU_n (Ne.symm f_q8_q7)).trans hU_s)), ((hU_n (Ne.symm f_q9_q8)).trans hU_s), hU_s, (Ne.symm f_q2_q1), (Ne.symm f_q3_q1), (Ne.symm f_q3_q2), (Ne.symm f_q7_q6)⟩
