/-! ===== the class: a person changed, a rule added ===== -/
set_option maxHeartbeats 4000000 in
set_option maxRecDepth 100000 in
theorem ct_X1_change (ll : Launch) (g : GT) {h : Hp} {a k : Nat} {f : Nat → Int32} {x : Int32} (v : Int32) (ha : h a = some (ob 1 [.int (f 0), .int (f 1), .int (f 2), .int (f 3), .int (f 4), .int (f 5), .int (f 6)])) (hx : x = nI k) (hk : k = 1 ∨ k = 2 ∨ k = 3 ∨ k = 4 ∨ k = 6) : MF ll g yX1_change cX1_change 3 none (k2_rm 0 0) [.ref a, .int x, .int v] h none (hU h a (ob 1 [.int ((upd f k v) 0), .int ((upd f k v) 1), .int ((upd f k v) 2), .int ((upd f k v) 3), .int ((upd f k v) 4), .int ((upd f k v) 5), .int ((upd f k v) 6)])) := by
  refine mc_of (by decide) (Nat.le_of_ble_eq_true rfl) ?_
  intro K X r
  refine v_eqv (lv2 := [(0, .ref a), (1, .int x), (2, .int v)]) rfl ?_
  refine v_iload_n X dX1_change_0 1 rfl ?_
  by_cases c1_1 : x = 1
  · refine v_tabIn X dX1_change_1 (off := 39) (tgt := 40) 1 c1_1 (by decide) (by decide) (by decide) (by decide) ?_
    refine v_aload_n X dX1_change_40 0 rfl ?_
    refine v_iload_n X dX1_change_41 2 rfl ?_
    refine v_putE (h2 := (hU h a (ob 1 [.int (f 0), .int v, .int (f 2), .int (f 3), .int (f 4), .int (f 5), .int (f 6)]))) X fX1_15 tyX1_ok nmX1 rfl pd_I ha rfl rfl (ltb rfl) dX1_change_42 rfl ?_
    refine v_goto X dX1_change_45 (tgt := 80) (by decide) ?_
    exact v_vret X r dX1_change_80 (Nat.le_refl _) (Nat.le_refl _) ⟨rfl, (by rw [show k = 1 from nI_inj (by omega) (by decide) (hx.symm.trans c1_1)]; rfl)⟩
  by_cases c1_2 : x = 2
  · refine v_tabIn X dX1_change_1 (off := 47) (tgt := 48) 2 c1_2 (by decide) (by decide) (by decide) (by decide) ?_
    refine v_aload_n X dX1_change_48 0 rfl ?_
    refine v_iload_n X dX1_change_49 2 rfl ?_
    refine v_putE (h2 := (hU h a (ob 1 [.int (f 0), .int (f 1), .int v, .int (f 3), .int (f 4), .int (f 5), .int (f 6)]))) X fX1_18 tyX1_ok nmX1 rfl pd_I ha rfl rfl (ltb rfl) dX1_change_50 rfl ?_
    refine v_goto X dX1_change_53 (tgt := 80) (by decide) ?_
    exact v_vret X r dX1_change_80 (Nat.le_refl _) (Nat.le_refl _) ⟨rfl, (by rw [show k = 2 from nI_inj (by omega) (by decide) (hx.symm.trans c1_2)]; rfl)⟩
  by_cases c1_3 : x = 3
  · refine v_tabIn X dX1_change_1 (off := 55) (tgt := 56) 3 c1_3 (by decide) (by decide) (by decide) (by decide) ?_
    refine v_aload_n X dX1_change_56 0 rfl ?_
    refine v_iload_n X dX1_change_57 2 rfl ?_
    refine v_putE (h2 := (hU h a (ob 1 [.int (f 0), .int (f 1), .int (f 2), .int v, .int (f 4), .int (f 5), .int (f 6)]))) X fX1_21 tyX1_ok nmX1 rfl pd_I ha rfl rfl (ltb rfl) dX1_change_58 rfl ?_
    refine v_goto X dX1_change_61 (tgt := 80) (by decide) ?_
    exact v_vret X r dX1_change_80 (Nat.le_refl _) (Nat.le_refl _) ⟨rfl, (by rw [show k = 3 from nI_inj (by omega) (by decide) (hx.symm.trans c1_3)]; rfl)⟩
  by_cases c1_4 : x = 4
  · refine v_tabIn X dX1_change_1 (off := 63) (tgt := 64) 4 c1_4 (by decide) (by decide) (by decide) (by decide) ?_
    refine v_aload_n X dX1_change_64 0 rfl ?_
    refine v_iload_n X dX1_change_65 2 rfl ?_
    refine v_putE (h2 := (hU h a (ob 1 [.int (f 0), .int (f 1), .int (f 2), .int (f 3), .int v, .int (f 5), .int (f 6)]))) X fX1_24 tyX1_ok nmX1 rfl pd_I ha rfl rfl (ltb rfl) dX1_change_66 rfl ?_
    refine v_goto X dX1_change_69 (tgt := 80) (by decide) ?_
    exact v_vret X r dX1_change_80 (Nat.le_refl _) (Nat.le_refl _) ⟨rfl, (by rw [show k = 4 from nI_inj (by omega) (by decide) (hx.symm.trans c1_4)]; rfl)⟩
  by_cases c1_5 : x = 5
  · refine v_tabIn X dX1_change_1 (off := 79) (tgt := 80) 5 c1_5 (by decide) (by decide) (by decide) (by decide) ?_
    exact v_vret X r dX1_change_80 (Nat.le_refl _) (Nat.le_refl _) ⟨rfl, (by have : k = 5 := nI_inj (by omega) (by decide) (hx.symm.trans c1_5); omega)⟩
  by_cases c1_6 : x = 6
  · refine v_tabIn X dX1_change_1 (off := 71) (tgt := 72) 6 c1_6 (by decide) (by decide) (by decide) (by decide) ?_
    refine v_aload_n X dX1_change_72 0 rfl ?_
    refine v_iload_n X dX1_change_73 2 rfl ?_
    refine v_putE (h2 := (hU h a (ob 1 [.int (f 0), .int (f 1), .int (f 2), .int (f 3), .int (f 4), .int (f 5), .int v]))) X fX1_30 tyX1_ok nmX1 rfl pd_I ha rfl rfl (ltb rfl) dX1_change_74 rfl ?_
    refine v_goto X dX1_change_77 (tgt := 80) (by decide) ?_
    exact v_vret X r dX1_change_80 (Nat.le_refl _) (Nat.le_refl _) ⟨rfl, (by rw [show k = 6 from nI_inj (by omega) (by decide) (hx.symm.trans c1_6)]; rfl)⟩
  refine v_tabOut X dX1_change_1 (tgt := 80) (by have e1 := lv_neT (k := 1) (a := 1) c1_1 (by decide); have e2 := lv_neT (k := 2) (a := 2) c1_2 (by decide); have e3 := lv_neT (k := 3) (a := 3) c1_3 (by decide); have e4 := lv_neT (k := 4) (a := 4) c1_4 (by decide); have e5 := lv_neT (k := 5) (a := 5) c1_5 (by decide); have e6 := lv_neT (k := 6) (a := 6) c1_6 (by decide); omega) (by decide) ?_
  exact v_vret X r dX1_change_80 (Nat.le_refl _) (Nat.le_refl _) ⟨rfl, (hk.elim (fun z => absurd (hx.trans (congrArg nI z)) c1_1) (fun y => y.elim (fun z => absurd (hx.trans (congrArg nI z)) c1_2) (fun y => y.elim (fun z => absurd (hx.trans (congrArg nI z)) c1_3) (fun y => y.elim (fun z => absurd (hx.trans (congrArg nI z)) c1_4) (fun z => absurd (hx.trans (congrArg nI z)) c1_6)))))⟩
set_option maxHeartbeats 4000000 in
set_option maxRecDepth 100000 in
theorem ct_X5_addRule (ll : Launch) (g : GT) {h : Hp} {a c n1 n2 n3 n4 : Nat} {f1 f2 f3 f4 : Nat → Int32} (x1 x2 x3 x4 : Int32) (ha : h a = some (ob 5 [.int (nI c), .ref n1, .ref n2, .ref n3, .ref n4])) (h1 : h n1 = some (ai g 6 f1)) (h2 : h n2 = some (ai g 6 f2)) (h3 : h n3 = some (ai g 6 f3)) (h4 : h n4 = some (ai g 6 f4)) (hc : c < 6) (n12 : n1 ≠ n2) (n13 : n1 ≠ n3) (n14 : n1 ≠ n4) (n23 : n2 ≠ n3) (n24 : n2 ≠ n4) (n34 : n3 ≠ n4) : MF ll g yX5_addRule cX5_addRule 5 none (k2_rm 0 0) [.ref a, .int x1, .int x2, .int x3, .int x4] h none (hU (hU (hU (hU (hU h n1 (ai g 6 (upd f1 c x1))) n2 (ai g 6 (upd f2 c x2))) n3 (ai g 6 (upd f3 c x3))) n4 (ai g 6 (upd f4 c x4))) a (ob 5 [.int (nI (c + 1)), .ref n1, .ref n2, .ref n3, .ref n4])) := by
  have ne_1 : a ≠ n1 := hneb ha h1 rfl
  have ne_2 : a ≠ n2 := hneb ha h2 rfl
  have ne_3 : a ≠ n3 := hneb ha h3 rfl
  have ne_4 : a ≠ n4 := hneb ha h4 rfl
  refine mc_of (by decide) (Nat.le_of_ble_eq_true rfl) ?_
  intro K X r
  refine v_eqv (lv2 := [(0, .ref a), (1, .int x1), (2, .int x2), (3, .int x3), (4, .int x4)]) rfl ?_
  refine v_aload_n X dX5_addRule_0 0 rfl ?_
  refine v_get X fX5_9 ha rfl dX5_addRule_1 ?_
  refine v_bipush X dX5_addRule_4 (v := 6) (by decide) ?_
  refine v_icmp_ge X dX5_addRule_6 (tgt := 60) (by decide) (fun c1 => ?_) (fun c1 => ?_)
  · exact absurd (nI_lt hc (by decide)) (Int32.not_lt.mpr c1)
  · refine v_aload_n X dX5_addRule_9 0 rfl ?_
    refine v_get X fX5_15 ha rfl dX5_addRule_10 ?_
    refine v_aload_n X dX5_addRule_13 0 rfl ?_
    refine v_get X fX5_9 ha rfl dX5_addRule_14 ?_
    refine v_iload_n X dX5_addRule_17 1 rfl ?_
    refine v_iastK (h2 := (hU h n1 (ai g 6 (upd f1 c x1)))) X c h1 rfl hc (by decide) dX5_addRule_18 rfl ?_
    refine v_aload_n X dX5_addRule_19 0 rfl ?_
    refine v_get X fX5_19 ((hU_n ne_1).trans ha) rfl dX5_addRule_20 ?_
    refine v_aload_n X dX5_addRule_23 0 rfl ?_
    refine v_get X fX5_9 ((hU_n ne_1).trans ha) rfl dX5_addRule_24 ?_
    refine v_iload_n X dX5_addRule_27 2 rfl ?_
    refine v_iastK (h2 := (hU (hU h n1 (ai g 6 (upd f1 c x1))) n2 (ai g 6 (upd f2 c x2)))) X c ((hU_n (Ne.symm n12)).trans h2) rfl hc (by decide) dX5_addRule_28 rfl ?_
    refine v_aload_n X dX5_addRule_29 0 rfl ?_
    refine v_get X fX5_22 ((hU_n ne_2).trans ((hU_n ne_1).trans ha)) rfl dX5_addRule_30 ?_
    refine v_aload_n X dX5_addRule_33 0 rfl ?_
    refine v_get X fX5_9 ((hU_n ne_2).trans ((hU_n ne_1).trans ha)) rfl dX5_addRule_34 ?_
    refine v_iload_n X dX5_addRule_37 3 rfl ?_
    refine v_iastK (h2 := (hU (hU (hU h n1 (ai g 6 (upd f1 c x1))) n2 (ai g 6 (upd f2 c x2))) n3 (ai g 6 (upd f3 c x3)))) X c ((hU_n (Ne.symm n23)).trans ((hU_n (Ne.symm n13)).trans h3)) rfl hc (by decide) dX5_addRule_38 rfl ?_
    refine v_aload_n X dX5_addRule_39 0 rfl ?_
    refine v_get X fX5_25 ((hU_n ne_3).trans ((hU_n ne_2).trans ((hU_n ne_1).trans ha))) rfl dX5_addRule_40 ?_
    refine v_aload_n X dX5_addRule_43 0 rfl ?_
    refine v_get X fX5_9 ((hU_n ne_3).trans ((hU_n ne_2).trans ((hU_n ne_1).trans ha))) rfl dX5_addRule_44 ?_
    refine v_iload X dX5_addRule_47 4 rfl ?_
    refine v_iastK (h2 := (hU (hU (hU (hU h n1 (ai g 6 (upd f1 c x1))) n2 (ai g 6 (upd f2 c x2))) n3 (ai g 6 (upd f3 c x3))) n4 (ai g 6 (upd f4 c x4)))) X c ((hU_n (Ne.symm n34)).trans ((hU_n (Ne.symm n24)).trans ((hU_n (Ne.symm n14)).trans h4))) rfl hc (by decide) dX5_addRule_49 rfl ?_
    refine v_aload_n X dX5_addRule_50 0 rfl ?_
    refine v_dup X dX5_addRule_51 rfl ?_
    refine v_get X fX5_9 ((hU_n ne_4).trans ((hU_n ne_3).trans ((hU_n ne_2).trans ((hU_n ne_1).trans ha)))) rfl dX5_addRule_52 ?_
    refine v_iconst X dX5_addRule_55 (v := 1) (by decide) ?_
    refine v_iadd X dX5_addRule_56 ?_
    refine v_putE (h2 := (hU (hU (hU (hU (hU h n1 (ai g 6 (upd f1 c x1))) n2 (ai g 6 (upd f2 c x2))) n3 (ai g 6 (upd f3 c x3))) n4 (ai g 6 (upd f4 c x4))) a (ob 5 [.int ((nI c) + 1), .ref n1, .ref n2, .ref n3, .ref n4]))) X fX5_9 tyX5_ok nmX5 rfl pd_I ((hU_n ne_4).trans ((hU_n ne_3).trans ((hU_n ne_2).trans ((hU_n ne_1).trans ha)))) rfl rfl (ltb rfl) dX5_addRule_57 rfl ?_
    exact v_vret X r dX5_addRule_60 (Nat.le_refl _) (Nat.le_refl _) ⟨rfl, (by rw [nI_1])⟩
