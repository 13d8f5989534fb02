set_option maxHeartbeats 4000000 in
set_option maxRecDepth 100000 in
theorem ct_X4_nameHere (ll : Launch) (g : GT) {h : Hp} {a by_ n e : Nat} {f : Nat → Int32} {vl : Int32} (ha : h a = some (ob 4 [.ref by_, .int (nI n), .int (nI (lkJ f n e)), .int (nI (lkE f n e)), .int (tkC f n e), .int vl])) (hb : h by_ = some (ai g 100 f)) (hen : e ≤ n) (hn : n ≤ 100) : MF ll g yX4_nameHere cX4_nameHere 1 (some .int) (k2_rm 5 200) [.ref a] h (some (.int (nameAt f n e))) h := by
  refine mc_of (by decide) (Nat.le_of_ble_eq_true rfl) ?_
  intro K X r
  refine v_eqv (lv2 := [(0, .ref a)]) rfl ?_
  refine v_aload_n X dX4_nameHere_0 0 rfl ?_
  refine v_ldcT X (w := 0) (by decide) rfl dX4_nameHere_1 ?_
  refine v_cVi X [.ref (g.2.2 (10 + 0))] sX4_80 (ct_X4_isWord (b := g.2.2 (10 + 0)) (v := g.2.2 (30 + 0)) (w := 0) (e := e) ll g ha hb hen hn ⟨by decide, Or.inl ⟨rfl, rfl⟩⟩) ha rfl dX4_nameHere_3 rfl rfl ⟨rfl, rfl⟩ ⟨(Nat.le_of_ble_eq_true rfl), (Nat.le_of_ble_eq_true rfl)⟩ ⟨Nat.zero_le _, Nat.zero_le _⟩ (Nat.le_of_ble_eq_true rfl) ?_
  refine v_ifb_eq X dX4_nameHere_6 (tgt := 11) (by decide) (fun c1 => ?_) (fun c1 => ?_)
  · refine v_aload_n X dX4_nameHere_11 0 rfl ?_
    refine v_ldcT X (w := 1) (by decide) rfl dX4_nameHere_12 ?_
    refine v_cVi X [.ref (g.2.2 (10 + 1))] sX4_80 (ct_X4_isWord (b := g.2.2 (10 + 1)) (v := g.2.2 (30 + 1)) (w := 1) (e := e) ll g ha hb hen hn ⟨by decide, Or.inl ⟨rfl, rfl⟩⟩) ha rfl dX4_nameHere_14 rfl rfl ⟨rfl, rfl⟩ ⟨(Nat.le_of_ble_eq_true rfl), (Nat.le_of_ble_eq_true rfl)⟩ ⟨Nat.zero_le _, Nat.zero_le _⟩ (Nat.le_of_ble_eq_true rfl) ?_
    refine v_ifb_eq X dX4_nameHere_17 (tgt := 22) (by decide) (fun c2 => ?_) (fun c2 => ?_)
    · refine v_aload_n X dX4_nameHere_22 0 rfl ?_
      refine v_ldcT X (w := 2) (by decide) rfl dX4_nameHere_23 ?_
      refine v_cVi X [.ref (g.2.2 (10 + 2))] sX4_80 (ct_X4_isWord (b := g.2.2 (10 + 2)) (v := g.2.2 (30 + 2)) (w := 2) (e := e) ll g ha hb hen hn ⟨by decide, Or.inl ⟨rfl, rfl⟩⟩) ha rfl dX4_nameHere_25 rfl rfl ⟨rfl, rfl⟩ ⟨(Nat.le_of_ble_eq_true rfl), (Nat.le_of_ble_eq_true rfl)⟩ ⟨Nat.zero_le _, Nat.zero_le _⟩ (Nat.le_of_ble_eq_true rfl) ?_
      refine v_ifb_eq X dX4_nameHere_28 (tgt := 33) (by decide) (fun c3 => ?_) (fun c3 => ?_)
      · refine v_aload_n X dX4_nameHere_33 0 rfl ?_
        refine v_ldcT X (w := 3) (by decide) rfl dX4_nameHere_34 ?_
        refine v_cVi X [.ref (g.2.2 (10 + 3))] sX4_80 (ct_X4_isWord (b := g.2.2 (10 + 3)) (v := g.2.2 (30 + 3)) (w := 3) (e := e) ll g ha hb hen hn ⟨by decide, Or.inl ⟨rfl, rfl⟩⟩) ha rfl dX4_nameHere_36 rfl rfl ⟨rfl, rfl⟩ ⟨(Nat.le_of_ble_eq_true rfl), (Nat.le_of_ble_eq_true rfl)⟩ ⟨Nat.zero_le _, Nat.zero_le _⟩ (Nat.le_of_ble_eq_true rfl) ?_
        refine v_ifb_eq X dX4_nameHere_39 (tgt := 44) (by decide) (fun c4 => ?_) (fun c4 => ?_)
        · refine v_aload_n X dX4_nameHere_44 0 rfl ?_
          refine v_ldcT X (w := 4) (by decide) rfl dX4_nameHere_45 ?_
          refine v_cVi X [.ref (g.2.2 (10 + 4))] sX4_80 (ct_X4_isWord (b := g.2.2 (10 + 4)) (v := g.2.2 (30 + 4)) (w := 4) (e := e) ll g ha hb hen hn ⟨by decide, Or.inl ⟨rfl, rfl⟩⟩) ha rfl dX4_nameHere_47 rfl rfl ⟨rfl, rfl⟩ ⟨(Nat.le_of_ble_eq_true rfl), (Nat.le_of_ble_eq_true rfl)⟩ ⟨Nat.zero_le _, Nat.zero_le _⟩ (Nat.le_of_ble_eq_true rfl) ?_
          refine v_ifb_eq X dX4_nameHere_50 (tgt := 57) (by decide) (fun c5 => ?_) (fun c5 => ?_)
          · refine v_iconst X dX4_nameHere_57 (v := (-1)) (by decide) ?_
            exact v_iret X r dX4_nameHere_58 (Nat.le_refl _) (Nat.le_refl _) ⟨ri (by unfold nameAt; rw [if_neg c1, if_neg c2, if_neg c3, if_neg c4, if_neg c5]), rfl⟩
          · refine v_iconst X dX4_nameHere_53 (v := 4) (by decide) ?_
            refine v_goto X dX4_nameHere_54 (tgt := 58) (by decide) ?_
            exact v_iret X r dX4_nameHere_58 (Nat.le_refl _) (Nat.le_refl _) ⟨ri (by unfold nameAt; rw [if_neg c1, if_neg c2, if_neg c3, if_neg c4, if_pos c5]), rfl⟩
        · refine v_iconst X dX4_nameHere_42 (v := 3) (by decide) ?_
          exact v_iret X r dX4_nameHere_43 (Nat.le_refl _) (Nat.le_refl _) ⟨ri (by unfold nameAt; rw [if_neg c1, if_neg c2, if_neg c3, if_pos c4]), rfl⟩
      · refine v_iconst X dX4_nameHere_31 (v := 2) (by decide) ?_
        exact v_iret X r dX4_nameHere_32 (Nat.le_refl _) (Nat.le_refl _) ⟨ri (by unfold nameAt; rw [if_neg c1, if_neg c2, if_pos c3]), rfl⟩
    · refine v_iconst X dX4_nameHere_20 (v := 1) (by decide) ?_
      exact v_iret X r dX4_nameHere_21 (Nat.le_refl _) (Nat.le_refl _) ⟨ri (by unfold nameAt; rw [if_neg c1, if_pos c2]), rfl⟩
  · refine v_iconst X dX4_nameHere_9 (v := 0) (by decide) ?_
    exact v_iret X r dX4_nameHere_10 (Nat.le_refl _) (Nat.le_refl _) ⟨ri (by unfold nameAt; rw [if_pos c1]), rfl⟩
set_option maxHeartbeats 4000000 in
set_option maxRecDepth 100000 in
theorem ct_X4_deedHere (ll : Launch) (g : GT) {h : Hp} {a by_ n e : Nat} {f : Nat → Int32} {vl : Int32} (ha : h a = some (ob 4 [.ref by_, .int (nI n), .int (nI (lkJ f n e)), .int (nI (lkE f n e)), .int (tkC f n e), .int vl])) (hb : h by_ = some (ai g 100 f)) (hen : e ≤ n) (hn : n ≤ 100) : MF ll g yX4_deedHere cX4_deedHere 1 (some .int) (k2_rm 5 200) [.ref a] h (some (.int (deedAt f n e))) h := by
  refine mc_of (by decide) (Nat.le_of_ble_eq_true rfl) ?_
  intro K X r
  refine v_eqv (lv2 := [(0, .ref a)]) rfl ?_
  refine v_aload_n X dX4_deedHere_0 0 rfl ?_
  refine v_ldcT X (w := 5) (by decide) rfl dX4_deedHere_1 ?_
  refine v_cVi X [.ref (g.2.2 (10 + 5))] sX4_80 (ct_X4_isWord (b := g.2.2 (10 + 5)) (v := g.2.2 (30 + 5)) (w := 5) (e := e) ll g ha hb hen hn ⟨by decide, Or.inl ⟨rfl, rfl⟩⟩) ha rfl dX4_deedHere_3 rfl rfl ⟨rfl, rfl⟩ ⟨(Nat.le_of_ble_eq_true rfl), (Nat.le_of_ble_eq_true rfl)⟩ ⟨Nat.zero_le _, Nat.zero_le _⟩ (Nat.le_of_ble_eq_true rfl) ?_
  refine v_ifb_eq X dX4_deedHere_6 (tgt := 11) (by decide) (fun c1 => ?_) (fun c1 => ?_)
  · refine v_aload_n X dX4_deedHere_11 0 rfl ?_
    refine v_ldcT X (w := 6) (by decide) rfl dX4_deedHere_12 ?_
    refine v_cVi X [.ref (g.2.2 (10 + 6))] sX4_80 (ct_X4_isWord (b := g.2.2 (10 + 6)) (v := g.2.2 (30 + 6)) (w := 6) (e := e) ll g ha hb hen hn ⟨by decide, Or.inl ⟨rfl, rfl⟩⟩) ha rfl dX4_deedHere_14 rfl rfl ⟨rfl, rfl⟩ ⟨(Nat.le_of_ble_eq_true rfl), (Nat.le_of_ble_eq_true rfl)⟩ ⟨Nat.zero_le _, Nat.zero_le _⟩ (Nat.le_of_ble_eq_true rfl) ?_
    refine v_ifb_eq X dX4_deedHere_17 (tgt := 22) (by decide) (fun c2 => ?_) (fun c2 => ?_)
    · refine v_aload_n X dX4_deedHere_22 0 rfl ?_
      refine v_ldcT X (w := 7) (by decide) rfl dX4_deedHere_23 ?_
      refine v_cVi X [.ref (g.2.2 (10 + 7))] sX4_80 (ct_X4_isWord (b := g.2.2 (10 + 7)) (v := g.2.2 (30 + 7)) (w := 7) (e := e) ll g ha hb hen hn ⟨by decide, Or.inl ⟨rfl, rfl⟩⟩) ha rfl dX4_deedHere_25 rfl rfl ⟨rfl, rfl⟩ ⟨(Nat.le_of_ble_eq_true rfl), (Nat.le_of_ble_eq_true rfl)⟩ ⟨Nat.zero_le _, Nat.zero_le _⟩ (Nat.le_of_ble_eq_true rfl) ?_
      refine v_ifb_eq X dX4_deedHere_28 (tgt := 33) (by decide) (fun c3 => ?_) (fun c3 => ?_)
      · refine v_aload_n X dX4_deedHere_33 0 rfl ?_
        refine v_ldcT X (w := 8) (by decide) rfl dX4_deedHere_34 ?_
        refine v_cVi X [.ref (g.2.2 (10 + 8))] sX4_80 (ct_X4_isWord (b := g.2.2 (10 + 8)) (v := g.2.2 (30 + 8)) (w := 8) (e := e) ll g ha hb hen hn ⟨by decide, Or.inl ⟨rfl, rfl⟩⟩) ha rfl dX4_deedHere_36 rfl rfl ⟨rfl, rfl⟩ ⟨(Nat.le_of_ble_eq_true rfl), (Nat.le_of_ble_eq_true rfl)⟩ ⟨Nat.zero_le _, Nat.zero_le _⟩ (Nat.le_of_ble_eq_true rfl) ?_
        refine v_ifb_eq X dX4_deedHere_39 (tgt := 44) (by decide) (fun c4 => ?_) (fun c4 => ?_)
        · refine v_aload_n X dX4_deedHere_44 0 rfl ?_
          refine v_ldcT X (w := 9) (by decide) rfl dX4_deedHere_45 ?_
          refine v_cVi X [.ref (g.2.2 (10 + 9))] sX4_80 (ct_X4_isWord (b := g.2.2 (10 + 9)) (v := g.2.2 (30 + 9)) (w := 9) (e := e) ll g ha hb hen hn ⟨by decide, Or.inl ⟨rfl, rfl⟩⟩) ha rfl dX4_deedHere_47 rfl rfl ⟨rfl, rfl⟩ ⟨(Nat.le_of_ble_eq_true rfl), (Nat.le_of_ble_eq_true rfl)⟩ ⟨Nat.zero_le _, Nat.zero_le _⟩ (Nat.le_of_ble_eq_true rfl) ?_
          refine v_ifb_eq X dX4_deedHere_50 (tgt := 57) (by decide) (fun c5 => ?_) (fun c5 => ?_)
          · refine v_iconst X dX4_deedHere_57 (v := (-1)) (by decide) ?_
            exact v_iret X r dX4_deedHere_58 (Nat.le_refl _) (Nat.le_refl _) ⟨ri (by unfold deedAt; rw [if_neg c1, if_neg c2, if_neg c3, if_neg c4, if_neg c5]), rfl⟩
          · refine v_iconst X dX4_deedHere_53 (v := 4) (by decide) ?_
            refine v_goto X dX4_deedHere_54 (tgt := 58) (by decide) ?_
            exact v_iret X r dX4_deedHere_58 (Nat.le_refl _) (Nat.le_refl _) ⟨ri (by unfold deedAt; rw [if_neg c1, if_neg c2, if_neg c3, if_neg c4, if_pos c5]), rfl⟩
        · refine v_iconst X dX4_deedHere_42 (v := 3) (by decide) ?_
          exact v_iret X r dX4_deedHere_43 (Nat.le_refl _) (Nat.le_refl _) ⟨ri (by unfold deedAt; rw [if_neg c1, if_neg c2, if_neg c3, if_pos c4]), rfl⟩
      · refine v_iconst X dX4_deedHere_31 (v := 2) (by decide) ?_
        exact v_iret X r dX4_deedHere_32 (Nat.le_refl _) (Nat.le_refl _) ⟨ri (by unfold deedAt; rw [if_neg c1, if_neg c2, if_pos c3]), rfl⟩
    · refine v_iconst X dX4_deedHere_20 (v := 1) (by decide) ?_
      exact v_iret X r dX4_deedHere_21 (Nat.le_refl _) (Nat.le_refl _) ⟨ri (by unfold deedAt; rw [if_neg c1, if_pos c2]), rfl⟩
  · refine v_iconst X dX4_deedHere_9 (v := 0) (by decide) ?_
    exact v_iret X r dX4_deedHere_10 (Nat.le_refl _) (Nat.le_refl _) ⟨ri (by unfold deedAt; rw [if_pos c1]), rfl⟩
