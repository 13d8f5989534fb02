/-! ===== the class: its first calls ===== -/
set_option maxHeartbeats 4000000 in
set_option maxRecDepth 100000 in
theorem ct_X7_isUnder0 (ll : Launch) (g : GT) {h : Hp} (b : Int32)  : MF ll g yX7_isUnder cX7_isUnder 4 (some .boolean) (k2_rm 2 50) [.int 0, .int b] h (some (.int (bI (isOfP 0 b)))) h := by
  refine mc_of (by decide) (Nat.le_of_ble_eq_true rfl) ?_
  intro K X r
  refine v_eqv (lv2 := [(0, .int 0), (1, .int b)]) rfl ?_
  refine v_iload_n X dX7_isUnder_0 0 rfl ?_
  refine v_istore_n (lv1 := [(2, .int 0), (0, .int 0), (1, .int b)]) X dX7_isUnder_1 (by decide) rfl ?_
  refine v_iconst X dX7_isUnder_2 (v := 0) (by decide) ?_
  refine v_istore_n (lv1 := [(3, .int 0), (2, .int 0), (0, .int 0), (1, .int b)]) X dX7_isUnder_3 (by decide) rfl ?_
  refine v_iload_n X dX7_isUnder_4 0 rfl ?_
  refine v_iconst X dX7_isUnder_5 (v := 5) (by decide) ?_
  refine v_icmp_gt X dX7_isUnder_6 (tgt := 35) (by decide) (fun c => absurd c (by decide)) (fun _ => ?_)
  refine v_iload_n X dX7_isUnder_9 1 rfl ?_
  refine v_cSi X [.int 0] sX7_64 (ct_X7_isKind ll g 0) dX7_isUnder_10 rfl rfl ⟨rfl, rfl⟩ ⟨(Nat.le_of_ble_eq_true rfl), (Nat.le_of_ble_eq_true rfl)⟩ ⟨Nat.zero_le _, Nat.zero_le _⟩ (Nat.le_of_ble_eq_true rfl) ?_
  refine v_eqi (y := 1) (bI_t (by decide)) ?_
  refine v_if_eq X dX7_isUnder_13 (tgt := 35) (by decide) (fun c => absurd c (by decide)) (fun _ => ?_)
  refine v_iload_n X dX7_isUnder_16 1 rfl ?_
  refine v_iload_n X dX7_isUnder_17 3 rfl ?_
  refine v_icmp_ne X dX7_isUnder_18 (tgt := 23) (by decide) (fun c3 => ?_) (fun c3 => ?_)
  · refine v_gs1 X gX7_301 dX7_isUnder_23 ?_
    refine v_iload_n X dX7_isUnder_26 1 rfl ?_
    refine v_ta1 X 0 rfl (by decide) dX7_isUnder_27 ?_
    refine v_eqi (y := (-1)) rfl ?_
    refine v_istore_n (lv1 := [(2, .int (-1)), (3, .int 0), (0, .int 0), (1, .int b)]) X dX7_isUnder_28 (by decide) rfl ?_
    refine v_iinc (v := 1) (lv1 := [(3, .int 1), (2, .int (-1)), (0, .int 0), (1, .int b)]) X dX7_isUnder_29 1 rfl (by decide) (by decide) rfl ?_
    refine v_goto X dX7_isUnder_32 (tgt := 4) (by decide) ?_
    refine v_iload_n X dX7_isUnder_4 0 rfl ?_
    refine v_iconst X dX7_isUnder_5 (v := 5) (by decide) ?_
    refine v_icmp_gt X dX7_isUnder_6 (tgt := 35) (by decide) (fun c => absurd c (by decide)) (fun _ => ?_)
    refine v_iload_n X dX7_isUnder_9 1 rfl ?_
    refine v_cSi X [.int (-1)] sX7_64 (ct_X7_isKind ll g (-1)) dX7_isUnder_10 rfl rfl ⟨rfl, rfl⟩ ⟨(Nat.le_of_ble_eq_true rfl), (Nat.le_of_ble_eq_true rfl)⟩ ⟨Nat.zero_le _, Nat.zero_le _⟩ (Nat.le_of_ble_eq_true rfl) ?_
    refine v_eqi (y := 0) (bI_f (by decide)) ?_
    refine v_if_eq X dX7_isUnder_13 (tgt := 35) (by decide) (fun _ => ?_) (fun c => absurd c (by decide))
    refine v_iconst X dX7_isUnder_35 (v := 0) (by decide) ?_
    exact v_zret X r dX7_isUnder_36 rfl (Nat.le_refl _) (Nat.le_refl _) ⟨ri (bI_f (fun z => by rcases z with z | z | ⟨z, y⟩ | ⟨z, y⟩ <;> first | exact c3 z.symm | exact absurd y (by decide))).symm, rfl⟩
  · refine v_iconst X dX7_isUnder_21 (v := 1) (by decide) ?_
    exact v_zret X r dX7_isUnder_22 rfl (Nat.le_refl _) (Nat.le_refl _) ⟨ri (bI_t (by rw [← c3]; decide)).symm, rfl⟩
set_option maxHeartbeats 4000000 in
set_option maxRecDepth 100000 in
theorem ct_X7_isUnder1 (ll : Launch) (g : GT) {h : Hp} (b : Int32)  : MF ll g yX7_isUnder cX7_isUnder 4 (some .boolean) (k2_rm 2 50) [.int 1, .int b] h (some (.int (bI (isOfP 1 b)))) h := by
  refine mc_of (by decide) (Nat.le_of_ble_eq_true rfl) ?_
  intro K X r
  refine v_eqv (lv2 := [(0, .int 1), (1, .int b)]) rfl ?_
  refine v_iload_n X dX7_isUnder_0 0 rfl ?_
  refine v_istore_n (lv1 := [(2, .int 1), (0, .int 1), (1, .int b)]) X dX7_isUnder_1 (by decide) rfl ?_
  refine v_iconst X dX7_isUnder_2 (v := 0) (by decide) ?_
  refine v_istore_n (lv1 := [(3, .int 0), (2, .int 1), (0, .int 1), (1, .int b)]) X dX7_isUnder_3 (by decide) rfl ?_
  refine v_iload_n X dX7_isUnder_4 0 rfl ?_
  refine v_iconst X dX7_isUnder_5 (v := 5) (by decide) ?_
  refine v_icmp_gt X dX7_isUnder_6 (tgt := 35) (by decide) (fun c => absurd c (by decide)) (fun _ => ?_)
  refine v_iload_n X dX7_isUnder_9 1 rfl ?_
  refine v_cSi X [.int 1] sX7_64 (ct_X7_isKind ll g 1) dX7_isUnder_10 rfl rfl ⟨rfl, rfl⟩ ⟨(Nat.le_of_ble_eq_true rfl), (Nat.le_of_ble_eq_true rfl)⟩ ⟨Nat.zero_le _, Nat.zero_le _⟩ (Nat.le_of_ble_eq_true rfl) ?_
  refine v_eqi (y := 1) (bI_t (by decide)) ?_
  refine v_if_eq X dX7_isUnder_13 (tgt := 35) (by decide) (fun c => absurd c (by decide)) (fun _ => ?_)
  refine v_iload_n X dX7_isUnder_16 1 rfl ?_
  refine v_iload_n X dX7_isUnder_17 3 rfl ?_
  refine v_icmp_ne X dX7_isUnder_18 (tgt := 23) (by decide) (fun c3 => ?_) (fun c3 => ?_)
  · refine v_gs1 X gX7_301 dX7_isUnder_23 ?_
    refine v_iload_n X dX7_isUnder_26 1 rfl ?_
    refine v_ta1 X 1 rfl (by decide) dX7_isUnder_27 ?_
    refine v_eqi (y := 0) rfl ?_
    refine v_istore_n (lv1 := [(2, .int 0), (3, .int 0), (0, .int 1), (1, .int b)]) X dX7_isUnder_28 (by decide) rfl ?_
    refine v_iinc (v := 1) (lv1 := [(3, .int 1), (2, .int 0), (0, .int 1), (1, .int b)]) X dX7_isUnder_29 1 rfl (by decide) (by decide) rfl ?_
    refine v_goto X dX7_isUnder_32 (tgt := 4) (by decide) ?_
    refine v_iload_n X dX7_isUnder_4 0 rfl ?_
    refine v_iconst X dX7_isUnder_5 (v := 5) (by decide) ?_
    refine v_icmp_gt X dX7_isUnder_6 (tgt := 35) (by decide) (fun c => absurd c (by decide)) (fun _ => ?_)
    refine v_iload_n X dX7_isUnder_9 1 rfl ?_
    refine v_cSi X [.int 0] sX7_64 (ct_X7_isKind ll g 0) dX7_isUnder_10 rfl rfl ⟨rfl, rfl⟩ ⟨(Nat.le_of_ble_eq_true rfl), (Nat.le_of_ble_eq_true rfl)⟩ ⟨Nat.zero_le _, Nat.zero_le _⟩ (Nat.le_of_ble_eq_true rfl) ?_
    refine v_eqi (y := 1) (bI_t (by decide)) ?_
    refine v_if_eq X dX7_isUnder_13 (tgt := 35) (by decide) (fun c => absurd c (by decide)) (fun _ => ?_)
    refine v_iload_n X dX7_isUnder_16 1 rfl ?_
    refine v_iload_n X dX7_isUnder_17 3 rfl ?_
    refine v_icmp_ne X dX7_isUnder_18 (tgt := 23) (by decide) (fun c6 => ?_) (fun c6 => ?_)
    · refine v_gs1 X gX7_301 dX7_isUnder_23 ?_
      refine v_iload_n X dX7_isUnder_26 1 rfl ?_
      refine v_ta1 X 0 rfl (by decide) dX7_isUnder_27 ?_
      refine v_eqi (y := (-1)) rfl ?_
      refine v_istore_n (lv1 := [(2, .int (-1)), (3, .int 1), (0, .int 1), (1, .int b)]) X dX7_isUnder_28 (by decide) rfl ?_
      refine v_iinc (v := 2) (lv1 := [(3, .int 2), (2, .int (-1)), (0, .int 1), (1, .int b)]) X dX7_isUnder_29 1 rfl (by decide) (by decide) rfl ?_
      refine v_goto X dX7_isUnder_32 (tgt := 4) (by decide) ?_
      refine v_iload_n X dX7_isUnder_4 0 rfl ?_
      refine v_iconst X dX7_isUnder_5 (v := 5) (by decide) ?_
      refine v_icmp_gt X dX7_isUnder_6 (tgt := 35) (by decide) (fun c => absurd c (by decide)) (fun _ => ?_)
      refine v_iload_n X dX7_isUnder_9 1 rfl ?_
      refine v_cSi X [.int (-1)] sX7_64 (ct_X7_isKind ll g (-1)) dX7_isUnder_10 rfl rfl ⟨rfl, rfl⟩ ⟨(Nat.le_of_ble_eq_true rfl), (Nat.le_of_ble_eq_true rfl)⟩ ⟨Nat.zero_le _, Nat.zero_le _⟩ (Nat.le_of_ble_eq_true rfl) ?_
      refine v_eqi (y := 0) (bI_f (by decide)) ?_
      refine v_if_eq X dX7_isUnder_13 (tgt := 35) (by decide) (fun _ => ?_) (fun c => absurd c (by decide))
      refine v_iconst X dX7_isUnder_35 (v := 0) (by decide) ?_
      exact v_zret X r dX7_isUnder_36 rfl (Nat.le_refl _) (Nat.le_refl _) ⟨ri (bI_f (fun z => by rcases z with z | z | ⟨z, y⟩ | ⟨z, y⟩ <;> first | exact c3 z.symm | exact c6 z.symm | exact absurd y (by decide))).symm, rfl⟩
    · refine v_iconst X dX7_isUnder_21 (v := 1) (by decide) ?_
      exact v_zret X r dX7_isUnder_22 rfl (Nat.le_refl _) (Nat.le_refl _) ⟨ri (bI_t (by rw [← c6]; decide)).symm, rfl⟩
  · refine v_iconst X dX7_isUnder_21 (v := 1) (by decide) ?_
    exact v_zret X r dX7_isUnder_22 rfl (Nat.le_refl _) (Nat.le_refl _) ⟨ri (bI_t (by rw [← c3]; decide)).symm, rfl⟩
set_option maxHeartbeats 4000000 in
set_option maxRecDepth 100000 in
theorem ct_X7_isUnder2 (ll : Launch) (g : GT) {h : Hp} (b : Int32)  : MF ll g yX7_isUnder cX7_isUnder 4 (some .boolean) (k2_rm 2 50) [.int 2, .int b] h (some (.int (bI (isOfP 2 b)))) h := by
  refine mc_of (by decide) (Nat.le_of_ble_eq_true rfl) ?_
  intro K X r
  refine v_eqv (lv2 := [(0, .int 2), (1, .int b)]) rfl ?_
  refine v_iload_n X dX7_isUnder_0 0 rfl ?_
  refine v_istore_n (lv1 := [(2, .int 2), (0, .int 2), (1, .int b)]) X dX7_isUnder_1 (by decide) rfl ?_
  refine v_iconst X dX7_isUnder_2 (v := 0) (by decide) ?_
  refine v_istore_n (lv1 := [(3, .int 0), (2, .int 2), (0, .int 2), (1, .int b)]) X dX7_isUnder_3 (by decide) rfl ?_
  refine v_iload_n X dX7_isUnder_4 0 rfl ?_
  refine v_iconst X dX7_isUnder_5 (v := 5) (by decide) ?_
  refine v_icmp_gt X dX7_isUnder_6 (tgt := 35) (by decide) (fun c => absurd c (by decide)) (fun _ => ?_)
  refine v_iload_n X dX7_isUnder_9 1 rfl ?_
  refine v_cSi X [.int 2] sX7_64 (ct_X7_isKind ll g 2) dX7_isUnder_10 rfl rfl ⟨rfl, rfl⟩ ⟨(Nat.le_of_ble_eq_true rfl), (Nat.le_of_ble_eq_true rfl)⟩ ⟨Nat.zero_le _, Nat.zero_le _⟩ (Nat.le_of_ble_eq_true rfl) ?_
  refine v_eqi (y := 1) (bI_t (by decide)) ?_
  refine v_if_eq X dX7_isUnder_13 (tgt := 35) (by decide) (fun c => absurd c (by decide)) (fun _ => ?_)
  refine v_iload_n X dX7_isUnder_16 1 rfl ?_
  refine v_iload_n X dX7_isUnder_17 3 rfl ?_
  refine v_icmp_ne X dX7_isUnder_18 (tgt := 23) (by decide) (fun c3 => ?_) (fun c3 => ?_)
  · refine v_gs1 X gX7_301 dX7_isUnder_23 ?_
    refine v_iload_n X dX7_isUnder_26 1 rfl ?_
    refine v_ta1 X 2 rfl (by decide) dX7_isUnder_27 ?_
    refine v_eqi (y := 0) rfl ?_
    refine v_istore_n (lv1 := [(2, .int 0), (3, .int 0), (0, .int 2), (1, .int b)]) X dX7_isUnder_28 (by decide) rfl ?_
    refine v_iinc (v := 1) (lv1 := [(3, .int 1), (2, .int 0), (0, .int 2), (1, .int b)]) X dX7_isUnder_29 1 rfl (by decide) (by decide) rfl ?_
    refine v_goto X dX7_isUnder_32 (tgt := 4) (by decide) ?_
    refine v_iload_n X dX7_isUnder_4 0 rfl ?_
    refine v_iconst X dX7_isUnder_5 (v := 5) (by decide) ?_
    refine v_icmp_gt X dX7_isUnder_6 (tgt := 35) (by decide) (fun c => absurd c (by decide)) (fun _ => ?_)
    refine v_iload_n X dX7_isUnder_9 1 rfl ?_
    refine v_cSi X [.int 0] sX7_64 (ct_X7_isKind ll g 0) dX7_isUnder_10 rfl rfl ⟨rfl, rfl⟩ ⟨(Nat.le_of_ble_eq_true rfl), (Nat.le_of_ble_eq_true rfl)⟩ ⟨Nat.zero_le _, Nat.zero_le _⟩ (Nat.le_of_ble_eq_true rfl) ?_
    refine v_eqi (y := 1) (bI_t (by decide)) ?_
    refine v_if_eq X dX7_isUnder_13 (tgt := 35) (by decide) (fun c => absurd c (by decide)) (fun _ => ?_)
    refine v_iload_n X dX7_isUnder_16 1 rfl ?_
    refine v_iload_n X dX7_isUnder_17 3 rfl ?_
    refine v_icmp_ne X dX7_isUnder_18 (tgt := 23) (by decide) (fun c6 => ?_) (fun c6 => ?_)
    · refine v_gs1 X gX7_301 dX7_isUnder_23 ?_
      refine v_iload_n X dX7_isUnder_26 1 rfl ?_
      refine v_ta1 X 0 rfl (by decide) dX7_isUnder_27 ?_
      refine v_eqi (y := (-1)) rfl ?_
      refine v_istore_n (lv1 := [(2, .int (-1)), (3, .int 1), (0, .int 2), (1, .int b)]) X dX7_isUnder_28 (by decide) rfl ?_
      refine v_iinc (v := 2) (lv1 := [(3, .int 2), (2, .int (-1)), (0, .int 2), (1, .int b)]) X dX7_isUnder_29 1 rfl (by decide) (by decide) rfl ?_
      refine v_goto X dX7_isUnder_32 (tgt := 4) (by decide) ?_
      refine v_iload_n X dX7_isUnder_4 0 rfl ?_
      refine v_iconst X dX7_isUnder_5 (v := 5) (by decide) ?_
      refine v_icmp_gt X dX7_isUnder_6 (tgt := 35) (by decide) (fun c => absurd c (by decide)) (fun _ => ?_)
      refine v_iload_n X dX7_isUnder_9 1 rfl ?_
      refine v_cSi X [.int (-1)] sX7_64 (ct_X7_isKind ll g (-1)) dX7_isUnder_10 rfl rfl ⟨rfl, rfl⟩ ⟨(Nat.le_of_ble_eq_true rfl), (Nat.le_of_ble_eq_true rfl)⟩ ⟨Nat.zero_le _, Nat.zero_le _⟩ (Nat.le_of_ble_eq_true rfl) ?_
      refine v_eqi (y := 0) (bI_f (by decide)) ?_
      refine v_if_eq X dX7_isUnder_13 (tgt := 35) (by decide) (fun _ => ?_) (fun c => absurd c (by decide))
      refine v_iconst X dX7_isUnder_35 (v := 0) (by decide) ?_
      exact v_zret X r dX7_isUnder_36 rfl (Nat.le_refl _) (Nat.le_refl _) ⟨ri (bI_f (fun z => by rcases z with z | z | ⟨z, y⟩ | ⟨z, y⟩ <;> first | exact c3 z.symm | exact c6 z.symm | exact absurd y (by decide))).symm, rfl⟩
    · refine v_iconst X dX7_isUnder_21 (v := 1) (by decide) ?_
      exact v_zret X r dX7_isUnder_22 rfl (Nat.le_refl _) (Nat.le_refl _) ⟨ri (bI_t (by rw [← c6]; decide)).symm, rfl⟩
  · refine v_iconst X dX7_isUnder_21 (v := 1) (by decide) ?_
    exact v_zret X r dX7_isUnder_22 rfl (Nat.le_refl _) (Nat.le_refl _) ⟨ri (bI_t (by rw [← c3]; decide)).symm, rfl⟩
set_option maxHeartbeats 4000000 in
set_option maxRecDepth 100000 in
theorem ct_X7_isUnder3 (ll : Launch) (g : GT) {h : Hp} (b : Int32)  : MF ll g yX7_isUnder cX7_isUnder 4 (some .boolean) (k2_rm 2 50) [.int 3, .int b] h (some (.int (bI (isOfP 3 b)))) h := by
  refine mc_of (by decide) (Nat.le_of_ble_eq_true rfl) ?_
  intro K X r
  refine v_eqv (lv2 := [(0, .int 3), (1, .int b)]) rfl ?_
  refine v_iload_n X dX7_isUnder_0 0 rfl ?_
  refine v_istore_n (lv1 := [(2, .int 3), (0, .int 3), (1, .int b)]) X dX7_isUnder_1 (by decide) rfl ?_
  refine v_iconst X dX7_isUnder_2 (v := 0) (by decide) ?_
  refine v_istore_n (lv1 := [(3, .int 0), (2, .int 3), (0, .int 3), (1, .int b)]) X dX7_isUnder_3 (by decide) rfl ?_
  refine v_iload_n X dX7_isUnder_4 0 rfl ?_
  refine v_iconst X dX7_isUnder_5 (v := 5) (by decide) ?_
  refine v_icmp_gt X dX7_isUnder_6 (tgt := 35) (by decide) (fun c => absurd c (by decide)) (fun _ => ?_)
  refine v_iload_n X dX7_isUnder_9 1 rfl ?_
  refine v_cSi X [.int 3] sX7_64 (ct_X7_isKind ll g 3) dX7_isUnder_10 rfl rfl ⟨rfl, rfl⟩ ⟨(Nat.le_of_ble_eq_true rfl), (Nat.le_of_ble_eq_true rfl)⟩ ⟨Nat.zero_le _, Nat.zero_le _⟩ (Nat.le_of_ble_eq_true rfl) ?_
  refine v_eqi (y := 1) (bI_t (by decide)) ?_
  refine v_if_eq X dX7_isUnder_13 (tgt := 35) (by decide) (fun c => absurd c (by decide)) (fun _ => ?_)
  refine v_iload_n X dX7_isUnder_16 1 rfl ?_
  refine v_iload_n X dX7_isUnder_17 3 rfl ?_
  refine v_icmp_ne X dX7_isUnder_18 (tgt := 23) (by decide) (fun c3 => ?_) (fun c3 => ?_)
  · refine v_gs1 X gX7_301 dX7_isUnder_23 ?_
    refine v_iload_n X dX7_isUnder_26 1 rfl ?_
    refine v_ta1 X 3 rfl (by decide) dX7_isUnder_27 ?_
    refine v_eqi (y := 2) rfl ?_
    refine v_istore_n (lv1 := [(2, .int 2), (3, .int 0), (0, .int 3), (1, .int b)]) X dX7_isUnder_28 (by decide) rfl ?_
    refine v_iinc (v := 1) (lv1 := [(3, .int 1), (2, .int 2), (0, .int 3), (1, .int b)]) X dX7_isUnder_29 1 rfl (by decide) (by decide) rfl ?_
    refine v_goto X dX7_isUnder_32 (tgt := 4) (by decide) ?_
    refine v_iload_n X dX7_isUnder_4 0 rfl ?_
    refine v_iconst X dX7_isUnder_5 (v := 5) (by decide) ?_
    refine v_icmp_gt X dX7_isUnder_6 (tgt := 35) (by decide) (fun c => absurd c (by decide)) (fun _ => ?_)
    refine v_iload_n X dX7_isUnder_9 1 rfl ?_
    refine v_cSi X [.int 2] sX7_64 (ct_X7_isKind ll g 2) dX7_isUnder_10 rfl rfl ⟨rfl, rfl⟩ ⟨(Nat.le_of_ble_eq_true rfl), (Nat.le_of_ble_eq_true rfl)⟩ ⟨Nat.zero_le _, Nat.zero_le _⟩ (Nat.le_of_ble_eq_true rfl) ?_
    refine v_eqi (y := 1) (bI_t (by decide)) ?_
    refine v_if_eq X dX7_isUnder_13 (tgt := 35) (by decide) (fun c => absurd c (by decide)) (fun _ => ?_)
    refine v_iload_n X dX7_isUnder_16 1 rfl ?_
    refine v_iload_n X dX7_isUnder_17 3 rfl ?_
    refine v_icmp_ne X dX7_isUnder_18 (tgt := 23) (by decide) (fun c6 => ?_) (fun c6 => ?_)
    · refine v_gs1 X gX7_301 dX7_isUnder_23 ?_
      refine v_iload_n X dX7_isUnder_26 1 rfl ?_
      refine v_ta1 X 2 rfl (by decide) dX7_isUnder_27 ?_
      refine v_eqi (y := 0) rfl ?_
      refine v_istore_n (lv1 := [(2, .int 0), (3, .int 1), (0, .int 3), (1, .int b)]) X dX7_isUnder_28 (by decide) rfl ?_
      refine v_iinc (v := 2) (lv1 := [(3, .int 2), (2, .int 0), (0, .int 3), (1, .int b)]) X dX7_isUnder_29 1 rfl (by decide) (by decide) rfl ?_
      refine v_goto X dX7_isUnder_32 (tgt := 4) (by decide) ?_
      refine v_iload_n X dX7_isUnder_4 0 rfl ?_
      refine v_iconst X dX7_isUnder_5 (v := 5) (by decide) ?_
      refine v_icmp_gt X dX7_isUnder_6 (tgt := 35) (by decide) (fun c => absurd c (by decide)) (fun _ => ?_)
      refine v_iload_n X dX7_isUnder_9 1 rfl ?_
      refine v_cSi X [.int 0] sX7_64 (ct_X7_isKind ll g 0) dX7_isUnder_10 rfl rfl ⟨rfl, rfl⟩ ⟨(Nat.le_of_ble_eq_true rfl), (Nat.le_of_ble_eq_true rfl)⟩ ⟨Nat.zero_le _, Nat.zero_le _⟩ (Nat.le_of_ble_eq_true rfl) ?_
      refine v_eqi (y := 1) (bI_t (by decide)) ?_
      refine v_if_eq X dX7_isUnder_13 (tgt := 35) (by decide) (fun c => absurd c (by decide)) (fun _ => ?_)
      refine v_iload_n X dX7_isUnder_16 1 rfl ?_
      refine v_iload_n X dX7_isUnder_17 3 rfl ?_
      refine v_icmp_ne X dX7_isUnder_18 (tgt := 23) (by decide) (fun c9 => ?_) (fun c9 => ?_)
      · refine v_gs1 X gX7_301 dX7_isUnder_23 ?_
        refine v_iload_n X dX7_isUnder_26 1 rfl ?_
        refine v_ta1 X 0 rfl (by decide) dX7_isUnder_27 ?_
        refine v_eqi (y := (-1)) rfl ?_
        refine v_istore_n (lv1 := [(2, .int (-1)), (3, .int 2), (0, .int 3), (1, .int b)]) X dX7_isUnder_28 (by decide) rfl ?_
        refine v_iinc (v := 3) (lv1 := [(3, .int 3), (2, .int (-1)), (0, .int 3), (1, .int b)]) X dX7_isUnder_29 1 rfl (by decide) (by decide) rfl ?_
        refine v_goto X dX7_isUnder_32 (tgt := 4) (by decide) ?_
        refine v_iload_n X dX7_isUnder_4 0 rfl ?_
        refine v_iconst X dX7_isUnder_5 (v := 5) (by decide) ?_
        refine v_icmp_gt X dX7_isUnder_6 (tgt := 35) (by decide) (fun c => absurd c (by decide)) (fun _ => ?_)
        refine v_iload_n X dX7_isUnder_9 1 rfl ?_
        refine v_cSi X [.int (-1)] sX7_64 (ct_X7_isKind ll g (-1)) dX7_isUnder_10 rfl rfl ⟨rfl, rfl⟩ ⟨(Nat.le_of_ble_eq_true rfl), (Nat.le_of_ble_eq_true rfl)⟩ ⟨Nat.zero_le _, Nat.zero_le _⟩ (Nat.le_of_ble_eq_true rfl) ?_
        refine v_eqi (y := 0) (bI_f (by decide)) ?_
        refine v_if_eq X dX7_isUnder_13 (tgt := 35) (by decide) (fun _ => ?_) (fun c => absurd c (by decide))
        refine v_iconst X dX7_isUnder_35 (v := 0) (by decide) ?_
        exact v_zret X r dX7_isUnder_36 rfl (Nat.le_refl _) (Nat.le_refl _) ⟨ri (bI_f (fun z => by rcases z with z | z | ⟨z, y⟩ | ⟨z, y⟩ <;> first | exact c3 z.symm | exact c6 z.symm | exact c9 z.symm | exact absurd y (by decide))).symm, rfl⟩
      · refine v_iconst X dX7_isUnder_21 (v := 1) (by decide) ?_
        exact v_zret X r dX7_isUnder_22 rfl (Nat.le_refl _) (Nat.le_refl _) ⟨ri (bI_t (by rw [← c9]; decide)).symm, rfl⟩
    · refine v_iconst X dX7_isUnder_21 (v := 1) (by decide) ?_
      exact v_zret X r dX7_isUnder_22 rfl (Nat.le_refl _) (Nat.le_refl _) ⟨ri (bI_t (by rw [← c6]; decide)).symm, rfl⟩
  · refine v_iconst X dX7_isUnder_21 (v := 1) (by decide) ?_
    exact v_zret X r dX7_isUnder_22 rfl (Nat.le_refl _) (Nat.le_refl _) ⟨ri (bI_t (by rw [← c3]; decide)).symm, rfl⟩
set_option maxHeartbeats 4000000 in
set_option maxRecDepth 100000 in
theorem ct_X7_isUnder4 (ll : Launch) (g : GT) {h : Hp} (b : Int32)  : MF ll g yX7_isUnder cX7_isUnder 4 (some .boolean) (k2_rm 2 50) [.int 4, .int b] h (some (.int (bI (isOfP 4 b)))) h := by
  refine mc_of (by decide) (Nat.le_of_ble_eq_true rfl) ?_
  intro K X r
  refine v_eqv (lv2 := [(0, .int 4), (1, .int b)]) rfl ?_
  refine v_iload_n X dX7_isUnder_0 0 rfl ?_
  refine v_istore_n (lv1 := [(2, .int 4), (0, .int 4), (1, .int b)]) X dX7_isUnder_1 (by decide) rfl ?_
  refine v_iconst X dX7_isUnder_2 (v := 0) (by decide) ?_
  refine v_istore_n (lv1 := [(3, .int 0), (2, .int 4), (0, .int 4), (1, .int b)]) X dX7_isUnder_3 (by decide) rfl ?_
  refine v_iload_n X dX7_isUnder_4 0 rfl ?_
  refine v_iconst X dX7_isUnder_5 (v := 5) (by decide) ?_
  refine v_icmp_gt X dX7_isUnder_6 (tgt := 35) (by decide) (fun c => absurd c (by decide)) (fun _ => ?_)
  refine v_iload_n X dX7_isUnder_9 1 rfl ?_
  refine v_cSi X [.int 4] sX7_64 (ct_X7_isKind ll g 4) dX7_isUnder_10 rfl rfl ⟨rfl, rfl⟩ ⟨(Nat.le_of_ble_eq_true rfl), (Nat.le_of_ble_eq_true rfl)⟩ ⟨Nat.zero_le _, Nat.zero_le _⟩ (Nat.le_of_ble_eq_true rfl) ?_
  refine v_eqi (y := 1) (bI_t (by decide)) ?_
  refine v_if_eq X dX7_isUnder_13 (tgt := 35) (by decide) (fun c => absurd c (by decide)) (fun _ => ?_)
  refine v_iload_n X dX7_isUnder_16 1 rfl ?_
  refine v_iload_n X dX7_isUnder_17 3 rfl ?_
  refine v_icmp_ne X dX7_isUnder_18 (tgt := 23) (by decide) (fun c3 => ?_) (fun c3 => ?_)
  · refine v_gs1 X gX7_301 dX7_isUnder_23 ?_
    refine v_iload_n X dX7_isUnder_26 1 rfl ?_
    refine v_ta1 X 4 rfl (by decide) dX7_isUnder_27 ?_
    refine v_eqi (y := 0) rfl ?_
    refine v_istore_n (lv1 := [(2, .int 0), (3, .int 0), (0, .int 4), (1, .int b)]) X dX7_isUnder_28 (by decide) rfl ?_
    refine v_iinc (v := 1) (lv1 := [(3, .int 1), (2, .int 0), (0, .int 4), (1, .int b)]) X dX7_isUnder_29 1 rfl (by decide) (by decide) rfl ?_
    refine v_goto X dX7_isUnder_32 (tgt := 4) (by decide) ?_
    refine v_iload_n X dX7_isUnder_4 0 rfl ?_
    refine v_iconst X dX7_isUnder_5 (v := 5) (by decide) ?_
    refine v_icmp_gt X dX7_isUnder_6 (tgt := 35) (by decide) (fun c => absurd c (by decide)) (fun _ => ?_)
    refine v_iload_n X dX7_isUnder_9 1 rfl ?_
    refine v_cSi X [.int 0] sX7_64 (ct_X7_isKind ll g 0) dX7_isUnder_10 rfl rfl ⟨rfl, rfl⟩ ⟨(Nat.le_of_ble_eq_true rfl), (Nat.le_of_ble_eq_true rfl)⟩ ⟨Nat.zero_le _, Nat.zero_le _⟩ (Nat.le_of_ble_eq_true rfl) ?_
    refine v_eqi (y := 1) (bI_t (by decide)) ?_
    refine v_if_eq X dX7_isUnder_13 (tgt := 35) (by decide) (fun c => absurd c (by decide)) (fun _ => ?_)
    refine v_iload_n X dX7_isUnder_16 1 rfl ?_
    refine v_iload_n X dX7_isUnder_17 3 rfl ?_
    refine v_icmp_ne X dX7_isUnder_18 (tgt := 23) (by decide) (fun c6 => ?_) (fun c6 => ?_)
    · refine v_gs1 X gX7_301 dX7_isUnder_23 ?_
      refine v_iload_n X dX7_isUnder_26 1 rfl ?_
      refine v_ta1 X 0 rfl (by decide) dX7_isUnder_27 ?_
      refine v_eqi (y := (-1)) rfl ?_
      refine v_istore_n (lv1 := [(2, .int (-1)), (3, .int 1), (0, .int 4), (1, .int b)]) X dX7_isUnder_28 (by decide) rfl ?_
      refine v_iinc (v := 2) (lv1 := [(3, .int 2), (2, .int (-1)), (0, .int 4), (1, .int b)]) X dX7_isUnder_29 1 rfl (by decide) (by decide) rfl ?_
      refine v_goto X dX7_isUnder_32 (tgt := 4) (by decide) ?_
      refine v_iload_n X dX7_isUnder_4 0 rfl ?_
      refine v_iconst X dX7_isUnder_5 (v := 5) (by decide) ?_
      refine v_icmp_gt X dX7_isUnder_6 (tgt := 35) (by decide) (fun c => absurd c (by decide)) (fun _ => ?_)
      refine v_iload_n X dX7_isUnder_9 1 rfl ?_
      refine v_cSi X [.int (-1)] sX7_64 (ct_X7_isKind ll g (-1)) dX7_isUnder_10 rfl rfl ⟨rfl, rfl⟩ ⟨(Nat.le_of_ble_eq_true rfl), (Nat.le_of_ble_eq_true rfl)⟩ ⟨Nat.zero_le _, Nat.zero_le _⟩ (Nat.le_of_ble_eq_true rfl) ?_
      refine v_eqi (y := 0) (bI_f (by decide)) ?_
      refine v_if_eq X dX7_isUnder_13 (tgt := 35) (by decide) (fun _ => ?_) (fun c => absurd c (by decide))
      refine v_iconst X dX7_isUnder_35 (v := 0) (by decide) ?_
      exact v_zret X r dX7_isUnder_36 rfl (Nat.le_refl _) (Nat.le_refl _) ⟨ri (bI_f (fun z => by rcases z with z | z | ⟨z, y⟩ | ⟨z, y⟩ <;> first | exact c3 z.symm | exact c6 z.symm | exact absurd y (by decide))).symm, rfl⟩
    · refine v_iconst X dX7_isUnder_21 (v := 1) (by decide) ?_
      exact v_zret X r dX7_isUnder_22 rfl (Nat.le_refl _) (Nat.le_refl _) ⟨ri (bI_t (by rw [← c6]; decide)).symm, rfl⟩
  · refine v_iconst X dX7_isUnder_21 (v := 1) (by decide) ?_
    exact v_zret X r dX7_isUnder_22 rfl (Nat.le_refl _) (Nat.le_refl _) ⟨ri (bI_t (by rw [← c3]; decide)).symm, rfl⟩
set_option maxHeartbeats 4000000 in
set_option maxRecDepth 100000 in
theorem ct_X7_isUnder5 (ll : Launch) (g : GT) {h : Hp} (b : Int32)  : MF ll g yX7_isUnder cX7_isUnder 4 (some .boolean) (k2_rm 2 50) [.int 5, .int b] h (some (.int (bI (isOfP 5 b)))) h := by
  refine mc_of (by decide) (Nat.le_of_ble_eq_true rfl) ?_
  intro K X r
  refine v_eqv (lv2 := [(0, .int 5), (1, .int b)]) rfl ?_
  refine v_iload_n X dX7_isUnder_0 0 rfl ?_
  refine v_istore_n (lv1 := [(2, .int 5), (0, .int 5), (1, .int b)]) X dX7_isUnder_1 (by decide) rfl ?_
  refine v_iconst X dX7_isUnder_2 (v := 0) (by decide) ?_
  refine v_istore_n (lv1 := [(3, .int 0), (2, .int 5), (0, .int 5), (1, .int b)]) X dX7_isUnder_3 (by decide) rfl ?_
  refine v_iload_n X dX7_isUnder_4 0 rfl ?_
  refine v_iconst X dX7_isUnder_5 (v := 5) (by decide) ?_
  refine v_icmp_gt X dX7_isUnder_6 (tgt := 35) (by decide) (fun c => absurd c (by decide)) (fun _ => ?_)
  refine v_iload_n X dX7_isUnder_9 1 rfl ?_
  refine v_cSi X [.int 5] sX7_64 (ct_X7_isKind ll g 5) dX7_isUnder_10 rfl rfl ⟨rfl, rfl⟩ ⟨(Nat.le_of_ble_eq_true rfl), (Nat.le_of_ble_eq_true rfl)⟩ ⟨Nat.zero_le _, Nat.zero_le _⟩ (Nat.le_of_ble_eq_true rfl) ?_
  refine v_eqi (y := 1) (bI_t (by decide)) ?_
  refine v_if_eq X dX7_isUnder_13 (tgt := 35) (by decide) (fun c => absurd c (by decide)) (fun _ => ?_)
  refine v_iload_n X dX7_isUnder_16 1 rfl ?_
  refine v_iload_n X dX7_isUnder_17 3 rfl ?_
  refine v_icmp_ne X dX7_isUnder_18 (tgt := 23) (by decide) (fun c3 => ?_) (fun c3 => ?_)
  · refine v_gs1 X gX7_301 dX7_isUnder_23 ?_
    refine v_iload_n X dX7_isUnder_26 1 rfl ?_
    refine v_ta1 X 5 rfl (by decide) dX7_isUnder_27 ?_
    refine v_eqi (y := 4) rfl ?_
    refine v_istore_n (lv1 := [(2, .int 4), (3, .int 0), (0, .int 5), (1, .int b)]) X dX7_isUnder_28 (by decide) rfl ?_
    refine v_iinc (v := 1) (lv1 := [(3, .int 1), (2, .int 4), (0, .int 5), (1, .int b)]) X dX7_isUnder_29 1 rfl (by decide) (by decide) rfl ?_
    refine v_goto X dX7_isUnder_32 (tgt := 4) (by decide) ?_
    refine v_iload_n X dX7_isUnder_4 0 rfl ?_
    refine v_iconst X dX7_isUnder_5 (v := 5) (by decide) ?_
    refine v_icmp_gt X dX7_isUnder_6 (tgt := 35) (by decide) (fun c => absurd c (by decide)) (fun _ => ?_)
    refine v_iload_n X dX7_isUnder_9 1 rfl ?_
    refine v_cSi X [.int 4] sX7_64 (ct_X7_isKind ll g 4) dX7_isUnder_10 rfl rfl ⟨rfl, rfl⟩ ⟨(Nat.le_of_ble_eq_true rfl), (Nat.le_of_ble_eq_true rfl)⟩ ⟨Nat.zero_le _, Nat.zero_le _⟩ (Nat.le_of_ble_eq_true rfl) ?_
    refine v_eqi (y := 1) (bI_t (by decide)) ?_
    refine v_if_eq X dX7_isUnder_13 (tgt := 35) (by decide) (fun c => absurd c (by decide)) (fun _ => ?_)
    refine v_iload_n X dX7_isUnder_16 1 rfl ?_
    refine v_iload_n X dX7_isUnder_17 3 rfl ?_
    refine v_icmp_ne X dX7_isUnder_18 (tgt := 23) (by decide) (fun c6 => ?_) (fun c6 => ?_)
    · refine v_gs1 X gX7_301 dX7_isUnder_23 ?_
      refine v_iload_n X dX7_isUnder_26 1 rfl ?_
      refine v_ta1 X 4 rfl (by decide) dX7_isUnder_27 ?_
      refine v_eqi (y := 0) rfl ?_
      refine v_istore_n (lv1 := [(2, .int 0), (3, .int 1), (0, .int 5), (1, .int b)]) X dX7_isUnder_28 (by decide) rfl ?_
      refine v_iinc (v := 2) (lv1 := [(3, .int 2), (2, .int 0), (0, .int 5), (1, .int b)]) X dX7_isUnder_29 1 rfl (by decide) (by decide) rfl ?_
      refine v_goto X dX7_isUnder_32 (tgt := 4) (by decide) ?_
      refine v_iload_n X dX7_isUnder_4 0 rfl ?_
      refine v_iconst X dX7_isUnder_5 (v := 5) (by decide) ?_
      refine v_icmp_gt X dX7_isUnder_6 (tgt := 35) (by decide) (fun c => absurd c (by decide)) (fun _ => ?_)
      refine v_iload_n X dX7_isUnder_9 1 rfl ?_
      refine v_cSi X [.int 0] sX7_64 (ct_X7_isKind ll g 0) dX7_isUnder_10 rfl rfl ⟨rfl, rfl⟩ ⟨(Nat.le_of_ble_eq_true rfl), (Nat.le_of_ble_eq_true rfl)⟩ ⟨Nat.zero_le _, Nat.zero_le _⟩ (Nat.le_of_ble_eq_true rfl) ?_
      refine v_eqi (y := 1) (bI_t (by decide)) ?_
      refine v_if_eq X dX7_isUnder_13 (tgt := 35) (by decide) (fun c => absurd c (by decide)) (fun _ => ?_)
      refine v_iload_n X dX7_isUnder_16 1 rfl ?_
      refine v_iload_n X dX7_isUnder_17 3 rfl ?_
      refine v_icmp_ne X dX7_isUnder_18 (tgt := 23) (by decide) (fun c9 => ?_) (fun c9 => ?_)
      · refine v_gs1 X gX7_301 dX7_isUnder_23 ?_
        refine v_iload_n X dX7_isUnder_26 1 rfl ?_
        refine v_ta1 X 0 rfl (by decide) dX7_isUnder_27 ?_
        refine v_eqi (y := (-1)) rfl ?_
        refine v_istore_n (lv1 := [(2, .int (-1)), (3, .int 2), (0, .int 5), (1, .int b)]) X dX7_isUnder_28 (by decide) rfl ?_
        refine v_iinc (v := 3) (lv1 := [(3, .int 3), (2, .int (-1)), (0, .int 5), (1, .int b)]) X dX7_isUnder_29 1 rfl (by decide) (by decide) rfl ?_
        refine v_goto X dX7_isUnder_32 (tgt := 4) (by decide) ?_
        refine v_iload_n X dX7_isUnder_4 0 rfl ?_
        refine v_iconst X dX7_isUnder_5 (v := 5) (by decide) ?_
        refine v_icmp_gt X dX7_isUnder_6 (tgt := 35) (by decide) (fun c => absurd c (by decide)) (fun _ => ?_)
        refine v_iload_n X dX7_isUnder_9 1 rfl ?_
        refine v_cSi X [.int (-1)] sX7_64 (ct_X7_isKind ll g (-1)) dX7_isUnder_10 rfl rfl ⟨rfl, rfl⟩ ⟨(Nat.le_of_ble_eq_true rfl), (Nat.le_of_ble_eq_true rfl)⟩ ⟨Nat.zero_le _, Nat.zero_le _⟩ (Nat.le_of_ble_eq_true rfl) ?_
        refine v_eqi (y := 0) (bI_f (by decide)) ?_
        refine v_if_eq X dX7_isUnder_13 (tgt := 35) (by decide) (fun _ => ?_) (fun c => absurd c (by decide))
        refine v_iconst X dX7_isUnder_35 (v := 0) (by decide) ?_
        exact v_zret X r dX7_isUnder_36 rfl (Nat.le_refl _) (Nat.le_refl _) ⟨ri (bI_f (fun z => by rcases z with z | z | ⟨z, y⟩ | ⟨z, y⟩ <;> first | exact c3 z.symm | exact c6 z.symm | exact c9 z.symm | exact absurd y (by decide))).symm, rfl⟩
      · refine v_iconst X dX7_isUnder_21 (v := 1) (by decide) ?_
        exact v_zret X r dX7_isUnder_22 rfl (Nat.le_refl _) (Nat.le_refl _) ⟨ri (bI_t (by rw [← c9]; decide)).symm, rfl⟩
    · refine v_iconst X dX7_isUnder_21 (v := 1) (by decide) ?_
      exact v_zret X r dX7_isUnder_22 rfl (Nat.le_refl _) (Nat.le_refl _) ⟨ri (bI_t (by rw [← c6]; decide)).symm, rfl⟩
  · refine v_iconst X dX7_isUnder_21 (v := 1) (by decide) ?_
    exact v_zret X r dX7_isUnder_22 rfl (Nat.le_refl _) (Nat.le_refl _) ⟨ri (bI_t (by rw [← c3]; decide)).symm, rfl⟩
theorem ct_X7_isUnder (ll : Launch) (g : GT) {h : Hp} {a : Int32} (b : Int32) (ha : wi a 0 5) : MF ll g yX7_isUnder cX7_isUnder 4 (some .boolean) (k2_rm 2 50) [.int a, .int b] h (some (.int (bI (isOfP a b)))) h := by
  obtain ⟨j, hj, e⟩ := wi_c 5 rfl (by decide) ha
  have hc : j = 0 ∨ j = 1 ∨ j = 2 ∨ j = 3 ∨ j = 4 ∨ j = 5 := by omega
  subst e
  rcases hc with rfl | rfl | rfl | rfl | rfl | rfl
  · exact ct_X7_isUnder0 ll g b
  · exact ct_X7_isUnder1 ll g b
  · exact ct_X7_isUnder2 ll g b
  · exact ct_X7_isUnder3 ll g b
  · exact ct_X7_isUnder4 ll g b
  · exact ct_X7_isUnder5 ll g b
set_option maxHeartbeats 4000000 in
set_option maxRecDepth 100000 in
theorem ct_X7_of (ll : Launch) (g : GT) {h : Hp} {B : Nat → Nat} {d k fo tape bits sz : Nat → Int32} {num : Nat → Int64} {hk tp : Int32} {N : Nat}  (p : Int32) (what : Int32) (hC : CR g h B (d, k, hk, fo, tape, tp, bits, sz, num)) (hI : SOk (d, k, hk, fo, tape, tp, bits, sz, num) N) (hN : N + 400 ≤ 204800) : MC ll g yX7_of cX7_of 3 (some .int) { frames := 10, cells := 0, slots := 0, locals := 380 } [.ref (B 0), .int p, .int what] h (fun r h2 => r = some (.int (op_of (d, k, hk, fo, tape, tp, bits, sz, num) p what).1) ∧ CR g h2 B (op_of (d, k, hk, fo, tape, tp, bits, sz, num) p what).2) 0 0 := by
  have hC0 := hC
  have hI0 := hI
  obtain ⟨hB, cX, ⟨cW, cP, cY, cT, cM⟩, ⟨k2, cK, hk2⟩, cO, cR, cA, cS, cF⟩ := hC
  obtain ⟨⟨np, nw, T, p0, p1, e0, hnp, e1, hnw, e6, hT, hon, e3, hp0, e4, hp1, honp, hper, h10, h11, h12, hwc⟩, hkd, hkb, ⟨tn, htn, etp⟩, hsz⟩ := hI
  have x0 : h (B 0) = some (ob 7 [.ref (B 1), .ref (B 17), .int hk, .ref (B 33), .ref (B 37), .ref (B 38), .ref (B 40), .ref (B 41)]) := cX
  have x1 : h (B 1) = some (ob 6 [.ref (B 2), .int (d 0), .ref (B 3), .int (d 1), .ref (B 4), .ref (B 5), .int (bI (d 2 = 1)), .int (d 3), .int (d 4), .int (d 7)]) := cW
  have cP0 := cP
  obtain ⟨pf, F, x2, hpf, hF, hFd⟩ := cP0
  have cY0 := cY
  obtain ⟨wf, x3, hwo, hwy⟩ := cY0
  have x4 : h (B 4) = some (ai g 5 (ptF d)) := cT
  have cM0 := cM
  obtain ⟨tr, T9, s0, v0, s1, v1, x5, x6, x7, x8, e69, hT30, hR, hRB⟩ := cM0
  have eT9 : T9 = T := nI_inj (by omega) (by omega) (e69.symm.trans e6)
  subst eT9
  have cO0 := cO
  obtain ⟨otr, u5, u6, u8, a0, a1, a2, a3, a4, b0, b1, b2, b3, b4, x33, x34, x35, x36⟩ := cO0
  have cR0 := cR
  obtain ⟨rf, x37⟩ := cR0
  have cA0 := cA
  obtain ⟨ts, te, tt, tv, x38, x39⟩ := cA0
  have cS0 := cS
  obtain ⟨sf, nf, x40, hsf, hsh, hnm, hnv⟩ := cS0
  have x41 : h (B 41) = some (ai g 7 fo) := cF
  have qn : (d 0).toNatClampNeg = np := ix_cl e0 (by omega)
  have qw : (d 1).toNatClampNeg = nw := ix_cl e1 (by omega)
  have pC : ∀ p, p < np → h (B (9 + p)) = some (ob 1 [.int ((told d p) 0), .int ((told d p) 1), .int ((told d p) 2), .int ((told d p) 3), .int ((told d p) 4), .int ((told d p) 5), .int ((told d p) 6)]) := fun p hp => gP_at (by omega) (by rw [qn]; exact hp) cP
  refine mc_of (by decide) (Nat.le_of_ble_eq_true rfl) ?_
  intro K X r
  refine v_eqv (lv2 := [(0, .ref (B 0)), (1, .int p), (2, .int what)]) rfl ?_
  refine v_aload_n X dX7_of_0 0 rfl ?_
  refine v_iload_n X dX7_of_1 1 rfl ?_
  refine v_cVi X [.int p] sX7_90 (ct_X7_isPerson ll g p x0 x1) x0 rfl dX7_of_2 rfl rfl ⟨rfl, rfl⟩ ⟨(Nat.le_of_ble_eq_true rfl), (Nat.le_of_ble_eq_true rfl)⟩ ⟨Nat.zero_le _, Nat.zero_le _⟩ (Nat.le_of_ble_eq_true rfl) ?_
  refine v_ifb_eq X dX7_of_5 (tgt := 18) (by decide) (fun c1 => ?_) (fun c1 => ?_)
  · refine v_aload_n X dX7_of_18 0 rfl ?_
    refine v_ldc X dX7_of_19 kX7_72 ?_
    refine v_cVi X [.int (-1000000001)] sX7_73 (ct_X7_finding (pe := 0) (wy := 0) (pt := 0) (mt := 0) (np := 0) (nw := 0) (oc := 0) (fi := 0) (se := 0) (lo := 0) (q := 0) (v := (-1000000001)) ll g x0 x41 (by decide) (by decide)) x0 rfl dX7_of_21 rfl rfl ⟨rfl, rfl⟩ ⟨(Nat.le_of_ble_eq_true rfl), (Nat.le_of_ble_eq_true rfl)⟩ ⟨Nat.zero_le _, Nat.zero_le _⟩ (Nat.le_of_ble_eq_true rfl) ?_
    have eqr : op_of (d, k, hk, fo, tape, tp, bits, sz, num) p what = ((-1000000001), (d, k, hk, fnd fo 0, tape, tp, bits, sz, num)) := by unfold op_of; dsimp only; rw [if_neg (fun q : _ ∧ _ => c1 (And.left q))]
    have hCR : CR g (hU h (B 41) (ai g 7 (fnd fo 0))) B (d, k, hk, fnd fo 0, tape, tp, bits, sz, num) := ⟨hB, gX_e (hU_n (hB 0 41 (by omega) (by omega) (by omega))) cX, ⟨gW_e (hU_n (hB 1 41 (by omega) (by omega) (by omega))) ⟨rfl, rfl, rfl, rfl, rfl, rfl⟩ cW, gP_e (fun j hj => (hU_n (hB j 41 (by omega) (by omega) (by omega)))) rfl (fun _ _ _ => rfl) cP, gY_e (hU_n (hB 3 41 (by omega) (by omega) (by omega))) (fun x c hx hk => (hU_n (kd_ne hx x41 hk rfl))) rfl (fun _ _ _ => rfl) cY, gT_e (hU_n (hB 4 41 (by omega) (by omega) (by omega))) (fun _ _ _ => rfl) cT, gM_e (fun j h1 h2 => (hU_n (hB j 41 (by omega) (by omega) (by omega)))) (fun _ _ _ => rfl) cM⟩, ⟨k2, gWd_e (fun j h1 h2 => (hU_n (hB (j + 16) 41 (by omega) (by omega) (by omega)))) (fun x c hx hk => (hU_n (kd_ne hx x41 hk rfl))) cK, hk2⟩, gO_e (fun j h1 h2 => (hU_n (hB j 41 (by omega) (by omega) (by omega)))) cO, gR_e (hU_n (hB 37 41 (by omega) (by omega) (by omega))) cR, gA_e (fun j h1 h2 => (hU_n (hB j 41 (by omega) (by omega) (by omega)))) cA, gS_e (fun j h1 h2 => (hU_n (hB j 41 (by omega) (by omega) (by omega)))) cS, (hU_s : _)⟩
    exact v_iret X r dX7_of_24 (Nat.le_refl _) (Nat.le_refl _) ⟨by rw [eqr], by rw [eqr]; exact hCR⟩
  · refine v_iload_n X dX7_of_8 2 rfl ?_
    refine v_iconst X dX7_of_9 (v := 0) (by decide) ?_
    refine v_bipush X dX7_of_10 (v := 6) (by decide) ?_
    refine v_cSi X [.int what, .int 0, .int 6] sX7_68 (ct_X7_within ll g what 0 6) dX7_of_12 rfl rfl ⟨rfl, rfl⟩ ⟨(Nat.le_of_ble_eq_true rfl), (Nat.le_of_ble_eq_true rfl)⟩ ⟨Nat.zero_le _, Nat.zero_le _⟩ (Nat.le_of_ble_eq_true rfl) ?_
    refine v_ifb_ne X dX7_of_15 (tgt := 25) (by decide) (fun c2 => ?_) (fun c2 => ?_)
    · obtain ⟨jw, hjw, ejw⟩ := wi_c 6 rfl (by decide) c2
      have qjw : pr what = jw := ix_cl ejw (by omega)
      obtain ⟨jp, hjp, ejp⟩ := wi_n e0 (by omega) c1
      have qjp : pr p = jp := ix_cl ejp (by omega)
      refine v_aload_n X dX7_of_25 0 rfl ?_
      refine v_get X fX7_10 x0 rfl dX7_of_26 ?_
      refine v_get X fX7_82 x1 rfl dX7_of_29 ?_
      refine v_iload_n X dX7_of_32 1 rfl ?_
      refine v_aaldK X 2 rfl jp (v := .ref (B (9 + jp))) x2 ejp (by omega) (by decide) (by rw [hpf jp (by omega)]; rfl) dX7_of_33 ?_
      refine v_iload_n X dX7_of_34 2 rfl ?_
      refine v_cVi X [.int what] sX7_93 (ct_X1_trait (w := jw) ll g  (pC jp (by omega)) ejw (by omega)) (pC jp (by omega)) rfl dX7_of_35 rfl rfl ⟨rfl, rfl⟩ ⟨(Nat.le_of_ble_eq_true rfl), (Nat.le_of_ble_eq_true rfl)⟩ ⟨Nat.zero_le _, Nat.zero_le _⟩ (Nat.le_of_ble_eq_true rfl) ?_
      have eqr : op_of (d, k, hk, fo, tape, tp, bits, sz, num) p what = ((told d jp) jw, (d, k, hk, fo, tape, tp, bits, sz, num)) := by unfold op_of; dsimp only; rw [if_pos (And.intro c1 c2), qjp, qjw]
      have hCR : CR g h B (d, k, hk, fo, tape, tp, bits, sz, num) := ⟨hB, gX_e rfl cX, ⟨gW_e rfl ⟨rfl, rfl, rfl, rfl, rfl, rfl⟩ cW, gP_e (fun j hj => rfl) rfl (fun _ _ _ => rfl) cP, gY_e rfl (fun x c hx hk => rfl) rfl (fun _ _ _ => rfl) cY, gT_e rfl (fun _ _ _ => rfl) cT, gM_e (fun j h1 h2 => rfl) (fun _ _ _ => rfl) cM⟩, ⟨k2, gWd_e (fun j h1 h2 => rfl) (fun x c hx hk => rfl) cK, hk2⟩, gO_e (fun j h1 h2 => rfl) cO, gR_e rfl cR, gA_e (fun j h1 h2 => rfl) cA, gS_e (fun j h1 h2 => rfl) cS, gF_e rfl cF⟩
      exact v_iret X r dX7_of_38 (Nat.le_refl _) (Nat.le_refl _) ⟨by rw [eqr], by rw [eqr]; exact hCR⟩
    · refine v_aload_n X dX7_of_18 0 rfl ?_
      refine v_ldc X dX7_of_19 kX7_72 ?_
      refine v_cVi X [.int (-1000000001)] sX7_73 (ct_X7_finding (pe := 0) (wy := 0) (pt := 0) (mt := 0) (np := 0) (nw := 0) (oc := 0) (fi := 0) (se := 0) (lo := 0) (q := 0) (v := (-1000000001)) ll g x0 x41 (by decide) (by decide)) x0 rfl dX7_of_21 rfl rfl ⟨rfl, rfl⟩ ⟨(Nat.le_of_ble_eq_true rfl), (Nat.le_of_ble_eq_true rfl)⟩ ⟨Nat.zero_le _, Nat.zero_le _⟩ (Nat.le_of_ble_eq_true rfl) ?_
      have eqr : op_of (d, k, hk, fo, tape, tp, bits, sz, num) p what = ((-1000000001), (d, k, hk, fnd fo 0, tape, tp, bits, sz, num)) := by unfold op_of; dsimp only; rw [if_neg (fun q : _ ∧ _ => c2 (And.right q))]
      have hCR : CR g (hU h (B 41) (ai g 7 (fnd fo 0))) B (d, k, hk, fnd fo 0, tape, tp, bits, sz, num) := ⟨hB, gX_e (hU_n (hB 0 41 (by omega) (by omega) (by omega))) cX, ⟨gW_e (hU_n (hB 1 41 (by omega) (by omega) (by omega))) ⟨rfl, rfl, rfl, rfl, rfl, rfl⟩ cW, gP_e (fun j hj => (hU_n (hB j 41 (by omega) (by omega) (by omega)))) rfl (fun _ _ _ => rfl) cP, gY_e (hU_n (hB 3 41 (by omega) (by omega) (by omega))) (fun x c hx hk => (hU_n (kd_ne hx x41 hk rfl))) rfl (fun _ _ _ => rfl) cY, gT_e (hU_n (hB 4 41 (by omega) (by omega) (by omega))) (fun _ _ _ => rfl) cT, gM_e (fun j h1 h2 => (hU_n (hB j 41 (by omega) (by omega) (by omega)))) (fun _ _ _ => rfl) cM⟩, ⟨k2, gWd_e (fun j h1 h2 => (hU_n (hB (j + 16) 41 (by omega) (by omega) (by omega)))) (fun x c hx hk => (hU_n (kd_ne hx x41 hk rfl))) cK, hk2⟩, gO_e (fun j h1 h2 => (hU_n (hB j 41 (by omega) (by omega) (by omega)))) cO, gR_e (hU_n (hB 37 41 (by omega) (by omega) (by omega))) cR, gA_e (fun j h1 h2 => (hU_n (hB j 41 (by omega) (by omega) (by omega)))) cA, gS_e (fun j h1 h2 => (hU_n (hB j 41 (by omega) (by omega) (by omega)))) cS, (hU_s : _)⟩
      exact v_iret X r dX7_of_24 (Nat.le_refl _) (Nat.le_refl _) ⟨by rw [eqr], by rw [eqr]; exact hCR⟩
