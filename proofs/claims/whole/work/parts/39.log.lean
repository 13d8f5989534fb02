/-! ===== the class: findings, who is on the log ===== -/
set_option maxHeartbeats 4000000 in
set_option maxRecDepth 100000 in
theorem ct_X7_finding (ll : Launch) (g : GT) {h : Hp} {x w kp ot tl tp sh fo pe wy pt mt : Nat} {ik np nw oc fi se lo : Int32} {ff : Nat → Int32} {v : Int32} {q : Nat} (hx : h x = some (ob 7 [.ref w, .ref kp, .int ik, .ref ot, .ref tl, .ref tp, .ref sh, .ref fo])) (hf : h fo = some (ai g 7 ff)) (hq : (-1000000001) - v = nI q) (hq7 : q < 7) : MF ll g yX7_finding cX7_finding 3 (some .int) (k2_rm 1 40) [.ref x, .int v] h (some (.int v)) (hU h fo (ai g 7 (fnd ff q))) := by
  refine mc_of (by decide) (Nat.le_of_ble_eq_true rfl) ?_
  intro K X r
  refine v_eqv (lv2 := [(0, .ref x), (1, .int v)]) rfl ?_
  refine v_ldc X dX7_finding_0 kX7_72 ?_
  refine v_iload_n X dX7_finding_2 1 rfl ?_
  refine v_isub X dX7_finding_3 ?_
  refine v_istore_n (lv1 := [(2, .int ((-1000000001) - v)), (0, .ref x), (1, .int v)]) X dX7_finding_4 (by decide) rfl ?_
  refine v_iload_n X dX7_finding_5 0 rfl ?_
  refine v_iconst X dX7_finding_6 (v := 0) (by decide) ?_
  refine v_bipush X dX7_finding_7 (v := 6) (by decide) ?_
  refine v_cSi X [.int ((-1000000001) - v), .int 0, .int 6] sX7_68 (ct_X7_within ll g ((-1000000001) - v) 0 6) dX7_finding_9 rfl rfl ⟨rfl, rfl⟩ ⟨(Nat.le_of_ble_eq_true rfl), (Nat.le_of_ble_eq_true rfl)⟩ ⟨Nat.zero_le _, Nat.zero_le _⟩ (Nat.le_of_ble_eq_true rfl) ?_
  refine v_ifb_eq X dX7_finding_12 (tgt := 25) (by decide) (fun c1 => ?_) (fun c1 => ?_)
  · exact absurd (show wi ((-1000000001) - v) 0 6 from ⟨by rw [hq]; exact nI_le (Nat.zero_le q) (by omega), by rw [hq]; exact nI_le (show q ≤ 6 by omega) (by decide)⟩) c1
  · refine v_aload_n X dX7_finding_15 1 rfl ?_
    refine v_get X fX7_60 hx rfl dX7_finding_16 ?_
    refine v_iload_n X dX7_finding_19 0 rfl ?_
    refine v_dup2 X dX7_finding_20 rfl rfl ?_
    refine v_ialdK X q hf hq hq7 (by decide) dX7_finding_21 ?_
    refine v_iconst X dX7_finding_22 (v := 1) (by decide) ?_
    refine v_iadd X dX7_finding_23 ?_
    refine v_iastK (h2 := (hU h fo (ai g 7 (upd ff q ((ff q) + 1))))) X q hf hq hq7 (by decide) dX7_finding_24 rfl ?_
    refine v_iload_n X dX7_finding_25 2 rfl ?_
    exact v_iret X r dX7_finding_26 (Nat.le_refl _) (Nat.le_refl _) ⟨ri rfl, rfl⟩
set_option maxHeartbeats 4000000 in
set_option maxRecDepth 100000 in
theorem ct_X6_isOnLog (ll : Launch) (g : GT) {h : Hp} {w pe wy pt mt : Nat} {np nw fi se lo : Int32} {O : Prop} [Decidable O] (v : Int32) (hw : h w = some (ob 6 [.ref pe, .int np, .ref wy, .int nw, .ref pt, .ref mt, .int (bI O), .int fi, .int se, .int lo])) : MF ll g yX6_isOnLog cX6_isOnLog 2 (some .boolean) (k2_rm 0 0) [.ref w, .int v] h (some (.int (bI (O ∧ (v = fi ∨ v = se))))) h := by
  refine mc_of (by decide) (Nat.le_of_ble_eq_true rfl) ?_
  intro K X r
  refine v_eqv (lv2 := [(0, .ref w), (1, .int v)]) rfl ?_
  refine v_aload_n X dX6_isOnLog_0 0 rfl ?_
  refine v_get X fX6_51 hw rfl dX6_isOnLog_1 ?_
  refine v_ifb_eq X dX6_isOnLog_4 (tgt := 27) (by decide) (fun c1 => ?_) (fun c1 => ?_)
  · refine v_iconst X dX6_isOnLog_27 (v := 0) (by decide) ?_
    exact v_zret X r dX6_isOnLog_28 rfl (Nat.le_refl _) (Nat.le_refl _) ⟨ri (bI_f (fun z => c1 z.1)).symm, rfl⟩
  · refine v_iload_n X dX6_isOnLog_7 1 rfl ?_
    refine v_aload_n X dX6_isOnLog_8 0 rfl ?_
    refine v_get X fX6_55 hw rfl dX6_isOnLog_9 ?_
    refine v_icmp_eq X dX6_isOnLog_12 (tgt := 23) (by decide) (fun c2 => ?_) (fun c2 => ?_)
    · refine v_iconst X dX6_isOnLog_23 (v := 1) (by decide) ?_
      refine v_goto X dX6_isOnLog_24 (tgt := 28) (by decide) ?_
      exact v_zret X r dX6_isOnLog_28 rfl (Nat.le_refl _) (Nat.le_refl _) ⟨ri (bI_t ⟨c1, Or.inl c2⟩).symm, rfl⟩
    · refine v_iload_n X dX6_isOnLog_15 1 rfl ?_
      refine v_aload_n X dX6_isOnLog_16 0 rfl ?_
      refine v_get X fX6_58 hw rfl dX6_isOnLog_17 ?_
      refine v_icmp_ne X dX6_isOnLog_20 (tgt := 27) (by decide) (fun c3 => ?_) (fun c3 => ?_)
      · refine v_iconst X dX6_isOnLog_27 (v := 0) (by decide) ?_
        exact v_zret X r dX6_isOnLog_28 rfl (Nat.le_refl _) (Nat.le_refl _) ⟨ri (bI_f (fun z => z.2.elim c2 c3)).symm, rfl⟩
      · refine v_iconst X dX6_isOnLog_23 (v := 1) (by decide) ?_
        refine v_goto X dX6_isOnLog_24 (tgt := 28) (by decide) ?_
        exact v_zret X r dX6_isOnLog_28 rfl (Nat.le_refl _) (Nat.le_refl _) ⟨ri (bI_t ⟨c1, Or.inr c3⟩).symm, rfl⟩
