/-! ===== the class: a comparison ===== -/
def c2W (vl : Int32) (f : Nat → Int32) (n e : Nat) : Int32 := if sgAt f n (lkE f n e) 45 then vlC (vlC vl f n (lkE f n e)) f n (lkE f n (lkE f n e)) else vlC vl f n (lkE f n e)
def cmVl (vl : Int32) (f : Nat → Int32) (n e : Nat) : Int32 := if c1P f n e then (if c2P f n e then c2V f n e else c2W vl f n e) else vl
theorem sg45 {f : Nat → Int32} {n e : Nat} : tkC f n e = 45 ↔ sgAt f n e 45 := sgT (by decide) (by decide)
theorem sg60 {f : Nat → Int32} {n e : Nat} : tkC f n e = 60 ↔ sgAt f n e 60 := sgT (by decide) (by decide)
theorem sg62 {f : Nat → Int32} {n e : Nat} : tkC f n e = 62 ↔ sgAt f n e 62 := sgT (by decide) (by decide)
theorem sg58 {f : Nat → Int32} {n e : Nat} : tkC f n e = 58 ↔ sgAt f n e 58 := sgT (by decide) (by decide)
theorem sg59 {f : Nat → Int32} {n e : Nat} : tkC f n e = 59 ↔ sgAt f n e 59 := sgT (by decide) (by decide)
theorem c2W_v {vl : Int32} {f : Nat → Int32} {n e : Nat} (h : c2P f n e) : c2W vl f n e = lkV f n (c2A f n e) := by
  unfold c2W c2P c2A at *
  by_cases z : sgAt f n (lkE f n e) 45
  · rw [if_pos z] at h
    rw [if_pos z, if_pos z]; exact vl3 h
  · rw [if_neg z] at h
    rw [if_neg z, if_neg z]; exact vl3 h
set_option maxHeartbeats 4000000 in
set_option maxRecDepth 100000 in
theorem ct_X4_takeComparison (ll : Launch) (g : GT) {h : Hp} {a by_ n e : Nat} {f : Nat → Int32} {vl : Int32} (ha : h a = some (ob 4 [.ref by_, .int (nI n), .int (nI (lkJ f n e)), .int (nI (lkE f n e)), .int (tkC f n e), .int vl])) (hb : h by_ = some (ai g 100 f)) (hen : e ≤ n) (hn : n ≤ 100) : MF ll g yX4_takeComparison cX4_takeComparison 3 (some .boolean) (k2_rm 3 90) [.ref a] h (some (.int (bI (cmP f n e)))) (hU h a (ob 4 [.ref by_, .int (nI n), .int (nI (lkJ f n (cmA f n e))), .int (nI (lkE f n (cmA f n e))), .int (tkC f n (cmA f n e)), .int (cmVl vl f n e)])) := by
  have ne_1 : by_ ≠ a := hneb hb ha rfl
  refine mc_of (by decide) (Nat.le_of_ble_eq_true rfl) ?_
  intro K X r
  refine v_eqv (lv2 := [(0, .ref a)]) rfl ?_
  have C20 : ∀ (_ : True), (c1P f n e) → VJ K 0 0 h 20 [(0, .ref a)] [] := by
    intro _ hc1
    refine v_aload_n X dX4_takeComparison_20 0 rfl ?_
    refine v_cVv X [] sX4_34 (ct_X4_nextToken ll g  ha hb (lkE_le hen) hn) ha rfl dX4_takeComparison_21 rfl rfl ⟨rfl, rfl⟩ ⟨(Nat.le_of_ble_eq_true rfl), (Nat.le_of_ble_eq_true rfl)⟩ ⟨Nat.zero_le _, Nat.zero_le _⟩ (Nat.le_of_ble_eq_true rfl) ?_
    refine v_aload_n X dX4_takeComparison_24 0 rfl ?_
    refine v_get X fX4_25 hU_s rfl dX4_takeComparison_25 ?_
    refine v_bipush X dX4_takeComparison_28 (v := 45) (by decide) ?_
    have J1 : VJ K 0 0 (hU h a (ob 4 [.ref by_, .int (nI n), .int (nI (lkJ f n (lkE f n e))), .int (nI (lkE f n (lkE f n e))), .int (tkC f n (lkE f n e)), .int (vlC vl f n (lkE f n e))])) 38 [(0, .ref a)] [.int (bI (sgAt f n (lkE f n e) 45))] := by
      refine v_istore_n (lv1 := [(1, .int (bI (sgAt f n (lkE f n e) 45))), (0, .ref a)]) X dX4_takeComparison_38 (by decide) rfl ?_
      refine v_iload_n X dX4_takeComparison_39 0 rfl ?_
      have C47 : ∀ (_ : True), VJ K 0 0 (hU h a (ob 4 [.ref by_, .int (nI n), .int (nI (lkJ f n (c2A f n e))), .int (nI (lkE f n (c2A f n e))), .int (tkC f n (c2A f n e)), .int (c2W vl f n e)])) 47 [(0, .ref a), (1, .int (bI (sgAt f n (lkE f n e) 45)))] [] := by
        intro _ 
        refine v_aload_n X dX4_takeComparison_47 0 rfl ?_
        refine v_get X fX4_25 hU_s rfl dX4_takeComparison_48 ?_
        refine v_bipush X dX4_takeComparison_51 (v := (-3)) (by decide) ?_
        refine v_icmp_eq X dX4_takeComparison_53 (tgt := 58) (by decide) (fun c1 => ?_) (fun c1 => ?_)
        · have hc2 : c2P f n e := tk3.mp c1
          refine v_iload_n X dX4_takeComparison_58 1 rfl ?_
          have J2 : VJ K 0 0 (hU h a (ob 4 [.ref by_, .int (nI n), .int (nI (lkJ f n (c2A f n e))), .int (nI (lkE f n (c2A f n e))), .int (tkC f n (c2A f n e)), .int (c2W vl f n e)])) 74 [(0, .ref a), (1, .int (bI (sgAt f n (lkE f n e) 45)))] [.int (c2V f n e)] := by
            refine v_istore_n (lv1 := [(2, .int (c2V f n e)), (0, .ref a), (1, .int (bI (sgAt f n (lkE f n e) 45)))]) X dX4_takeComparison_74 (by decide) rfl ?_
            refine v_aload_n X dX4_takeComparison_75 1 rfl ?_
            refine v_cVv X [] sX4_34 (ct_X4_nextToken ll g  hU_s ((hU_n ne_1).trans hb) (lkE_le (c2A_le hen)) hn) hU_s rfl dX4_takeComparison_76 rfl rfl ⟨rfl, rfl⟩ ⟨(Nat.le_of_ble_eq_true rfl), (Nat.le_of_ble_eq_true rfl)⟩ ⟨Nat.zero_le _, Nat.zero_le _⟩ (Nat.le_of_ble_eq_true rfl) ?_
            refine v_eqh (h2 := (hU h a (ob 4 [.ref by_, .int (nI n), .int (nI (lkJ f n (lkE f n (c2A f n e)))), .int (nI (lkE f n (lkE f n (c2A f n e)))), .int (tkC f n (lkE f n (c2A f n e))), .int (vlC (c2W vl f n e) f n (lkE f n (c2A f n e)))]))) hU_u ?_
            refine v_aload_n X dX4_takeComparison_79 1 rfl ?_
            refine v_iload_n X dX4_takeComparison_80 0 rfl ?_
            refine v_putE (h2 := (hU h a (ob 4 [.ref by_, .int (nI n), .int (nI (lkJ f n (lkE f n (c2A f n e)))), .int (nI (lkE f n (lkE f n (c2A f n e)))), .int (tkC f n (lkE f n (c2A f n e))), .int (c2V f n e)]))) X fX4_28 tyX4_ok nmX4 rfl pd_I hU_s rfl rfl (ltb rfl) dX4_takeComparison_81 hU_u ?_
            refine v_iconst X dX4_takeComparison_84 (v := 1) (by decide) ?_
            exact v_zret X r dX4_takeComparison_85 rfl (Nat.le_refl _) (Nat.le_refl _) ⟨ri (bI_t ⟨hc1, hc2⟩).symm, (by rw [cmA, cmVl, if_pos hc1, if_pos hc1, if_pos hc2, if_pos hc2])⟩
          refine v_ifb_eq X dX4_takeComparison_59 (tgt := 70) (by decide) (fun c2 => ?_) (fun c2 => ?_)
          · refine v_aload_n X dX4_takeComparison_70 0 rfl ?_
            refine v_get X fX4_28 hU_s rfl dX4_takeComparison_71 ?_
            exact v_eqi (by rw [c2V, if_neg c2, c2W_v hc2]) J2
          · refine v_aload_n X dX4_takeComparison_62 0 rfl ?_
            refine v_get X fX4_28 hU_s rfl dX4_takeComparison_63 ?_
            refine v_ineg X dX4_takeComparison_66 ?_
            refine v_goto X dX4_takeComparison_67 (tgt := 74) (by decide) ?_
            exact v_eqi (by rw [c2V, if_pos c2, c2W_v hc2]) J2
        · refine v_iconst X dX4_takeComparison_56 (v := 0) (by decide) ?_
          exact v_zret X r dX4_takeComparison_57 rfl (Nat.le_refl _) (Nat.le_refl _) ⟨ri (bI_f (fun q => c1 (tk3.mpr q.2))).symm, (by have z : ¬ c2P f n e := fun q => c1 (tk3.mpr q); rw [cmA, cmVl, if_pos hc1, if_pos hc1, if_neg z, if_neg z])⟩
      refine v_ifb_eq X dX4_takeComparison_40 (tgt := 47) (by decide) (fun c3 => ?_) (fun c3 => ?_)
      · refine v_lv (lv2 := [(0, .ref a), (1, .int (bI (sgAt f n (lkE f n e) 45)))]) [1, 0] rfl ?_
        refine v_eqh (h2 := (hU h a (ob 4 [.ref by_, .int (nI n), .int (nI (lkJ f n (c2A f n e))), .int (nI (lkE f n (c2A f n e))), .int (tkC f n (c2A f n e)), .int (c2W vl f n e)]))) (by rw [c2A, c2W, if_neg c3, if_neg c3]) ?_
        exact C47 trivial 
      · refine v_aload_n X dX4_takeComparison_43 1 rfl ?_
        refine v_cVv X [] sX4_34 (ct_X4_nextToken ll g  hU_s ((hU_n ne_1).trans hb) (lkE_le (lkE_le hen)) hn) hU_s rfl dX4_takeComparison_44 rfl rfl ⟨rfl, rfl⟩ ⟨(Nat.le_of_ble_eq_true rfl), (Nat.le_of_ble_eq_true rfl)⟩ ⟨Nat.zero_le _, Nat.zero_le _⟩ (Nat.le_of_ble_eq_true rfl) ?_
        refine v_eqh (h2 := (hU h a (ob 4 [.ref by_, .int (nI n), .int (nI (lkJ f n (lkE f n (lkE f n e)))), .int (nI (lkE f n (lkE f n (lkE f n e)))), .int (tkC f n (lkE f n (lkE f n e))), .int (vlC (vlC vl f n (lkE f n e)) f n (lkE f n (lkE f n e)))]))) hU_u ?_
        refine v_lv (lv2 := [(0, .ref a), (1, .int (bI (sgAt f n (lkE f n e) 45)))]) [1, 0] rfl ?_
        refine v_eqh (h2 := (hU h a (ob 4 [.ref by_, .int (nI n), .int (nI (lkJ f n (c2A f n e))), .int (nI (lkE f n (c2A f n e))), .int (tkC f n (c2A f n e)), .int (c2W vl f n e)]))) (by rw [c2A, c2W, if_pos c3, if_pos c3]) ?_
        exact C47 trivial 
    refine v_icmp_ne X dX4_takeComparison_30 (tgt := 37) (by decide) (fun c4 => ?_) (fun c4 => ?_)
    · refine v_iconst X dX4_takeComparison_37 (v := 0) (by decide) ?_
      exact v_eqi (bI_f (fun z => c4 (sg45.mpr z))).symm J1
    · refine v_iconst X dX4_takeComparison_33 (v := 1) (by decide) ?_
      refine v_goto X dX4_takeComparison_34 (tgt := 38) (by decide) ?_
      exact v_eqi (bI_t (sg45.mp c4)).symm J1
  refine v_aload_n X dX4_takeComparison_0 0 rfl ?_
  refine v_get X fX4_25 ha rfl dX4_takeComparison_1 ?_
  refine v_bipush X dX4_takeComparison_4 (v := 60) (by decide) ?_
  refine v_icmp_eq X dX4_takeComparison_6 (tgt := 20) (by decide) (fun c5 => ?_) (fun c5 => ?_)
  · exact C20 trivial (Or.inl (sg60.mp c5))
  · refine v_aload_n X dX4_takeComparison_9 0 rfl ?_
    refine v_get X fX4_25 ha rfl dX4_takeComparison_10 ?_
    refine v_bipush X dX4_takeComparison_13 (v := 62) (by decide) ?_
    refine v_icmp_eq X dX4_takeComparison_15 (tgt := 20) (by decide) (fun c6 => ?_) (fun c6 => ?_)
    · exact C20 trivial (Or.inr (sg62.mp c6))
    · refine v_iconst X dX4_takeComparison_18 (v := 0) (by decide) ?_
      exact v_zret X r dX4_takeComparison_19 rfl (Nat.le_refl _) (Nat.le_refl _) ⟨ri (bI_f (fun q => q.1.elim (fun y => c5 (sg60.mpr y)) (fun y => c6 (sg62.mpr y)))).symm, (by have z : ¬ c1P f n e := fun q => q.elim (fun y => c5 (sg60.mpr y)) (fun y => c6 (sg62.mpr y)); rw [cmA, cmVl, if_neg z, if_neg z]; exact (hU_id ha).symm)⟩
