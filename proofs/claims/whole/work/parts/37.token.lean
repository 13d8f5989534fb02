/-! ===== the class: tokens ===== -/
theorem wE_s {f : Nat → Int32} {n q r : Nat} (h : r = wordE f q (n - q)) (hq : q < n) (z : isL (f q)) : r = wordE f (q + 1) (n - (q + 1)) := by
  rw [show n - q = (n - (q + 1)) + 1 by omega] at h
  rw [h]; exact if_pos z
theorem wE_e {f : Nat → Int32} {n q r : Nat} (h : r = wordE f q (n - q)) (z : q < n → ¬ isL (f q)) : r = q := by
  rw [h]
  rcases Nat.lt_or_ge q n with y | y
  · rw [show n - q = (n - (q + 1)) + 1 by omega]; exact if_neg (z y)
  · rw [show n - q = 0 by omega]; rfl
theorem dE_s {f : Nat → Int32} {n q r : Nat} (h : r = digE f q (n - q)) (hq : q < n) (z : isDg (f q)) : r = digE f (q + 1) (n - (q + 1)) := by
  rw [show n - q = (n - (q + 1)) + 1 by omega] at h
  rw [h]; exact if_pos z
theorem dE_e {f : Nat → Int32} {n q r : Nat} (h : r = digE f q (n - q)) (z : q < n → ¬ isDg (f q)) : r = q := by
  rw [h]
  rcases Nat.lt_or_ge q n with y | y
  · rw [show n - q = (n - (q + 1)) + 1 by omega]; exact if_neg (z y)
  · rw [show n - q = 0 by omega]; rfl
theorem nM_s {f : Nat → Int32} {n q : Nat} {v r : Int32} (h : r = numM f q v (n - q)) (hq : q < n) (z : isDg (f q)) : r = numM f (q + 1) (nmN f q v) (n - (q + 1)) := by
  rw [show n - q = (n - (q + 1)) + 1 by omega] at h
  rw [h]; exact if_pos z
theorem nM_e {f : Nat → Int32} {n q : Nat} {v r : Int32} (h : r = numM f q v (n - q)) (z : q < n → ¬ isDg (f q)) : r = v := by
  rw [h]
  rcases Nat.lt_or_ge q n with y | y
  · rw [show n - q = (n - (q + 1)) + 1 by omega]; exact if_neg (z y)
  · rw [show n - q = 0 by omega]; rfl
theorem imin_1 {x : Int32} (h : ¬ 999 < x) : imin x 1000 = x := by
  unfold imin; rw [if_neg (fun z => h (Int32.lt_trans (by decide) z))]
theorem imin_2 {x : Int32} (h : 999 < x) : imin x 1000 = 1000 := by
  unfold imin
  by_cases z : 1000 < x
  · rw [if_pos z]
  · rw [if_neg z]
    have a1 : (999 : Int32).toInt = 999 := rfl
    have a2 : (1000 : Int32).toInt = 1000 := rfl
    rw [Int32.lt_iff_toInt_lt] at h z
    exact Int32.toInt_inj.mp (by omega)
theorem num_st {f : Nat → Int32} {q : Nat} {V : Int32} (h0 : 0 ≤ V) (hd : isDg (f q)) : imin (imin V 1000 * 10 + f q - 48) 1000 = imin (nmN f q V) 1000 ∧ 0 ≤ nmN f q V := by
  have hdI : (48 : Int) ≤ (f q).toInt ∧ (f q).toInt ≤ 57 := wiI hd
  have a48 : (48 : Int32).toInt = 48 := rfl
  have a10 : (10 : Int32).toInt = 10 := rfl
  have a999 : (999 : Int32).toInt = 999 := rfl
  unfold nmN
  by_cases h : 999 < V
  · rw [if_pos h, imin_2 h]
    refine ⟨?_, by decide⟩
    rw [imin_2 (x := 1000 * 10 + f q - 48), imin_2 (x := 1000) (by decide)]
    rw [Int32.lt_iff_toInt_lt, Int32.toInt_sub, Int32.toInt_add, show ((1000 : Int32) * 10).toInt = 10000 from rfl, a48, a999, bmd (x := 10000 + (f q).toInt) (by omega) (by omega), bmd (by omega) (by omega)]
    omega
  · rw [if_neg h, imin_1 h, Int32.mul_comm V 10]
    refine ⟨rfl, ?_⟩
    rw [Int32.lt_iff_toInt_lt] at h
    rw [Int32.le_iff_toInt_le] at h0
    have a0 : (0 : Int32).toInt = 0 := rfl
    rw [Int32.le_iff_toInt_le, Int32.toInt_sub, Int32.toInt_add, Int32.toInt_mul, a48, a10, bmd (x := 10 * V.toInt) (by omega) (by omega), bmd (x := 10 * V.toInt + (f q).toInt) (by omega) (by omega), bmd (by omega) (by omega)]
    omega
set_option maxHeartbeats 4000000 in
set_option maxRecDepth 100000 in
theorem ct_X4_takeWord (ll : Launch) (g : GT) {h : Hp} {a by_ n e : Nat} {f : Nat → Int32} {st tk vl : Int32}  (ha : h a = some (ob 4 [.ref by_, .int (nI n), .int st, .int (nI e), .int tk, .int vl])) (hb : h by_ = some (ai g 100 f)) (hen : e ≤ n) (hn : n ≤ 100) : MF ll g yX4_takeWord cX4_takeWord 1 none (k2_rm 1 30) [.ref a] h none (hU h a (ob 4 [.ref by_, .int (nI n), .int st, .int (nI (wordE f e (n - e))), .int (-2), .int vl])) := by
  have ne_1 : by_ ≠ a := hneb hb ha rfl
  refine mc_of (by decide) (Nat.le_of_ble_eq_true rfl) ?_
  intro K X r
  refine v_eqv (lv2 := [(0, .ref a)]) rfl ?_
  have L0 : ∀ (N : Nat) (q : Nat), (q ≤ n) → (wordE f e (n - e) = wordE f q (n - q)) → n - q < N → VJ K 0 0 (hU h a (ob 4 [.ref by_, .int (nI n), .int st, .int (nI q), .int tk, .int vl])) 0 [(0, .ref a)] [] := by
    intro N
    induction N with
    | zero => intro q _ _ hm; exact absurd hm (Nat.not_lt_zero _)
    | succ N ih0 =>
      intro q hqq hq hm
      refine v_aload_n X dX4_takeWord_0 0 rfl ?_
      refine v_get X fX4_22 hU_s rfl dX4_takeWord_1 ?_
      refine v_aload_n X dX4_takeWord_4 0 rfl ?_
      refine v_get X fX4_15 hU_s rfl dX4_takeWord_5 ?_
      refine v_icmp_ge X dX4_takeWord_8 (tgt := 39) (by decide) (fun c1 => ?_) (fun c1 => ?_)
      · refine v_aload_n X dX4_takeWord_39 0 rfl ?_
        refine v_bipush X dX4_takeWord_40 (v := (-2)) (by decide) ?_
        refine v_putE (h2 := (hU h a (ob 4 [.ref by_, .int (nI n), .int st, .int (nI q), .int (-2), .int vl]))) X fX4_25 tyX4_ok nmX4 rfl pd_I hU_s rfl rfl (ltb rfl) dX4_takeWord_42 hU_u ?_
        exact v_vret X r dX4_takeWord_45 (Nat.le_refl _) (Nat.le_refl _) ⟨rfl, (by rw [wE_e hq (fun y => absurd (nI_lt y (by omega)) (Int32.not_lt.mpr c1))])⟩
      · have hqn : q < n := by
          rcases Nat.lt_or_ge q n with z | z
          · exact z
          · exact absurd (nI_le z (by omega)) c1
        refine v_aload_n X dX4_takeWord_11 0 rfl ?_
        refine v_get X fX4_9 hU_s rfl dX4_takeWord_12 ?_
        refine v_aload_n X dX4_takeWord_15 0 rfl ?_
        refine v_get X fX4_22 hU_s rfl dX4_takeWord_16 ?_
        refine v_ialdK X q ((hU_n ne_1).trans hb) rfl (by omega) (by decide) dX4_takeWord_19 ?_
        refine v_cSi X [.int (f q)] sX4_56 (ct_X4_isLetter ll g (f q)) dX4_takeWord_20 rfl rfl ⟨rfl, rfl⟩ ⟨(Nat.le_of_ble_eq_true rfl), (Nat.le_of_ble_eq_true rfl)⟩ ⟨Nat.zero_le _, Nat.zero_le _⟩ (Nat.le_of_ble_eq_true rfl) ?_
        refine v_ifb_eq X dX4_takeWord_23 (tgt := 39) (by decide) (fun c2 => ?_) (fun c2 => ?_)
        · refine v_aload_n X dX4_takeWord_39 0 rfl ?_
          refine v_bipush X dX4_takeWord_40 (v := (-2)) (by decide) ?_
          refine v_putE (h2 := (hU h a (ob 4 [.ref by_, .int (nI n), .int st, .int (nI q), .int (-2), .int vl]))) X fX4_25 tyX4_ok nmX4 rfl pd_I hU_s rfl rfl (ltb rfl) dX4_takeWord_42 hU_u ?_
          exact v_vret X r dX4_takeWord_45 (Nat.le_refl _) (Nat.le_refl _) ⟨rfl, (by rw [wE_e hq (fun _ => c2)])⟩
        · refine v_aload_n X dX4_takeWord_26 0 rfl ?_
          refine v_dup X dX4_takeWord_27 rfl ?_
          refine v_get X fX4_22 hU_s rfl dX4_takeWord_28 ?_
          refine v_iconst X dX4_takeWord_31 (v := 1) (by decide) ?_
          refine v_iadd X dX4_takeWord_32 ?_
          refine v_putE (h2 := (hU h a (ob 4 [.ref by_, .int (nI n), .int st, .int ((nI q) + 1), .int tk, .int vl]))) X fX4_22 tyX4_ok nmX4 rfl pd_I hU_s rfl rfl (ltb rfl) dX4_takeWord_33 hU_u ?_
          refine v_goto X dX4_takeWord_36 (tgt := 0) (by decide) ?_
          refine v_eqh (h2 := (hU h a (ob 4 [.ref by_, .int (nI n), .int st, .int (nI (q + 1)), .int tk, .int vl]))) (by rw [nI_1]) ?_
          exact ih0 (q + 1) (by omega) (wE_s hq hqn c2) (by omega)
  refine v_eqh (h2 := hU h a (ob 4 [.ref by_, .int (nI n), .int st, .int (nI e), .int tk, .int vl])) (hU_id ha).symm ?_
  exact L0 _ e hen rfl (Nat.lt_succ_self _)
set_option maxHeartbeats 4000000 in
set_option maxRecDepth 100000 in
theorem ct_X4_takeNumber (ll : Launch) (g : GT) {h : Hp} {a by_ n e : Nat} {f : Nat → Int32} {st tk vl : Int32}  (ha : h a = some (ob 4 [.ref by_, .int (nI n), .int st, .int (nI e), .int tk, .int vl])) (hb : h by_ = some (ai g 100 f)) (hen : e ≤ n) (hn : n ≤ 100) : MF ll g yX4_takeNumber cX4_takeNumber 2 none (k2_rm 1 30) [.ref a] h none (hU h a (ob 4 [.ref by_, .int (nI n), .int st, .int (nI (digE f e (n - e))), .int (if 999 < imin (numM f e 0 (n - e)) 1000 then -4 else -3), .int (imin (numM f e 0 (n - e)) 1000)])) := by
  have ne_1 : by_ ≠ a := hneb hb ha rfl
  refine mc_of (by decide) (Nat.le_of_ble_eq_true rfl) ?_
  intro K X r
  refine v_eqv (lv2 := [(0, .ref a)]) rfl ?_
  refine v_iconst X dX4_takeNumber_0 (v := 0) (by decide) ?_
  refine v_istore_n (lv1 := [(1, .int 0), (0, .ref a)]) X dX4_takeNumber_1 (by decide) rfl ?_
  have L2 : ∀ (N : Nat) (q : Nat) (V : Int32), (q ≤ n) → (digE f e (n - e) = digE f q (n - q)) → (numM f e 0 (n - e) = numM f q V (n - q)) → (0 ≤ V) → n - q < N → VJ K 0 0 (hU h a (ob 4 [.ref by_, .int (nI n), .int st, .int (nI q), .int tk, .int vl])) 2 [(0, .ref a), (1, .int (imin V 1000))] [] := by
    intro N
    induction N with
    | zero => intro q V _ _ _ _ hm; exact absurd hm (Nat.not_lt_zero _)
    | succ N ih2 =>
      intro q V hqq hq hv hV hm
      refine v_aload_n X dX4_takeNumber_2 0 rfl ?_
      refine v_get X fX4_22 hU_s rfl dX4_takeNumber_3 ?_
      refine v_aload_n X dX4_takeNumber_6 0 rfl ?_
      refine v_get X fX4_15 hU_s rfl dX4_takeNumber_7 ?_
      refine v_icmp_ge X dX4_takeNumber_10 (tgt := 65) (by decide) (fun c1 => ?_) (fun c1 => ?_)
      · have eV : V = numM f e 0 (n - e) := (nM_e hv (fun y => absurd (nI_lt y (by omega)) (Int32.not_lt.mpr c1))).symm
        have eq_ : q = digE f e (n - e) := (dE_e hq (fun y => absurd (nI_lt y (by omega)) (Int32.not_lt.mpr c1))).symm
        refine v_aload_n X dX4_takeNumber_65 0 rfl ?_
        refine v_iload_n X dX4_takeNumber_66 1 rfl ?_
        refine v_putE (h2 := (hU h a (ob 4 [.ref by_, .int (nI n), .int st, .int (nI q), .int tk, .int (imin V 1000)]))) X fX4_28 tyX4_ok nmX4 rfl pd_I hU_s rfl rfl (ltb rfl) dX4_takeNumber_67 hU_u ?_
        refine v_aload_n X dX4_takeNumber_70 0 rfl ?_
        refine v_iload_n X dX4_takeNumber_71 1 rfl ?_
        refine v_sipush X dX4_takeNumber_72 (v := 999) (by decide) ?_
        refine v_icmp_le X dX4_takeNumber_75 (tgt := 83) (by decide) (fun c2 => ?_) (fun c2 => ?_)
        · refine v_bipush X dX4_takeNumber_83 (v := (-3)) (by decide) ?_
          refine v_putE (h2 := (hU h a (ob 4 [.ref by_, .int (nI n), .int st, .int (nI q), .int (-3), .int (imin V 1000)]))) X fX4_25 tyX4_ok nmX4 rfl pd_I hU_s rfl rfl (ltb rfl) dX4_takeNumber_85 hU_u ?_
          exact v_vret X r dX4_takeNumber_88 (Nat.le_refl _) (Nat.le_refl _) ⟨rfl, (by rw [← eV, ← eq_, if_neg (Int32.not_lt.mpr c2)])⟩
        · refine v_bipush X dX4_takeNumber_78 (v := (-4)) (by decide) ?_
          refine v_goto X dX4_takeNumber_80 (tgt := 85) (by decide) ?_
          refine v_putE (h2 := (hU h a (ob 4 [.ref by_, .int (nI n), .int st, .int (nI q), .int (-4), .int (imin V 1000)]))) X fX4_25 tyX4_ok nmX4 rfl pd_I hU_s rfl rfl (ltb rfl) dX4_takeNumber_85 hU_u ?_
          exact v_vret X r dX4_takeNumber_88 (Nat.le_refl _) (Nat.le_refl _) ⟨rfl, (by rw [← eV, ← eq_, if_pos (Int32.not_le.mp c2)])⟩
      · have hqn : q < n := by
          rcases Nat.lt_or_ge q n with z | z
          · exact z
          · exact absurd (nI_le z (by omega)) c1
        refine v_aload_n X dX4_takeNumber_13 0 rfl ?_
        refine v_get X fX4_9 hU_s rfl dX4_takeNumber_14 ?_
        refine v_aload_n X dX4_takeNumber_17 0 rfl ?_
        refine v_get X fX4_22 hU_s rfl dX4_takeNumber_18 ?_
        refine v_ialdK X q ((hU_n ne_1).trans hb) rfl (by omega) (by decide) dX4_takeNumber_21 ?_
        refine v_cSi X [.int (f q)] sX4_63 (ct_X4_isDigit ll g (f q)) dX4_takeNumber_22 rfl rfl ⟨rfl, rfl⟩ ⟨(Nat.le_of_ble_eq_true rfl), (Nat.le_of_ble_eq_true rfl)⟩ ⟨Nat.zero_le _, Nat.zero_le _⟩ (Nat.le_of_ble_eq_true rfl) ?_
        refine v_ifb_eq X dX4_takeNumber_25 (tgt := 65) (by decide) (fun c3 => ?_) (fun c3 => ?_)
        · have eV : V = numM f e 0 (n - e) := (nM_e hv (fun _ => c3)).symm
          have eq_ : q = digE f e (n - e) := (dE_e hq (fun _ => c3)).symm
          refine v_aload_n X dX4_takeNumber_65 0 rfl ?_
          refine v_iload_n X dX4_takeNumber_66 1 rfl ?_
          refine v_putE (h2 := (hU h a (ob 4 [.ref by_, .int (nI n), .int st, .int (nI q), .int tk, .int (imin V 1000)]))) X fX4_28 tyX4_ok nmX4 rfl pd_I hU_s rfl rfl (ltb rfl) dX4_takeNumber_67 hU_u ?_
          refine v_aload_n X dX4_takeNumber_70 0 rfl ?_
          refine v_iload_n X dX4_takeNumber_71 1 rfl ?_
          refine v_sipush X dX4_takeNumber_72 (v := 999) (by decide) ?_
          refine v_icmp_le X dX4_takeNumber_75 (tgt := 83) (by decide) (fun c4 => ?_) (fun c4 => ?_)
          · refine v_bipush X dX4_takeNumber_83 (v := (-3)) (by decide) ?_
            refine v_putE (h2 := (hU h a (ob 4 [.ref by_, .int (nI n), .int st, .int (nI q), .int (-3), .int (imin V 1000)]))) X fX4_25 tyX4_ok nmX4 rfl pd_I hU_s rfl rfl (ltb rfl) dX4_takeNumber_85 hU_u ?_
            exact v_vret X r dX4_takeNumber_88 (Nat.le_refl _) (Nat.le_refl _) ⟨rfl, (by rw [← eV, ← eq_, if_neg (Int32.not_lt.mpr c4)])⟩
          · refine v_bipush X dX4_takeNumber_78 (v := (-4)) (by decide) ?_
            refine v_goto X dX4_takeNumber_80 (tgt := 85) (by decide) ?_
            refine v_putE (h2 := (hU h a (ob 4 [.ref by_, .int (nI n), .int st, .int (nI q), .int (-4), .int (imin V 1000)]))) X fX4_25 tyX4_ok nmX4 rfl pd_I hU_s rfl rfl (ltb rfl) dX4_takeNumber_85 hU_u ?_
            exact v_vret X r dX4_takeNumber_88 (Nat.le_refl _) (Nat.le_refl _) ⟨rfl, (by rw [← eV, ← eq_, if_pos (Int32.not_le.mp c4)])⟩
        · refine v_iload_n X dX4_takeNumber_28 1 rfl ?_
          refine v_bipush X dX4_takeNumber_29 (v := 10) (by decide) ?_
          refine v_imul X dX4_takeNumber_31 ?_
          refine v_aload_n X dX4_takeNumber_32 0 rfl ?_
          refine v_get X fX4_9 hU_s rfl dX4_takeNumber_33 ?_
          refine v_aload_n X dX4_takeNumber_36 0 rfl ?_
          refine v_get X fX4_22 hU_s rfl dX4_takeNumber_37 ?_
          refine v_ialdK X q ((hU_n ne_1).trans hb) rfl (by omega) (by decide) dX4_takeNumber_40 ?_
          refine v_iadd X dX4_takeNumber_41 ?_
          refine v_bipush X dX4_takeNumber_42 (v := 48) (by decide) ?_
          refine v_isub X dX4_takeNumber_44 ?_
          refine v_sipush X dX4_takeNumber_45 (v := 1000) (by decide) ?_
          refine v_mmin X sX4_72 (Nat.le_of_ble_eq_true rfl) (Nat.le_of_ble_eq_true rfl) (Nat.zero_le _) (Nat.zero_le _) dX4_takeNumber_48 ?_
          refine v_istore_n (lv1 := [(1, .int (imin ((((imin V 1000) * 10) + (f q)) - 48) 1000)), (0, .ref a)]) X dX4_takeNumber_51 (by decide) rfl ?_
          refine v_aload_n X dX4_takeNumber_52 1 rfl ?_
          refine v_dup X dX4_takeNumber_53 rfl ?_
          refine v_get X fX4_22 hU_s rfl dX4_takeNumber_54 ?_
          refine v_iconst X dX4_takeNumber_57 (v := 1) (by decide) ?_
          refine v_iadd X dX4_takeNumber_58 ?_
          refine v_putE (h2 := (hU h a (ob 4 [.ref by_, .int (nI n), .int st, .int ((nI q) + 1), .int tk, .int vl]))) X fX4_22 tyX4_ok nmX4 rfl pd_I hU_s rfl rfl (ltb rfl) dX4_takeNumber_59 hU_u ?_
          refine v_goto X dX4_takeNumber_62 (tgt := 2) (by decide) ?_
          refine v_lv (lv2 := [(0, .ref a), (1, .int (imin ((((imin V 1000) * 10) + (f q)) - 48) 1000))]) [1, 0] rfl ?_
          refine v_eqv (lv2 := [(0, .ref a), (1, .int (imin (nmN f q V) 1000))]) (by rw [(num_st hV c3).1]) ?_
          refine v_eqh (h2 := (hU h a (ob 4 [.ref by_, .int (nI n), .int st, .int (nI (q + 1)), .int tk, .int vl]))) (by rw [nI_1]) ?_
          exact ih2 (q + 1) (nmN f q V) (by omega) (dE_s hq hqn c3) (nM_s hv hqn c3) (num_st hV c3).2 (by omega)
  refine v_lv (lv2 := [(0, .ref a), (1, .int 0)]) [1, 0] rfl ?_
  refine v_eqv (lv2 := [(0, .ref a), (1, .int (imin 0 1000))]) rfl ?_
  refine v_eqh (h2 := hU h a (ob 4 [.ref by_, .int (nI n), .int st, .int (nI e), .int tk, .int vl])) (hU_id ha).symm ?_
  exact L2 _ e 0 hen rfl rfl (by decide) (Nat.lt_succ_self _)
