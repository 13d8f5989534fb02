/-! ===== the class: the next token ===== -/
theorem sk_s {f : Nat → Int32} {n q r : Nat} (h : r = skipF f q (n - q)) (hq : q < n) (z : f q = 32) : r = skipF f (q + 1) (n - (q + 1)) := by
  rw [show n - q = (n - (q + 1)) + 1 by omega] at h
  rw [h]; exact if_pos z
theorem sk_e {f : Nat → Int32} {n q r : Nat} (h : r = skipF f q (n - q)) (z : q < n → ¬ f q = 32) : r = q := by
  rw [h]
  rcases Nat.lt_or_ge q n with y | y
  · rw [show n - q = (n - (q + 1)) + 1 by omega]; exact if_neg (z y)
  · rw [show n - q = 0 by omega]; rfl
def tkC (f : Nat → Int32) (n e : Nat) : Int32 := if lkJ f n e = n then -1 else if isL (f (lkJ f n e)) then -2 else if isDg (f (lkJ f n e)) then (if 999 < imin (numM f (lkJ f n e) 0 (n - lkJ f n e)) 1000 then -4 else -3) else if isSg (f (lkJ f n e)) then f (lkJ f n e) else -4
def vlC (vl : Int32) (f : Nat → Int32) (n e : Nat) : Int32 := if lkJ f n e = n then vl else if isL (f (lkJ f n e)) then vl else if isDg (f (lkJ f n e)) then imin (numM f (lkJ f n e) 0 (n - lkJ f n e)) 1000 else vl
set_option maxHeartbeats 4000000 in
set_option maxRecDepth 100000 in
theorem ct_X4_nextToken (ll : Launch) (g : GT) {h : Hp} {a by_ n e : Nat} {f : Nat → Int32} {st tk vl : Int32}  (ha : h a = some (ob 4 [.ref by_, .int (nI n), .int st, .int (nI e), .int tk, .int vl])) (hb : h by_ = some (ai g 100 f)) (hen : e ≤ n) (hn : n ≤ 100) : MF ll g yX4_nextToken cX4_nextToken 1 none (k2_rm 2 60) [.ref a] h none (hU h a (ob 4 [.ref by_, .int (nI n), .int (nI (lkJ f n e)), .int (nI (lkE f n e)), .int (tkC f n e), .int (vlC vl f n e)])) := by
  have hJ := (lkJ_le (f := f) hen).2
  have ne_1 : by_ ≠ a := hneb hb ha rfl
  refine mc_of (by decide) (Nat.le_of_ble_eq_true rfl) ?_
  intro K X r
  refine v_eqv (lv2 := [(0, .ref a)]) rfl ?_
  refine v_aload_n X dX4_nextToken_0 0 rfl ?_
  refine v_aload_n X dX4_nextToken_1 0 rfl ?_
  refine v_get X fX4_22 ha rfl dX4_nextToken_2 ?_
  refine v_putE (h2 := (hU h a (ob 4 [.ref by_, .int (nI n), .int (nI e), .int (nI e), .int tk, .int vl]))) X fX4_19 tyX4_ok nmX4 rfl pd_I ha rfl rfl (ltb rfl) dX4_nextToken_5 rfl ?_
  have C46 : ∀ (_ : True), VJ K 0 0 (hU h a (ob 4 [.ref by_, .int (nI n), .int (nI (lkJ f n e)), .int (nI e), .int tk, .int vl])) 46 [(0, .ref a)] [] := by
    intro _ 
    refine v_aload_n X dX4_nextToken_46 0 rfl ?_
    refine v_aload_n X dX4_nextToken_47 0 rfl ?_
    refine v_get X fX4_19 hU_s rfl dX4_nextToken_48 ?_
    refine v_putE (h2 := (hU h a (ob 4 [.ref by_, .int (nI n), .int (nI (lkJ f n e)), .int (nI (lkJ f n e)), .int tk, .int vl]))) X fX4_22 tyX4_ok nmX4 rfl pd_I hU_s rfl rfl (ltb rfl) dX4_nextToken_51 hU_u ?_
    refine v_aload_n X dX4_nextToken_54 0 rfl ?_
    refine v_get X fX4_19 hU_s rfl dX4_nextToken_55 ?_
    refine v_aload_n X dX4_nextToken_58 0 rfl ?_
    refine v_get X fX4_15 hU_s rfl dX4_nextToken_59 ?_
    refine v_icmp_lt X dX4_nextToken_62 (tgt := 73) (by decide) (fun c1 => ?_) (fun c1 => ?_)
    · have hJl : lkJ f n e < n := (nI_ltI (by omega) (by omega)).mp c1
      have hJe : ¬ lkJ f n e = n := by omega
      refine v_aload_n X dX4_nextToken_73 0 rfl ?_
      refine v_get X fX4_9 hU_s rfl dX4_nextToken_74 ?_
      refine v_aload_n X dX4_nextToken_77 0 rfl ?_
      refine v_get X fX4_19 hU_s rfl dX4_nextToken_78 ?_
      refine v_ialdK X (lkJ f n e) ((hU_n ne_1).trans hb) rfl (by omega) (by decide) dX4_nextToken_81 ?_
      refine v_cSi X [.int (f (lkJ f n e))] sX4_56 (ct_X4_isLetter ll g (f (lkJ f n e))) dX4_nextToken_82 rfl rfl ⟨rfl, rfl⟩ ⟨(Nat.le_of_ble_eq_true rfl), (Nat.le_of_ble_eq_true rfl)⟩ ⟨Nat.zero_le _, Nat.zero_le _⟩ (Nat.le_of_ble_eq_true rfl) ?_
      refine v_ifb_eq X dX4_nextToken_85 (tgt := 95) (by decide) (fun c2 => ?_) (fun c2 => ?_)
      · refine v_aload_n X dX4_nextToken_95 0 rfl ?_
        refine v_get X fX4_9 hU_s rfl dX4_nextToken_96 ?_
        refine v_aload_n X dX4_nextToken_99 0 rfl ?_
        refine v_get X fX4_19 hU_s rfl dX4_nextToken_100 ?_
        refine v_ialdK X (lkJ f n e) ((hU_n ne_1).trans hb) rfl (by omega) (by decide) dX4_nextToken_103 ?_
        refine v_cSi X [.int (f (lkJ f n e))] sX4_63 (ct_X4_isDigit ll g (f (lkJ f n e))) dX4_nextToken_104 rfl rfl ⟨rfl, rfl⟩ ⟨(Nat.le_of_ble_eq_true rfl), (Nat.le_of_ble_eq_true rfl)⟩ ⟨Nat.zero_le _, Nat.zero_le _⟩ (Nat.le_of_ble_eq_true rfl) ?_
        refine v_ifb_eq X dX4_nextToken_107 (tgt := 117) (by decide) (fun c3 => ?_) (fun c3 => ?_)
        · refine v_aload_n X dX4_nextToken_117 0 rfl ?_
          refine v_aload_n X dX4_nextToken_118 0 rfl ?_
          refine v_get X fX4_9 hU_s rfl dX4_nextToken_119 ?_
          refine v_aload_n X dX4_nextToken_122 0 rfl ?_
          refine v_get X fX4_19 hU_s rfl dX4_nextToken_123 ?_
          refine v_ialdK X (lkJ f n e) ((hU_n ne_1).trans hb) rfl (by omega) (by decide) dX4_nextToken_126 ?_
          refine v_cSi X [.int (f (lkJ f n e))] sX4_69 (ct_X4_isSign ll g (f (lkJ f n e))) dX4_nextToken_127 rfl rfl ⟨rfl, rfl⟩ ⟨(Nat.le_of_ble_eq_true rfl), (Nat.le_of_ble_eq_true rfl)⟩ ⟨Nat.zero_le _, Nat.zero_le _⟩ (Nat.le_of_ble_eq_true rfl) ?_
          have J1 : VJ K 0 0 (hU h a (ob 4 [.ref by_, .int (nI n), .int (nI (lkJ f n e)), .int (nI (lkJ f n e)), .int tk, .int vl])) 147 [(0, .ref a)] [.int (if isSg (f (lkJ f n e)) then f (lkJ f n e) else -4), .ref a] := by
            refine v_putE (h2 := (hU h a (ob 4 [.ref by_, .int (nI n), .int (nI (lkJ f n e)), .int (nI (lkJ f n e)), .int (if isSg (f (lkJ f n e)) then f (lkJ f n e) else -4), .int vl]))) X fX4_25 tyX4_ok nmX4 rfl pd_I hU_s rfl rfl (ltb rfl) dX4_nextToken_147 hU_u ?_
            refine v_aload_n X dX4_nextToken_150 0 rfl ?_
            refine v_aload_n X dX4_nextToken_151 0 rfl ?_
            refine v_get X fX4_19 hU_s rfl dX4_nextToken_152 ?_
            refine v_iconst X dX4_nextToken_155 (v := 1) (by decide) ?_
            refine v_iadd X dX4_nextToken_156 ?_
            refine v_putE (h2 := (hU h a (ob 4 [.ref by_, .int (nI n), .int (nI (lkJ f n e)), .int ((nI (lkJ f n e)) + 1), .int (if isSg (f (lkJ f n e)) then f (lkJ f n e) else -4), .int vl]))) X fX4_22 tyX4_ok nmX4 rfl pd_I hU_s rfl rfl (ltb rfl) dX4_nextToken_157 hU_u ?_
            exact v_vret X r dX4_nextToken_160 (Nat.le_refl _) (Nat.le_refl _) ⟨rfl, (by simp only [lkE, tkC, vlC, if_neg hJe, if_neg c2, if_neg c3, nI_1])⟩
          refine v_ifb_eq X dX4_nextToken_130 (tgt := 145) (by decide) (fun c4 => ?_) (fun c4 => ?_)
          · refine v_bipush X dX4_nextToken_145 (v := (-4)) (by decide) ?_
            exact v_eqi (if_neg c4).symm J1
          · refine v_aload_n X dX4_nextToken_133 0 rfl ?_
            refine v_get X fX4_9 hU_s rfl dX4_nextToken_134 ?_
            refine v_aload_n X dX4_nextToken_137 0 rfl ?_
            refine v_get X fX4_19 hU_s rfl dX4_nextToken_138 ?_
            refine v_ialdK X (lkJ f n e) ((hU_n ne_1).trans hb) rfl (by omega) (by decide) dX4_nextToken_141 ?_
            refine v_goto X dX4_nextToken_142 (tgt := 147) (by decide) ?_
            exact v_eqi (if_pos c4).symm J1
        · refine v_aload_n X dX4_nextToken_110 0 rfl ?_
          refine v_cVv X [] sX4_66 (ct_X4_takeNumber ll g  hU_s ((hU_n ne_1).trans hb) hJ hn) hU_s rfl dX4_nextToken_111 rfl rfl ⟨rfl, rfl⟩ ⟨(Nat.le_of_ble_eq_true rfl), (Nat.le_of_ble_eq_true rfl)⟩ ⟨Nat.zero_le _, Nat.zero_le _⟩ (Nat.le_of_ble_eq_true rfl) ?_
          refine v_eqh (h2 := (hU h a (ob 4 [.ref by_, .int (nI n), .int (nI (lkJ f n e)), .int (nI (digE f (lkJ f n e) (n - (lkJ f n e)))), .int (if 999 < imin (numM f (lkJ f n e) 0 (n - (lkJ f n e))) 1000 then -4 else -3), .int (imin (numM f (lkJ f n e) 0 (n - (lkJ f n e))) 1000)]))) hU_u ?_
          refine v_goto X dX4_nextToken_114 (tgt := 160) (by decide) ?_
          exact v_vret X r dX4_nextToken_160 (Nat.le_refl _) (Nat.le_refl _) ⟨rfl, (by simp only [lkE, tkC, vlC, if_neg hJe, if_neg c2, if_pos c3])⟩
      · refine v_aload_n X dX4_nextToken_88 0 rfl ?_
        refine v_cVv X [] sX4_60 (ct_X4_takeWord ll g  hU_s ((hU_n ne_1).trans hb) hJ hn) hU_s rfl dX4_nextToken_89 rfl rfl ⟨rfl, rfl⟩ ⟨(Nat.le_of_ble_eq_true rfl), (Nat.le_of_ble_eq_true rfl)⟩ ⟨Nat.zero_le _, Nat.zero_le _⟩ (Nat.le_of_ble_eq_true rfl) ?_
        refine v_eqh (h2 := (hU h a (ob 4 [.ref by_, .int (nI n), .int (nI (lkJ f n e)), .int (nI (wordE f (lkJ f n e) (n - (lkJ f n e)))), .int (-2), .int vl]))) hU_u ?_
        refine v_goto X dX4_nextToken_92 (tgt := 160) (by decide) ?_
        exact v_vret X r dX4_nextToken_160 (Nat.le_refl _) (Nat.le_refl _) ⟨rfl, (by simp only [lkE, tkC, vlC, if_neg hJe, if_pos c2])⟩
    · have hJe : lkJ f n e = n := by
        rcases Nat.lt_or_ge (lkJ f n e) n with z | z
        · exact absurd (nI_lt z (by omega)) c1
        · omega
      refine v_aload_n X dX4_nextToken_65 0 rfl ?_
      refine v_iconst X dX4_nextToken_66 (v := (-1)) (by decide) ?_
      refine v_putE (h2 := (hU h a (ob 4 [.ref by_, .int (nI n), .int (nI (lkJ f n e)), .int (nI (lkJ f n e)), .int (-1), .int vl]))) X fX4_25 tyX4_ok nmX4 rfl pd_I hU_s rfl rfl (ltb rfl) dX4_nextToken_67 hU_u ?_
      refine v_goto X dX4_nextToken_70 (tgt := 160) (by decide) ?_
      exact v_vret X r dX4_nextToken_160 (Nat.le_refl _) (Nat.le_refl _) ⟨rfl, (by simp only [lkE, tkC, vlC, if_pos hJe]; try rw [hJe])⟩
  have L8 : ∀ (N : Nat) (q : Nat), (q ≤ n) → (lkJ f n e = skipF f q (n - q)) → n - q < N → VJ K 0 0 (hU h a (ob 4 [.ref by_, .int (nI n), .int (nI q), .int (nI e), .int tk, .int vl])) 8 [(0, .ref a)] [] := by
    intro N
    induction N with
    | zero => intro q _ _ hm; exact absurd hm (Nat.not_lt_zero _)
    | succ N ih8 =>
      intro q hqq hq hm
      refine v_aload_n X dX4_nextToken_8 0 rfl ?_
      refine v_get X fX4_19 hU_s rfl dX4_nextToken_9 ?_
      refine v_aload_n X dX4_nextToken_12 0 rfl ?_
      refine v_get X fX4_15 hU_s rfl dX4_nextToken_13 ?_
      refine v_icmp_ge X dX4_nextToken_16 (tgt := 46) (by decide) (fun c5 => ?_) (fun c5 => ?_)
      · refine v_eqh (h2 := (hU h a (ob 4 [.ref by_, .int (nI n), .int (nI (lkJ f n e)), .int (nI e), .int tk, .int vl]))) (by rw [sk_e hq (fun y => absurd (nI_lt y (by omega)) (Int32.not_lt.mpr c5))]) ?_
        exact C46 trivial 
      · have hqn : q < n := by
          rcases Nat.lt_or_ge q n with z | z
          · exact z
          · exact absurd (nI_le z (by omega)) c5
        refine v_aload_n X dX4_nextToken_19 0 rfl ?_
        refine v_get X fX4_9 hU_s rfl dX4_nextToken_20 ?_
        refine v_aload_n X dX4_nextToken_23 0 rfl ?_
        refine v_get X fX4_19 hU_s rfl dX4_nextToken_24 ?_
        refine v_ialdK X q ((hU_n ne_1).trans hb) rfl (by omega) (by decide) dX4_nextToken_27 ?_
        refine v_bipush X dX4_nextToken_28 (v := 32) (by decide) ?_
        refine v_icmp_ne X dX4_nextToken_30 (tgt := 46) (by decide) (fun c6 => ?_) (fun c6 => ?_)
        · refine v_eqh (h2 := (hU h a (ob 4 [.ref by_, .int (nI n), .int (nI (lkJ f n e)), .int (nI e), .int tk, .int vl]))) (by rw [sk_e hq (fun _ => c6)]) ?_
          exact C46 trivial 
        · refine v_aload_n X dX4_nextToken_33 0 rfl ?_
          refine v_dup X dX4_nextToken_34 rfl ?_
          refine v_get X fX4_19 hU_s rfl dX4_nextToken_35 ?_
          refine v_iconst X dX4_nextToken_38 (v := 1) (by decide) ?_
          refine v_iadd X dX4_nextToken_39 ?_
          refine v_putE (h2 := (hU h a (ob 4 [.ref by_, .int (nI n), .int ((nI q) + 1), .int (nI e), .int tk, .int vl]))) X fX4_19 tyX4_ok nmX4 rfl pd_I hU_s rfl rfl (ltb rfl) dX4_nextToken_40 hU_u ?_
          refine v_goto X dX4_nextToken_43 (tgt := 8) (by decide) ?_
          refine v_eqh (h2 := (hU h a (ob 4 [.ref by_, .int (nI n), .int (nI (q + 1)), .int (nI e), .int tk, .int vl]))) (by rw [nI_1]) ?_
          exact ih8 (q + 1) (by omega) (sk_s hq hqn c6) (by omega)
  exact L8 _ e hen rfl (Nat.lt_succ_self _)
