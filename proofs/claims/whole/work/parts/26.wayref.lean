/-! ===== the reference's way() ===== -/
set_option maxHeartbeats 4000000 in
set_option maxRecDepth 100000 in
theorem ct_X8_way (ll : Launch) (g : GT) {h : Hp} {t : Nat} {A : Nat → Nat} {d k fo tape bits sz : Nat → Int32} {num : Nat → Int64} {hk tp : Int32} {nw n : Nat}  (hM : MW g h t A (d, k, hk, fo, tape, tp, bits, sz, num)) (h1 : d 1 = nI nw) (hn6 : nw ≤ 6) (ht : tp = nI n) (hn : n ≤ 100) : MC ll g yX8_way cX8_way 2 (some .int) { frames := 7, cells := 0, slots := 0, locals := 280 } [.ref t] h (fun r h2 => r = some (.int (op_way (d, k, hk, fo, tape, tp, bits, sz, num)).1) ∧ MW g h2 t A (op_way (d, k, hk, fo, tape, tp, bits, sz, num)).2) 0 0 := by
  have hM0 := hM
  obtain ⟨e, lf, sw0, sw1, pp, fr, tk, wd, vl, wr, m0, m1, m2, m3, m4, m5, m6, m7, m8, m9, n01, n02, n12, n56⟩ := hM0
  have qt : pr tp = n := ix_cl ht (by omega)
  have qw : pr (d 1) = nw := ix_cl h1 (by omega)
  have m0b : h t = some (ob 8 [.ref (A 0), .ref (A 1), .ref (A 2), .int hk, .ref (A 3), .int sw0, .int sw1, .ref (A 4), .int (nI n), .int pp, .int fr, .int tk, .int wd, .int vl, .int wr, .ref (A 5), .ref (A 6), .ref (A 7), .ref (A 8)]) := by rw [← ht]; exact m0
  have ne_1 : t ≠ (A 0) := hneb m0b m1 rfl
  have ne_2 : (A 4) ≠ (A 0) := hneb m5 m1 rfl
  have ne_3 : (A 4) ≠ t := hneb m5 m0b rfl
  refine mc_of (by decide) (Nat.le_of_ble_eq_true rfl) ?_
  intro K X r
  refine v_eqv (lv2 := [(0, .ref t)]) rfl ?_
  refine v_aload_n X dX8_way_0 0 rfl ?_
  refine v_get X fX8_9 m0b rfl dX8_way_1 ?_
  refine v_iconst X dX8_way_4 (v := 1) (by decide) ?_
  refine v_ialdK X 1 m1 (rfl : (1 : Int32) = nI 1) (by decide) (by decide) dX8_way_5 ?_
  refine v_bipush X dX8_way_6 (v := 6) (by decide) ?_
  refine v_icmp_ne X dX8_way_8 (tgt := 18) (by decide) (fun c1 => ?_) (fun c1 => ?_)
  · have hnw : nw < 6 := by
      rcases Nat.lt_or_ge nw 6 with z | z
      · exact z
      · exact absurd (h1.trans (show nI nw = 6 by rw [show nw = 6 by omega]; rfl)) c1
    refine v_bipush X dX8_way_18 (v := 110) (by decide) ?_
    refine v_bipush X dX8_way_20 (v := 25) (by decide) ?_
    refine v_aload_n X dX8_way_22 0 rfl ?_
    refine v_get X fX8_9 m0b rfl dX8_way_23 ?_
    refine v_iconst X dX8_way_26 (v := 1) (by decide) ?_
    refine v_ialdK X 1 m1 (rfl : (1 : Int32) = nI 1) (by decide) (by decide) dX8_way_27 ?_
    refine v_imul X dX8_way_28 ?_
    refine v_iadd X dX8_way_29 ?_
    refine v_istore_n (lv1 := [(1, .int (110 + (25 * (d 1)))), (0, .ref t)]) X dX8_way_30 (by decide) rfl ?_
    refine v_aload_n X dX8_way_31 1 rfl ?_
    refine v_get X fX8_9 m0b rfl dX8_way_32 ?_
    refine v_iload_n X dX8_way_35 0 rfl ?_
    refine v_iconst X dX8_way_36 (v := 0) (by decide) ?_
    refine v_iastK (h2 := (hU h (A 0) (ai g 260 (upd d (110 + (25 * nw)) 0)))) X (110 + (25 * nw)) m1 (ix_add (rfl : (110 : Int32) = nI 110) (ix_mul (rfl : (25 : Int32) = nI 25) h1)) (by omega) (by decide) dX8_way_37 rfl ?_
    refine v_aload_n X dX8_way_38 1 rfl ?_
    refine v_iconst X dX8_way_39 (v := 0) (by decide) ?_
    refine v_putE (h2 := (hU (hU h (A 0) (ai g 260 (upd d (110 + (25 * nw)) 0))) t (ob 8 [.ref (A 0), .ref (A 1), .ref (A 2), .int hk, .ref (A 3), .int sw0, .int sw1, .ref (A 4), .int (nI n), .int 0, .int fr, .int tk, .int wd, .int vl, .int wr, .ref (A 5), .ref (A 6), .ref (A 7), .ref (A 8)]))) X fX8_169 tyX8_ok nmX8 rfl pd_I ((hU_n ne_1).trans m0b) rfl rfl (ltb rfl) dX8_way_40 rfl ?_
    refine v_aload_n X dX8_way_43 1 rfl ?_
    refine v_iconst X dX8_way_44 (v := 0) (by decide) ?_
    refine v_putE (h2 := (hU (hU h (A 0) (ai g 260 (upd d (110 + (25 * nw)) 0))) t (ob 8 [.ref (A 0), .ref (A 1), .ref (A 2), .int hk, .ref (A 3), .int sw0, .int sw1, .ref (A 4), .int (nI n), .int 0, .int fr, .int tk, .int wd, .int vl, .int 0, .ref (A 5), .ref (A 6), .ref (A 7), .ref (A 8)]))) X fX8_200 tyX8_ok nmX8 rfl pd_Z hU_s rfl rfl (ltb rfl) dX8_way_45 hU_u ?_
    refine v_eqh (h2 := (hU (hU h (A 0) (ai g 260 (upd d (110 + (25 * nw)) 0))) t (ob 8 [.ref (A 0), .ref (A 1), .ref (A 2), .int hk, .ref (A 3), .int sw0, .int sw1, .ref (A 4), .int (nI n), .int 0, .int fr, .int tk, .int wd, .int vl, .int (bI False), .ref (A 5), .ref (A 6), .ref (A 7), .ref (A 8)]))) rfl ?_
    refine v_aload_n X dX8_way_48 1 rfl ?_
    refine v_cVv X [] sX8_235 (ct_X8_look (a := 0) (n := n) ll g hU_s ((hU_n ne_3).trans ((hU_n ne_2).trans m5)) (Nat.zero_le _) hn) hU_s rfl dX8_way_49 rfl rfl ⟨rfl, rfl⟩ ⟨(Nat.le_of_ble_eq_true rfl), (Nat.le_of_ble_eq_true rfl)⟩ ⟨Nat.zero_le _, Nat.zero_le _⟩ (Nat.le_of_ble_eq_true rfl) ?_
    refine v_eqh (h2 := (hU (hU h (A 0) (ai g 260 (upd d (110 + (25 * nw)) 0))) t (ob 8 [.ref (A 0), .ref (A 1), .ref (A 2), .int hk, .ref (A 3), .int sw0, .int sw1, .ref (A 4), .int (nI n), .int (nI (lkE tape n 0)), .int (nI (lkJ tape n 0)), .int (lkT tape n 0), .int (lkW tape n 0), .int (lkV tape n 0), .int (bI False), .ref (A 5), .ref (A 6), .ref (A 7), .ref (A 8)]))) hU_u ?_
    refine v_aload_n X dX8_way_52 1 rfl ?_
    refine v_iload_n X dX8_way_53 0 rfl ?_
    refine v_cVv X [.int (110 + (25 * (d 1)))] sX8_248 (ct_X8_reads (w := 110 + (25 * nw)) (a := 0) (m := 0) ll g  hU_s ((hU_n ne_3).trans ((hU_n ne_2).trans m5)) ((hU_n (Ne.symm ne_1)).trans hU_s) (ix_add (rfl : (110 : Int32) = nI 110) (ix_mul (rfl : (25 : Int32) = nI 25) h1)) (by omega) pk_us (Nat.zero_le _) (Nat.zero_le _) hn) hU_s rfl dX8_way_54 rfl rfl ⟨rfl, rfl⟩ ⟨(Nat.le_of_ble_eq_true rfl), (Nat.le_of_ble_eq_true rfl)⟩ ⟨Nat.zero_le _, Nat.zero_le _⟩ (Nat.le_of_ble_eq_true rfl) ?_
    refine v_eqh (h2 := (hU (hU h (A 0) (ai g 260 (rdD tape n 0 (upd d (110 + (25 * nw)) 0) (110 + (25 * nw)) ((110 + (25 * nw)) + 1 + 4 * 0)))) t (ob 8 [.ref (A 0), .ref (A 1), .ref (A 2), .int hk, .ref (A 3), .int sw0, .int sw1, .ref (A 4), .int (nI n), .int (nI (lkE tape n (rdA tape n 0 (upd d (110 + (25 * nw)) 0) (110 + (25 * nw))))), .int (nI (lkJ tape n (rdA tape n 0 (upd d (110 + (25 * nw)) 0) (110 + (25 * nw))))), .int (lkT tape n (rdA tape n 0 (upd d (110 + (25 * nw)) 0) (110 + (25 * nw)))), .int (lkW tape n (rdA tape n 0 (upd d (110 + (25 * nw)) 0) (110 + (25 * nw)))), .int (lkV tape n (rdA tape n 0 (upd d (110 + (25 * nw)) 0) (110 + (25 * nw)))), .int (bI (¬ rdOk tape n 0 (upd d (110 + (25 * nw)) 0) (110 + (25 * nw)))), .ref (A 5), .ref (A 6), .ref (A 7), .ref (A 8)]))) (Eq.trans (congrArg (fun z => hU (z) (A 0) (ai g 260 (rdD tape n 0 (upd d (110 + (25 * nw)) 0) (110 + (25 * nw)) ((110 + (25 * nw)) + 1 + 4 * 0)))) hU_u) (hU_u2 ne_1)) ?_
    have C100 : ∀ (p : Nat) (E : Nat → Int32) (W : Prop) [Decidable W], (W → wyF tape n (110 + 25 * nw) 7 0 (upd d (110 + 25 * nw) 0) 0 = (false, p, E)) → (¬ W → wyF tape n (110 + 25 * nw) 7 0 (upd d (110 + 25 * nw) 0) 0 = (true, p, E)) → VJ K 0 0 (hU (hU h (A 0) (ai g 260 E)) t (ob 8 [.ref (A 0), .ref (A 1), .ref (A 2), .int hk, .ref (A 3), .int sw0, .int sw1, .ref (A 4), .int (nI n), .int (nI (lkE tape n p)), .int (nI (lkJ tape n p)), .int (lkT tape n p), .int (lkW tape n p), .int (lkV tape n p), .int (bI (W)), .ref (A 5), .ref (A 6), .ref (A 7), .ref (A 8)])) 100 [(0, .ref t), (1, .int (110 + 25 * d 1))] [] := by
      intro p E W iW hWf hWt
      refine v_aload_n X dX8_way_100 0 rfl ?_
      refine v_iconst X dX8_way_101 (v := 0) (by decide) ?_
      refine v_putE (h2 := (hU (hU h (A 0) (ai g 260 E)) t (ob 8 [.ref (A 0), .ref (A 1), .ref (A 2), .int hk, .ref (A 3), .int sw0, .int sw1, .ref (A 4), .int 0, .int (nI (lkE tape n p)), .int (nI (lkJ tape n p)), .int (lkT tape n p), .int (lkW tape n p), .int (lkV tape n p), .int (bI (W)), .ref (A 5), .ref (A 6), .ref (A 7), .ref (A 8)]))) X fX8_166 tyX8_ok nmX8 rfl pd_I hU_s rfl rfl (ltb rfl) dX8_way_102 hU_u ?_
      refine v_aload_n X dX8_way_105 0 rfl ?_
      refine v_get X fX8_200 hU_s rfl dX8_way_106 ?_
      refine v_ifb_eq X dX8_way_109 (tgt := 119) (by decide) (fun c2 => ?_) (fun c2 => ?_)
      · refine v_aload_n X dX8_way_119 0 rfl ?_
        refine v_get X fX8_9 hU_s rfl dX8_way_120 ?_
        refine v_iconst X dX8_way_123 (v := 1) (by decide) ?_
        refine v_dup2 X dX8_way_124 rfl rfl ?_
        refine v_ialdK X 1 ((hU_n (Ne.symm ne_1)).trans hU_s) (rfl : (1 : Int32) = nI 1) (by decide) (by decide) dX8_way_125 ?_
        refine v_iconst X dX8_way_126 (v := 1) (by decide) ?_
        refine v_iadd X dX8_way_127 ?_
        refine v_iastK (h2 := (hU (hU h (A 0) (ai g 260 (upd E 1 ((E 1) + 1)))) t (ob 8 [.ref (A 0), .ref (A 1), .ref (A 2), .int hk, .ref (A 3), .int sw0, .int sw1, .ref (A 4), .int 0, .int (nI (lkE tape n p)), .int (nI (lkJ tape n p)), .int (lkT tape n p), .int (lkW tape n p), .int (lkV tape n p), .int (bI (W)), .ref (A 5), .ref (A 6), .ref (A 7), .ref (A 8)]))) X 1 ((hU_n (Ne.symm ne_1)).trans hU_s) (rfl : (1 : Int32) = nI 1) (by decide) (by decide) dX8_way_128 (hU_u2 ne_1) ?_
        refine v_aload_n X dX8_way_129 0 rfl ?_
        refine v_get X fX8_9 hU_s rfl dX8_way_130 ?_
        refine v_iconst X dX8_way_133 (v := 1) (by decide) ?_
        refine v_ialdK X 1 ((hU_n (Ne.symm ne_1)).trans hU_s) (rfl : (1 : Int32) = nI 1) (by decide) (by decide) dX8_way_134 ?_
        refine v_eqi (y := (E 1) + 1) pk_us ?_
        refine v_iconst X dX8_way_135 (v := 1) (by decide) ?_
        refine v_isub X dX8_way_136 ?_
        have eqr : op_way (d, k, hk, fo, tape, tp, bits, sz, num) = (((E 1) + 1) - 1, (upd E 1 ((E 1) + 1), k, hk, fo, tape, 0, bits, sz, num)) := by unfold op_way; dsimp only; rw [if_neg c1, qw, qt, hWt c2]; rfl
        exact v_iret X r dX8_way_137 (Nat.le_refl _) (Nat.le_refl _) ⟨by rw [eqr], by rw [eqr]; exact (MW_ob (MW_d hM _) _ _ _ _ _ _ _ _ _ _)⟩
      · refine v_iconst X dX8_way_112 (v := (-1)) (by decide) ?_
        refine v_aload_n X dX8_way_113 0 rfl ?_
        refine v_get X fX8_172 hU_s rfl dX8_way_114 ?_
        refine v_isub X dX8_way_117 ?_
        have eqr : op_way (d, k, hk, fo, tape, tp, bits, sz, num) = ((-1) - (nI (lkJ tape n p)), (E, k, hk, fo, tape, 0, bits, sz, num)) := by unfold op_way; dsimp only; rw [if_neg c1, qw, qt, hWf c2]; rfl
        exact v_iret X r dX8_way_118 (Nat.le_refl _) (Nat.le_refl _) ⟨by rw [eqr], by rw [eqr]; exact (MW_ob (MW_d hM _) _ _ _ _ _ _ _ _ _ _)⟩
    have L57 : ∀ (N : Nat) (a : Nat) (D : Nat → Int32) (m : Nat), (a ≤ n) → (D (110 + 25 * nw) = nI m) → (m ≤ 6) → (wyF tape n (110 + 25 * nw) 7 0 (upd d (110 + 25 * nw) 0) 0 = wyF tape n (110 + 25 * nw) (7 - m) m D a) → 7 - m < N → VJ K 0 0 (hU (hU h (A 0) (ai g 260 (rdD tape n a D (110 + 25 * nw) (110 + 25 * nw + 1 + 4 * m)))) t (ob 8 [.ref (A 0), .ref (A 1), .ref (A 2), .int hk, .ref (A 3), .int sw0, .int sw1, .ref (A 4), .int (nI n), .int (nI (lkE tape n (rdA tape n a D (110 + 25 * nw)))), .int (nI (lkJ tape n (rdA tape n a D (110 + 25 * nw)))), .int (lkT tape n (rdA tape n a D (110 + 25 * nw))), .int (lkW tape n (rdA tape n a D (110 + 25 * nw))), .int (lkV tape n (rdA tape n a D (110 + 25 * nw))), .int (bI (¬ rdOk tape n a D (110 + 25 * nw))), .ref (A 5), .ref (A 6), .ref (A 7), .ref (A 8)])) 57 [(0, .ref t), (1, .int (110 + 25 * d 1))] [] := by
      intro N
      induction N with
      | zero => intro a D m _ _ _ _ hm; exact absurd hm (Nat.not_lt_zero _)
      | succ N ih57 =>
        intro a D m ha hmm hm7 hq hm
        refine v_aload_n X dX8_way_57 0 rfl ?_
        refine v_get X fX8_200 hU_s rfl dX8_way_58 ?_
        refine v_ifb_ne X dX8_way_61 (tgt := 100) (by decide) (fun c3 => ?_) (fun c3 => ?_)
        · exact C100 (rdA tape n a D (110 + 25 * nw)) (rdD tape n a D (110 + 25 * nw) (110 + 25 * nw + 1 + 4 * m)) (¬ rdOk tape n a D (110 + 25 * nw)) (fun z => wyF_f hq (fun y => z y.1)) (fun z => absurd c3 z)
        · have hok : rdOk tape n a D (110 + 25 * nw) := Classical.byContradiction c3
          have hm6 : m < 6 := dlt6 hmm hm7 hok.1.2
          have hq2 : wyF tape n (110 + 25 * nw) 7 0 (upd d (110 + 25 * nw) 0) 0 = wyF tape n (110 + 25 * nw) (7 - (m + 1) + 1) m D a := hq.trans (by rw [show 7 - m = 7 - (m + 1) + 1 by omega])
          refine v_aload_n X dX8_way_64 0 rfl ?_
          refine v_get X fX8_181 hU_s rfl dX8_way_65 ?_
          refine v_if_eq X dX8_way_68 (tgt := 100) (by decide) (fun c4 => ?_) (fun c4 => ?_)
          · exact C100 (rdA tape n a D (110 + 25 * nw)) (rdD tape n a D (110 + 25 * nw) (110 + 25 * nw + 1 + 4 * m)) (¬ rdOk tape n a D (110 + 25 * nw)) (fun z => absurd hok z) (fun _ => wyF_t hq2 hok c4)
          · refine v_aload_n X dX8_way_71 0 rfl ?_
            refine v_aload_n X dX8_way_72 0 rfl ?_
            refine v_bipush X dX8_way_73 (v := 59) (by decide) ?_
            refine v_cVi X [.int 59] sX8_228 (ct_X8_isSign ll g 59 hU_s) hU_s rfl dX8_way_75 rfl rfl ⟨rfl, rfl⟩ ⟨(Nat.le_of_ble_eq_true rfl), (Nat.le_of_ble_eq_true rfl)⟩ ⟨Nat.zero_le _, Nat.zero_le _⟩ (Nat.le_of_ble_eq_true rfl) ?_
            refine v_cVv X [.int (bI (sgAt tape n (rdA tape n a D (110 + 25 * nw)) 59))] sX8_231 (ct_X8_must (W := ¬ rdOk tape n a D (110 + 25 * nw)) (P := sgAt tape n (rdA tape n a D (110 + 25 * nw)) 59) ll g hU_s) hU_s rfl dX8_way_78 rfl rfl ⟨rfl, rfl⟩ ⟨(Nat.le_of_ble_eq_true rfl), (Nat.le_of_ble_eq_true rfl)⟩ ⟨Nat.zero_le _, Nat.zero_le _⟩ (Nat.le_of_ble_eq_true rfl) ?_
            refine v_eqh (h2 := (hU (hU h (A 0) (ai g 260 (rdD tape n a D (110 + 25 * nw) (110 + 25 * nw + 1 + 4 * m)))) t (ob 8 [.ref (A 0), .ref (A 1), .ref (A 2), .int hk, .ref (A 3), .int sw0, .int sw1, .ref (A 4), .int (nI n), .int (nI (lkE tape n (rdA tape n a D (110 + 25 * nw)))), .int (nI (lkJ tape n (rdA tape n a D (110 + 25 * nw)))), .int (lkT tape n (rdA tape n a D (110 + 25 * nw))), .int (lkW tape n (rdA tape n a D (110 + 25 * nw))), .int (lkV tape n (rdA tape n a D (110 + 25 * nw))), .int (bI ((¬ rdOk tape n a D (110 + 25 * nw)) ∨ ¬ (sgAt tape n (rdA tape n a D (110 + 25 * nw)) 59))), .ref (A 5), .ref (A 6), .ref (A 7), .ref (A 8)]))) hU_u ?_
            refine v_aload_n X dX8_way_81 0 rfl ?_
            refine v_get X fX8_200 hU_s rfl dX8_way_82 ?_
            refine v_ifb_ne X dX8_way_85 (tgt := 57) (by decide) (fun cx => ?_) (fun cx => ?_)
            · refine v_aload_n X dX8_way_57 0 rfl ?_
              refine v_get X fX8_200 hU_s rfl dX8_way_58 ?_
              refine v_ifb_ne X dX8_way_61 (tgt := 100) (by decide) (fun _ => ?_) (fun z => absurd cx z)
              exact C100 (rdA tape n a D (110 + 25 * nw)) (rdD tape n a D (110 + 25 * nw) (110 + 25 * nw + 1 + 4 * m)) ((¬ rdOk tape n a D (110 + 25 * nw)) ∨ ¬ (sgAt tape n (rdA tape n a D (110 + 25 * nw)) 59)) (fun _ => wyF_f hq (fun y => y.2.elim c4 (fun q => cx.elim (fun z => z y.1) (fun z => z q)))) (fun z => absurd cx z)
            · have c99 := cx
              have hsg : sgAt tape n (rdA tape n a D (110 + 25 * nw)) 59 := Classical.byContradiction fun y => c99 (Or.inr y)
              refine v_eqh (h2 := (hU (hU h (A 0) (ai g 260 (rdD tape n a D (110 + 25 * nw) (110 + 25 * nw + 1 + 4 * m)))) t (ob 8 [.ref (A 0), .ref (A 1), .ref (A 2), .int hk, .ref (A 3), .int sw0, .int sw1, .ref (A 4), .int (nI n), .int (nI (lkE tape n (rdA tape n a D (110 + 25 * nw)))), .int (nI (lkJ tape n (rdA tape n a D (110 + 25 * nw)))), .int (lkT tape n (rdA tape n a D (110 + 25 * nw))), .int (lkW tape n (rdA tape n a D (110 + 25 * nw))), .int (lkV tape n (rdA tape n a D (110 + 25 * nw))), .int (bI (False)), .ref (A 5), .ref (A 6), .ref (A 7), .ref (A 8)]))) (by rw [bI_nF c99]) ?_
              refine v_aload_n X dX8_way_88 0 rfl ?_
              refine v_cVv X [] sX8_235 (ct_X8_look (a := lkE tape n (rdA tape n a D (110 + 25 * nw))) (n := n) ll g hU_s ((hU_n ne_3).trans ((hU_n ne_2).trans m5)) (lkE_le (rdA_le ha)) hn) hU_s rfl dX8_way_89 rfl rfl ⟨rfl, rfl⟩ ⟨(Nat.le_of_ble_eq_true rfl), (Nat.le_of_ble_eq_true rfl)⟩ ⟨Nat.zero_le _, Nat.zero_le _⟩ (Nat.le_of_ble_eq_true rfl) ?_
              refine v_eqh (h2 := (hU (hU h (A 0) (ai g 260 (rdD tape n a D (110 + 25 * nw) (110 + 25 * nw + 1 + 4 * m)))) t (ob 8 [.ref (A 0), .ref (A 1), .ref (A 2), .int hk, .ref (A 3), .int sw0, .int sw1, .ref (A 4), .int (nI n), .int (nI (lkE tape n (lkE tape n (rdA tape n a D (110 + 25 * nw))))), .int (nI (lkJ tape n (lkE tape n (rdA tape n a D (110 + 25 * nw))))), .int (lkT tape n (lkE tape n (rdA tape n a D (110 + 25 * nw)))), .int (lkW tape n (lkE tape n (rdA tape n a D (110 + 25 * nw)))), .int (lkV tape n (lkE tape n (rdA tape n a D (110 + 25 * nw)))), .int (bI (False)), .ref (A 5), .ref (A 6), .ref (A 7), .ref (A 8)]))) hU_u ?_
              refine v_aload_n X dX8_way_92 0 rfl ?_
              refine v_iload_n X dX8_way_93 1 rfl ?_
              refine v_cVv X [.int (110 + 25 * d 1)] sX8_248 (ct_X8_reads (w := 110 + 25 * nw) (a := lkE tape n (rdA tape n a D (110 + 25 * nw))) (m := m + 1) ll g  hU_s ((hU_n ne_3).trans ((hU_n ne_2).trans m5)) ((hU_n (Ne.symm ne_1)).trans hU_s) (ix_add (rfl : (110 : Int32) = nI 110) (ix_mul (rfl : (25 : Int32) = nI 25) h1)) (by omega) (rdD_w (by omega) hmm hok) (by omega) (lkE_le (rdA_le ha)) hn) hU_s rfl dX8_way_94 rfl rfl ⟨rfl, rfl⟩ ⟨(Nat.le_of_ble_eq_true rfl), (Nat.le_of_ble_eq_true rfl)⟩ ⟨Nat.zero_le _, Nat.zero_le _⟩ (Nat.le_of_ble_eq_true rfl) ?_
              refine v_eqh (h2 := (hU (hU h (A 0) (ai g 260 (rdD tape n (lkE tape n (rdA tape n a D (110 + 25 * nw))) (rdD tape n a D (110 + 25 * nw) (110 + 25 * nw + 1 + 4 * m)) (110 + 25 * nw) ((110 + 25 * nw) + 1 + 4 * (m + 1))))) t (ob 8 [.ref (A 0), .ref (A 1), .ref (A 2), .int hk, .ref (A 3), .int sw0, .int sw1, .ref (A 4), .int (nI n), .int (nI (lkE tape n (rdA tape n (lkE tape n (rdA tape n a D (110 + 25 * nw))) (rdD tape n a D (110 + 25 * nw) (110 + 25 * nw + 1 + 4 * m)) (110 + 25 * nw)))), .int (nI (lkJ tape n (rdA tape n (lkE tape n (rdA tape n a D (110 + 25 * nw))) (rdD tape n a D (110 + 25 * nw) (110 + 25 * nw + 1 + 4 * m)) (110 + 25 * nw)))), .int (lkT tape n (rdA tape n (lkE tape n (rdA tape n a D (110 + 25 * nw))) (rdD tape n a D (110 + 25 * nw) (110 + 25 * nw + 1 + 4 * m)) (110 + 25 * nw))), .int (lkW tape n (rdA tape n (lkE tape n (rdA tape n a D (110 + 25 * nw))) (rdD tape n a D (110 + 25 * nw) (110 + 25 * nw + 1 + 4 * m)) (110 + 25 * nw))), .int (lkV tape n (rdA tape n (lkE tape n (rdA tape n a D (110 + 25 * nw))) (rdD tape n a D (110 + 25 * nw) (110 + 25 * nw + 1 + 4 * m)) (110 + 25 * nw))), .int (bI (¬ rdOk tape n (lkE tape n (rdA tape n a D (110 + 25 * nw))) (rdD tape n a D (110 + 25 * nw) (110 + 25 * nw + 1 + 4 * m)) (110 + 25 * nw))), .ref (A 5), .ref (A 6), .ref (A 7), .ref (A 8)]))) (Eq.trans (congrArg (fun z => hU (z) (A 0) (ai g 260 (rdD tape n (lkE tape n (rdA tape n a D (110 + 25 * nw))) (rdD tape n a D (110 + 25 * nw) (110 + 25 * nw + 1 + 4 * m)) (110 + 25 * nw) ((110 + 25 * nw) + 1 + 4 * (m + 1))))) hU_u) (hU_u2 ne_1)) ?_
              refine v_goto X dX8_way_97 (tgt := 57) (by decide) ?_
              exact ih57 (lkE tape n (rdA tape n a D (110 + 25 * nw))) (rdD tape n a D (110 + 25 * nw) (110 + 25 * nw + 1 + 4 * m)) (m + 1) (lkE_le (rdA_le ha)) (rdD_w (by omega) hmm hok) (by omega) (wyF_s hq2 hok c4 hsg) (by omega)
    refine v_lv (lv2 := [(0, .ref t), (1, .int (110 + (25 * (d 1))))]) [1, 0] rfl ?_
    exact L57 _ 0 (upd d (110 + 25 * nw) 0) 0 (Nat.zero_le _) pk_us (Nat.zero_le _) rfl (Nat.lt_succ_self _)
  · refine v_aload_n X dX8_way_11 0 rfl ?_
    refine v_ldc X dX8_way_12 kX8_55 ?_
    refine v_cVi X [.int (-1000000002)] sX8_51 (ct_X8_finds (j := 1) ll g m0b m4 (by decide) (by decide)) m0b rfl dX8_way_14 rfl rfl ⟨rfl, rfl⟩ ⟨(Nat.le_of_ble_eq_true rfl), (Nat.le_of_ble_eq_true rfl)⟩ ⟨Nat.zero_le _, Nat.zero_le _⟩ (Nat.le_of_ble_eq_true rfl) ?_
    have eqr : op_way (d, k, hk, fo, tape, tp, bits, sz, num) = ((-1000000002), (d, k, hk, fnd fo 1, tape, tp, bits, sz, num)) := by unfold op_way; dsimp only; rw [if_pos c1]
    exact v_iret X r dX8_way_17 (Nat.le_refl _) (Nat.le_refl _) ⟨by rw [eqr], by rw [eqr]; exact (MW_fo hM _)⟩
