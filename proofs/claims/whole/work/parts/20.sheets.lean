/-! ===== sheets: the reference's calls ===== -/
set_option maxHeartbeats 4000000 in
set_option maxRecDepth 100000 in
theorem ct_X8_feed (ll : Launch) (g : GT) {h : Hp} {t : Nat} {A : Nat → Nat} {d k fo tape bits sz : Nat → Int32} {num : Nat → Int64} {hk tp : Int32} {tq : Nat}  (bytes : Int32) (n : Int32) (hM : MW g h t A (d, k, hk, fo, tape, tp, bits, sz, num)) (ht : tp = nI tq) (htq : tq ≤ 100) : MC ll g yX8_feed cX8_feed 4 (some .int) { frames := 1, cells := 0, slots := 0, locals := 50 } [.ref t, .int bytes, .int n] h (fun r h2 => r = some (.int (op_feed (d, k, hk, fo, tape, tp, bits, sz, num) bytes n).1) ∧ MW g h2 t A (op_feed (d, k, hk, fo, tape, tp, bits, sz, num) bytes n).2) 0 0 := by
  have hM0 := hM
  obtain ⟨e, lf, sw0, sw1, pp, fr, tk, wd, vl, wr, m0, m1, m2, m3, m4, m5, m6, m7, m8, m9, n01, n02, n12, n56⟩ := hM0
  have ne_1 : (A 4) ≠ t := hneb m5 m0 rfl
  refine mc_of (by decide) (Nat.le_of_ble_eq_true rfl) ?_
  intro K X r
  refine v_eqv (lv2 := [(0, .ref t), (1, .int bytes), (2, .int n)]) rfl ?_
  refine v_iload_n X dX8_feed_0 2 rfl ?_
  refine v_i2l X dX8_feed_1 ?_
  refine v_lconst X dX8_feed_2 (v := 1) (by decide) ?_
  refine v_ldc2 X dX8_feed_3 kX8_82 ?_
  refine v_cSi X [.long n.toInt64, .long (1 : Int64), .long (4 : Int64)] sX8_39 (ct_X8_in (v := n) (lo := 1) (hi := 4) ll g rfl (by decide) (by decide)) dX8_feed_6 rfl rfl ⟨rfl, rfl⟩ ⟨(Nat.le_of_ble_eq_true rfl), (Nat.le_of_ble_eq_true rfl)⟩ ⟨Nat.zero_le _, Nat.zero_le _⟩ (Nat.le_of_ble_eq_true rfl) ?_
  refine v_ifb_ne X dX8_feed_9 (tgt := 19) (by decide) (fun c1 => ?_) (fun c1 => ?_)
  · refine v_aload_n X dX8_feed_19 0 rfl ?_
    refine v_get X fX8_166 m0 rfl dX8_feed_20 ?_
    refine v_iload_n X dX8_feed_23 2 rfl ?_
    refine v_iadd X dX8_feed_24 ?_
    refine v_bipush X dX8_feed_25 (v := 100) (by decide) ?_
    refine v_icmp_le X dX8_feed_27 (tgt := 37) (by decide) (fun c2 => ?_) (fun c2 => ?_)
    · obtain ⟨nn, hn1, hn4, en⟩ := wi_1 4 rfl (by decide) c1
      have qn : pr n = nn := ix_cl en (by omega)
      have qt : pr tp = tq := ix_cl ht (by omega)
      have hle : tq + nn ≤ 100 := (nI_leI (by omega) (by decide)).mp (by have z := c2; rw [ht, en, nI_add] at z; exact z)
      refine v_iload_n X dX8_feed_37 2 rfl ?_
      refine v_iconst X dX8_feed_38 (v := 1) (by decide) ?_
      refine v_isub X dX8_feed_39 ?_
      refine v_istore_n (lv1 := [(3, .int (n - 1)), (0, .ref t), (1, .int bytes), (2, .int n)]) X dX8_feed_40 (by decide) rfl ?_
      have L41 : ∀ (N : Nat) (q : Nat) (mm : Nat → Int32), (q ≤ nn) → (feedF bytes tape tq nn = feedF bytes mm (tq + nn - q) q) → q < N → VJ K 0 0 (hU (hU h (A 4) (ai g 100 mm)) t (ob 8 [.ref (A 0), .ref (A 1), .ref (A 2), .int hk, .ref (A 3), .int sw0, .int sw1, .ref (A 4), .int (nI (tq + nn - q)), .int pp, .int fr, .int tk, .int wd, .int vl, .int wr, .ref (A 5), .ref (A 6), .ref (A 7), .ref (A 8)])) 41 [(0, .ref t), (1, .int bytes), (2, .int n), (3, .int (latI q))] [] := by
        intro N
        induction N with
        | zero => intro q mm _ _ hm; exact absurd hm (Nat.not_lt_zero _)
        | succ N ih41 =>
          intro q mm hqq hq hm
          refine v_iload_n X dX8_feed_41 3 rfl ?_
          refine v_if_lt X dX8_feed_42 (tgt := 80) (by decide) (fun c3 => ?_) (fun c3 => ?_)
          · have hq0 : q = 0 := (lat_0 (by omega)).mp c3
            refine v_aload_n X dX8_feed_80 0 rfl ?_
            refine v_get X fX8_166 hU_s rfl dX8_feed_81 ?_
            have eqr : op_feed (d, k, hk, fo, tape, tp, bits, sz, num) bytes n = (nI (tq + nn - q), (d, k, hk, fo, mm, nI (tq + nn - q), bits, sz, num)) := by unfold op_feed; dsimp only; have hm2 : feedF bytes tape tq nn = mm := (by rw [hq, hq0]; rfl); rw [if_pos c1, if_pos c2, qn, qt, hm2, hq0, ht, en, nI_add]; rfl
            exact v_iret X r dX8_feed_84 (Nat.le_refl _) (Nat.le_refl _) ⟨by rw [eqr], by rw [eqr]; exact (MW_ob (MW_tape hM _) _ _ _ _ _ _ _ _ _ _)⟩
          · have hq0 : 0 < q := by
              rcases Nat.eq_zero_or_pos q with z | z
              · exact absurd ((lat_0 (by omega)).mpr z) c3
              · exact z
            refine v_eqv (lv2 := [(0, .ref t), (1, .int bytes), (2, .int n), (3, .int (nI (q - 1)))]) (by rw [lat_s hq0]) ?_
            refine v_aload_n X dX8_feed_45 0 rfl ?_
            refine v_get X fX8_22 hU_s rfl dX8_feed_46 ?_
            refine v_aload_n X dX8_feed_49 0 rfl ?_
            refine v_get X fX8_166 hU_s rfl dX8_feed_50 ?_
            refine v_iload_n X dX8_feed_53 1 rfl ?_
            refine v_bipush X dX8_feed_54 (v := 8) (by decide) ?_
            refine v_iload_n X dX8_feed_56 3 rfl ?_
            refine v_imul X dX8_feed_57 ?_
            refine v_ishr X dX8_feed_58 ?_
            refine v_sipush X dX8_feed_59 (v := 255) (by decide) ?_
            refine v_iand X dX8_feed_62 ?_
            refine v_iastK (h2 := (hU (hU h (A 4) (ai g 100 (upd mm (tq + nn - q) ((bytes >>> ((8 * (nI (q - 1))) &&& 31)) &&& 255)))) t (ob 8 [.ref (A 0), .ref (A 1), .ref (A 2), .int hk, .ref (A 3), .int sw0, .int sw1, .ref (A 4), .int (nI (tq + nn - q)), .int pp, .int fr, .int tk, .int wd, .int vl, .int wr, .ref (A 5), .ref (A 6), .ref (A 7), .ref (A 8)]))) X (tq + nn - q) ((hU_n ne_1).trans hU_s) rfl (by omega) (by decide) dX8_feed_63 (hU_u2 (Ne.symm ne_1)) ?_
            refine v_aload_n X dX8_feed_64 0 rfl ?_
            refine v_dup X dX8_feed_65 rfl ?_
            refine v_get X fX8_166 hU_s rfl dX8_feed_66 ?_
            refine v_iconst X dX8_feed_69 (v := 1) (by decide) ?_
            refine v_iadd X dX8_feed_70 ?_
            refine v_putE (h2 := (hU (hU h (A 4) (ai g 100 (upd mm (tq + nn - q) ((bytes >>> ((8 * (nI (q - 1))) &&& 31)) &&& 255)))) t (ob 8 [.ref (A 0), .ref (A 1), .ref (A 2), .int hk, .ref (A 3), .int sw0, .int sw1, .ref (A 4), .int ((nI (tq + nn - q)) + 1), .int pp, .int fr, .int tk, .int wd, .int vl, .int wr, .ref (A 5), .ref (A 6), .ref (A 7), .ref (A 8)]))) X fX8_166 tyX8_ok nmX8 rfl pd_I hU_s rfl rfl (ltb rfl) dX8_feed_71 hU_u ?_
            refine v_eqv (lv2 := [(0, .ref t), (1, .int bytes), (2, .int n), (3, .int (latI q))]) (by rw [lat_s hq0]) ?_
            refine v_iinc (v := (latI q) + (-1)) (lv1 := [(3, .int ((latI q) + (-1))), (0, .ref t), (1, .int bytes), (2, .int n)]) X dX8_feed_74 3 rfl rfl (by decide) rfl ?_
            refine v_goto X dX8_feed_77 (tgt := 41) (by decide) ?_
            refine v_lv (lv2 := [(0, .ref t), (1, .int bytes), (2, .int n), (3, .int ((latI q) + (-1)))]) [1, 2, 3, 0] rfl ?_
            refine v_eqv (lv2 := [(0, .ref t), (1, .int bytes), (2, .int n), (3, .int (latI (q - 1)))]) (by rw [latN hq0]) ?_
            refine v_eqh (h2 := (hU (hU h (A 4) (ai g 100 (upd mm (tq + nn - q) (byA bytes (q - 1))))) t (ob 8 [.ref (A 0), .ref (A 1), .ref (A 2), .int hk, .ref (A 3), .int sw0, .int sw1, .ref (A 4), .int (nI (tq + nn - (q - 1))), .int pp, .int fr, .int tk, .int wd, .int vl, .int wr, .ref (A 5), .ref (A 6), .ref (A 7), .ref (A 8)]))) (by rw [nI_1, show tq + nn - q + 1 = tq + nn - (q - 1) by omega]; rfl) ?_
            exact ih41 (q - 1) (upd mm (tq + nn - q) (byA bytes (q - 1))) (by omega) (by have z := feedF_s hq hq0; rw [show tq + nn - q + 1 = tq + nn - (q - 1) by omega] at z; exact z) (by omega)
      refine v_lv (lv2 := [(0, .ref t), (1, .int bytes), (2, .int n), (3, .int (n - 1))]) [1, 2, 3, 0] rfl ?_
      refine v_eqv (lv2 := [(0, .ref t), (1, .int bytes), (2, .int n), (3, .int (latI nn))]) (by rw [en]; rfl) ?_
      refine v_eqh (h2 := (hU (hU h (A 4) (ai g 100 tape)) t (ob 8 [.ref (A 0), .ref (A 1), .ref (A 2), .int hk, .ref (A 3), .int sw0, .int sw1, .ref (A 4), .int (nI (tq + nn - nn)), .int pp, .int fr, .int tk, .int wd, .int vl, .int wr, .ref (A 5), .ref (A 6), .ref (A 7), .ref (A 8)]))) (by rw [Nat.add_sub_cancel, ← ht, hU_id m5, hU_id m0]) ?_
      exact L41 _ nn tape (Nat.le_refl _) (by rw [Nat.add_sub_cancel]) (Nat.lt_succ_self _)
    · refine v_aload_n X dX8_feed_30 0 rfl ?_
      refine v_ldc X dX8_feed_31 kX8_55 ?_
      refine v_cVi X [.int (-1000000002)] sX8_51 (ct_X8_finds (j := 1) ll g m0 m4 (by decide) (by decide)) m0 rfl dX8_feed_33 rfl rfl ⟨rfl, rfl⟩ ⟨(Nat.le_of_ble_eq_true rfl), (Nat.le_of_ble_eq_true rfl)⟩ ⟨Nat.zero_le _, Nat.zero_le _⟩ (Nat.le_of_ble_eq_true rfl) ?_
      have eqr : op_feed (d, k, hk, fo, tape, tp, bits, sz, num) bytes n = ((-1000000002), (d, k, hk, fnd fo 1, tape, tp, bits, sz, num)) := by unfold op_feed; dsimp only; rw [if_pos c1, if_neg c2]
      exact v_iret X r dX8_feed_36 (Nat.le_refl _) (Nat.le_refl _) ⟨by rw [eqr], by rw [eqr]; exact (MW_fo hM _)⟩
  · refine v_aload_n X dX8_feed_12 0 rfl ?_
    refine v_ldc X dX8_feed_13 kX8_38 ?_
    refine v_cVi X [.int (-1000000001)] sX8_51 (ct_X8_finds (j := 0) ll g m0 m4 (by decide) (by decide)) m0 rfl dX8_feed_15 rfl rfl ⟨rfl, rfl⟩ ⟨(Nat.le_of_ble_eq_true rfl), (Nat.le_of_ble_eq_true rfl)⟩ ⟨Nat.zero_le _, Nat.zero_le _⟩ (Nat.le_of_ble_eq_true rfl) ?_
    have eqr : op_feed (d, k, hk, fo, tape, tp, bits, sz, num) bytes n = ((-1000000001), (d, k, hk, fnd fo 0, tape, tp, bits, sz, num)) := by unfold op_feed; dsimp only; rw [if_neg c1]
    exact v_iret X r dX8_feed_18 (Nat.le_refl _) (Nat.le_refl _) ⟨by rw [eqr], by rw [eqr]; exact (MW_fo hM _)⟩
set_option maxHeartbeats 4000000 in
set_option maxRecDepth 100000 in
theorem ct_X8_lowest (ll : Launch) (g : GT) {h : Hp} (bits : Int32) (v : Int64)  : MF ll g yX8_lowest cX8_lowest 3 (some .long) (k2_rm 0 0) [.int bits, .long v] h (some (.long (lowS bits v))) h := by
  refine mc_of (by decide) (Nat.le_of_ble_eq_true rfl) ?_
  intro K X r
  refine v_eqv (lv2 := [(0, .int bits), (1, .long v)]) rfl ?_
  refine v_iload_n X dX8_lowest_0 0 rfl ?_
  refine v_bipush X dX8_lowest_1 (v := 8) (by decide) ?_
  refine v_icmp_ne X dX8_lowest_3 (tgt := 13) (by decide) (fun c1 => ?_) (fun c1 => ?_)
  · refine v_iload_n X dX8_lowest_13 0 rfl ?_
    refine v_bipush X dX8_lowest_14 (v := 16) (by decide) ?_
    refine v_icmp_ne X dX8_lowest_16 (tgt := 26) (by decide) (fun c2 => ?_) (fun c2 => ?_)
    · refine v_lload_n X dX8_lowest_26 1 rfl ?_
      exact v_lret X r dX8_lowest_27 (Nat.le_refl _) (Nat.le_refl _) ⟨rl_ (by simp [lowS, c1, c2]), rfl⟩
    · refine v_lload_n X dX8_lowest_19 1 rfl ?_
      refine v_l2i X dX8_lowest_20 ?_
      refine v_i2s X dX8_lowest_21 ?_
      refine v_i2l X dX8_lowest_22 ?_
      refine v_goto X dX8_lowest_23 (tgt := 27) (by decide) ?_
      exact v_lret X r dX8_lowest_27 (Nat.le_refl _) (Nat.le_refl _) ⟨rl_ (by simp [lowS, c1, c2]), rfl⟩
  · refine v_lload_n X dX8_lowest_6 1 rfl ?_
    refine v_l2i X dX8_lowest_7 ?_
    refine v_i2b X dX8_lowest_8 ?_
    refine v_i2l X dX8_lowest_9 ?_
    refine v_goto X dX8_lowest_10 (tgt := 27) (by decide) ?_
    exact v_lret X r dX8_lowest_27 (Nat.le_refl _) (Nat.le_refl _) ⟨rl_ (by simp [lowS, c1]), rfl⟩
set_option maxHeartbeats 4000000 in
set_option maxRecDepth 100000 in
theorem ct_X8_sheet (ll : Launch) (g : GT) {h : Hp} {t : Nat} {A : Nat → Nat} {d k fo tape bits sz : Nat → Int32} {num : Nat → Int64} {hk tp : Int32}  (s : Int32) (b : Int32) (n : Int32) (hM : MW g h t A (d, k, hk, fo, tape, tp, bits, sz, num)) : MC ll g yX8_sheet cX8_sheet 5 (some .int) { frames := 2, cells := 0, slots := 0, locals := 90 } [.ref t, .int s, .int b, .int n] h (fun r h2 => r = some (.int (op_sheet (d, k, hk, fo, tape, tp, bits, sz, num) s b n).1) ∧ MW g h2 t A (op_sheet (d, k, hk, fo, tape, tp, bits, sz, num) s b n).2) 0 0 := by
  have hM0 := hM
  obtain ⟨e, lf, sw0, sw1, pp, fr, tk, wd, vl, wr, m0, m1, m2, m3, m4, m5, m6, m7, m8, m9, n01, n02, n12, n56⟩ := hM0
  have ne_1 : t ≠ (A 5) := hneb m0 m6 rfl
  have ne_2 : t ≠ (A 6) := hneb m0 m7 rfl
  have ne_3 : t ≠ (A 7) := hneb m0 m8 rfl
  have ne_4 : (A 6) ≠ (A 7) := hneb m7 m8 rfl
  have ne_5 : (A 7) ≠ (A 5) := hneb m8 m6 rfl
  refine mc_of (by decide) (Nat.le_of_ble_eq_true rfl) ?_
  intro K X r
  refine v_eqv (lv2 := [(0, .ref t), (1, .int s), (2, .int b), (3, .int n)]) rfl ?_
  refine v_iload_n X dX8_sheet_0 1 rfl ?_
  refine v_cSi X [.int s] sX8_256 (ct_X8_isSheet ll g s) dX8_sheet_1 rfl rfl ⟨rfl, rfl⟩ ⟨(Nat.le_of_ble_eq_true rfl), (Nat.le_of_ble_eq_true rfl)⟩ ⟨Nat.zero_le _, Nat.zero_le _⟩ (Nat.le_of_ble_eq_true rfl) ?_
  refine v_ifb_eq X dX8_sheet_4 (tgt := 29) (by decide) (fun c1 => ?_) (fun c1 => ?_)
  · refine v_aload_n X dX8_sheet_29 0 rfl ?_
    refine v_ldc X dX8_sheet_30 kX8_38 ?_
    refine v_cVi X [.int (-1000000001)] sX8_51 (ct_X8_finds (j := 0) ll g m0 m4 (by decide) (by decide)) m0 rfl dX8_sheet_32 rfl rfl ⟨rfl, rfl⟩ ⟨(Nat.le_of_ble_eq_true rfl), (Nat.le_of_ble_eq_true rfl)⟩ ⟨Nat.zero_le _, Nat.zero_le _⟩ (Nat.le_of_ble_eq_true rfl) ?_
    have eqr : op_sheet (d, k, hk, fo, tape, tp, bits, sz, num) s b n = ((-1000000001), (d, k, hk, fnd fo 0, tape, tp, bits, sz, num)) := by unfold op_sheet; dsimp only; rw [if_neg (fun q : _ ∧ _ => c1 q.1)]
    exact v_iret X r dX8_sheet_35 (Nat.le_refl _) (Nat.le_refl _) ⟨by rw [eqr], by rw [eqr]; exact (MW_fo hM _)⟩
  · refine v_iload_n X dX8_sheet_7 2 rfl ?_
    refine v_if_eq X dX8_sheet_8 (tgt := 36) (by decide) (fun c2 => ?_) (fun c2 => ?_)
    · refine v_iload_n X dX8_sheet_36 3 rfl ?_
      refine v_if_ge X dX8_sheet_37 (tgt := 48) (by decide) (fun c3 => ?_) (fun c3 => ?_)
      · refine v_iload_n X dX8_sheet_48 3 rfl ?_
        refine v_bipush X dX8_sheet_49 (v := 40) (by decide) ?_
        refine v_icmp_le X dX8_sheet_51 (tgt := 61) (by decide) (fun c4 => ?_) (fun c4 => ?_)
        · obtain ⟨js, hjs, ejs⟩ := wi_c 3 rfl (by decide) c1
          have qjs : pr s = js := ix_cl ejs (by omega)
          have hb : okBits b := by simp [okBits, c2]
          refine v_aload_n X dX8_sheet_61 0 rfl ?_
          refine v_get X fX8_25 m0 rfl dX8_sheet_62 ?_
          refine v_iload_n X dX8_sheet_65 1 rfl ?_
          refine v_iload_n X dX8_sheet_66 2 rfl ?_
          refine v_iastK (h2 := (hU h (A 5) (ai g 4 (upd bits js b)))) X js m6 ejs (by omega) (by decide) dX8_sheet_67 rfl ?_
          refine v_aload_n X dX8_sheet_68 0 rfl ?_
          refine v_get X fX8_28 ((hU_n ne_1).trans m0) rfl dX8_sheet_69 ?_
          refine v_iload_n X dX8_sheet_72 1 rfl ?_
          refine v_iload_n X dX8_sheet_73 2 rfl ?_
          have J1 : VJ K 0 0 (hU h (A 5) (ai g 4 (upd bits js b))) 82 [(0, .ref t), (1, .int s), (2, .int b), (3, .int n)] [.int (if b = 0 then 0 else n), .int s, .ref (A 6)] := by
            refine v_iastK (h2 := (hU (hU h (A 5) (ai g 4 (upd bits js b))) (A 6) (ai g 4 (upd sz js (if b = 0 then 0 else n))))) X js ((hU_n (Ne.symm n56)).trans m7) ejs (by omega) (by decide) dX8_sheet_82 rfl ?_
            refine v_iconst X dX8_sheet_83 (v := 0) (by decide) ?_
            refine v_istore (lv1 := [(4, .int 0), (0, .ref t), (1, .int s), (2, .int b), (3, .int n)]) X dX8_sheet_84 (by decide) rfl ?_
            have L86 : ∀ (N : Nat) (q : Nat), (q ≤ 40) → 40 - q < N → VJ K 0 0 (hU (hU (hU h (A 5) (ai g 4 (upd bits js b))) (A 6) (ai g 4 (upd sz js (if b = 0 then 0 else n)))) (A 7) (al g 160 (zeroS num (40 * js) (q)))) 86 [(0, .ref t), (1, .int s), (2, .int b), (3, .int n), (4, .int (nI q))] [] := by
              intro N
              induction N with
              | zero => intro q _ hm; exact absurd hm (Nat.not_lt_zero _)
              | succ N ih86 =>
                intro q hqq hm
                refine v_iload X dX8_sheet_86 4 rfl ?_
                refine v_bipush X dX8_sheet_88 (v := 40) (by decide) ?_
                refine v_icmp_ge X dX8_sheet_90 (tgt := 112) (by decide) (fun c5 => ?_) (fun c5 => ?_)
                · have hq40 : q = 40 := by
                    rcases Nat.lt_or_ge q 40 with z | z
                    · exact absurd (nI_lt z (by decide)) (Int32.not_lt.mpr c5)
                    · omega
                  refine v_eqh (h2 := (hU (hU (hU h (A 5) (ai g 4 (upd bits js b))) (A 6) (ai g 4 (upd sz js (if b = 0 then 0 else n)))) (A 7) (al g 160 (zeroS num (40 * js) (40))))) (by rw [hq40]) ?_
                  refine v_aload_n X dX8_sheet_112 0 rfl ?_
                  refine v_get X fX8_28 ((hU_n ne_3).trans ((hU_n ne_2).trans ((hU_n ne_1).trans m0))) rfl dX8_sheet_113 ?_
                  refine v_iload_n X dX8_sheet_116 1 rfl ?_
                  refine v_ialdK X js ((hU_n ne_4).trans hU_s) ejs (by omega) (by decide) dX8_sheet_117 ?_
                  refine v_eqi (y := if b = 0 then 0 else n) pk_us ?_
                  have eqr : op_sheet (d, k, hk, fo, tape, tp, bits, sz, num) s b n = (if b = 0 then 0 else n, (d, k, hk, fo, tape, tp, upd bits js b, upd sz js (if b = 0 then 0 else n), zeroS num (40 * js) (40))) := by unfold op_sheet; dsimp only; rw [if_pos (And.intro c1 hb), if_neg (Int32.not_lt.mpr c3), if_neg (Int32.not_lt.mpr c4), qjs]
                  exact v_iret X r dX8_sheet_118 (Nat.le_refl _) (Nat.le_refl _) ⟨by rw [eqr], by rw [eqr]; exact (MW_num (MW_sz (MW_bits hM _) _) _)⟩
                · have hqn : q < 40 := by
                    rcases Nat.lt_or_ge q 40 with z | z
                    · exact z
                    · exact absurd (show (40 : Int32) ≤ nI q from nI_le z (by omega)) c5
                  refine v_aload_n X dX8_sheet_93 0 rfl ?_
                  refine v_get X fX8_31 ((hU_n ne_3).trans ((hU_n ne_2).trans ((hU_n ne_1).trans m0))) rfl dX8_sheet_94 ?_
                  refine v_bipush X dX8_sheet_97 (v := 40) (by decide) ?_
                  refine v_iload_n X dX8_sheet_99 1 rfl ?_
                  refine v_imul X dX8_sheet_100 ?_
                  refine v_iload X dX8_sheet_101 4 rfl ?_
                  refine v_iadd X dX8_sheet_103 ?_
                  refine v_lconst X dX8_sheet_104 (v := 0) (by decide) ?_
                  refine v_lastK (h2 := (hU (hU (hU h (A 5) (ai g 4 (upd bits js b))) (A 6) (ai g 4 (upd sz js (if b = 0 then 0 else n)))) (A 7) (al g 160 (vp_updL (zeroS num (40 * js) (q)) ((40 * js) + q) (0 : Int64))))) X ((40 * js) + q) hU_s (ix_add (ix_mul (rfl : (40 : Int32) = nI 40) ejs) rfl) (by omega) (by decide) dX8_sheet_105 hU_u ?_
                  refine v_iinc (v := (nI q) + 1) (lv1 := [(4, .int ((nI q) + 1)), (0, .ref t), (1, .int s), (2, .int b), (3, .int n)]) X dX8_sheet_106 4 rfl rfl (by decide) rfl ?_
                  refine v_goto X dX8_sheet_109 (tgt := 86) (by decide) ?_
                  refine v_lv (lv2 := [(0, .ref t), (1, .int s), (2, .int b), (3, .int n), (4, .int ((nI q) + 1))]) [1, 2, 3, 4, 0] rfl ?_
                  refine v_eqv (lv2 := [(0, .ref t), (1, .int s), (2, .int b), (3, .int n), (4, .int (nI (q + 1)))]) (by rw [nI_1]) ?_
                  refine v_eqh (h2 := (hU (hU (hU h (A 5) (ai g 4 (upd bits js b))) (A 6) (ai g 4 (upd sz js (if b = 0 then 0 else n)))) (A 7) (al g 160 (zeroS num (40 * js) (q + 1))))) (by rw [zeroS_s]) ?_
                  exact ih86 (q + 1) (by omega) (by omega)
            refine v_lv (lv2 := [(0, .ref t), (1, .int s), (2, .int b), (3, .int n), (4, .int 0)]) [1, 2, 3, 4, 0] rfl ?_
            refine v_eqv (lv2 := [(0, .ref t), (1, .int s), (2, .int b), (3, .int n), (4, .int (nI 0))]) rfl ?_
            refine v_eqh (h2 := (hU (hU (hU h (A 5) (ai g 4 (upd bits js b))) (A 6) (ai g 4 (upd sz js (if b = 0 then 0 else n)))) (A 7) (al g 160 (zeroS num (40 * js) (0))))) (by rw [zeroS_0]; exact (hU_id ((hU_n (Ne.symm ne_4)).trans ((hU_n ne_5).trans m8))).symm) ?_
            exact L86 _ 0 (by decide) (Nat.lt_succ_self _)
          refine v_if_ne X dX8_sheet_74 (tgt := 81) (by decide) (fun c6 => ?_) (fun c6 => ?_)
          · refine v_iload_n X dX8_sheet_81 3 rfl ?_
            exact v_eqi (if_neg c6).symm J1
          · refine v_iconst X dX8_sheet_77 (v := 0) (by decide) ?_
            refine v_goto X dX8_sheet_78 (tgt := 82) (by decide) ?_
            exact v_eqi (if_pos c6).symm J1
        · refine v_aload_n X dX8_sheet_54 0 rfl ?_
          refine v_ldc X dX8_sheet_55 kX8_38 ?_
          refine v_cVi X [.int (-1000000001)] sX8_51 (ct_X8_finds (j := 0) ll g m0 m4 (by decide) (by decide)) m0 rfl dX8_sheet_57 rfl rfl ⟨rfl, rfl⟩ ⟨(Nat.le_of_ble_eq_true rfl), (Nat.le_of_ble_eq_true rfl)⟩ ⟨Nat.zero_le _, Nat.zero_le _⟩ (Nat.le_of_ble_eq_true rfl) ?_
          have eqr : op_sheet (d, k, hk, fo, tape, tp, bits, sz, num) s b n = ((-1000000001), (d, k, hk, fnd fo 0, tape, tp, bits, sz, num)) := by unfold op_sheet; dsimp only; rw [if_pos (And.intro c1 (by simp [okBits, c2])), if_neg (Int32.not_lt.mpr c3), if_pos (Int32.not_le.mp c4)]
          exact v_iret X r dX8_sheet_60 (Nat.le_refl _) (Nat.le_refl _) ⟨by rw [eqr], by rw [eqr]; exact (MW_fo hM _)⟩
      · refine v_aload_n X dX8_sheet_40 0 rfl ?_
        refine v_ldcw X dX8_sheet_41 kX8_259 ?_
        refine v_cVi X [.int (-1000000007)] sX8_51 (ct_X8_finds (j := 6) ll g m0 m4 (by decide) (by decide)) m0 rfl dX8_sheet_44 rfl rfl ⟨rfl, rfl⟩ ⟨(Nat.le_of_ble_eq_true rfl), (Nat.le_of_ble_eq_true rfl)⟩ ⟨Nat.zero_le _, Nat.zero_le _⟩ (Nat.le_of_ble_eq_true rfl) ?_
        have eqr : op_sheet (d, k, hk, fo, tape, tp, bits, sz, num) s b n = ((-1000000007), (d, k, hk, fnd fo 6, tape, tp, bits, sz, num)) := by unfold op_sheet; dsimp only; rw [if_pos (And.intro c1 (by simp [okBits, c2])), if_pos (Int32.not_le.mp c3)]
        exact v_iret X r dX8_sheet_47 (Nat.le_refl _) (Nat.le_refl _) ⟨by rw [eqr], by rw [eqr]; exact (MW_fo hM _)⟩
    · refine v_iload_n X dX8_sheet_11 2 rfl ?_
      refine v_bipush X dX8_sheet_12 (v := 8) (by decide) ?_
      refine v_icmp_eq X dX8_sheet_14 (tgt := 36) (by decide) (fun c7 => ?_) (fun c7 => ?_)
      · refine v_iload_n X dX8_sheet_36 3 rfl ?_
        refine v_if_ge X dX8_sheet_37 (tgt := 48) (by decide) (fun c8 => ?_) (fun c8 => ?_)
        · refine v_iload_n X dX8_sheet_48 3 rfl ?_
          refine v_bipush X dX8_sheet_49 (v := 40) (by decide) ?_
          refine v_icmp_le X dX8_sheet_51 (tgt := 61) (by decide) (fun c9 => ?_) (fun c9 => ?_)
          · obtain ⟨js, hjs, ejs⟩ := wi_c 3 rfl (by decide) c1
            have qjs : pr s = js := ix_cl ejs (by omega)
            have hb : okBits b := by simp [okBits, c2, c7]
            refine v_aload_n X dX8_sheet_61 0 rfl ?_
            refine v_get X fX8_25 m0 rfl dX8_sheet_62 ?_
            refine v_iload_n X dX8_sheet_65 1 rfl ?_
            refine v_iload_n X dX8_sheet_66 2 rfl ?_
            refine v_iastK (h2 := (hU h (A 5) (ai g 4 (upd bits js b)))) X js m6 ejs (by omega) (by decide) dX8_sheet_67 rfl ?_
            refine v_aload_n X dX8_sheet_68 0 rfl ?_
            refine v_get X fX8_28 ((hU_n ne_1).trans m0) rfl dX8_sheet_69 ?_
            refine v_iload_n X dX8_sheet_72 1 rfl ?_
            refine v_iload_n X dX8_sheet_73 2 rfl ?_
            have J2 : VJ K 0 0 (hU h (A 5) (ai g 4 (upd bits js b))) 82 [(0, .ref t), (1, .int s), (2, .int b), (3, .int n)] [.int (if b = 0 then 0 else n), .int s, .ref (A 6)] := by
              refine v_iastK (h2 := (hU (hU h (A 5) (ai g 4 (upd bits js b))) (A 6) (ai g 4 (upd sz js (if b = 0 then 0 else n))))) X js ((hU_n (Ne.symm n56)).trans m7) ejs (by omega) (by decide) dX8_sheet_82 rfl ?_
              refine v_iconst X dX8_sheet_83 (v := 0) (by decide) ?_
              refine v_istore (lv1 := [(4, .int 0), (0, .ref t), (1, .int s), (2, .int b), (3, .int n)]) X dX8_sheet_84 (by decide) rfl ?_
              have L86 : ∀ (N : Nat) (q : Nat), (q ≤ 40) → 40 - q < N → VJ K 0 0 (hU (hU (hU h (A 5) (ai g 4 (upd bits js b))) (A 6) (ai g 4 (upd sz js (if b = 0 then 0 else n)))) (A 7) (al g 160 (zeroS num (40 * js) (q)))) 86 [(0, .ref t), (1, .int s), (2, .int b), (3, .int n), (4, .int (nI q))] [] := by
                intro N
                induction N with
                | zero => intro q _ hm; exact absurd hm (Nat.not_lt_zero _)
                | succ N ih86 =>
                  intro q hqq hm
                  refine v_iload X dX8_sheet_86 4 rfl ?_
                  refine v_bipush X dX8_sheet_88 (v := 40) (by decide) ?_
                  refine v_icmp_ge X dX8_sheet_90 (tgt := 112) (by decide) (fun c10 => ?_) (fun c10 => ?_)
                  · have hq40 : q = 40 := by
                      rcases Nat.lt_or_ge q 40 with z | z
                      · exact absurd (nI_lt z (by decide)) (Int32.not_lt.mpr c10)
                      · omega
                    refine v_eqh (h2 := (hU (hU (hU h (A 5) (ai g 4 (upd bits js b))) (A 6) (ai g 4 (upd sz js (if b = 0 then 0 else n)))) (A 7) (al g 160 (zeroS num (40 * js) (40))))) (by rw [hq40]) ?_
                    refine v_aload_n X dX8_sheet_112 0 rfl ?_
                    refine v_get X fX8_28 ((hU_n ne_3).trans ((hU_n ne_2).trans ((hU_n ne_1).trans m0))) rfl dX8_sheet_113 ?_
                    refine v_iload_n X dX8_sheet_116 1 rfl ?_
                    refine v_ialdK X js ((hU_n ne_4).trans hU_s) ejs (by omega) (by decide) dX8_sheet_117 ?_
                    refine v_eqi (y := if b = 0 then 0 else n) pk_us ?_
                    have eqr : op_sheet (d, k, hk, fo, tape, tp, bits, sz, num) s b n = (if b = 0 then 0 else n, (d, k, hk, fo, tape, tp, upd bits js b, upd sz js (if b = 0 then 0 else n), zeroS num (40 * js) (40))) := by unfold op_sheet; dsimp only; rw [if_pos (And.intro c1 hb), if_neg (Int32.not_lt.mpr c8), if_neg (Int32.not_lt.mpr c9), qjs]
                    exact v_iret X r dX8_sheet_118 (Nat.le_refl _) (Nat.le_refl _) ⟨by rw [eqr], by rw [eqr]; exact (MW_num (MW_sz (MW_bits hM _) _) _)⟩
                  · have hqn : q < 40 := by
                      rcases Nat.lt_or_ge q 40 with z | z
                      · exact z
                      · exact absurd (show (40 : Int32) ≤ nI q from nI_le z (by omega)) c10
                    refine v_aload_n X dX8_sheet_93 0 rfl ?_
                    refine v_get X fX8_31 ((hU_n ne_3).trans ((hU_n ne_2).trans ((hU_n ne_1).trans m0))) rfl dX8_sheet_94 ?_
                    refine v_bipush X dX8_sheet_97 (v := 40) (by decide) ?_
                    refine v_iload_n X dX8_sheet_99 1 rfl ?_
                    refine v_imul X dX8_sheet_100 ?_
                    refine v_iload X dX8_sheet_101 4 rfl ?_
                    refine v_iadd X dX8_sheet_103 ?_
                    refine v_lconst X dX8_sheet_104 (v := 0) (by decide) ?_
                    refine v_lastK (h2 := (hU (hU (hU h (A 5) (ai g 4 (upd bits js b))) (A 6) (ai g 4 (upd sz js (if b = 0 then 0 else n)))) (A 7) (al g 160 (vp_updL (zeroS num (40 * js) (q)) ((40 * js) + q) (0 : Int64))))) X ((40 * js) + q) hU_s (ix_add (ix_mul (rfl : (40 : Int32) = nI 40) ejs) rfl) (by omega) (by decide) dX8_sheet_105 hU_u ?_
                    refine v_iinc (v := (nI q) + 1) (lv1 := [(4, .int ((nI q) + 1)), (0, .ref t), (1, .int s), (2, .int b), (3, .int n)]) X dX8_sheet_106 4 rfl rfl (by decide) rfl ?_
                    refine v_goto X dX8_sheet_109 (tgt := 86) (by decide) ?_
                    refine v_lv (lv2 := [(0, .ref t), (1, .int s), (2, .int b), (3, .int n), (4, .int ((nI q) + 1))]) [1, 2, 3, 4, 0] rfl ?_
                    refine v_eqv (lv2 := [(0, .ref t), (1, .int s), (2, .int b), (3, .int n), (4, .int (nI (q + 1)))]) (by rw [nI_1]) ?_
                    refine v_eqh (h2 := (hU (hU (hU h (A 5) (ai g 4 (upd bits js b))) (A 6) (ai g 4 (upd sz js (if b = 0 then 0 else n)))) (A 7) (al g 160 (zeroS num (40 * js) (q + 1))))) (by rw [zeroS_s]) ?_
                    exact ih86 (q + 1) (by omega) (by omega)
              refine v_lv (lv2 := [(0, .ref t), (1, .int s), (2, .int b), (3, .int n), (4, .int 0)]) [1, 2, 3, 4, 0] rfl ?_
              refine v_eqv (lv2 := [(0, .ref t), (1, .int s), (2, .int b), (3, .int n), (4, .int (nI 0))]) rfl ?_
              refine v_eqh (h2 := (hU (hU (hU h (A 5) (ai g 4 (upd bits js b))) (A 6) (ai g 4 (upd sz js (if b = 0 then 0 else n)))) (A 7) (al g 160 (zeroS num (40 * js) (0))))) (by rw [zeroS_0]; exact (hU_id ((hU_n (Ne.symm ne_4)).trans ((hU_n ne_5).trans m8))).symm) ?_
              exact L86 _ 0 (by decide) (Nat.lt_succ_self _)
            refine v_if_ne X dX8_sheet_74 (tgt := 81) (by decide) (fun c11 => ?_) (fun c11 => ?_)
            · refine v_iload_n X dX8_sheet_81 3 rfl ?_
              exact v_eqi (if_neg c11).symm J2
            · refine v_iconst X dX8_sheet_77 (v := 0) (by decide) ?_
              refine v_goto X dX8_sheet_78 (tgt := 82) (by decide) ?_
              exact v_eqi (if_pos c11).symm J2
          · refine v_aload_n X dX8_sheet_54 0 rfl ?_
            refine v_ldc X dX8_sheet_55 kX8_38 ?_
            refine v_cVi X [.int (-1000000001)] sX8_51 (ct_X8_finds (j := 0) ll g m0 m4 (by decide) (by decide)) m0 rfl dX8_sheet_57 rfl rfl ⟨rfl, rfl⟩ ⟨(Nat.le_of_ble_eq_true rfl), (Nat.le_of_ble_eq_true rfl)⟩ ⟨Nat.zero_le _, Nat.zero_le _⟩ (Nat.le_of_ble_eq_true rfl) ?_
            have eqr : op_sheet (d, k, hk, fo, tape, tp, bits, sz, num) s b n = ((-1000000001), (d, k, hk, fnd fo 0, tape, tp, bits, sz, num)) := by unfold op_sheet; dsimp only; rw [if_pos (And.intro c1 (by simp [okBits, c2, c7])), if_neg (Int32.not_lt.mpr c8), if_pos (Int32.not_le.mp c9)]
            exact v_iret X r dX8_sheet_60 (Nat.le_refl _) (Nat.le_refl _) ⟨by rw [eqr], by rw [eqr]; exact (MW_fo hM _)⟩
        · refine v_aload_n X dX8_sheet_40 0 rfl ?_
          refine v_ldcw X dX8_sheet_41 kX8_259 ?_
          refine v_cVi X [.int (-1000000007)] sX8_51 (ct_X8_finds (j := 6) ll g m0 m4 (by decide) (by decide)) m0 rfl dX8_sheet_44 rfl rfl ⟨rfl, rfl⟩ ⟨(Nat.le_of_ble_eq_true rfl), (Nat.le_of_ble_eq_true rfl)⟩ ⟨Nat.zero_le _, Nat.zero_le _⟩ (Nat.le_of_ble_eq_true rfl) ?_
          have eqr : op_sheet (d, k, hk, fo, tape, tp, bits, sz, num) s b n = ((-1000000007), (d, k, hk, fnd fo 6, tape, tp, bits, sz, num)) := by unfold op_sheet; dsimp only; rw [if_pos (And.intro c1 (by simp [okBits, c2, c7])), if_pos (Int32.not_le.mp c8)]
          exact v_iret X r dX8_sheet_47 (Nat.le_refl _) (Nat.le_refl _) ⟨by rw [eqr], by rw [eqr]; exact (MW_fo hM _)⟩
      · refine v_iload_n X dX8_sheet_17 2 rfl ?_
        refine v_bipush X dX8_sheet_18 (v := 16) (by decide) ?_
        refine v_icmp_eq X dX8_sheet_20 (tgt := 36) (by decide) (fun c12 => ?_) (fun c12 => ?_)
        · refine v_iload_n X dX8_sheet_36 3 rfl ?_
          refine v_if_ge X dX8_sheet_37 (tgt := 48) (by decide) (fun c13 => ?_) (fun c13 => ?_)
          · refine v_iload_n X dX8_sheet_48 3 rfl ?_
            refine v_bipush X dX8_sheet_49 (v := 40) (by decide) ?_
            refine v_icmp_le X dX8_sheet_51 (tgt := 61) (by decide) (fun c14 => ?_) (fun c14 => ?_)
            · obtain ⟨js, hjs, ejs⟩ := wi_c 3 rfl (by decide) c1
              have qjs : pr s = js := ix_cl ejs (by omega)
              have hb : okBits b := by simp [okBits, c2, c7, c12]
              refine v_aload_n X dX8_sheet_61 0 rfl ?_
              refine v_get X fX8_25 m0 rfl dX8_sheet_62 ?_
              refine v_iload_n X dX8_sheet_65 1 rfl ?_
              refine v_iload_n X dX8_sheet_66 2 rfl ?_
              refine v_iastK (h2 := (hU h (A 5) (ai g 4 (upd bits js b)))) X js m6 ejs (by omega) (by decide) dX8_sheet_67 rfl ?_
              refine v_aload_n X dX8_sheet_68 0 rfl ?_
              refine v_get X fX8_28 ((hU_n ne_1).trans m0) rfl dX8_sheet_69 ?_
              refine v_iload_n X dX8_sheet_72 1 rfl ?_
              refine v_iload_n X dX8_sheet_73 2 rfl ?_
              have J3 : VJ K 0 0 (hU h (A 5) (ai g 4 (upd bits js b))) 82 [(0, .ref t), (1, .int s), (2, .int b), (3, .int n)] [.int (if b = 0 then 0 else n), .int s, .ref (A 6)] := by
                refine v_iastK (h2 := (hU (hU h (A 5) (ai g 4 (upd bits js b))) (A 6) (ai g 4 (upd sz js (if b = 0 then 0 else n))))) X js ((hU_n (Ne.symm n56)).trans m7) ejs (by omega) (by decide) dX8_sheet_82 rfl ?_
                refine v_iconst X dX8_sheet_83 (v := 0) (by decide) ?_
                refine v_istore (lv1 := [(4, .int 0), (0, .ref t), (1, .int s), (2, .int b), (3, .int n)]) X dX8_sheet_84 (by decide) rfl ?_
                have L86 : ∀ (N : Nat) (q : Nat), (q ≤ 40) → 40 - q < N → VJ K 0 0 (hU (hU (hU h (A 5) (ai g 4 (upd bits js b))) (A 6) (ai g 4 (upd sz js (if b = 0 then 0 else n)))) (A 7) (al g 160 (zeroS num (40 * js) (q)))) 86 [(0, .ref t), (1, .int s), (2, .int b), (3, .int n), (4, .int (nI q))] [] := by
                  intro N
                  induction N with
                  | zero => intro q _ hm; exact absurd hm (Nat.not_lt_zero _)
                  | succ N ih86 =>
                    intro q hqq hm
                    refine v_iload X dX8_sheet_86 4 rfl ?_
                    refine v_bipush X dX8_sheet_88 (v := 40) (by decide) ?_
                    refine v_icmp_ge X dX8_sheet_90 (tgt := 112) (by decide) (fun c15 => ?_) (fun c15 => ?_)
                    · have hq40 : q = 40 := by
                        rcases Nat.lt_or_ge q 40 with z | z
                        · exact absurd (nI_lt z (by decide)) (Int32.not_lt.mpr c15)
                        · omega
                      refine v_eqh (h2 := (hU (hU (hU h (A 5) (ai g 4 (upd bits js b))) (A 6) (ai g 4 (upd sz js (if b = 0 then 0 else n)))) (A 7) (al g 160 (zeroS num (40 * js) (40))))) (by rw [hq40]) ?_
                      refine v_aload_n X dX8_sheet_112 0 rfl ?_
                      refine v_get X fX8_28 ((hU_n ne_3).trans ((hU_n ne_2).trans ((hU_n ne_1).trans m0))) rfl dX8_sheet_113 ?_
                      refine v_iload_n X dX8_sheet_116 1 rfl ?_
                      refine v_ialdK X js ((hU_n ne_4).trans hU_s) ejs (by omega) (by decide) dX8_sheet_117 ?_
                      refine v_eqi (y := if b = 0 then 0 else n) pk_us ?_
                      have eqr : op_sheet (d, k, hk, fo, tape, tp, bits, sz, num) s b n = (if b = 0 then 0 else n, (d, k, hk, fo, tape, tp, upd bits js b, upd sz js (if b = 0 then 0 else n), zeroS num (40 * js) (40))) := by unfold op_sheet; dsimp only; rw [if_pos (And.intro c1 hb), if_neg (Int32.not_lt.mpr c13), if_neg (Int32.not_lt.mpr c14), qjs]
                      exact v_iret X r dX8_sheet_118 (Nat.le_refl _) (Nat.le_refl _) ⟨by rw [eqr], by rw [eqr]; exact (MW_num (MW_sz (MW_bits hM _) _) _)⟩
                    · have hqn : q < 40 := by
                        rcases Nat.lt_or_ge q 40 with z | z
                        · exact z
                        · exact absurd (show (40 : Int32) ≤ nI q from nI_le z (by omega)) c15
                      refine v_aload_n X dX8_sheet_93 0 rfl ?_
                      refine v_get X fX8_31 ((hU_n ne_3).trans ((hU_n ne_2).trans ((hU_n ne_1).trans m0))) rfl dX8_sheet_94 ?_
                      refine v_bipush X dX8_sheet_97 (v := 40) (by decide) ?_
                      refine v_iload_n X dX8_sheet_99 1 rfl ?_
                      refine v_imul X dX8_sheet_100 ?_
                      refine v_iload X dX8_sheet_101 4 rfl ?_
                      refine v_iadd X dX8_sheet_103 ?_
                      refine v_lconst X dX8_sheet_104 (v := 0) (by decide) ?_
                      refine v_lastK (h2 := (hU (hU (hU h (A 5) (ai g 4 (upd bits js b))) (A 6) (ai g 4 (upd sz js (if b = 0 then 0 else n)))) (A 7) (al g 160 (vp_updL (zeroS num (40 * js) (q)) ((40 * js) + q) (0 : Int64))))) X ((40 * js) + q) hU_s (ix_add (ix_mul (rfl : (40 : Int32) = nI 40) ejs) rfl) (by omega) (by decide) dX8_sheet_105 hU_u ?_
                      refine v_iinc (v := (nI q) + 1) (lv1 := [(4, .int ((nI q) + 1)), (0, .ref t), (1, .int s), (2, .int b), (3, .int n)]) X dX8_sheet_106 4 rfl rfl (by decide) rfl ?_
                      refine v_goto X dX8_sheet_109 (tgt := 86) (by decide) ?_
                      refine v_lv (lv2 := [(0, .ref t), (1, .int s), (2, .int b), (3, .int n), (4, .int ((nI q) + 1))]) [1, 2, 3, 4, 0] rfl ?_
                      refine v_eqv (lv2 := [(0, .ref t), (1, .int s), (2, .int b), (3, .int n), (4, .int (nI (q + 1)))]) (by rw [nI_1]) ?_
                      refine v_eqh (h2 := (hU (hU (hU h (A 5) (ai g 4 (upd bits js b))) (A 6) (ai g 4 (upd sz js (if b = 0 then 0 else n)))) (A 7) (al g 160 (zeroS num (40 * js) (q + 1))))) (by rw [zeroS_s]) ?_
                      exact ih86 (q + 1) (by omega) (by omega)
                refine v_lv (lv2 := [(0, .ref t), (1, .int s), (2, .int b), (3, .int n), (4, .int 0)]) [1, 2, 3, 4, 0] rfl ?_
                refine v_eqv (lv2 := [(0, .ref t), (1, .int s), (2, .int b), (3, .int n), (4, .int (nI 0))]) rfl ?_
                refine v_eqh (h2 := (hU (hU (hU h (A 5) (ai g 4 (upd bits js b))) (A 6) (ai g 4 (upd sz js (if b = 0 then 0 else n)))) (A 7) (al g 160 (zeroS num (40 * js) (0))))) (by rw [zeroS_0]; exact (hU_id ((hU_n (Ne.symm ne_4)).trans ((hU_n ne_5).trans m8))).symm) ?_
                exact L86 _ 0 (by decide) (Nat.lt_succ_self _)
              refine v_if_ne X dX8_sheet_74 (tgt := 81) (by decide) (fun c16 => ?_) (fun c16 => ?_)
              · refine v_iload_n X dX8_sheet_81 3 rfl ?_
                exact v_eqi (if_neg c16).symm J3
              · refine v_iconst X dX8_sheet_77 (v := 0) (by decide) ?_
                refine v_goto X dX8_sheet_78 (tgt := 82) (by decide) ?_
                exact v_eqi (if_pos c16).symm J3
            · refine v_aload_n X dX8_sheet_54 0 rfl ?_
              refine v_ldc X dX8_sheet_55 kX8_38 ?_
              refine v_cVi X [.int (-1000000001)] sX8_51 (ct_X8_finds (j := 0) ll g m0 m4 (by decide) (by decide)) m0 rfl dX8_sheet_57 rfl rfl ⟨rfl, rfl⟩ ⟨(Nat.le_of_ble_eq_true rfl), (Nat.le_of_ble_eq_true rfl)⟩ ⟨Nat.zero_le _, Nat.zero_le _⟩ (Nat.le_of_ble_eq_true rfl) ?_
              have eqr : op_sheet (d, k, hk, fo, tape, tp, bits, sz, num) s b n = ((-1000000001), (d, k, hk, fnd fo 0, tape, tp, bits, sz, num)) := by unfold op_sheet; dsimp only; rw [if_pos (And.intro c1 (by simp [okBits, c2, c7, c12])), if_neg (Int32.not_lt.mpr c13), if_pos (Int32.not_le.mp c14)]
              exact v_iret X r dX8_sheet_60 (Nat.le_refl _) (Nat.le_refl _) ⟨by rw [eqr], by rw [eqr]; exact (MW_fo hM _)⟩
          · refine v_aload_n X dX8_sheet_40 0 rfl ?_
            refine v_ldcw X dX8_sheet_41 kX8_259 ?_
            refine v_cVi X [.int (-1000000007)] sX8_51 (ct_X8_finds (j := 6) ll g m0 m4 (by decide) (by decide)) m0 rfl dX8_sheet_44 rfl rfl ⟨rfl, rfl⟩ ⟨(Nat.le_of_ble_eq_true rfl), (Nat.le_of_ble_eq_true rfl)⟩ ⟨Nat.zero_le _, Nat.zero_le _⟩ (Nat.le_of_ble_eq_true rfl) ?_
            have eqr : op_sheet (d, k, hk, fo, tape, tp, bits, sz, num) s b n = ((-1000000007), (d, k, hk, fnd fo 6, tape, tp, bits, sz, num)) := by unfold op_sheet; dsimp only; rw [if_pos (And.intro c1 (by simp [okBits, c2, c7, c12])), if_pos (Int32.not_le.mp c13)]
            exact v_iret X r dX8_sheet_47 (Nat.le_refl _) (Nat.le_refl _) ⟨by rw [eqr], by rw [eqr]; exact (MW_fo hM _)⟩
        · refine v_iload_n X dX8_sheet_23 2 rfl ?_
          refine v_bipush X dX8_sheet_24 (v := 64) (by decide) ?_
          refine v_icmp_eq X dX8_sheet_26 (tgt := 36) (by decide) (fun c17 => ?_) (fun c17 => ?_)
          · refine v_iload_n X dX8_sheet_36 3 rfl ?_
            refine v_if_ge X dX8_sheet_37 (tgt := 48) (by decide) (fun c18 => ?_) (fun c18 => ?_)
            · refine v_iload_n X dX8_sheet_48 3 rfl ?_
              refine v_bipush X dX8_sheet_49 (v := 40) (by decide) ?_
              refine v_icmp_le X dX8_sheet_51 (tgt := 61) (by decide) (fun c19 => ?_) (fun c19 => ?_)
              · obtain ⟨js, hjs, ejs⟩ := wi_c 3 rfl (by decide) c1
                have qjs : pr s = js := ix_cl ejs (by omega)
                have hb : okBits b := by simp [okBits, c2, c7, c12, c17]
                refine v_aload_n X dX8_sheet_61 0 rfl ?_
                refine v_get X fX8_25 m0 rfl dX8_sheet_62 ?_
                refine v_iload_n X dX8_sheet_65 1 rfl ?_
                refine v_iload_n X dX8_sheet_66 2 rfl ?_
                refine v_iastK (h2 := (hU h (A 5) (ai g 4 (upd bits js b)))) X js m6 ejs (by omega) (by decide) dX8_sheet_67 rfl ?_
                refine v_aload_n X dX8_sheet_68 0 rfl ?_
                refine v_get X fX8_28 ((hU_n ne_1).trans m0) rfl dX8_sheet_69 ?_
                refine v_iload_n X dX8_sheet_72 1 rfl ?_
                refine v_iload_n X dX8_sheet_73 2 rfl ?_
                have J4 : VJ K 0 0 (hU h (A 5) (ai g 4 (upd bits js b))) 82 [(0, .ref t), (1, .int s), (2, .int b), (3, .int n)] [.int (if b = 0 then 0 else n), .int s, .ref (A 6)] := by
                  refine v_iastK (h2 := (hU (hU h (A 5) (ai g 4 (upd bits js b))) (A 6) (ai g 4 (upd sz js (if b = 0 then 0 else n))))) X js ((hU_n (Ne.symm n56)).trans m7) ejs (by omega) (by decide) dX8_sheet_82 rfl ?_
                  refine v_iconst X dX8_sheet_83 (v := 0) (by decide) ?_
                  refine v_istore (lv1 := [(4, .int 0), (0, .ref t), (1, .int s), (2, .int b), (3, .int n)]) X dX8_sheet_84 (by decide) rfl ?_
                  have L86 : ∀ (N : Nat) (q : Nat), (q ≤ 40) → 40 - q < N → VJ K 0 0 (hU (hU (hU h (A 5) (ai g 4 (upd bits js b))) (A 6) (ai g 4 (upd sz js (if b = 0 then 0 else n)))) (A 7) (al g 160 (zeroS num (40 * js) (q)))) 86 [(0, .ref t), (1, .int s), (2, .int b), (3, .int n), (4, .int (nI q))] [] := by
                    intro N
                    induction N with
                    | zero => intro q _ hm; exact absurd hm (Nat.not_lt_zero _)
                    | succ N ih86 =>
                      intro q hqq hm
                      refine v_iload X dX8_sheet_86 4 rfl ?_
                      refine v_bipush X dX8_sheet_88 (v := 40) (by decide) ?_
                      refine v_icmp_ge X dX8_sheet_90 (tgt := 112) (by decide) (fun c20 => ?_) (fun c20 => ?_)
                      · have hq40 : q = 40 := by
                          rcases Nat.lt_or_ge q 40 with z | z
                          · exact absurd (nI_lt z (by decide)) (Int32.not_lt.mpr c20)
                          · omega
                        refine v_eqh (h2 := (hU (hU (hU h (A 5) (ai g 4 (upd bits js b))) (A 6) (ai g 4 (upd sz js (if b = 0 then 0 else n)))) (A 7) (al g 160 (zeroS num (40 * js) (40))))) (by rw [hq40]) ?_
                        refine v_aload_n X dX8_sheet_112 0 rfl ?_
                        refine v_get X fX8_28 ((hU_n ne_3).trans ((hU_n ne_2).trans ((hU_n ne_1).trans m0))) rfl dX8_sheet_113 ?_
                        refine v_iload_n X dX8_sheet_116 1 rfl ?_
                        refine v_ialdK X js ((hU_n ne_4).trans hU_s) ejs (by omega) (by decide) dX8_sheet_117 ?_
                        refine v_eqi (y := if b = 0 then 0 else n) pk_us ?_
                        have eqr : op_sheet (d, k, hk, fo, tape, tp, bits, sz, num) s b n = (if b = 0 then 0 else n, (d, k, hk, fo, tape, tp, upd bits js b, upd sz js (if b = 0 then 0 else n), zeroS num (40 * js) (40))) := by unfold op_sheet; dsimp only; rw [if_pos (And.intro c1 hb), if_neg (Int32.not_lt.mpr c18), if_neg (Int32.not_lt.mpr c19), qjs]
                        exact v_iret X r dX8_sheet_118 (Nat.le_refl _) (Nat.le_refl _) ⟨by rw [eqr], by rw [eqr]; exact (MW_num (MW_sz (MW_bits hM _) _) _)⟩
                      · have hqn : q < 40 := by
                          rcases Nat.lt_or_ge q 40 with z | z
                          · exact z
                          · exact absurd (show (40 : Int32) ≤ nI q from nI_le z (by omega)) c20
                        refine v_aload_n X dX8_sheet_93 0 rfl ?_
                        refine v_get X fX8_31 ((hU_n ne_3).trans ((hU_n ne_2).trans ((hU_n ne_1).trans m0))) rfl dX8_sheet_94 ?_
                        refine v_bipush X dX8_sheet_97 (v := 40) (by decide) ?_
                        refine v_iload_n X dX8_sheet_99 1 rfl ?_
                        refine v_imul X dX8_sheet_100 ?_
                        refine v_iload X dX8_sheet_101 4 rfl ?_
                        refine v_iadd X dX8_sheet_103 ?_
                        refine v_lconst X dX8_sheet_104 (v := 0) (by decide) ?_
                        refine v_lastK (h2 := (hU (hU (hU h (A 5) (ai g 4 (upd bits js b))) (A 6) (ai g 4 (upd sz js (if b = 0 then 0 else n)))) (A 7) (al g 160 (vp_updL (zeroS num (40 * js) (q)) ((40 * js) + q) (0 : Int64))))) X ((40 * js) + q) hU_s (ix_add (ix_mul (rfl : (40 : Int32) = nI 40) ejs) rfl) (by omega) (by decide) dX8_sheet_105 hU_u ?_
                        refine v_iinc (v := (nI q) + 1) (lv1 := [(4, .int ((nI q) + 1)), (0, .ref t), (1, .int s), (2, .int b), (3, .int n)]) X dX8_sheet_106 4 rfl rfl (by decide) rfl ?_
                        refine v_goto X dX8_sheet_109 (tgt := 86) (by decide) ?_
                        refine v_lv (lv2 := [(0, .ref t), (1, .int s), (2, .int b), (3, .int n), (4, .int ((nI q) + 1))]) [1, 2, 3, 4, 0] rfl ?_
                        refine v_eqv (lv2 := [(0, .ref t), (1, .int s), (2, .int b), (3, .int n), (4, .int (nI (q + 1)))]) (by rw [nI_1]) ?_
                        refine v_eqh (h2 := (hU (hU (hU h (A 5) (ai g 4 (upd bits js b))) (A 6) (ai g 4 (upd sz js (if b = 0 then 0 else n)))) (A 7) (al g 160 (zeroS num (40 * js) (q + 1))))) (by rw [zeroS_s]) ?_
                        exact ih86 (q + 1) (by omega) (by omega)
                  refine v_lv (lv2 := [(0, .ref t), (1, .int s), (2, .int b), (3, .int n), (4, .int 0)]) [1, 2, 3, 4, 0] rfl ?_
                  refine v_eqv (lv2 := [(0, .ref t), (1, .int s), (2, .int b), (3, .int n), (4, .int (nI 0))]) rfl ?_
                  refine v_eqh (h2 := (hU (hU (hU h (A 5) (ai g 4 (upd bits js b))) (A 6) (ai g 4 (upd sz js (if b = 0 then 0 else n)))) (A 7) (al g 160 (zeroS num (40 * js) (0))))) (by rw [zeroS_0]; exact (hU_id ((hU_n (Ne.symm ne_4)).trans ((hU_n ne_5).trans m8))).symm) ?_
                  exact L86 _ 0 (by decide) (Nat.lt_succ_self _)
                refine v_if_ne X dX8_sheet_74 (tgt := 81) (by decide) (fun c21 => ?_) (fun c21 => ?_)
                · refine v_iload_n X dX8_sheet_81 3 rfl ?_
                  exact v_eqi (if_neg c21).symm J4
                · refine v_iconst X dX8_sheet_77 (v := 0) (by decide) ?_
                  refine v_goto X dX8_sheet_78 (tgt := 82) (by decide) ?_
                  exact v_eqi (if_pos c21).symm J4
              · refine v_aload_n X dX8_sheet_54 0 rfl ?_
                refine v_ldc X dX8_sheet_55 kX8_38 ?_
                refine v_cVi X [.int (-1000000001)] sX8_51 (ct_X8_finds (j := 0) ll g m0 m4 (by decide) (by decide)) m0 rfl dX8_sheet_57 rfl rfl ⟨rfl, rfl⟩ ⟨(Nat.le_of_ble_eq_true rfl), (Nat.le_of_ble_eq_true rfl)⟩ ⟨Nat.zero_le _, Nat.zero_le _⟩ (Nat.le_of_ble_eq_true rfl) ?_
                have eqr : op_sheet (d, k, hk, fo, tape, tp, bits, sz, num) s b n = ((-1000000001), (d, k, hk, fnd fo 0, tape, tp, bits, sz, num)) := by unfold op_sheet; dsimp only; rw [if_pos (And.intro c1 (by simp [okBits, c2, c7, c12, c17])), if_neg (Int32.not_lt.mpr c18), if_pos (Int32.not_le.mp c19)]
                exact v_iret X r dX8_sheet_60 (Nat.le_refl _) (Nat.le_refl _) ⟨by rw [eqr], by rw [eqr]; exact (MW_fo hM _)⟩
            · refine v_aload_n X dX8_sheet_40 0 rfl ?_
              refine v_ldcw X dX8_sheet_41 kX8_259 ?_
              refine v_cVi X [.int (-1000000007)] sX8_51 (ct_X8_finds (j := 6) ll g m0 m4 (by decide) (by decide)) m0 rfl dX8_sheet_44 rfl rfl ⟨rfl, rfl⟩ ⟨(Nat.le_of_ble_eq_true rfl), (Nat.le_of_ble_eq_true rfl)⟩ ⟨Nat.zero_le _, Nat.zero_le _⟩ (Nat.le_of_ble_eq_true rfl) ?_
              have eqr : op_sheet (d, k, hk, fo, tape, tp, bits, sz, num) s b n = ((-1000000007), (d, k, hk, fnd fo 6, tape, tp, bits, sz, num)) := by unfold op_sheet; dsimp only; rw [if_pos (And.intro c1 (by simp [okBits, c2, c7, c12, c17])), if_pos (Int32.not_le.mp c18)]
              exact v_iret X r dX8_sheet_47 (Nat.le_refl _) (Nat.le_refl _) ⟨by rw [eqr], by rw [eqr]; exact (MW_fo hM _)⟩
          · refine v_aload_n X dX8_sheet_29 0 rfl ?_
            refine v_ldc X dX8_sheet_30 kX8_38 ?_
            refine v_cVi X [.int (-1000000001)] sX8_51 (ct_X8_finds (j := 0) ll g m0 m4 (by decide) (by decide)) m0 rfl dX8_sheet_32 rfl rfl ⟨rfl, rfl⟩ ⟨(Nat.le_of_ble_eq_true rfl), (Nat.le_of_ble_eq_true rfl)⟩ ⟨Nat.zero_le _, Nat.zero_le _⟩ (Nat.le_of_ble_eq_true rfl) ?_
            have eqr : op_sheet (d, k, hk, fo, tape, tp, bits, sz, num) s b n = ((-1000000001), (d, k, hk, fnd fo 0, tape, tp, bits, sz, num)) := by unfold op_sheet; dsimp only; rw [if_neg (fun q : _ ∧ _ => by simp [okBits, c2, c7, c12, c17] at q)]
            exact v_iret X r dX8_sheet_35 (Nat.le_refl _) (Nat.le_refl _) ⟨by rw [eqr], by rw [eqr]; exact (MW_fo hM _)⟩
set_option maxHeartbeats 4000000 in
set_option maxRecDepth 100000 in
theorem ct_X8_write (ll : Launch) (g : GT) {h : Hp} {t : Nat} {A : Nat → Nat} {d k fo tape bits sz : Nat → Int32} {num : Nat → Int64} {hk tp : Int32}  (s : Int32) (q : Int32) (v : Int64) (hM : MW g h t A (d, k, hk, fo, tape, tp, bits, sz, num)) (hz : ∀ s, s < 4 → ∃ z, z ≤ 40 ∧ sz s = nI z) : MC ll g yX8_write cX8_write 7 (some .long) { frames := 2, cells := 0, slots := 0, locals := 90 } [.ref t, .int s, .int q, .long v] h (fun r h2 => r = some (.long (op_write (d, k, hk, fo, tape, tp, bits, sz, num) s q v).1) ∧ MW g h2 t A (op_write (d, k, hk, fo, tape, tp, bits, sz, num) s q v).2) 0 0 := by
  have hM0 := hM
  obtain ⟨e, lf, sw0, sw1, pp, fr, tk, wd, vl, wr, m0, m1, m2, m3, m4, m5, m6, m7, m8, m9, n01, n02, n12, n56⟩ := hM0
  refine mc_of (by decide) (Nat.le_of_ble_eq_true rfl) ?_
  intro K X r
  refine v_eqv (lv2 := [(0, .ref t), (1, .int s), (2, .int q), (3, .long v)]) rfl ?_
  refine v_iload_n X dX8_write_0 1 rfl ?_
  refine v_cSi X [.int s] sX8_256 (ct_X8_isSheet ll g s) dX8_write_1 rfl rfl ⟨rfl, rfl⟩ ⟨(Nat.le_of_ble_eq_true rfl), (Nat.le_of_ble_eq_true rfl)⟩ ⟨Nat.zero_le _, Nat.zero_le _⟩ (Nat.le_of_ble_eq_true rfl) ?_
  refine v_ifb_ne X dX8_write_4 (tgt := 15) (by decide) (fun c1 => ?_) (fun c1 => ?_)
  · obtain ⟨js, hjs, ejs⟩ := wi_c 3 rfl (by decide) c1
    have qjs : pr s = js := ix_cl ejs (by omega)
    refine v_aload_n X dX8_write_15 0 rfl ?_
    refine v_get X fX8_25 m0 rfl dX8_write_16 ?_
    refine v_iload_n X dX8_write_19 1 rfl ?_
    refine v_ialdK X js m6 ejs (by omega) (by decide) dX8_write_20 ?_
    refine v_if_ne X dX8_write_21 (tgt := 33) (by decide) (fun c2 => ?_) (fun c2 => ?_)
    · refine v_iload_n X dX8_write_33 2 rfl ?_
      refine v_i2l X dX8_write_34 ?_
      refine v_lconst X dX8_write_35 (v := 0) (by decide) ?_
      refine v_aload_n X dX8_write_36 0 rfl ?_
      refine v_get X fX8_28 m0 rfl dX8_write_37 ?_
      refine v_iload_n X dX8_write_40 1 rfl ?_
      refine v_ialdK X js m7 ejs (by omega) (by decide) dX8_write_41 ?_
      refine v_iconst X dX8_write_42 (v := 1) (by decide) ?_
      refine v_isub X dX8_write_43 ?_
      refine v_i2l X dX8_write_44 ?_
      refine v_cSi X [.long q.toInt64, .long (0 : Int64), .long (((sz js) - 1).toInt64)] sX8_39 (ct_X8_in (v := q) (lo := 0) (hi := (sz js) - 1) ll g rfl (by decide) rfl) dX8_write_45 rfl rfl ⟨rfl, rfl⟩ ⟨(Nat.le_of_ble_eq_true rfl), (Nat.le_of_ble_eq_true rfl)⟩ ⟨Nat.zero_le _, Nat.zero_le _⟩ (Nat.le_of_ble_eq_true rfl) ?_
      refine v_ifb_ne X dX8_write_48 (tgt := 59) (by decide) (fun c3 => ?_) (fun c3 => ?_)
      · obtain ⟨zs, hzs, ezs⟩ := hz js (by omega)
        obtain ⟨jq, hjq, ejq⟩ := wi_n ezs (by omega) c3
        have qjq : pr q = jq := ix_cl ejq (by omega)
        refine v_aload_n X dX8_write_59 0 rfl ?_
        refine v_get X fX8_31 m0 rfl dX8_write_60 ?_
        refine v_bipush X dX8_write_63 (v := 40) (by decide) ?_
        refine v_iload_n X dX8_write_65 1 rfl ?_
        refine v_imul X dX8_write_66 ?_
        refine v_iload_n X dX8_write_67 2 rfl ?_
        refine v_iadd X dX8_write_68 ?_
        refine v_laldK X ((40 * js) + jq) m8 (ix_add (ix_mul (rfl : (40 : Int32) = nI 40) ejs) ejq) (by omega) (by decide) dX8_write_69 ?_
        refine v_lstore (lv1 := [(5, .long (num ((40 * js) + jq))), (0, .ref t), (1, .int s), (2, .int q), (3, .long v)]) X dX8_write_70 (by decide) rfl ?_
        refine v_aload_n X dX8_write_72 1 rfl ?_
        refine v_get X fX8_31 m0 rfl dX8_write_73 ?_
        refine v_bipush X dX8_write_76 (v := 40) (by decide) ?_
        refine v_iload_n X dX8_write_78 2 rfl ?_
        refine v_imul X dX8_write_79 ?_
        refine v_iload_n X dX8_write_80 3 rfl ?_
        refine v_iadd X dX8_write_81 ?_
        refine v_aload_n X dX8_write_82 1 rfl ?_
        refine v_get X fX8_25 m0 rfl dX8_write_83 ?_
        refine v_iload_n X dX8_write_86 2 rfl ?_
        refine v_ialdK X js m6 ejs (by omega) (by decide) dX8_write_87 ?_
        refine v_lload_n X dX8_write_88 4 rfl ?_
        refine v_cSl X [.int (bits js), .long v] sX8_261 (ct_X8_lowest ll g (bits js) v) dX8_write_89 rfl rfl ⟨rfl, rfl⟩ ⟨(Nat.le_of_ble_eq_true rfl), (Nat.le_of_ble_eq_true rfl)⟩ ⟨Nat.zero_le _, Nat.zero_le _⟩ (Nat.le_of_ble_eq_true rfl) ?_
        refine v_lastK (h2 := (hU h (A 7) (al g 160 (vp_updL num ((40 * js) + jq) (lowS (bits js) v))))) X ((40 * js) + jq) m8 (ix_add (ix_mul (rfl : (40 : Int32) = nI 40) ejs) ejq) (by omega) (by decide) dX8_write_92 rfl ?_
        refine v_lload X dX8_write_93 0 rfl ?_
        have eqr : op_write (d, k, hk, fo, tape, tp, bits, sz, num) s q v = (num ((40 * js) + jq), (d, k, hk, fo, tape, tp, bits, sz, vp_updL num ((40 * js) + jq) (lowS (bits js) v))) := by unfold op_write; dsimp only; rw [if_pos c1, qjs, if_neg c2, if_pos c3, qjq]
        exact v_lret X r dX8_write_95 (Nat.le_refl _) (Nat.le_refl _) ⟨by rw [eqr], by rw [eqr]; exact (MW_num hM _)⟩
      · refine v_aload_n X dX8_write_51 0 rfl ?_
        refine v_ldc X dX8_write_52 kX8_38 ?_
        refine v_cVi X [.int (-1000000001)] sX8_51 (ct_X8_finds (j := 0) ll g m0 m4 (by decide) (by decide)) m0 rfl dX8_write_54 rfl rfl ⟨rfl, rfl⟩ ⟨(Nat.le_of_ble_eq_true rfl), (Nat.le_of_ble_eq_true rfl)⟩ ⟨Nat.zero_le _, Nat.zero_le _⟩ (Nat.le_of_ble_eq_true rfl) ?_
        refine v_i2l X dX8_write_57 ?_
        have eqr : op_write (d, k, hk, fo, tape, tp, bits, sz, num) s q v = ((-1000000001 : Int32).toInt64, (d, k, hk, fnd fo 0, tape, tp, bits, sz, num)) := by unfold op_write; dsimp only; rw [if_pos c1, qjs, if_neg c2, if_neg c3]; rfl
        exact v_lret X r dX8_write_58 (Nat.le_refl _) (Nat.le_refl _) ⟨by rw [eqr], by rw [eqr]; exact (MW_fo hM _)⟩
    · refine v_aload_n X dX8_write_24 0 rfl ?_
      refine v_ldcw X dX8_write_25 kX8_260 ?_
      refine v_cVi X [.int (-1000000006)] sX8_51 (ct_X8_finds (j := 5) ll g m0 m4 (by decide) (by decide)) m0 rfl dX8_write_28 rfl rfl ⟨rfl, rfl⟩ ⟨(Nat.le_of_ble_eq_true rfl), (Nat.le_of_ble_eq_true rfl)⟩ ⟨Nat.zero_le _, Nat.zero_le _⟩ (Nat.le_of_ble_eq_true rfl) ?_
      refine v_i2l X dX8_write_31 ?_
      have eqr : op_write (d, k, hk, fo, tape, tp, bits, sz, num) s q v = ((-1000000006 : Int32).toInt64, (d, k, hk, fnd fo 5, tape, tp, bits, sz, num)) := by unfold op_write; dsimp only; rw [if_pos c1, qjs, if_pos c2]; rfl
      exact v_lret X r dX8_write_32 (Nat.le_refl _) (Nat.le_refl _) ⟨by rw [eqr], by rw [eqr]; exact (MW_fo hM _)⟩
  · refine v_aload_n X dX8_write_7 0 rfl ?_
    refine v_ldc X dX8_write_8 kX8_38 ?_
    refine v_cVi X [.int (-1000000001)] sX8_51 (ct_X8_finds (j := 0) ll g m0 m4 (by decide) (by decide)) m0 rfl dX8_write_10 rfl rfl ⟨rfl, rfl⟩ ⟨(Nat.le_of_ble_eq_true rfl), (Nat.le_of_ble_eq_true rfl)⟩ ⟨Nat.zero_le _, Nat.zero_le _⟩ (Nat.le_of_ble_eq_true rfl) ?_
    refine v_i2l X dX8_write_13 ?_
    have eqr : op_write (d, k, hk, fo, tape, tp, bits, sz, num) s q v = ((-1000000001 : Int32).toInt64, (d, k, hk, fnd fo 0, tape, tp, bits, sz, num)) := by unfold op_write; dsimp only; rw [if_neg c1]; rfl
    exact v_lret X r dX8_write_14 (Nat.le_refl _) (Nat.le_refl _) ⟨by rw [eqr], by rw [eqr]; exact (MW_fo hM _)⟩
set_option maxHeartbeats 4000000 in
set_option maxRecDepth 100000 in
theorem ct_X8_copy (ll : Launch) (g : GT) {h : Hp} {t : Nat} {A : Nat → Nat} {d k fo tape bits sz : Nat → Int32} {num : Nat → Int64} {hk tp : Int32}  (s : Int32) (f : Int32) (u : Int32) (to : Int32) (n : Int32) (hM : MW g h t A (d, k, hk, fo, tape, tp, bits, sz, num)) (hz : ∀ s, s < 4 → ∃ z, z ≤ 40 ∧ sz s = nI z) : MC ll g yX8_copy cX8_copy 7 (some .int) { frames := 2, cells := 0, slots := 0, locals := 90 } [.ref t, .int s, .int f, .int u, .int to, .int n] h (fun r h2 => r = some (.int (op_copy (d, k, hk, fo, tape, tp, bits, sz, num) s f u to n).1) ∧ MW g h2 t A (op_copy (d, k, hk, fo, tape, tp, bits, sz, num) s f u to n).2) 0 0 := by
  have hM0 := hM
  obtain ⟨e, lf, sw0, sw1, pp, fr, tk, wd, vl, wr, m0, m1, m2, m3, m4, m5, m6, m7, m8, m9, n01, n02, n12, n56⟩ := hM0
  have ne_1 : t ≠ (A 8) := hneb m0 m9 rfl
  have ne_2 : t ≠ (A 7) := hneb m0 m8 rfl
  have ne_3 : (A 8) ≠ (A 7) := hneb m9 m8 rfl
  refine mc_of (by decide) (Nat.le_of_ble_eq_true rfl) ?_
  intro K X r
  refine v_eqv (lv2 := [(0, .ref t), (1, .int s), (2, .int f), (3, .int u), (4, .int to), (5, .int n)]) rfl ?_
  refine v_iload_n X dX8_copy_0 1 rfl ?_
  refine v_cSi X [.int s] sX8_256 (ct_X8_isSheet ll g s) dX8_copy_1 rfl rfl ⟨rfl, rfl⟩ ⟨(Nat.le_of_ble_eq_true rfl), (Nat.le_of_ble_eq_true rfl)⟩ ⟨Nat.zero_le _, Nat.zero_le _⟩ (Nat.le_of_ble_eq_true rfl) ?_
  refine v_ifb_eq X dX8_copy_4 (tgt := 14) (by decide) (fun c1 => ?_) (fun c1 => ?_)
  · refine v_aload_n X dX8_copy_14 0 rfl ?_
    refine v_ldc X dX8_copy_15 kX8_38 ?_
    refine v_cVi X [.int (-1000000001)] sX8_51 (ct_X8_finds (j := 0) ll g m0 m4 (by decide) (by decide)) m0 rfl dX8_copy_17 rfl rfl ⟨rfl, rfl⟩ ⟨(Nat.le_of_ble_eq_true rfl), (Nat.le_of_ble_eq_true rfl)⟩ ⟨Nat.zero_le _, Nat.zero_le _⟩ (Nat.le_of_ble_eq_true rfl) ?_
    have eqr : op_copy (d, k, hk, fo, tape, tp, bits, sz, num) s f u to n = ((-1000000001), (d, k, hk, fnd fo 0, tape, tp, bits, sz, num)) := by unfold op_copy; dsimp only; rw [if_neg (fun q : _ ∧ _ => c1 (And.left q))]
    exact v_iret X r dX8_copy_20 (Nat.le_refl _) (Nat.le_refl _) ⟨by rw [eqr], by rw [eqr]; exact (MW_fo hM _)⟩
  · refine v_iload_n X dX8_copy_7 3 rfl ?_
    refine v_cSi X [.int u] sX8_256 (ct_X8_isSheet ll g u) dX8_copy_8 rfl rfl ⟨rfl, rfl⟩ ⟨(Nat.le_of_ble_eq_true rfl), (Nat.le_of_ble_eq_true rfl)⟩ ⟨Nat.zero_le _, Nat.zero_le _⟩ (Nat.le_of_ble_eq_true rfl) ?_
    refine v_ifb_ne X dX8_copy_11 (tgt := 21) (by decide) (fun c2 => ?_) (fun c2 => ?_)
    · obtain ⟨js, hjs, ejs⟩ := wi_c 3 rfl (by decide) c1
      have qjs : pr s = js := ix_cl ejs (by omega)
      obtain ⟨ju, hju, eju⟩ := wi_c 3 rfl (by decide) c2
      have qju : pr u = ju := ix_cl eju (by omega)
      refine v_aload_n X dX8_copy_21 0 rfl ?_
      refine v_get X fX8_25 m0 rfl dX8_copy_22 ?_
      refine v_iload_n X dX8_copy_25 1 rfl ?_
      refine v_ialdK X js m6 ejs (by omega) (by decide) dX8_copy_26 ?_
      refine v_if_eq X dX8_copy_27 (tgt := 39) (by decide) (fun c3 => ?_) (fun c3 => ?_)
      · refine v_aload_n X dX8_copy_39 0 rfl ?_
        refine v_ldcw X dX8_copy_40 kX8_260 ?_
        refine v_cVi X [.int (-1000000006)] sX8_51 (ct_X8_finds (j := 5) ll g m0 m4 (by decide) (by decide)) m0 rfl dX8_copy_43 rfl rfl ⟨rfl, rfl⟩ ⟨(Nat.le_of_ble_eq_true rfl), (Nat.le_of_ble_eq_true rfl)⟩ ⟨Nat.zero_le _, Nat.zero_le _⟩ (Nat.le_of_ble_eq_true rfl) ?_
        have eqr : op_copy (d, k, hk, fo, tape, tp, bits, sz, num) s f u to n = ((-1000000006), (d, k, hk, fnd fo 5, tape, tp, bits, sz, num)) := by unfold op_copy; dsimp only; rw [if_pos (And.intro c1 c2), qjs, qju, if_pos (Or.inl c3)]
        exact v_iret X r dX8_copy_46 (Nat.le_refl _) (Nat.le_refl _) ⟨by rw [eqr], by rw [eqr]; exact (MW_fo hM _)⟩
      · refine v_aload_n X dX8_copy_30 0 rfl ?_
        refine v_get X fX8_25 m0 rfl dX8_copy_31 ?_
        refine v_iload_n X dX8_copy_34 3 rfl ?_
        refine v_ialdK X ju m6 eju (by omega) (by decide) dX8_copy_35 ?_
        refine v_if_ne X dX8_copy_36 (tgt := 47) (by decide) (fun c4 => ?_) (fun c4 => ?_)
        · refine v_aload_n X dX8_copy_47 0 rfl ?_
          refine v_get X fX8_25 m0 rfl dX8_copy_48 ?_
          refine v_iload_n X dX8_copy_51 1 rfl ?_
          refine v_ialdK X js m6 ejs (by omega) (by decide) dX8_copy_52 ?_
          refine v_aload_n X dX8_copy_53 0 rfl ?_
          refine v_get X fX8_25 m0 rfl dX8_copy_54 ?_
          refine v_iload_n X dX8_copy_57 3 rfl ?_
          refine v_ialdK X ju m6 eju (by omega) (by decide) dX8_copy_58 ?_
          refine v_icmp_eq X dX8_copy_59 (tgt := 69) (by decide) (fun c5 => ?_) (fun c5 => ?_)
          · refine v_iload X dX8_copy_69 5 rfl ?_
            refine v_if_lt X dX8_copy_71 (tgt := 110) (by decide) (fun c6 => ?_) (fun c6 => ?_)
            · refine v_aload_n X dX8_copy_110 0 rfl ?_
              refine v_ldc X dX8_copy_111 kX8_38 ?_
              refine v_cVi X [.int (-1000000001)] sX8_51 (ct_X8_finds (j := 0) ll g m0 m4 (by decide) (by decide)) m0 rfl dX8_copy_113 rfl rfl ⟨rfl, rfl⟩ ⟨(Nat.le_of_ble_eq_true rfl), (Nat.le_of_ble_eq_true rfl)⟩ ⟨Nat.zero_le _, Nat.zero_le _⟩ (Nat.le_of_ble_eq_true rfl) ?_
              have eqr : op_copy (d, k, hk, fo, tape, tp, bits, sz, num) s f u to n = ((-1000000001), (d, k, hk, fnd fo 0, tape, tp, bits, sz, num)) := by unfold op_copy; dsimp only; rw [if_pos (And.intro c1 c2), qjs, qju, if_neg (fun q : _ ∨ _ => q.elim c3 c4), if_neg (fun q => q c5), if_pos (Or.inl c6)]
              exact v_iret X r dX8_copy_116 (Nat.le_refl _) (Nat.le_refl _) ⟨by rw [eqr], by rw [eqr]; exact (MW_fo hM _)⟩
            · refine v_iload_n X dX8_copy_74 2 rfl ?_
              refine v_if_lt X dX8_copy_75 (tgt := 110) (by decide) (fun c7 => ?_) (fun c7 => ?_)
              · refine v_aload_n X dX8_copy_110 0 rfl ?_
                refine v_ldc X dX8_copy_111 kX8_38 ?_
                refine v_cVi X [.int (-1000000001)] sX8_51 (ct_X8_finds (j := 0) ll g m0 m4 (by decide) (by decide)) m0 rfl dX8_copy_113 rfl rfl ⟨rfl, rfl⟩ ⟨(Nat.le_of_ble_eq_true rfl), (Nat.le_of_ble_eq_true rfl)⟩ ⟨Nat.zero_le _, Nat.zero_le _⟩ (Nat.le_of_ble_eq_true rfl) ?_
                have eqr : op_copy (d, k, hk, fo, tape, tp, bits, sz, num) s f u to n = ((-1000000001), (d, k, hk, fnd fo 0, tape, tp, bits, sz, num)) := by unfold op_copy; dsimp only; rw [if_pos (And.intro c1 c2), qjs, qju, if_neg (fun q : _ ∨ _ => q.elim c3 c4), if_neg (fun q => q c5), if_pos (Or.inr (Or.inl c7))]
                exact v_iret X r dX8_copy_116 (Nat.le_refl _) (Nat.le_refl _) ⟨by rw [eqr], by rw [eqr]; exact (MW_fo hM _)⟩
              · refine v_iload X dX8_copy_78 4 rfl ?_
                refine v_if_lt X dX8_copy_80 (tgt := 110) (by decide) (fun c8 => ?_) (fun c8 => ?_)
                · refine v_aload_n X dX8_copy_110 0 rfl ?_
                  refine v_ldc X dX8_copy_111 kX8_38 ?_
                  refine v_cVi X [.int (-1000000001)] sX8_51 (ct_X8_finds (j := 0) ll g m0 m4 (by decide) (by decide)) m0 rfl dX8_copy_113 rfl rfl ⟨rfl, rfl⟩ ⟨(Nat.le_of_ble_eq_true rfl), (Nat.le_of_ble_eq_true rfl)⟩ ⟨Nat.zero_le _, Nat.zero_le _⟩ (Nat.le_of_ble_eq_true rfl) ?_
                  have eqr : op_copy (d, k, hk, fo, tape, tp, bits, sz, num) s f u to n = ((-1000000001), (d, k, hk, fnd fo 0, tape, tp, bits, sz, num)) := by unfold op_copy; dsimp only; rw [if_pos (And.intro c1 c2), qjs, qju, if_neg (fun q : _ ∨ _ => q.elim c3 c4), if_neg (fun q => q c5), if_pos (Or.inr (Or.inr (Or.inl c8)))]
                  exact v_iret X r dX8_copy_116 (Nat.le_refl _) (Nat.le_refl _) ⟨by rw [eqr], by rw [eqr]; exact (MW_fo hM _)⟩
                · refine v_iload X dX8_copy_83 5 rfl ?_
                  refine v_aload_n X dX8_copy_85 0 rfl ?_
                  refine v_get X fX8_28 m0 rfl dX8_copy_86 ?_
                  refine v_iload_n X dX8_copy_89 1 rfl ?_
                  refine v_ialdK X js m7 ejs (by omega) (by decide) dX8_copy_90 ?_
                  refine v_iload_n X dX8_copy_91 2 rfl ?_
                  refine v_isub X dX8_copy_92 ?_
                  refine v_icmp_gt X dX8_copy_93 (tgt := 110) (by decide) (fun c9 => ?_) (fun c9 => ?_)
                  · refine v_aload_n X dX8_copy_110 0 rfl ?_
                    refine v_ldc X dX8_copy_111 kX8_38 ?_
                    refine v_cVi X [.int (-1000000001)] sX8_51 (ct_X8_finds (j := 0) ll g m0 m4 (by decide) (by decide)) m0 rfl dX8_copy_113 rfl rfl ⟨rfl, rfl⟩ ⟨(Nat.le_of_ble_eq_true rfl), (Nat.le_of_ble_eq_true rfl)⟩ ⟨Nat.zero_le _, Nat.zero_le _⟩ (Nat.le_of_ble_eq_true rfl) ?_
                    have eqr : op_copy (d, k, hk, fo, tape, tp, bits, sz, num) s f u to n = ((-1000000001), (d, k, hk, fnd fo 0, tape, tp, bits, sz, num)) := by unfold op_copy; dsimp only; rw [if_pos (And.intro c1 c2), qjs, qju, if_neg (fun q : _ ∨ _ => q.elim c3 c4), if_neg (fun q => q c5), if_pos (Or.inr (Or.inr (Or.inr (Or.inl c9))))]
                    exact v_iret X r dX8_copy_116 (Nat.le_refl _) (Nat.le_refl _) ⟨by rw [eqr], by rw [eqr]; exact (MW_fo hM _)⟩
                  · refine v_iload X dX8_copy_96 5 rfl ?_
                    refine v_aload_n X dX8_copy_98 0 rfl ?_
                    refine v_get X fX8_28 m0 rfl dX8_copy_99 ?_
                    refine v_iload_n X dX8_copy_102 3 rfl ?_
                    refine v_ialdK X ju m7 eju (by omega) (by decide) dX8_copy_103 ?_
                    refine v_iload X dX8_copy_104 4 rfl ?_
                    refine v_isub X dX8_copy_106 ?_
                    refine v_icmp_le X dX8_copy_107 (tgt := 117) (by decide) (fun c10 => ?_) (fun c10 => ?_)
                    · obtain ⟨zs, hzs, ezs⟩ := hz js (by omega)
                      obtain ⟨zu, hzu, ezu⟩ := hz ju (by omega)
                      obtain ⟨jf, nn, ejf, en, hfn⟩ := rowOk_n ezs hzs c6 c7 c9
                      obtain ⟨jt, n2, ejt, en2, htn⟩ := rowOk_n ezu hzu c6 c8 (Int32.not_lt.mpr c10)
                      have e22 : nn = n2 := (nI_eq (by omega) (by omega)).mp (en.symm.trans en2)
                      subst e22
                      have qjf : pr f = jf := ix_cl ejf (by omega)
                      have qjt : pr to = jt := ix_cl ejt (by omega)
                      have qn : pr n = nn := ix_cl en (by omega)
                      refine v_iconst X dX8_copy_117 (v := 0) (by decide) ?_
                      refine v_istore (lv1 := [(6, .int 0), (0, .ref t), (1, .int s), (2, .int f), (3, .int u), (4, .int to), (5, .int n)]) X dX8_copy_118 (by decide) rfl ?_
                      have L120 : ∀ (N : Nat) (q : Nat), (q ≤ nn) → nn - q < N → VJ K 0 0 (hU h (A 8) (al g 40 (liftS lf num (40 * js + jf) q))) 120 [(0, .ref t), (1, .int s), (2, .int f), (3, .int u), (4, .int to), (5, .int n), (6, .int (nI q))] [] := by
                        intro N
                        induction N with
                        | zero => intro q _ hm; exact absurd hm (Nat.not_lt_zero _)
                        | succ N ih120 =>
                          intro q hqq hm
                          refine v_iload X dX8_copy_120 6 rfl ?_
                          refine v_iload X dX8_copy_122 5 rfl ?_
                          refine v_icmp_ge X dX8_copy_124 (tgt := 154) (by decide) (fun c11 => ?_) (fun c11 => ?_)
                          · have hqe : q = nn := by
                              rcases Nat.lt_or_ge q nn with z | z
                              · exact absurd z (fun z => absurd (nI_lt z (by omega)) (Int32.not_lt.mpr (by rw [← en]; exact c11)))
                              · omega
                            refine v_eqh (h2 := (hU h (A 8) (al g 40 (liftS lf num (40 * js + jf) nn)))) (by rw [hqe]) ?_
                            refine v_iconst X dX8_copy_154 (v := 0) (by decide) ?_
                            refine v_istore (lv1 := [(6, .int 0), (0, .ref t), (1, .int s), (2, .int f), (3, .int u), (4, .int to), (5, .int n)]) X dX8_copy_155 (by decide) rfl ?_
                            have L157 : ∀ (N : Nat) (q : Nat), (q ≤ nn) → nn - q < N → VJ K 0 0 (hU (hU h (A 8) (al g 40 (liftS lf num (40 * js + jf) nn))) (A 7) (al g 160 (va_cpy num num (40 * js + jf) (40 * ju + jt) (q)))) 157 [(0, .ref t), (1, .int s), (2, .int f), (3, .int u), (4, .int to), (5, .int n), (6, .int (nI q))] [] := by
                              intro N
                              induction N with
                              | zero => intro q _ hm; exact absurd hm (Nat.not_lt_zero _)
                              | succ N ih157 =>
                                intro q hqq2 hm
                                refine v_iload X dX8_copy_157 6 rfl ?_
                                refine v_iload X dX8_copy_159 5 rfl ?_
                                refine v_icmp_ge X dX8_copy_161 (tgt := 192) (by decide) (fun c12 => ?_) (fun c12 => ?_)
                                · have hqe2 : q = nn := by
                                    rcases Nat.lt_or_ge q nn with z | z
                                    · exact absurd z (fun z => absurd (nI_lt z (by omega)) (Int32.not_lt.mpr (by rw [← en]; exact c12)))
                                    · omega
                                  refine v_eqh (h2 := (hU (hU h (A 8) (al g 40 (liftS lf num (40 * js + jf) nn))) (A 7) (al g 160 (va_cpy num num (40 * js + jf) (40 * ju + jt) (nn))))) (by rw [hqe2]) ?_
                                  refine v_iload X dX8_copy_192 5 rfl ?_
                                  have eqr : op_copy (d, k, hk, fo, tape, tp, bits, sz, num) s f u to n = (n, (d, k, hk, fo, tape, tp, bits, sz, va_cpy num num (40 * js + jf) (40 * ju + jt) (nn))) := by unfold op_copy; dsimp only; rw [if_pos (And.intro c1 c2), qjs, qju, if_neg (fun q : _ ∨ _ => q.elim c3 c4), if_neg (fun q => q c5), if_neg (fun q : _ ∨ _ ∨ _ ∨ _ ∨ _ => q.elim c6 (fun q => q.elim c7 (fun q => q.elim c8 (fun q => q.elim c9 (fun q => absurd q (Int32.not_lt.mpr c10)))))), qjf, qjt, qn]
                                  exact v_iret X r dX8_copy_194 (Nat.le_refl _) (Nat.le_refl _) ⟨by rw [eqr], by rw [eqr]; exact (MW_num (MW_lf hM _) _)⟩
                                · have hqn : q < nn := by
                                    rcases Nat.lt_or_ge q nn with z | z
                                    · exact z
                                    · exact absurd (by rw [en]; exact nI_le z (by omega)) c12
                                  refine v_aload_n X dX8_copy_164 0 rfl ?_
                                  refine v_get X fX8_31 ((hU_n ne_2).trans ((hU_n ne_1).trans m0)) rfl dX8_copy_165 ?_
                                  refine v_bipush X dX8_copy_168 (v := 40) (by decide) ?_
                                  refine v_iload_n X dX8_copy_170 3 rfl ?_
                                  refine v_imul X dX8_copy_171 ?_
                                  refine v_iload X dX8_copy_172 4 rfl ?_
                                  refine v_iadd X dX8_copy_174 ?_
                                  refine v_iload X dX8_copy_175 6 rfl ?_
                                  refine v_iadd X dX8_copy_177 ?_
                                  refine v_aload_n X dX8_copy_178 0 rfl ?_
                                  refine v_get X fX8_35 ((hU_n ne_2).trans ((hU_n ne_1).trans m0)) rfl dX8_copy_179 ?_
                                  refine v_iload X dX8_copy_182 6 rfl ?_
                                  refine v_laldK X q ((hU_n ne_3).trans hU_s) rfl (by omega) (by decide) dX8_copy_184 ?_
                                  refine v_lastK (h2 := (hU (hU h (A 8) (al g 40 (liftS lf num (40 * js + jf) nn))) (A 7) (al g 160 (vp_updL (va_cpy num num (40 * js + jf) (40 * ju + jt) (q)) (((40 * ju) + jt) + q) ((liftS lf num (40 * js + jf) nn) q))))) X (((40 * ju) + jt) + q) hU_s (ix_add (ix_add (ix_mul (rfl : (40 : Int32) = nI 40) eju) ejt) rfl) (by omega) (by decide) dX8_copy_185 hU_u ?_
                                  refine v_iinc (v := (nI q) + 1) (lv1 := [(6, .int ((nI q) + 1)), (0, .ref t), (1, .int s), (2, .int f), (3, .int u), (4, .int to), (5, .int n)]) X dX8_copy_186 6 rfl rfl (by decide) rfl ?_
                                  refine v_goto X dX8_copy_189 (tgt := 157) (by decide) ?_
                                  refine v_lv (lv2 := [(0, .ref t), (1, .int s), (2, .int f), (3, .int u), (4, .int to), (5, .int n), (6, .int ((nI q) + 1))]) [1, 2, 3, 4, 5, 6, 0] rfl ?_
                                  refine v_eqv (lv2 := [(0, .ref t), (1, .int s), (2, .int f), (3, .int u), (4, .int to), (5, .int n), (6, .int (nI (q + 1)))]) (by rw [nI_1]) ?_
                                  refine v_eqh (h2 := (hU (hU h (A 8) (al g 40 (liftS lf num (40 * js + jf) nn))) (A 7) (al g 160 (va_cpy num num (40 * js + jf) (40 * ju + jt) (q + 1))))) (by rw [cpy_s hqn]) ?_
                                  exact ih157 (q + 1) (by omega) (by omega)
                            refine v_lv (lv2 := [(0, .ref t), (1, .int s), (2, .int f), (3, .int u), (4, .int to), (5, .int n), (6, .int 0)]) [1, 2, 3, 4, 5, 6, 0] rfl ?_
                            refine v_eqv (lv2 := [(0, .ref t), (1, .int s), (2, .int f), (3, .int u), (4, .int to), (5, .int n), (6, .int (nI 0))]) rfl ?_
                            refine v_eqh (h2 := (hU (hU h (A 8) (al g 40 (liftS lf num (40 * js + jf) nn))) (A 7) (al g 160 (va_cpy num num (40 * js + jf) (40 * ju + jt) (0))))) (by rw [cpy_0]; exact (hU_id ((hU_n (Ne.symm ne_3)).trans m8)).symm) ?_
                            exact L157 _ 0 (Nat.zero_le _) (Nat.lt_succ_self _)
                          · have hqn : q < nn := by
                              rcases Nat.lt_or_ge q nn with z | z
                              · exact z
                              · exact absurd (by rw [en]; exact nI_le z (by omega)) c11
                            refine v_aload_n X dX8_copy_127 0 rfl ?_
                            refine v_get X fX8_35 ((hU_n ne_1).trans m0) rfl dX8_copy_128 ?_
                            refine v_iload X dX8_copy_131 6 rfl ?_
                            refine v_aload_n X dX8_copy_133 0 rfl ?_
                            refine v_get X fX8_31 ((hU_n ne_1).trans m0) rfl dX8_copy_134 ?_
                            refine v_bipush X dX8_copy_137 (v := 40) (by decide) ?_
                            refine v_iload_n X dX8_copy_139 1 rfl ?_
                            refine v_imul X dX8_copy_140 ?_
                            refine v_iload_n X dX8_copy_141 2 rfl ?_
                            refine v_iadd X dX8_copy_142 ?_
                            refine v_iload X dX8_copy_143 6 rfl ?_
                            refine v_iadd X dX8_copy_145 ?_
                            refine v_laldK X (((40 * js) + jf) + q) ((hU_n (Ne.symm ne_3)).trans m8) (ix_add (ix_add (ix_mul (rfl : (40 : Int32) = nI 40) ejs) ejf) rfl) (by omega) (by decide) dX8_copy_146 ?_
                            refine v_lastK (h2 := (hU h (A 8) (al g 40 (vp_updL (liftS lf num (40 * js + jf) q) q (num (((40 * js) + jf) + q)))))) X q hU_s rfl (by omega) (by decide) dX8_copy_147 hU_u ?_
                            refine v_iinc (v := (nI q) + 1) (lv1 := [(6, .int ((nI q) + 1)), (0, .ref t), (1, .int s), (2, .int f), (3, .int u), (4, .int to), (5, .int n)]) X dX8_copy_148 6 rfl rfl (by decide) rfl ?_
                            refine v_goto X dX8_copy_151 (tgt := 120) (by decide) ?_
                            refine v_lv (lv2 := [(0, .ref t), (1, .int s), (2, .int f), (3, .int u), (4, .int to), (5, .int n), (6, .int ((nI q) + 1))]) [1, 2, 3, 4, 5, 6, 0] rfl ?_
                            refine v_eqv (lv2 := [(0, .ref t), (1, .int s), (2, .int f), (3, .int u), (4, .int to), (5, .int n), (6, .int (nI (q + 1)))]) (by rw [nI_1]) ?_
                            refine v_eqh (h2 := (hU h (A 8) (al g 40 (liftS lf num (40 * js + jf) (q + 1))))) (by rw [liftS_s]) ?_
                            exact ih120 (q + 1) (by omega) (by omega)
                      refine v_lv (lv2 := [(0, .ref t), (1, .int s), (2, .int f), (3, .int u), (4, .int to), (5, .int n), (6, .int 0)]) [1, 2, 3, 4, 5, 6, 0] rfl ?_
                      refine v_eqv (lv2 := [(0, .ref t), (1, .int s), (2, .int f), (3, .int u), (4, .int to), (5, .int n), (6, .int (nI 0))]) rfl ?_
                      refine v_eqh (h2 := (hU h (A 8) (al g 40 (liftS lf num (40 * js + jf) 0)))) (by rw [liftS_0]; exact (hU_id m9).symm) ?_
                      exact L120 _ 0 (Nat.zero_le _) (Nat.lt_succ_self _)
                    · refine v_aload_n X dX8_copy_110 0 rfl ?_
                      refine v_ldc X dX8_copy_111 kX8_38 ?_
                      refine v_cVi X [.int (-1000000001)] sX8_51 (ct_X8_finds (j := 0) ll g m0 m4 (by decide) (by decide)) m0 rfl dX8_copy_113 rfl rfl ⟨rfl, rfl⟩ ⟨(Nat.le_of_ble_eq_true rfl), (Nat.le_of_ble_eq_true rfl)⟩ ⟨Nat.zero_le _, Nat.zero_le _⟩ (Nat.le_of_ble_eq_true rfl) ?_
                      have eqr : op_copy (d, k, hk, fo, tape, tp, bits, sz, num) s f u to n = ((-1000000001), (d, k, hk, fnd fo 0, tape, tp, bits, sz, num)) := by unfold op_copy; dsimp only; rw [if_pos (And.intro c1 c2), qjs, qju, if_neg (fun q : _ ∨ _ => q.elim c3 c4), if_neg (fun q => q c5), if_pos (Or.inr (Or.inr (Or.inr (Or.inr (Int32.not_le.mp c10)))))]
                      exact v_iret X r dX8_copy_116 (Nat.le_refl _) (Nat.le_refl _) ⟨by rw [eqr], by rw [eqr]; exact (MW_fo hM _)⟩
          · refine v_aload_n X dX8_copy_62 0 rfl ?_
            refine v_ldc X dX8_copy_63 kX8_81 ?_
            refine v_cVi X [.int (-1000000003)] sX8_51 (ct_X8_finds (j := 2) ll g m0 m4 (by decide) (by decide)) m0 rfl dX8_copy_65 rfl rfl ⟨rfl, rfl⟩ ⟨(Nat.le_of_ble_eq_true rfl), (Nat.le_of_ble_eq_true rfl)⟩ ⟨Nat.zero_le _, Nat.zero_le _⟩ (Nat.le_of_ble_eq_true rfl) ?_
            have eqr : op_copy (d, k, hk, fo, tape, tp, bits, sz, num) s f u to n = ((-1000000003), (d, k, hk, fnd fo 2, tape, tp, bits, sz, num)) := by unfold op_copy; dsimp only; rw [if_pos (And.intro c1 c2), qjs, qju, if_neg (fun q : _ ∨ _ => q.elim c3 c4), if_pos c5]
            exact v_iret X r dX8_copy_68 (Nat.le_refl _) (Nat.le_refl _) ⟨by rw [eqr], by rw [eqr]; exact (MW_fo hM _)⟩
        · refine v_aload_n X dX8_copy_39 0 rfl ?_
          refine v_ldcw X dX8_copy_40 kX8_260 ?_
          refine v_cVi X [.int (-1000000006)] sX8_51 (ct_X8_finds (j := 5) ll g m0 m4 (by decide) (by decide)) m0 rfl dX8_copy_43 rfl rfl ⟨rfl, rfl⟩ ⟨(Nat.le_of_ble_eq_true rfl), (Nat.le_of_ble_eq_true rfl)⟩ ⟨Nat.zero_le _, Nat.zero_le _⟩ (Nat.le_of_ble_eq_true rfl) ?_
          have eqr : op_copy (d, k, hk, fo, tape, tp, bits, sz, num) s f u to n = ((-1000000006), (d, k, hk, fnd fo 5, tape, tp, bits, sz, num)) := by unfold op_copy; dsimp only; rw [if_pos (And.intro c1 c2), qjs, qju, if_pos (Or.inr c4)]
          exact v_iret X r dX8_copy_46 (Nat.le_refl _) (Nat.le_refl _) ⟨by rw [eqr], by rw [eqr]; exact (MW_fo hM _)⟩
    · refine v_aload_n X dX8_copy_14 0 rfl ?_
      refine v_ldc X dX8_copy_15 kX8_38 ?_
      refine v_cVi X [.int (-1000000001)] sX8_51 (ct_X8_finds (j := 0) ll g m0 m4 (by decide) (by decide)) m0 rfl dX8_copy_17 rfl rfl ⟨rfl, rfl⟩ ⟨(Nat.le_of_ble_eq_true rfl), (Nat.le_of_ble_eq_true rfl)⟩ ⟨Nat.zero_le _, Nat.zero_le _⟩ (Nat.le_of_ble_eq_true rfl) ?_
      have eqr : op_copy (d, k, hk, fo, tape, tp, bits, sz, num) s f u to n = ((-1000000001), (d, k, hk, fnd fo 0, tape, tp, bits, sz, num)) := by unfold op_copy; dsimp only; rw [if_neg (fun q : _ ∧ _ => c2 (And.right q))]
      exact v_iret X r dX8_copy_20 (Nat.le_refl _) (Nat.le_refl _) ⟨by rw [eqr], by rw [eqr]; exact (MW_fo hM _)⟩
