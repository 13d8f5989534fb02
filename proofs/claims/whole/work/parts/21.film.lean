/-! ===== film and read: the reference's calls ===== -/
set_option maxHeartbeats 4000000 in
set_option maxRecDepth 100000 in
theorem ct_X8_whyNot (ll : Launch) (g : GT) {h : Hp} {t dA eA kA fA tA bA zA nA lA : Nat} {hk sw0 sw1 tp pp fr tk wd vl wr : Int32} {d bits : Nat → Int32} (s a b : Int32) (ht : h t = some (ob 8 [.ref dA, .ref eA, .ref kA, .int hk, .ref fA, .int sw0, .int sw1, .ref tA, .int tp, .int pp, .int fr, .int tk, .int wd, .int vl, .int wr, .ref bA, .ref zA, .ref nA, .ref lA])) (hd : h dA = some (ai g 260 d)) (hbt : h bA = some (ai g 4 bits)) : MF ll g yX8_whyNot cX8_whyNot 4 (some .int) (k2_rm 3 130) [.ref t, .int s, .int a, .int b] h (some (.int (whyS d bits s a b))) h := by
  refine mc_of (by decide) (Nat.le_of_ble_eq_true rfl) ?_
  intro K X r
  refine v_eqv (lv2 := [(0, .ref t), (1, .int s), (2, .int a), (3, .int b)]) rfl ?_
  refine v_iload_n X dX8_whyNot_0 1 rfl ?_
  refine v_cSi X [.int s] sX8_256 (ct_X8_isSheet ll g s) dX8_whyNot_1 rfl rfl ⟨rfl, rfl⟩ ⟨(Nat.le_of_ble_eq_true rfl), (Nat.le_of_ble_eq_true rfl)⟩ ⟨Nat.zero_le _, Nat.zero_le _⟩ (Nat.le_of_ble_eq_true rfl) ?_
  refine v_ifb_ne X dX8_whyNot_4 (tgt := 12) (by decide) (fun c1 => ?_) (fun c1 => ?_)
  · obtain ⟨js, hjs, ejs⟩ := wi_c 3 rfl (by decide) c1
    have qjs : s.toNatClampNeg = js := ix_cl ejs (by omega)
    refine v_aload_n X dX8_whyNot_12 0 rfl ?_
    refine v_get X fX8_25 ht rfl dX8_whyNot_13 ?_
    refine v_iload_n X dX8_whyNot_16 1 rfl ?_
    refine v_ialdK X js hbt ejs (by omega) (by decide) dX8_whyNot_17 ?_
    refine v_if_ne X dX8_whyNot_18 (tgt := 27) (by decide) (fun c2 => ?_) (fun c2 => ?_)
    · refine v_aload_n X dX8_whyNot_27 0 rfl ?_
      refine v_iload_n X dX8_whyNot_28 2 rfl ?_
      refine v_iload_n X dX8_whyNot_29 3 rfl ?_
      refine v_cVi X [.int a, .int b] sX8_127 (ct_X8_areTwo ll g a b ht hd) ht rfl dX8_whyNot_30 rfl rfl ⟨rfl, rfl⟩ ⟨(Nat.le_of_ble_eq_true rfl), (Nat.le_of_ble_eq_true rfl)⟩ ⟨Nat.zero_le _, Nat.zero_le _⟩ (Nat.le_of_ble_eq_true rfl) ?_
      refine v_ifb_eq X dX8_whyNot_33 (tgt := 40) (by decide) (fun c3 => ?_) (fun c3 => ?_)
      · refine v_ldc X dX8_whyNot_40 kX8_38 ?_
        exact v_iret X r dX8_whyNot_42 (Nat.le_refl _) (Nat.le_refl _) ⟨ri (by unfold whyS; rw [if_pos c1, qjs, if_neg c2, if_neg c3]), rfl⟩
      · refine v_iconst X dX8_whyNot_36 (v := 0) (by decide) ?_
        refine v_goto X dX8_whyNot_37 (tgt := 42) (by decide) ?_
        exact v_iret X r dX8_whyNot_42 (Nat.le_refl _) (Nat.le_refl _) ⟨ri (by unfold whyS; rw [if_pos c1, qjs, if_neg c2, if_pos c3]), rfl⟩
    · refine v_ldcw X dX8_whyNot_21 kX8_260 ?_
      refine v_goto X dX8_whyNot_24 (tgt := 42) (by decide) ?_
      exact v_iret X r dX8_whyNot_42 (Nat.le_refl _) (Nat.le_refl _) ⟨ri (by unfold whyS; rw [if_pos c1, qjs, if_pos c2]), rfl⟩
  · refine v_ldc X dX8_whyNot_7 kX8_38 ?_
    refine v_goto X dX8_whyNot_9 (tgt := 42) (by decide) ?_
    exact v_iret X r dX8_whyNot_42 (Nat.le_refl _) (Nat.le_refl _) ⟨ri (by unfold whyS; rw [if_neg c1]), rfl⟩
set_option maxHeartbeats 4000000 in
set_option maxRecDepth 100000 in
theorem ct_X8_film (ll : Launch) (g : GT) {h : Hp} {t : Nat} {A : Nat → Nat} {d k fo tape bits sz : Nat → Int32} {num : Nat → Int64} {hk tp : Int32} {np : Nat}  (s : Int32) (a : Int32) (b : Int32) (hM : MW g h t A (d, k, hk, fo, tape, tp, bits, sz, num)) (hn : d 0 = nI np) (hnp : np ≤ 8) (hA : ∀ a b : Nat, a < np → b < np → a ≠ b → AOk d a b) (hz : ∀ s, s < 4 → ∃ z, z ≤ 40 ∧ sz s = nI z) : MC ll g yX8_film cX8_film 7 (some .int) { frames := 4, cells := 0, slots := 0, locals := 180 } [.ref t, .int s, .int a, .int b] h (fun r h2 => r = some (.int (op_film (d, k, hk, fo, tape, tp, bits, sz, num) s a b).1) ∧ MW g h2 t A (op_film (d, k, hk, fo, tape, tp, bits, sz, num) s a b).2) 0 0 := by
  have hM0 := hM
  obtain ⟨e, lf, sw0, sw1, pp, fr, tk, wd, vl, wr, m0, m1, m2, m3, m4, m5, m6, m7, m8, m9, n01, n02, n12, n56⟩ := hM0
  have ne_1 : t ≠ (A 1) := hneb m0 m2 rfl
  have ne_2 : t ≠ (A 7) := hneb m0 m8 rfl
  have ne_3 : (A 6) ≠ (A 1) := hneb m7 m2 rfl
  have ne_4 : (A 6) ≠ (A 7) := hneb m7 m8 rfl
  have ne_5 : (A 1) ≠ (A 7) := hneb m2 m8 rfl
  have ne_6 : (A 5) ≠ (A 1) := hneb m6 m2 rfl
  have ne_7 : (A 5) ≠ (A 7) := hneb m6 m8 rfl
  refine mc_of (by decide) (Nat.le_of_ble_eq_true rfl) ?_
  intro K X r
  refine v_eqv (lv2 := [(0, .ref t), (1, .int s), (2, .int a), (3, .int b)]) rfl ?_
  refine v_aload_n X dX8_film_0 0 rfl ?_
  refine v_iload_n X dX8_film_1 1 rfl ?_
  refine v_iload_n X dX8_film_2 2 rfl ?_
  refine v_iload_n X dX8_film_3 3 rfl ?_
  refine v_cVi X [.int s, .int a, .int b] sX8_265 (ct_X8_whyNot ll g s a b m0 m1 m6) m0 rfl dX8_film_4 rfl rfl ⟨rfl, rfl⟩ ⟨(Nat.le_of_ble_eq_true rfl), (Nat.le_of_ble_eq_true rfl)⟩ ⟨Nat.zero_le _, Nat.zero_le _⟩ (Nat.le_of_ble_eq_true rfl) ?_
  by_cases w1 : wi s 0 3
  · by_cases w2 : bits s.toNatClampNeg = 0
    · have eW : whyS d bits s a b = (-1000000006) := by unfold whyS; rw [if_pos w1, if_pos w2]
      refine v_eqi eW ?_
      refine v_istore (lv1 := [(4, .int (-1000000006)), (0, .ref t), (1, .int s), (2, .int a), (3, .int b)]) X dX8_film_7 (by decide) rfl ?_
      refine v_iload X dX8_film_9 0 rfl ?_
      refine v_if_eq X dX8_film_11 (tgt := 21) (by decide) (fun c => absurd c (by decide)) (fun _ => ?_)
      refine v_aload_n X dX8_film_14 1 rfl ?_
      refine v_iload X dX8_film_15 0 rfl ?_
      refine v_cVi X [.int (-1000000006)] sX8_51 (ct_X8_finds (j := 5) ll g m0 m4 (by decide) (by decide)) m0 rfl dX8_film_17 rfl rfl ⟨rfl, rfl⟩ ⟨(Nat.le_of_ble_eq_true rfl), (Nat.le_of_ble_eq_true rfl)⟩ ⟨Nat.zero_le _, Nat.zero_le _⟩ (Nat.le_of_ble_eq_true rfl) ?_
      have eqr : op_film (d, k, hk, fo, tape, tp, bits, sz, num) s a b = ((-1000000006), (d, k, hk, fnd fo 5, tape, tp, bits, sz, num)) := by unfold op_film; dsimp only; rw [eW, if_neg (by decide), if_pos rfl]
      exact v_iret X r dX8_film_20 (Nat.le_refl _) (Nat.le_refl _) ⟨by rw [eqr], by rw [eqr]; exact (MW_fo hM _)⟩
    · by_cases w3 : two d a b
      · have eW : whyS d bits s a b = 0 := by unfold whyS; rw [if_pos w1, if_neg w2, if_pos w3]
        refine v_eqi eW ?_
        refine v_istore (lv1 := [(4, .int 0), (0, .ref t), (1, .int s), (2, .int a), (3, .int b)]) X dX8_film_7 (by decide) rfl ?_
        refine v_iload X dX8_film_9 0 rfl ?_
        refine v_if_eq X dX8_film_11 (tgt := 21) (by decide) (fun _ => ?_) (fun c => absurd c (by decide))
        obtain ⟨js, hjs, ejs⟩ := wi_c 3 rfl (by decide) w1
        have qjs : pr s = js := ix_cl ejs (by omega)
        obtain ⟨ja, hja, eja⟩ := wi_n hn (by omega) w3.1
        obtain ⟨jb, hjb, ejb⟩ := wi_n hn (by omega) w3.2.1
        have qja : pr a = ja := ix_cl eja (by omega)
        have qjb : pr b = jb := ix_cl ejb (by omega)
        have hab : ja ≠ jb := fun z => w3.2.2 (by rw [eja, ejb, z])
        obtain ⟨zs, hzs, ezs⟩ := hz js (by omega)
        have qzs : pr (sz js) = zs := ix_cl ezs (by omega)
        have hB := getsA_B (hA ja jb hja hjb hab)
        refine v_aload_n X dX8_film_21 1 rfl ?_
        refine v_get X fX8_9 m0 rfl dX8_film_22 ?_
        refine v_aload_n X dX8_film_25 1 rfl ?_
        refine v_get X fX8_13 m0 rfl dX8_film_26 ?_
        refine v_cSv X [.ref (A 0), .ref (A 1)] sX8_150 (ct_X8_copies ll g  m1 m2 n01) dX8_film_29 rfl rfl ⟨rfl, rfl⟩ ⟨(Nat.le_of_ble_eq_true rfl), (Nat.le_of_ble_eq_true rfl)⟩ ⟨Nat.zero_le _, Nat.zero_le _⟩ (Nat.le_of_ble_eq_true rfl) ?_
        refine v_aload_n X dX8_film_32 1 rfl ?_
        refine v_get X fX8_13 ((hU_n ne_1).trans m0) rfl dX8_film_33 ?_
        refine v_iload_n X dX8_film_36 3 rfl ?_
        refine v_iload_n X dX8_film_37 4 rfl ?_
        refine v_cSv X [.ref (A 1), .int a, .int b] sX8_130 (ct_X8_getsOn (p0 := ja) (p1 := jb) ll g  hU_s eja ejb (by omega) (by omega)) dX8_film_38 rfl rfl ⟨rfl, rfl⟩ ⟨(Nat.le_of_ble_eq_true rfl), (Nat.le_of_ble_eq_true rfl)⟩ ⟨Nat.zero_le _, Nat.zero_le _⟩ (Nat.le_of_ble_eq_true rfl) ?_
        refine v_eqh (h2 := (hU h (A 1) (ai g 260 (getsA d ja jb)))) hU_u ?_
        refine v_iconst X dX8_film_41 (v := 0) (by decide) ?_
        refine v_istore (lv1 := [(5, .int 0), (4, .int 0), (0, .ref t), (1, .int s), (2, .int a), (3, .int b)]) X dX8_film_42 (by decide) rfl ?_
        refine v_iconst X dX8_film_44 (v := 0) (by decide) ?_
        refine v_istore (lv1 := [(6, .int 0), (5, .int 0), (4, .int 0), (0, .ref t), (1, .int s), (2, .int a), (3, .int b)]) X dX8_film_45 (by decide) rfl ?_
        have L47 : ∀ (N : Nat) (q : Nat) (mm : Nat → Int32) (TT : Nat) (o : Int32) (nu : Nat → Int64), (q ≤ zs) → (TT = q) → (BOk mm ja jb TT) → (filmF ja jb (bits js) (40 * js) (getsA d ja jb) 0 0 num zs = if o = 0 then filmF ja jb (bits js) (40 * js) mm TT q nu (zs - q) else (q, nu)) → zs - q < N → VJ K 0 0 (hU (hU h (A 1) (ai g 260 mm)) (A 7) (al g 160 nu)) 47 [(0, .ref t), (1, .int s), (2, .int a), (3, .int b), (4, .int 0), (5, .int o), (6, .int (nI q))] [] := by
          intro N
          induction N with
          | zero => intro q mm TT o nu _ _ _ _ hm; exact absurd hm (Nat.not_lt_zero _)
          | succ N ih47 =>
            intro q mm TT o nu hqq hTT hB hq hm
            refine v_iload X dX8_film_47 6 rfl ?_
            refine v_aload_n X dX8_film_49 0 rfl ?_
            refine v_get X fX8_28 ((hU_n ne_2).trans ((hU_n ne_1).trans m0)) rfl dX8_film_50 ?_
            refine v_iload_n X dX8_film_53 1 rfl ?_
            refine v_ialdK X js ((hU_n ne_4).trans ((hU_n ne_3).trans m7)) ejs (by omega) (by decide) dX8_film_54 ?_
            refine v_icmp_ge X dX8_film_55 (tgt := 106) (by decide) (fun c3 => ?_) (fun c3 => ?_)
            · have hR : filmF ja jb (bits js) (40 * js) (getsA d ja jb) 0 0 num zs = (q, nu) := filmF_e hq (by
                rcases Nat.lt_or_ge q zs with z | z
                · exact absurd (nI_lt z (by omega)) (Int32.not_lt.mpr (by rw [← ezs]; exact c3))
                · exact z)
              refine v_iload X dX8_film_106 6 rfl ?_
              have eqr : op_film (d, k, hk, fo, tape, tp, bits, sz, num) s a b = (nI q, (d, k, hk, fo, tape, tp, bits, sz, nu)) := by unfold op_film; dsimp only; rw [eW, if_neg (by decide), if_neg (by decide), qja, qjb, qjs, qzs, hR]
              exact v_iret X r dX8_film_108 (Nat.le_refl _) (Nat.le_refl _) ⟨by rw [eqr], by rw [eqr]; exact (MW_num (MW_e hM _) _)⟩
            · have hqn : q < zs := by
                rcases Nat.lt_or_ge q zs with z | z
                · exact z
                · exact absurd (by rw [ezs]; exact nI_le z (by omega)) c3
              refine v_iload X dX8_film_58 5 rfl ?_
              refine v_if_ne X dX8_film_60 (tgt := 106) (by decide) (fun c4 => ?_) (fun c4 => ?_)
              · have hR : filmF ja jb (bits js) (40 * js) (getsA d ja jb) 0 0 num zs = (q, nu) := by rw [hq, if_neg c4]
                refine v_iload X dX8_film_106 6 rfl ?_
                have eqr : op_film (d, k, hk, fo, tape, tp, bits, sz, num) s a b = (nI q, (d, k, hk, fo, tape, tp, bits, sz, nu)) := by unfold op_film; dsimp only; rw [eW, if_neg (by decide), if_neg (by decide), qja, qjb, qjs, qzs, hR]
                exact v_iret X r dX8_film_108 (Nat.le_refl _) (Nat.le_refl _) ⟨by rw [eqr], by rw [eqr]; exact (MW_num (MW_e hM _) _)⟩
              · have ho := c4
                refine v_aload_n X dX8_film_63 0 rfl ?_
                refine v_get X fX8_13 ((hU_n ne_2).trans ((hU_n ne_1).trans m0)) rfl dX8_film_64 ?_
                refine v_cSi X [.ref (A 1)] sX8_135 (ct_X8_goesBy ll g  ((hU_n ne_5).trans hU_s) hB.1 hB.2.1 hB.2.2.1 hB.2.2.2.1 hB.2.2.2.2.1 (by omega) hB.2.2.2.2.2.1 hB.2.2.2.2.2.2.1 hB.2.2.2.2.2.2.2) dX8_film_67 rfl rfl ⟨rfl, rfl⟩ ⟨(Nat.le_of_ble_eq_true rfl), (Nat.le_of_ble_eq_true rfl)⟩ ⟨Nat.zero_le _, Nat.zero_le _⟩ (Nat.le_of_ble_eq_true rfl) ?_
                refine v_eqh (h2 := (hU (hU h (A 1) (ai g 260 (gbA mm ja jb TT))) (A 7) (al g 160 nu))) (hU_u2 (Ne.symm ne_5)) ?_
                refine v_istore (lv1 := [(5, .int (gbO mm ja jb)), (0, .ref t), (1, .int s), (2, .int a), (3, .int b), (4, .int 0), (6, .int (nI q))]) X dX8_film_70 (by decide) rfl ?_
                refine v_aload_n X dX8_film_72 1 rfl ?_
                refine v_get X fX8_31 ((hU_n ne_2).trans ((hU_n ne_1).trans m0)) rfl dX8_film_73 ?_
                refine v_bipush X dX8_film_76 (v := 40) (by decide) ?_
                refine v_iload_n X dX8_film_78 2 rfl ?_
                refine v_imul X dX8_film_79 ?_
                refine v_iload X dX8_film_80 6 rfl ?_
                refine v_iadd X dX8_film_82 ?_
                refine v_aload_n X dX8_film_83 1 rfl ?_
                refine v_get X fX8_25 ((hU_n ne_2).trans ((hU_n ne_1).trans m0)) rfl dX8_film_84 ?_
                refine v_iload_n X dX8_film_87 2 rfl ?_
                refine v_ialdK X js ((hU_n ne_7).trans ((hU_n ne_6).trans m6)) ejs (by omega) (by decide) dX8_film_88 ?_
                refine v_aload_n X dX8_film_89 1 rfl ?_
                refine v_get X fX8_13 ((hU_n ne_2).trans ((hU_n ne_1).trans m0)) rfl dX8_film_90 ?_
                refine v_iconst X dX8_film_93 (v := 5) (by decide) ?_
                refine v_ialdK X 5 ((hU_n ne_5).trans hU_s) (rfl : (5 : Int32) = nI 5) (by decide) (by decide) dX8_film_94 ?_
                refine v_i2l X dX8_film_95 ?_
                refine v_cSl X [.int (bits js), .long (((gbA mm ja jb TT) 5).toInt64)] sX8_261 (ct_X8_lowest ll g (bits js) (((gbA mm ja jb TT) 5).toInt64)) dX8_film_96 rfl rfl ⟨rfl, rfl⟩ ⟨(Nat.le_of_ble_eq_true rfl), (Nat.le_of_ble_eq_true rfl)⟩ ⟨Nat.zero_le _, Nat.zero_le _⟩ (Nat.le_of_ble_eq_true rfl) ?_
                refine v_lastK (h2 := (hU (hU h (A 1) (ai g 260 (gbA mm ja jb TT))) (A 7) (al g 160 (vp_updL nu ((40 * js) + q) (lowS (bits js) (((gbA mm ja jb TT) 5).toInt64)))))) X ((40 * js) + q) hU_s (ix_add (ix_mul (rfl : (40 : Int32) = nI 40) ejs) rfl) (by omega) (by decide) dX8_film_99 hU_u ?_
                refine v_iinc (v := (nI q) + 1) (lv1 := [(6, .int ((nI q) + 1)), (5, .int (gbO mm ja jb)), (0, .ref t), (1, .int s), (2, .int a), (3, .int b), (4, .int 0)]) X dX8_film_100 6 rfl rfl (by decide) rfl ?_
                refine v_goto X dX8_film_103 (tgt := 47) (by decide) ?_
                refine v_lv (lv2 := [(0, .ref t), (1, .int s), (2, .int a), (3, .int b), (4, .int 0), (5, .int (gbO mm ja jb)), (6, .int ((nI q) + 1))]) [2, 3, 4, 5, 6, 1, 0] rfl ?_
                refine v_eqv (lv2 := [(0, .ref t), (1, .int s), (2, .int a), (3, .int b), (4, .int 0), (5, .int (gbO mm ja jb)), (6, .int (nI (q + 1)))]) (by rw [nI_1]) ?_
                exact ih47 (q + 1) (gbA mm ja jb TT) (TT + 1) (gbO mm ja jb) (vp_updL nu (40 * js + q) (lowS (bits js) (gbA mm ja jb TT 5).toInt64)) (by omega) (by omega) (BOk_step hB) (filmF_s hq ho hqn) (by omega)
        refine v_lv (lv2 := [(0, .ref t), (1, .int s), (2, .int a), (3, .int b), (4, .int 0), (5, .int 0), (6, .int 0)]) [3, 4, 5, 6, 2, 1, 0] rfl ?_
        refine v_eqv (lv2 := [(0, .ref t), (1, .int s), (2, .int a), (3, .int b), (4, .int 0), (5, .int 0), (6, .int (nI 0))]) rfl ?_
        refine v_eqh (h2 := (hU (hU h (A 1) (ai g 260 (getsA d ja jb))) (A 7) (al g 160 num))) (hU_id ((hU_n (Ne.symm ne_5)).trans m8)).symm ?_
        exact L47 _ 0 (getsA d ja jb) 0 0 num (Nat.zero_le _) rfl hB rfl (Nat.lt_succ_self _)
      · have eW : whyS d bits s a b = (-1000000001) := by unfold whyS; rw [if_pos w1, if_neg w2, if_neg w3]
        refine v_eqi eW ?_
        refine v_istore (lv1 := [(4, .int (-1000000001)), (0, .ref t), (1, .int s), (2, .int a), (3, .int b)]) X dX8_film_7 (by decide) rfl ?_
        refine v_iload X dX8_film_9 0 rfl ?_
        refine v_if_eq X dX8_film_11 (tgt := 21) (by decide) (fun c => absurd c (by decide)) (fun _ => ?_)
        refine v_aload_n X dX8_film_14 1 rfl ?_
        refine v_iload X dX8_film_15 0 rfl ?_
        refine v_cVi X [.int (-1000000001)] sX8_51 (ct_X8_finds (j := 0) ll g m0 m4 (by decide) (by decide)) m0 rfl dX8_film_17 rfl rfl ⟨rfl, rfl⟩ ⟨(Nat.le_of_ble_eq_true rfl), (Nat.le_of_ble_eq_true rfl)⟩ ⟨Nat.zero_le _, Nat.zero_le _⟩ (Nat.le_of_ble_eq_true rfl) ?_
        have eqr : op_film (d, k, hk, fo, tape, tp, bits, sz, num) s a b = ((-1000000001), (d, k, hk, fnd fo 0, tape, tp, bits, sz, num)) := by unfold op_film; dsimp only; rw [eW, if_pos rfl]
        exact v_iret X r dX8_film_20 (Nat.le_refl _) (Nat.le_refl _) ⟨by rw [eqr], by rw [eqr]; exact (MW_fo hM _)⟩
  · have eW : whyS d bits s a b = (-1000000001) := by unfold whyS; rw [if_neg w1]
    refine v_eqi eW ?_
    refine v_istore (lv1 := [(4, .int (-1000000001)), (0, .ref t), (1, .int s), (2, .int a), (3, .int b)]) X dX8_film_7 (by decide) rfl ?_
    refine v_iload X dX8_film_9 0 rfl ?_
    refine v_if_eq X dX8_film_11 (tgt := 21) (by decide) (fun c => absurd c (by decide)) (fun _ => ?_)
    refine v_aload_n X dX8_film_14 1 rfl ?_
    refine v_iload X dX8_film_15 0 rfl ?_
    refine v_cVi X [.int (-1000000001)] sX8_51 (ct_X8_finds (j := 0) ll g m0 m4 (by decide) (by decide)) m0 rfl dX8_film_17 rfl rfl ⟨rfl, rfl⟩ ⟨(Nat.le_of_ble_eq_true rfl), (Nat.le_of_ble_eq_true rfl)⟩ ⟨Nat.zero_le _, Nat.zero_le _⟩ (Nat.le_of_ble_eq_true rfl) ?_
    have eqr : op_film (d, k, hk, fo, tape, tp, bits, sz, num) s a b = ((-1000000001), (d, k, hk, fnd fo 0, tape, tp, bits, sz, num)) := by unfold op_film; dsimp only; rw [eW, if_pos rfl]
    exact v_iret X r dX8_film_20 (Nat.le_refl _) (Nat.le_refl _) ⟨by rw [eqr], by rw [eqr]; exact (MW_fo hM _)⟩
set_option maxHeartbeats 4000000 in
set_option maxRecDepth 100000 in
theorem ct_X8_read (ll : Launch) (g : GT) {h : Hp} {t : Nat} {A : Nat → Nat} {d k fo tape bits sz : Nat → Int32} {num : Nat → Int64} {hk tp : Int32} {np : Nat}  (s : Int32) (a : Int32) (b : Int32) (hM : MW g h t A (d, k, hk, fo, tape, tp, bits, sz, num)) (hn : d 0 = nI np) (hnp : np ≤ 8) (hA : ∀ a b : Nat, a < np → b < np → a ≠ b → AOk d a b) (hz : ∀ s, s < 4 → ∃ z, z ≤ 40 ∧ sz s = nI z) : MC ll g yX8_read cX8_read 7 (some .int) { frames := 4, cells := 0, slots := 0, locals := 180 } [.ref t, .int s, .int a, .int b] h (fun r h2 => r = some (.int (op_read (d, k, hk, fo, tape, tp, bits, sz, num) s a b).1) ∧ MW g h2 t A (op_read (d, k, hk, fo, tape, tp, bits, sz, num) s a b).2) 0 0 := by
  have hM0 := hM
  obtain ⟨e, lf, sw0, sw1, pp, fr, tk, wd, vl, wr, m0, m1, m2, m3, m4, m5, m6, m7, m8, m9, n01, n02, n12, n56⟩ := hM0
  have ne_1 : t ≠ (A 1) := hneb m0 m2 rfl
  have ne_2 : (A 6) ≠ (A 1) := hneb m7 m2 rfl
  have ne_3 : (A 7) ≠ (A 1) := hneb m8 m2 rfl
  refine mc_of (by decide) (Nat.le_of_ble_eq_true rfl) ?_
  intro K X r
  refine v_eqv (lv2 := [(0, .ref t), (1, .int s), (2, .int a), (3, .int b)]) rfl ?_
  refine v_aload_n X dX8_read_0 0 rfl ?_
  refine v_iload_n X dX8_read_1 1 rfl ?_
  refine v_iload_n X dX8_read_2 2 rfl ?_
  refine v_iload_n X dX8_read_3 3 rfl ?_
  refine v_cVi X [.int s, .int a, .int b] sX8_265 (ct_X8_whyNot ll g s a b m0 m1 m6) m0 rfl dX8_read_4 rfl rfl ⟨rfl, rfl⟩ ⟨(Nat.le_of_ble_eq_true rfl), (Nat.le_of_ble_eq_true rfl)⟩ ⟨Nat.zero_le _, Nat.zero_le _⟩ (Nat.le_of_ble_eq_true rfl) ?_
  by_cases w1 : wi s 0 3
  · by_cases w2 : bits s.toNatClampNeg = 0
    · have eW : whyS d bits s a b = (-1000000006) := by unfold whyS; rw [if_pos w1, if_pos w2]
      refine v_eqi eW ?_
      refine v_istore (lv1 := [(4, .int (-1000000006)), (0, .ref t), (1, .int s), (2, .int a), (3, .int b)]) X dX8_read_7 (by decide) rfl ?_
      refine v_iload X dX8_read_9 0 rfl ?_
      refine v_if_eq X dX8_read_11 (tgt := 21) (by decide) (fun c => absurd c (by decide)) (fun _ => ?_)
      refine v_aload_n X dX8_read_14 1 rfl ?_
      refine v_iload X dX8_read_15 0 rfl ?_
      refine v_cVi X [.int (-1000000006)] sX8_51 (ct_X8_finds (j := 5) ll g m0 m4 (by decide) (by decide)) m0 rfl dX8_read_17 rfl rfl ⟨rfl, rfl⟩ ⟨(Nat.le_of_ble_eq_true rfl), (Nat.le_of_ble_eq_true rfl)⟩ ⟨Nat.zero_le _, Nat.zero_le _⟩ (Nat.le_of_ble_eq_true rfl) ?_
      have eqr : op_read (d, k, hk, fo, tape, tp, bits, sz, num) s a b = ((-1000000006), (d, k, hk, fnd fo 5, tape, tp, bits, sz, num)) := by unfold op_read; dsimp only; rw [eW, if_neg (by decide), if_pos rfl]
      exact v_iret X r dX8_read_20 (Nat.le_refl _) (Nat.le_refl _) ⟨by rw [eqr], by rw [eqr]; exact (MW_fo hM _)⟩
    · by_cases w3 : two d a b
      · have eW : whyS d bits s a b = 0 := by unfold whyS; rw [if_pos w1, if_neg w2, if_pos w3]
        refine v_eqi eW ?_
        refine v_istore (lv1 := [(4, .int 0), (0, .ref t), (1, .int s), (2, .int a), (3, .int b)]) X dX8_read_7 (by decide) rfl ?_
        refine v_iload X dX8_read_9 0 rfl ?_
        refine v_if_eq X dX8_read_11 (tgt := 21) (by decide) (fun _ => ?_) (fun c => absurd c (by decide))
        obtain ⟨js, hjs, ejs⟩ := wi_c 3 rfl (by decide) w1
        have qjs : pr s = js := ix_cl ejs (by omega)
        obtain ⟨ja, hja, eja⟩ := wi_n hn (by omega) w3.1
        obtain ⟨jb, hjb, ejb⟩ := wi_n hn (by omega) w3.2.1
        have qja : pr a = ja := ix_cl eja (by omega)
        have qjb : pr b = jb := ix_cl ejb (by omega)
        have hab : ja ≠ jb := fun z => w3.2.2 (by rw [eja, ejb, z])
        obtain ⟨zs, hzs, ezs⟩ := hz js (by omega)
        have qzs : pr (sz js) = zs := ix_cl ezs (by omega)
        have hB := getsA_B (hA ja jb hja hjb hab)
        refine v_aload_n X dX8_read_21 1 rfl ?_
        refine v_get X fX8_9 m0 rfl dX8_read_22 ?_
        refine v_aload_n X dX8_read_25 1 rfl ?_
        refine v_get X fX8_13 m0 rfl dX8_read_26 ?_
        refine v_cSv X [.ref (A 0), .ref (A 1)] sX8_150 (ct_X8_copies ll g  m1 m2 n01) dX8_read_29 rfl rfl ⟨rfl, rfl⟩ ⟨(Nat.le_of_ble_eq_true rfl), (Nat.le_of_ble_eq_true rfl)⟩ ⟨Nat.zero_le _, Nat.zero_le _⟩ (Nat.le_of_ble_eq_true rfl) ?_
        refine v_aload_n X dX8_read_32 1 rfl ?_
        refine v_get X fX8_13 ((hU_n ne_1).trans m0) rfl dX8_read_33 ?_
        refine v_iload_n X dX8_read_36 3 rfl ?_
        refine v_iload_n X dX8_read_37 4 rfl ?_
        refine v_cSv X [.ref (A 1), .int a, .int b] sX8_130 (ct_X8_getsOn (p0 := ja) (p1 := jb) ll g  hU_s eja ejb (by omega) (by omega)) dX8_read_38 rfl rfl ⟨rfl, rfl⟩ ⟨(Nat.le_of_ble_eq_true rfl), (Nat.le_of_ble_eq_true rfl)⟩ ⟨Nat.zero_le _, Nat.zero_le _⟩ (Nat.le_of_ble_eq_true rfl) ?_
        refine v_eqh (h2 := (hU h (A 1) (ai g 260 (getsA d ja jb)))) hU_u ?_
        refine v_iconst X dX8_read_41 (v := 0) (by decide) ?_
        refine v_istore (lv1 := [(5, .int 0), (4, .int 0), (0, .ref t), (1, .int s), (2, .int a), (3, .int b)]) X dX8_read_42 (by decide) rfl ?_
        refine v_iconst X dX8_read_44 (v := 0) (by decide) ?_
        refine v_istore (lv1 := [(6, .int 0), (5, .int 0), (4, .int 0), (0, .ref t), (1, .int s), (2, .int a), (3, .int b)]) X dX8_read_45 (by decide) rfl ?_
        have L47 : ∀ (N : Nat) (q : Nat) (mm : Nat → Int32) (TT : Nat) (o : Int32), (q ≤ zs) → (TT = q) → (BOk mm ja jb TT) → (readF ja jb num (40 * js) (getsA d ja jb) 0 0 0 zs = readF ja jb num (40 * js) mm TT q o (zs - q)) → zs - q < N → VJ K 0 0 (hU h (A 1) (ai g 260 mm)) 47 [(0, .ref t), (1, .int s), (2, .int a), (3, .int b), (4, .int 0), (5, .int o), (6, .int (nI q))] [] := by
          intro N
          induction N with
          | zero => intro q mm TT o _ _ _ _ hm; exact absurd hm (Nat.not_lt_zero _)
          | succ N ih47 =>
            intro q mm TT o hqq hTT hB hq hm
            refine v_iload X dX8_read_47 6 rfl ?_
            refine v_aload_n X dX8_read_49 0 rfl ?_
            refine v_get X fX8_28 ((hU_n ne_1).trans m0) rfl dX8_read_50 ?_
            refine v_iload_n X dX8_read_53 1 rfl ?_
            refine v_ialdK X js ((hU_n ne_2).trans m7) ejs (by omega) (by decide) dX8_read_54 ?_
            refine v_icmp_ge X dX8_read_55 (tgt := 111) (by decide) (fun c3 => ?_) (fun c3 => ?_)
            · have hz0 : zs - q = 0 := by
                rcases Nat.lt_or_ge q zs with z | z
                · exact absurd (nI_lt z (by omega)) (Int32.not_lt.mpr (by rw [← ezs]; exact c3))
                · omega
              refine v_iconst X dX8_read_111 (v := 0) (by decide) ?_
              have eqr : op_read (d, k, hk, fo, tape, tp, bits, sz, num) s a b = (0, (d, k, hk, fo, tape, tp, bits, sz, num)) := by unfold op_read; dsimp only; rw [eW, if_neg (by decide), if_neg (by decide), qja, qjb, qjs, qzs]; rw [hq, hz0]; rfl
              exact v_iret X r dX8_read_112 (Nat.le_refl _) (Nat.le_refl _) ⟨by rw [eqr], by rw [eqr]; exact (MW_e hM _)⟩
            · have hqn : q < zs := by
                rcases Nat.lt_or_ge q zs with z | z
                · exact z
                · exact absurd (by rw [ezs]; exact nI_le z (by omega)) c3
              refine v_iload X dX8_read_58 5 rfl ?_
              refine v_if_eq X dX8_read_60 (tgt := 68) (by decide) (fun c4 => ?_) (fun c4 => ?_)
              · have ho := c4
                refine v_aload_n X dX8_read_68 0 rfl ?_
                refine v_get X fX8_13 ((hU_n ne_1).trans m0) rfl dX8_read_69 ?_
                refine v_cSi X [.ref (A 1)] sX8_135 (ct_X8_goesBy ll g  hU_s hB.1 hB.2.1 hB.2.2.1 hB.2.2.2.1 hB.2.2.2.2.1 (by omega) hB.2.2.2.2.2.1 hB.2.2.2.2.2.2.1 hB.2.2.2.2.2.2.2) dX8_read_72 rfl rfl ⟨rfl, rfl⟩ ⟨(Nat.le_of_ble_eq_true rfl), (Nat.le_of_ble_eq_true rfl)⟩ ⟨Nat.zero_le _, Nat.zero_le _⟩ (Nat.le_of_ble_eq_true rfl) ?_
                refine v_eqh (h2 := (hU h (A 1) (ai g 260 (gbA mm ja jb TT)))) hU_u ?_
                refine v_istore (lv1 := [(5, .int (gbO mm ja jb)), (0, .ref t), (1, .int s), (2, .int a), (3, .int b), (4, .int 0), (6, .int (nI q))]) X dX8_read_75 (by decide) rfl ?_
                refine v_aload_n X dX8_read_77 1 rfl ?_
                refine v_get X fX8_31 ((hU_n ne_1).trans m0) rfl dX8_read_78 ?_
                refine v_bipush X dX8_read_81 (v := 40) (by decide) ?_
                refine v_iload_n X dX8_read_83 2 rfl ?_
                refine v_imul X dX8_read_84 ?_
                refine v_iload X dX8_read_85 6 rfl ?_
                refine v_iadd X dX8_read_87 ?_
                refine v_laldK X ((40 * js) + q) ((hU_n ne_3).trans m8) (ix_add (ix_mul (rfl : (40 : Int32) = nI 40) ejs) rfl) (by omega) (by decide) dX8_read_88 ?_
                refine v_aload_n X dX8_read_89 1 rfl ?_
                refine v_get X fX8_13 ((hU_n ne_1).trans m0) rfl dX8_read_90 ?_
                refine v_iconst X dX8_read_93 (v := 5) (by decide) ?_
                refine v_ialdK X 5 hU_s (rfl : (5 : Int32) = nI 5) (by decide) (by decide) dX8_read_94 ?_
                refine v_i2l X dX8_read_95 ?_
                refine v_lcmp X dX8_read_96 ?_
                refine v_if_eq X dX8_read_97 (tgt := 105) (by decide) (fun c5 => ?_) (fun c5 => ?_)
                · refine v_iinc (v := (nI q) + 1) (lv1 := [(6, .int ((nI q) + 1)), (5, .int (gbO mm ja jb)), (0, .ref t), (1, .int s), (2, .int a), (3, .int b), (4, .int 0)]) X dX8_read_105 6 rfl rfl (by decide) rfl ?_
                  refine v_goto X dX8_read_108 (tgt := 47) (by decide) ?_
                  refine v_lv (lv2 := [(0, .ref t), (1, .int s), (2, .int a), (3, .int b), (4, .int 0), (5, .int (gbO mm ja jb)), (6, .int ((nI q) + 1))]) [2, 3, 4, 5, 6, 1, 0] rfl ?_
                  refine v_eqv (lv2 := [(0, .ref t), (1, .int s), (2, .int a), (3, .int b), (4, .int 0), (5, .int (gbO mm ja jb)), (6, .int (nI (q + 1)))]) (by rw [nI_1]) ?_
                  exact ih47 (q + 1) (gbA mm ja jb TT) (TT + 1) (gbO mm ja jb) (by omega) (by omega) (BOk_step hB) (by have z := readF_s hq hqn; rw [if_pos ho, if_pos (lcmp_0.mp c5)] at z; exact z) (by omega)
                · refine v_iconst X dX8_read_100 (v := 1) (by decide) ?_
                  refine v_iload X dX8_read_101 6 rfl ?_
                  refine v_iadd X dX8_read_103 ?_
                  have eqr : op_read (d, k, hk, fo, tape, tp, bits, sz, num) s a b = (1 + (nI q), (d, k, hk, fo, tape, tp, bits, sz, num)) := by unfold op_read; dsimp only; rw [eW, if_neg (by decide), if_neg (by decide), qja, qjb, qjs, qzs]; rw [readF_s hq hqn, if_pos ho, if_neg (fun z => c5 (lcmp_0.mpr z))]
                  exact v_iret X r dX8_read_104 (Nat.le_refl _) (Nat.le_refl _) ⟨by rw [eqr], by rw [eqr]; exact (MW_e hM _)⟩
              · refine v_iconst X dX8_read_63 (v := 1) (by decide) ?_
                refine v_iload X dX8_read_64 6 rfl ?_
                refine v_iadd X dX8_read_66 ?_
                have eqr : op_read (d, k, hk, fo, tape, tp, bits, sz, num) s a b = (1 + (nI q), (d, k, hk, fo, tape, tp, bits, sz, num)) := by unfold op_read; dsimp only; rw [eW, if_neg (by decide), if_neg (by decide), qja, qjb, qjs, qzs]; rw [readF_s hq hqn, if_neg c4]
                exact v_iret X r dX8_read_67 (Nat.le_refl _) (Nat.le_refl _) ⟨by rw [eqr], by rw [eqr]; exact (MW_e hM _)⟩
        refine v_lv (lv2 := [(0, .ref t), (1, .int s), (2, .int a), (3, .int b), (4, .int 0), (5, .int 0), (6, .int 0)]) [3, 4, 5, 6, 2, 1, 0] rfl ?_
        refine v_eqv (lv2 := [(0, .ref t), (1, .int s), (2, .int a), (3, .int b), (4, .int 0), (5, .int 0), (6, .int (nI 0))]) rfl ?_
        exact L47 _ 0 (getsA d ja jb) 0 0 (Nat.zero_le _) rfl hB rfl (Nat.lt_succ_self _)
      · have eW : whyS d bits s a b = (-1000000001) := by unfold whyS; rw [if_pos w1, if_neg w2, if_neg w3]
        refine v_eqi eW ?_
        refine v_istore (lv1 := [(4, .int (-1000000001)), (0, .ref t), (1, .int s), (2, .int a), (3, .int b)]) X dX8_read_7 (by decide) rfl ?_
        refine v_iload X dX8_read_9 0 rfl ?_
        refine v_if_eq X dX8_read_11 (tgt := 21) (by decide) (fun c => absurd c (by decide)) (fun _ => ?_)
        refine v_aload_n X dX8_read_14 1 rfl ?_
        refine v_iload X dX8_read_15 0 rfl ?_
        refine v_cVi X [.int (-1000000001)] sX8_51 (ct_X8_finds (j := 0) ll g m0 m4 (by decide) (by decide)) m0 rfl dX8_read_17 rfl rfl ⟨rfl, rfl⟩ ⟨(Nat.le_of_ble_eq_true rfl), (Nat.le_of_ble_eq_true rfl)⟩ ⟨Nat.zero_le _, Nat.zero_le _⟩ (Nat.le_of_ble_eq_true rfl) ?_
        have eqr : op_read (d, k, hk, fo, tape, tp, bits, sz, num) s a b = ((-1000000001), (d, k, hk, fnd fo 0, tape, tp, bits, sz, num)) := by unfold op_read; dsimp only; rw [eW, if_pos rfl]
        exact v_iret X r dX8_read_20 (Nat.le_refl _) (Nat.le_refl _) ⟨by rw [eqr], by rw [eqr]; exact (MW_fo hM _)⟩
  · have eW : whyS d bits s a b = (-1000000001) := by unfold whyS; rw [if_neg w1]
    refine v_eqi eW ?_
    refine v_istore (lv1 := [(4, .int (-1000000001)), (0, .ref t), (1, .int s), (2, .int a), (3, .int b)]) X dX8_read_7 (by decide) rfl ?_
    refine v_iload X dX8_read_9 0 rfl ?_
    refine v_if_eq X dX8_read_11 (tgt := 21) (by decide) (fun c => absurd c (by decide)) (fun _ => ?_)
    refine v_aload_n X dX8_read_14 1 rfl ?_
    refine v_iload X dX8_read_15 0 rfl ?_
    refine v_cVi X [.int (-1000000001)] sX8_51 (ct_X8_finds (j := 0) ll g m0 m4 (by decide) (by decide)) m0 rfl dX8_read_17 rfl rfl ⟨rfl, rfl⟩ ⟨(Nat.le_of_ble_eq_true rfl), (Nat.le_of_ble_eq_true rfl)⟩ ⟨Nat.zero_le _, Nat.zero_le _⟩ (Nat.le_of_ble_eq_true rfl) ?_
    have eqr : op_read (d, k, hk, fo, tape, tp, bits, sz, num) s a b = ((-1000000001), (d, k, hk, fnd fo 0, tape, tp, bits, sz, num)) := by unfold op_read; dsimp only; rw [eW, if_pos rfl]
    exact v_iret X r dX8_read_20 (Nat.le_refl _) (Nat.le_refl _) ⟨by rw [eqr], by rw [eqr]; exact (MW_fo hM _)⟩
