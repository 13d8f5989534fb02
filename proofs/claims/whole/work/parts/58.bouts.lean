/-! ===== the class: who stands, bouts ===== -/
theorem rA_keep {p0 p1 j : Nat} (h : j ≠ 5 ∧ j ≠ 6 ∧ j ≠ 8 ∧ (j < 16 ∨ 22 ≤ j) ∧ (j < 24 ∨ 34 ≤ j)) : ∀ (n : Nat) (m : Nat → Int32) (T : Nat), (runA m p0 p1 T n).1 j = m j := by
  intro n
  induction n with
  | zero => intro m T; rfl
  | succ n ih =>
    intro m T
    unfold runA
    by_cases z : gbO m p0 p1 = 0
    · rw [if_pos z, ih]; exact gbA_keep h
    · rw [if_neg z]; exact gbA_keep h
theorem who1 {w : Int32} (h : wi w 0 1) (h0 : ¬ w = 0) : w = 1 := by
  obtain ⟨j, hj, e⟩ := wi_c 1 rfl (by decide) h
  have hc : j = 1 := by
    rcases Nat.eq_zero_or_pos j with y | y
    · exact absurd (by rw [e, y]; rfl) h0
    · omega
  rw [e, hc]; rfl
theorem gbO_4 (m : Nat → Int32) (p0 p1 : Nat) : gbO m p0 p1 = 0 ∨ gbO m p0 p1 = 1 ∨ gbO m p0 p1 = 2 ∨ gbO m p0 p1 = 3 := by
  unfold gbO bI
  by_cases h1 : m 13 < szS (lean0 m p0 p1)
  · rw [if_pos h1]
    by_cases h2 : m 13 < szS (lean1 m p0 p1)
    · rw [if_pos h2]; decide
    · rw [if_neg h2]; decide
  · rw [if_neg h1]
    by_cases h2 : m 13 < szS (lean1 m p0 p1)
    · rw [if_pos h2]; decide
    · rw [if_neg h2]; decide
theorem runA_o {p0 p1 : Nat} : ∀ (n : Nat) (m : Nat → Int32) (T : Nat), (runA m p0 p1 T n).2 = 0 ∨ (runA m p0 p1 T n).2 = 1 ∨ (runA m p0 p1 T n).2 = 2 ∨ (runA m p0 p1 T n).2 = 3 := by
  intro n
  induction n with
  | zero => intro m T; exact Or.inl rfl
  | succ n ih =>
    intro m T
    unfold runA
    by_cases z : gbO m p0 p1 = 0
    · rw [if_pos z]; exact ih _ _
    · rw [if_neg z]; exact gbO_4 _ _ _
theorem endA_n {m : Nat → Int32} {o : Int32} {p0 p1 j : Nat} (h : j ≠ 2 ∧ j ≠ 7 ∧ j ≠ 40 + 8 * p0 + 5 ∧ j ≠ 40 + 8 * p1 + 5) : endA m o p0 p1 j = m j := by
  unfold endA
  rw [pk_un h.2.2.2, pk_un h.2.2.1, pk_un h.2.1, pk_un h.1]
theorem endA_2 {m : Nat → Int32} {o : Int32} {p0 p1 : Nat} : endA m o p0 p1 2 = 0 := by
  unfold endA
  rw [pk_un (by omega), pk_un (by omega), pk_un (by omega), pk_us]
theorem endA_7 {m : Nat → Int32} {o : Int32} {p0 p1 : Nat} : endA m o p0 p1 7 = o := by
  unfold endA
  rw [pk_un (by omega), pk_un (by omega), pk_us]
theorem endA_a {m : Nat → Int32} {o : Int32} {p0 p1 : Nat} (h : p0 ≠ p1) : endA m o p0 p1 (40 + 8 * p0 + 5) = m (40 + 8 * p0 + 5) + (o &&& 1) := by
  unfold endA
  rw [pk_un (by omega), pk_us]
theorem endA_b {m : Nat → Int32} {o : Int32} {p0 p1 : Nat} : endA m o p0 p1 (40 + 8 * p1 + 5) = m (40 + 8 * p1 + 5) + (o >>> (1 &&& 31)) := by
  unfold endA
  rw [pk_us]
theorem gP_two {g : GT} {h h2 : Hp} {C : Nat → Nat} {d d2 : Nat → Int32} {p0 p1 : Nat} {w0 w1 : Int32} (hp0 : p0 < 8) (hp1 : p1 < 8) (hne : p0 ≠ p1) (H : gP g h C d) (e2 : h2 (C 2) = h (C 2)) (ea : h2 (C (9 + p0)) = some (ob 1 [.int (told d p0 0), .int (told d p0 1), .int (told d p0 2), .int (told d p0 3), .int (told d p0 4), .int w0, .int (told d p0 6)])) (eb : h2 (C (9 + p1)) = some (ob 1 [.int (told d p1 0), .int (told d p1 1), .int (told d p1 2), .int (told d p1 3), .int (told d p1 4), .int w1, .int (told d p1 6)])) (eo : ∀ q, q < 8 → q ≠ p0 → q ≠ p1 → h2 (C (9 + q)) = h (C (9 + q))) (q0 : d2 0 = d 0) (qa : d2 (40 + 8 * p0 + 5) = w0) (qb : d2 (40 + 8 * p1 + 5) = w1) (qo : ∀ j, 40 ≤ j → j < 104 → j ≠ 40 + 8 * p0 + 5 → j ≠ 40 + 8 * p1 + 5 → d2 j = d j) : gP g h2 C d2 := by
  obtain ⟨pf, F, a1, a2, a3, a4⟩ := H
  have qt : ∀ q y, q < 8 → y < 7 → (q ≠ p0 ∨ y ≠ 5) → (q ≠ p1 ∨ y ≠ 5) → told d2 q y = told d q y := fun q y h1 h2 h3 h4 => qo (40 + 8 * q + y) (by omega) (by omega) (by omega) (by omega)
  refine ⟨pf, fun q => if q = p0 then told d2 p0 else if q = p1 then told d2 p1 else F q, e2.trans a1, a2, fun q hq => ?_, fun q hq hn y hy => ?_⟩
  · by_cases z : q = p0
    · subst z
      simp only [if_pos]
      rw [qt q 0 hq (by decide) (by omega) (by omega), qt q 1 hq (by decide) (by omega) (by omega), qt q 2 hq (by decide) (by omega) (by omega), qt q 3 hq (by decide) (by omega) (by omega), qt q 4 hq (by decide) (by omega) (by omega), qt q 6 hq (by decide) (by omega) (by omega), show told d2 q 5 = w0 from qa]
      exact ea
    · by_cases y : q = p1
      · subst y
        simp only [if_neg z, if_pos]
        rw [qt q 0 hq (by decide) (by omega) (by omega), qt q 1 hq (by decide) (by omega) (by omega), qt q 2 hq (by decide) (by omega) (by omega), qt q 3 hq (by decide) (by omega) (by omega), qt q 4 hq (by decide) (by omega) (by omega), qt q 6 hq (by decide) (by omega) (by omega), show told d2 q 5 = w1 from qb]
        exact eb
      · simp only [if_neg z, if_neg y]; exact (eo q hq z y).trans (a3 q hq)
  · by_cases z : q = p0
    · subst z; simp only [if_pos]
    · by_cases x : q = p1
      · subst x; simp only [if_neg z, if_pos]
      · simp only [if_neg z, if_neg x]
        rw [a4 q hq (by rw [← q0]; exact hn) y hy]
        exact (qt q y hq hy (Or.inl z) (Or.inl x)).symm
set_option maxHeartbeats 4000000 in
set_option maxRecDepth 100000 in
theorem ct_X7_stands (ll : Launch) (g : GT) {h : Hp} {B : Nat → Nat} {d k fo tape bits sz : Nat → Int32} {num : Nat → Int64} {hk tp : Int32} {N : Nat}  (who : Int32) (what : Int32) (hC : CR g h B (d, k, hk, fo, tape, tp, bits, sz, num)) (hI : SOk (d, k, hk, fo, tape, tp, bits, sz, num) N) (hN : N + 400 ≤ 204800) : MC ll g yX7_stands cX7_stands 6 (some .int) { frames := 10, cells := 0, slots := 0, locals := 380 } [.ref (B 0), .int who, .int what] h (fun r h2 => r = some (.int (op_stands (d, k, hk, fo, tape, tp, bits, sz, num) who what).1) ∧ CR g h2 B (op_stands (d, k, hk, fo, tape, tp, bits, sz, num) who what).2) 0 0 := by
  have hC0 := hC
  have hI0 := hI
  obtain ⟨hB, cX, ⟨cW, cP, cY, cT, cM⟩, ⟨k2, cK, hk2⟩, cO, cR, cA, cS, cF⟩ := hC
  obtain ⟨⟨np, nw, T, p0, p1, e0, hnp, e1, hnw, e6, hT, hon, e3, hp0, e4, hp1, honp, hper, h10, h11, h12, hwc⟩, hkd, hkb, ⟨tn, htn, etp⟩, hsz⟩ := hI
  have x0 : h (B 0) = some (ob 7 [.ref (B 1), .ref (B 17), .int hk, .ref (B 33), .ref (B 37), .ref (B 38), .ref (B 40), .ref (B 41)]) := cX
  have x1 : h (B 1) = some (ob 6 [.ref (B 2), .int (d 0), .ref (B 3), .int (d 1), .ref (B 4), .ref (B 5), .int (bI (d 2 = 1)), .int (d 3), .int (d 4), .int (d 7)]) := cW
  have cP0 := cP
  obtain ⟨pf, F, x2, hpf, hF, hFd⟩ := cP0
  have cY0 := cY
  obtain ⟨wf, x3, hwo, hwy⟩ := cY0
  have x4 : h (B 4) = some (ai g 5 (ptF d)) := cT
  have cM0 := cM
  obtain ⟨tr, T9, s0, v0, s1, v1, x5, x6, x7, x8, e69, hT30, hR, hRB⟩ := cM0
  have eT9 : T9 = T := nI_inj (by omega) (by omega) (e69.symm.trans e6)
  subst eT9
  have cO0 := cO
  obtain ⟨otr, u5, u6, u8, a0, a1, a2, a3, a4, b0, b1, b2, b3, b4, x33, x34, x35, x36⟩ := cO0
  have cR0 := cR
  obtain ⟨rf, x37⟩ := cR0
  have cA0 := cA
  obtain ⟨ts, te, tt, tv, x38, x39⟩ := cA0
  have cS0 := cS
  obtain ⟨sf, nf, x40, hsf, hsh, hnm, hnv⟩ := cS0
  have x41 : h (B 41) = some (ai g 7 fo) := cF
  have qn : (d 0).toNatClampNeg = np := ix_cl e0 (by omega)
  have qw : (d 1).toNatClampNeg = nw := ix_cl e1 (by omega)
  have pC : ∀ p, p < np → h (B (9 + p)) = some (ob 1 [.int ((told d p) 0), .int ((told d p) 1), .int ((told d p) 2), .int ((told d p) 3), .int ((told d p) 4), .int ((told d p) 5), .int ((told d p) 6)]) := fun p hp => gP_at (by omega) (by rw [qn]; exact hp) cP
  refine mc_of (by decide) (Nat.le_of_ble_eq_true rfl) ?_
  intro K X r
  refine v_eqv (lv2 := [(0, .ref (B 0)), (1, .int who), (2, .int what)]) rfl ?_
  refine v_iload_n X dX7_stands_0 1 rfl ?_
  refine v_iconst X dX7_stands_1 (v := 0) (by decide) ?_
  refine v_iconst X dX7_stands_2 (v := 1) (by decide) ?_
  refine v_cSi X [.int who, .int 0, .int 1] sX7_68 (ct_X7_within ll g who 0 1) dX7_stands_3 rfl rfl ⟨rfl, rfl⟩ ⟨(Nat.le_of_ble_eq_true rfl), (Nat.le_of_ble_eq_true rfl)⟩ ⟨Nat.zero_le _, Nat.zero_le _⟩ (Nat.le_of_ble_eq_true rfl) ?_
  refine v_ifb_eq X dX7_stands_6 (tgt := 18) (by decide) (fun c1 => ?_) (fun c1 => ?_)
  · refine v_aload_n X dX7_stands_18 0 rfl ?_
    refine v_ldc X dX7_stands_19 kX7_72 ?_
    refine v_cVi X [.int (-1000000001)] sX7_73 (ct_X7_finding (pe := 0) (wy := 0) (pt := 0) (mt := 0) (np := 0) (nw := 0) (oc := 0) (fi := 0) (se := 0) (lo := 0) (q := 0) (v := (-1000000001)) ll g x0 x41 (by decide) (by decide)) x0 rfl dX7_stands_21 rfl rfl ⟨rfl, rfl⟩ ⟨(Nat.le_of_ble_eq_true rfl), (Nat.le_of_ble_eq_true rfl)⟩ ⟨Nat.zero_le _, Nat.zero_le _⟩ (Nat.le_of_ble_eq_true rfl) ?_
    have eqr : op_stands (d, k, hk, fo, tape, tp, bits, sz, num) who what = ((-1000000001), (d, k, hk, fnd fo 0, tape, tp, bits, sz, num)) := by unfold op_stands; dsimp only; rw [if_neg (fun q : _ ∧ _ => c1 (And.left q))]
    have hCR : CR g (hU h (B 41) (ai g 7 (fnd fo 0))) B (d, k, hk, fnd fo 0, tape, tp, bits, sz, num) := ⟨hB, gX_e (hU_n (hB 0 41 (by omega) (by omega) (by omega))) cX, ⟨gW_e (hU_n (hB 1 41 (by omega) (by omega) (by omega))) ⟨rfl, rfl, rfl, rfl, rfl, rfl⟩ cW, gP_e (fun j hj => (hU_n (hB j 41 (by omega) (by omega) (by omega)))) rfl (fun _ _ _ => rfl) cP, gY_e (hU_n (hB 3 41 (by omega) (by omega) (by omega))) (fun x c hx hk => (hU_n (kd_ne hx x41 hk rfl))) rfl (fun _ _ _ => rfl) cY, gT_e (hU_n (hB 4 41 (by omega) (by omega) (by omega))) (fun _ _ _ => rfl) cT, gM_e (fun j h1 h2 => (hU_n (hB j 41 (by omega) (by omega) (by omega)))) (fun _ _ _ => rfl) cM⟩, ⟨k2, gWd_e (fun j h1 h2 => (hU_n (hB (j + 16) 41 (by omega) (by omega) (by omega)))) (fun x c hx hk => (hU_n (kd_ne hx x41 hk rfl))) cK, hk2⟩, gO_e (fun j h1 h2 => (hU_n (hB j 41 (by omega) (by omega) (by omega)))) cO, gR_e (hU_n (hB 37 41 (by omega) (by omega) (by omega))) cR, gA_e (fun j h1 h2 => (hU_n (hB j 41 (by omega) (by omega) (by omega)))) cA, gS_e (fun j h1 h2 => (hU_n (hB j 41 (by omega) (by omega) (by omega)))) cS, (hU_s : _)⟩
    exact v_iret X r dX7_stands_24 (Nat.le_refl _) (Nat.le_refl _) ⟨by rw [eqr], by rw [eqr]; exact hCR⟩
  · refine v_iload_n X dX7_stands_9 2 rfl ?_
    refine v_iconst X dX7_stands_10 (v := 0) (by decide) ?_
    refine v_iconst X dX7_stands_11 (v := 5) (by decide) ?_
    refine v_cSi X [.int what, .int 0, .int 5] sX7_68 (ct_X7_within ll g what 0 5) dX7_stands_12 rfl rfl ⟨rfl, rfl⟩ ⟨(Nat.le_of_ble_eq_true rfl), (Nat.le_of_ble_eq_true rfl)⟩ ⟨Nat.zero_le _, Nat.zero_le _⟩ (Nat.le_of_ble_eq_true rfl) ?_
    refine v_ifb_ne X dX7_stands_15 (tgt := 25) (by decide) (fun c2 => ?_) (fun c2 => ?_)
    · refine v_aload_n X dX7_stands_25 0 rfl ?_
      refine v_get X fX7_10 x0 rfl dX7_stands_26 ?_
      refine v_get X fX7_141 x1 rfl dX7_stands_29 ?_
      refine v_ifb_ne X dX7_stands_32 (tgt := 42) (by decide) (fun c3 => ?_) (fun c3 => ?_)
      · obtain ⟨hq0, hq1, hq01⟩ := honp c3
        obtain ⟨l0, hl0, el0⟩ := (hper p0 hq0).2.2.1
        obtain ⟨l1, hl1, el1⟩ := (hper p1 hq1).2.2.1
        have hd2 : ¬ d 2 = 0 := fun z => by have y := c3; rw [z] at y; exact absurd y (by decide)
        refine v_iload_n X dX7_stands_42 1 rfl ?_
        refine v_if_ne X dX7_stands_43 (tgt := 56) (by decide) (fun c4 => ?_) (fun c4 => ?_)
        · refine v_aload_n X dX7_stands_56 0 rfl ?_
          refine v_get X fX7_10 x0 rfl dX7_stands_57 ?_
          refine v_get X fX7_147 x1 rfl dX7_stands_60 ?_
          refine v_istore_n (lv1 := [(3, .int (d 4)), (0, .ref (B 0)), (1, .int who), (2, .int what)]) X dX7_stands_63 (by decide) rfl ?_
          refine v_iload_n X dX7_stands_64 2 rfl ?_
          refine v_if_ne X dX7_stands_65 (tgt := 81) (by decide) (fun _ => ?_) (fun z => absurd z c4)
          have ew : who = 1 := who1 c1 c4
          have qjw : pr who = 1 := by rw [ew]; rfl
          have qp : pr (d (3 + 1)) = p1 := ix_cl e4 (by omega)
          refine v_aload_n X dX7_stands_81 1 rfl ?_
          refine v_get X fX7_10 x0 rfl dX7_stands_82 ?_
          refine v_get X fX7_150 x1 rfl dX7_stands_85 ?_
          refine v_get X fX7_170 x5 rfl dX7_stands_88 ?_
          refine v_astore (lv1 := [(4, .ref (B 8)), (3, .int (d 4)), (0, .ref (B 0)), (1, .int who), (2, .int what)]) X dX7_stands_91 (by decide) rfl ?_
          refine v_aload_n X dX7_stands_93 2 rfl ?_
          refine v_get X fX7_10 x0 rfl dX7_stands_94 ?_
          refine v_get X fX7_82 x1 rfl dX7_stands_97 ?_
          refine v_iload_n X dX7_stands_100 1 rfl ?_
          refine v_aaldK X 2 rfl p1 (v := .ref (B (9 + p1))) x2 e4 (by omega) (by decide) (by rw [hpf p1 (by omega)]; rfl) dX7_stands_101 ?_
          refine v_astore (lv1 := [(5, .ref (B (9 + p1))), (4, .ref (B 8)), (3, .int (d 4)), (0, .ref (B 0)), (1, .int who), (2, .int what)]) X dX7_stands_102 (by decide) rfl ?_
          refine v_iload_n X dX7_stands_104 5 rfl ?_
          by_cases c5_0 : what = 0
          · refine v_tabIn X dX7_stands_105 (off := 35) (tgt := 140) 0 c5_0 (by decide) (by decide) (by decide) (by decide) ?_
            refine v_iload_n X dX7_stands_140 2 rfl ?_
            have eqr : op_stands (d, k, hk, fo, tape, tp, bits, sz, num) who what = (d 4, (d, k, hk, fo, tape, tp, bits, sz, num)) := by unfold op_stands; dsimp only; rw [if_pos (And.intro c1 c2), if_neg hd2, qjw, if_pos c5_0]
            have hCR : CR g h B (d, k, hk, fo, tape, tp, bits, sz, num) := ⟨hB, gX_e rfl cX, ⟨gW_e rfl ⟨rfl, rfl, rfl, rfl, rfl, rfl⟩ cW, gP_e (fun j hj => rfl) rfl (fun _ _ _ => rfl) cP, gY_e rfl (fun x c hx hk => rfl) rfl (fun _ _ _ => rfl) cY, gT_e rfl (fun _ _ _ => rfl) cT, gM_e (fun j h1 h2 => rfl) (fun _ _ _ => rfl) cM⟩, ⟨k2, gWd_e (fun j h1 h2 => rfl) (fun x c hx hk => rfl) cK, hk2⟩, gO_e (fun j h1 h2 => rfl) cO, gR_e rfl cR, gA_e (fun j h1 h2 => rfl) cA, gS_e (fun j h1 h2 => rfl) cS, gF_e rfl cF⟩
            exact v_iret X r dX7_stands_141 (Nat.le_refl _) (Nat.le_refl _) ⟨by rw [eqr], by rw [eqr]; exact hCR⟩
          by_cases c5_1 : what = 1
          · refine v_tabIn X dX7_stands_105 (off := 37) (tgt := 142) 1 c5_1 (by decide) (by decide) (by decide) (by decide) ?_
            refine v_aload X dX7_stands_142 1 rfl ?_
            refine v_get X fX7_172 x8 rfl dX7_stands_144 ?_
            have eqr : op_stands (d, k, hk, fo, tape, tp, bits, sz, num) who what = (d 17, (d, k, hk, fo, tape, tp, bits, sz, num)) := by unfold op_stands; dsimp only; rw [if_pos (And.intro c1 c2), if_neg hd2, qjw, if_neg c5_0, if_pos c5_1]
            have hCR : CR g h B (d, k, hk, fo, tape, tp, bits, sz, num) := ⟨hB, gX_e rfl cX, ⟨gW_e rfl ⟨rfl, rfl, rfl, rfl, rfl, rfl⟩ cW, gP_e (fun j hj => rfl) rfl (fun _ _ _ => rfl) cP, gY_e rfl (fun x c hx hk => rfl) rfl (fun _ _ _ => rfl) cY, gT_e rfl (fun _ _ _ => rfl) cT, gM_e (fun j h1 h2 => rfl) (fun _ _ _ => rfl) cM⟩, ⟨k2, gWd_e (fun j h1 h2 => rfl) (fun x c hx hk => rfl) cK, hk2⟩, gO_e (fun j h1 h2 => rfl) cO, gR_e rfl cR, gA_e (fun j h1 h2 => rfl) cA, gS_e (fun j h1 h2 => rfl) cS, gF_e rfl cF⟩
            exact v_iret X r dX7_stands_147 (Nat.le_refl _) (Nat.le_refl _) ⟨by rw [eqr], by rw [eqr]; exact hCR⟩
          by_cases c5_2 : what = 2
          · refine v_tabIn X dX7_stands_105 (off := 43) (tgt := 148) 2 c5_2 (by decide) (by decide) (by decide) (by decide) ?_
            refine v_aload X dX7_stands_148 1 rfl ?_
            refine v_get X fX7_177 x8 rfl dX7_stands_150 ?_
            have eqr : op_stands (d, k, hk, fo, tape, tp, bits, sz, num) who what = (d 19, (d, k, hk, fo, tape, tp, bits, sz, num)) := by unfold op_stands; dsimp only; rw [if_pos (And.intro c1 c2), if_neg hd2, qjw, if_neg c5_0, if_neg c5_1, if_pos c5_2]
            have hCR : CR g h B (d, k, hk, fo, tape, tp, bits, sz, num) := ⟨hB, gX_e rfl cX, ⟨gW_e rfl ⟨rfl, rfl, rfl, rfl, rfl, rfl⟩ cW, gP_e (fun j hj => rfl) rfl (fun _ _ _ => rfl) cP, gY_e rfl (fun x c hx hk => rfl) rfl (fun _ _ _ => rfl) cY, gT_e rfl (fun _ _ _ => rfl) cT, gM_e (fun j h1 h2 => rfl) (fun _ _ _ => rfl) cM⟩, ⟨k2, gWd_e (fun j h1 h2 => rfl) (fun x c hx hk => rfl) cK, hk2⟩, gO_e (fun j h1 h2 => rfl) cO, gR_e rfl cR, gA_e (fun j h1 h2 => rfl) cA, gS_e (fun j h1 h2 => rfl) cS, gF_e rfl cF⟩
            exact v_iret X r dX7_stands_153 (Nat.le_refl _) (Nat.le_refl _) ⟨by rw [eqr], by rw [eqr]; exact hCR⟩
          by_cases c5_3 : what = 3
          · refine v_tabIn X dX7_stands_105 (off := 49) (tgt := 154) 3 c5_3 (by decide) (by decide) (by decide) (by decide) ?_
            refine v_aload X dX7_stands_154 1 rfl ?_
            refine v_get X fX7_180 x8 rfl dX7_stands_156 ?_
            have eqr : op_stands (d, k, hk, fo, tape, tp, bits, sz, num) who what = (d 21, (d, k, hk, fo, tape, tp, bits, sz, num)) := by unfold op_stands; dsimp only; rw [if_pos (And.intro c1 c2), if_neg hd2, qjw, if_neg c5_0, if_neg c5_1, if_neg c5_2, if_pos c5_3]
            have hCR : CR g h B (d, k, hk, fo, tape, tp, bits, sz, num) := ⟨hB, gX_e rfl cX, ⟨gW_e rfl ⟨rfl, rfl, rfl, rfl, rfl, rfl⟩ cW, gP_e (fun j hj => rfl) rfl (fun _ _ _ => rfl) cP, gY_e rfl (fun x c hx hk => rfl) rfl (fun _ _ _ => rfl) cY, gT_e rfl (fun _ _ _ => rfl) cT, gM_e (fun j h1 h2 => rfl) (fun _ _ _ => rfl) cM⟩, ⟨k2, gWd_e (fun j h1 h2 => rfl) (fun x c hx hk => rfl) cK, hk2⟩, gO_e (fun j h1 h2 => rfl) cO, gR_e rfl cR, gA_e (fun j h1 h2 => rfl) cA, gS_e (fun j h1 h2 => rfl) cS, gF_e rfl cF⟩
            exact v_iret X r dX7_stands_159 (Nat.le_refl _) (Nat.le_refl _) ⟨by rw [eqr], by rw [eqr]; exact hCR⟩
          by_cases c5_4 : what = 4
          · refine v_tabIn X dX7_stands_105 (off := 55) (tgt := 160) 4 c5_4 (by decide) (by decide) (by decide) (by decide) ?_
            refine v_aload_n X dX7_stands_160 3 rfl ?_
            refine v_get X fX7_10 x0 rfl dX7_stands_161 ?_
            refine v_get X fX7_150 x1 rfl dX7_stands_164 ?_
            refine v_aload X dX7_stands_167 0 rfl ?_
            refine v_cVi X [.ref (B (9 + p1))] sX7_183 (ct_X0_seenBy (m := d) (p := p1) ll g x5 (pC p1 (by omega)) x6 hR e6 hT30 el1 hl1) x5 rfl dX7_stands_169 rfl rfl ⟨rfl, rfl⟩ ⟨(Nat.le_of_ble_eq_true rfl), (Nat.le_of_ble_eq_true rfl)⟩ ⟨Nat.zero_le _, Nat.zero_le _⟩ (Nat.le_of_ble_eq_true rfl) ?_
            have eqr : op_stands (d, k, hk, fo, tape, tp, bits, sz, num) who what = (seesM d p1, (d, k, hk, fo, tape, tp, bits, sz, num)) := by unfold op_stands; dsimp only; rw [if_pos (And.intro c1 c2), if_neg hd2, qjw, if_neg c5_0, if_neg c5_1, if_neg c5_2, if_neg c5_3, if_pos c5_4, qp]
            have hCR : CR g h B (d, k, hk, fo, tape, tp, bits, sz, num) := ⟨hB, gX_e rfl cX, ⟨gW_e rfl ⟨rfl, rfl, rfl, rfl, rfl, rfl⟩ cW, gP_e (fun j hj => rfl) rfl (fun _ _ _ => rfl) cP, gY_e rfl (fun x c hx hk => rfl) rfl (fun _ _ _ => rfl) cY, gT_e rfl (fun _ _ _ => rfl) cT, gM_e (fun j h1 h2 => rfl) (fun _ _ _ => rfl) cM⟩, ⟨k2, gWd_e (fun j h1 h2 => rfl) (fun x c hx hk => rfl) cK, hk2⟩, gO_e (fun j h1 h2 => rfl) cO, gR_e rfl cR, gA_e (fun j h1 h2 => rfl) cA, gS_e (fun j h1 h2 => rfl) cS, gF_e rfl cF⟩
            exact v_iret X r dX7_stands_172 (Nat.le_refl _) (Nat.le_refl _) ⟨by rw [eqr], by rw [eqr]; exact hCR⟩
          refine v_tabOut X dX7_stands_105 (tgt := 173) (by have e0 := lv_neT (k := 0) (a := 0) c5_0 (by decide); have e1 := lv_neT (k := 1) (a := 1) c5_1 (by decide); have e2 := lv_neT (k := 2) (a := 2) c5_2 (by decide); have e3 := lv_neT (k := 3) (a := 3) c5_3 (by decide); have e4 := lv_neT (k := 4) (a := 4) c5_4 (by decide); omega) (by decide) ?_
          refine v_aload_n X dX7_stands_173 3 rfl ?_
          refine v_get X fX7_10 x0 rfl dX7_stands_174 ?_
          refine v_get X fX7_150 x1 rfl dX7_stands_177 ?_
          refine v_aload X dX7_stands_180 0 rfl ?_
          refine v_aload X dX7_stands_182 1 rfl ?_
          refine v_cVi X [.ref (B (9 + p1)), .ref (B 8)] sX7_187 (ct_X0_nextShove (m := d) (p := p1) ll g x5 (pC p1 (by omega)) x6 x3 x8 hR e6 hT30 el1 hl1 (HW_of hnw (hper p1 hq1).2.2.2.2 (fun w h6 hw => hwy w h6 (by rw [qw]; exact hw))) (Int32.le_trans (by decide) (hper p1 hq1).2.2.2.1.1) (iB_ne (sees_B hR e6 hT30 el1 hl1 hRB) (by omega))) x5 rfl dX7_stands_184 rfl rfl ⟨rfl, rfl⟩ ⟨(Nat.le_of_ble_eq_true rfl), (Nat.le_of_ble_eq_true rfl)⟩ ⟨Nat.zero_le _, Nat.zero_le _⟩ (Nat.le_of_ble_eq_true rfl) ?_
          have eqr : op_stands (d, k, hk, fo, tape, tp, bits, sz, num) who what = (pshS d p1 (d 19) (d 21), (d, k, hk, fo, tape, tp, bits, sz, num)) := by unfold op_stands; dsimp only; rw [if_pos (And.intro c1 c2), if_neg hd2, qjw, if_neg c5_0, if_neg c5_1, if_neg c5_2, if_neg c5_3, if_neg c5_4, qp]; rfl
          have hCR : CR g h B (d, k, hk, fo, tape, tp, bits, sz, num) := ⟨hB, gX_e rfl cX, ⟨gW_e rfl ⟨rfl, rfl, rfl, rfl, rfl, rfl⟩ cW, gP_e (fun j hj => rfl) rfl (fun _ _ _ => rfl) cP, gY_e rfl (fun x c hx hk => rfl) rfl (fun _ _ _ => rfl) cY, gT_e rfl (fun _ _ _ => rfl) cT, gM_e (fun j h1 h2 => rfl) (fun _ _ _ => rfl) cM⟩, ⟨k2, gWd_e (fun j h1 h2 => rfl) (fun x c hx hk => rfl) cK, hk2⟩, gO_e (fun j h1 h2 => rfl) cO, gR_e rfl cR, gA_e (fun j h1 h2 => rfl) cA, gS_e (fun j h1 h2 => rfl) cS, gF_e rfl cF⟩
          exact v_iret X r dX7_stands_187 (Nat.le_refl _) (Nat.le_refl _) ⟨by rw [eqr], by rw [eqr]; exact hCR⟩
        · refine v_aload_n X dX7_stands_46 0 rfl ?_
          refine v_get X fX7_10 x0 rfl dX7_stands_47 ?_
          refine v_get X fX7_144 x1 rfl dX7_stands_50 ?_
          refine v_goto X dX7_stands_53 (tgt := 63) (by decide) ?_
          refine v_istore_n (lv1 := [(3, .int (d 3)), (0, .ref (B 0)), (1, .int who), (2, .int what)]) X dX7_stands_63 (by decide) rfl ?_
          refine v_iload_n X dX7_stands_64 2 rfl ?_
          refine v_if_ne X dX7_stands_65 (tgt := 81) (by decide) (fun z => absurd c4 z) (fun _ => ?_)
          have qjw : pr who = 0 := by rw [c4]; rfl
          have qp : pr (d (3 + 0)) = p0 := ix_cl e3 (by omega)
          refine v_aload_n X dX7_stands_68 1 rfl ?_
          refine v_get X fX7_10 x0 rfl dX7_stands_69 ?_
          refine v_get X fX7_150 x1 rfl dX7_stands_72 ?_
          refine v_get X fX7_167 x5 rfl dX7_stands_75 ?_
          refine v_goto X dX7_stands_78 (tgt := 91) (by decide) ?_
          refine v_astore (lv1 := [(4, .ref (B 7)), (3, .int (d 3)), (0, .ref (B 0)), (1, .int who), (2, .int what)]) X dX7_stands_91 (by decide) rfl ?_
          refine v_aload_n X dX7_stands_93 2 rfl ?_
          refine v_get X fX7_10 x0 rfl dX7_stands_94 ?_
          refine v_get X fX7_82 x1 rfl dX7_stands_97 ?_
          refine v_iload_n X dX7_stands_100 1 rfl ?_
          refine v_aaldK X 2 rfl p0 (v := .ref (B (9 + p0))) x2 e3 (by omega) (by decide) (by rw [hpf p0 (by omega)]; rfl) dX7_stands_101 ?_
          refine v_astore (lv1 := [(5, .ref (B (9 + p0))), (4, .ref (B 7)), (3, .int (d 3)), (0, .ref (B 0)), (1, .int who), (2, .int what)]) X dX7_stands_102 (by decide) rfl ?_
          refine v_iload_n X dX7_stands_104 5 rfl ?_
          by_cases c6_0 : what = 0
          · refine v_tabIn X dX7_stands_105 (off := 35) (tgt := 140) 0 c6_0 (by decide) (by decide) (by decide) (by decide) ?_
            refine v_iload_n X dX7_stands_140 2 rfl ?_
            have eqr : op_stands (d, k, hk, fo, tape, tp, bits, sz, num) who what = (d 3, (d, k, hk, fo, tape, tp, bits, sz, num)) := by unfold op_stands; dsimp only; rw [if_pos (And.intro c1 c2), if_neg hd2, qjw, if_pos c6_0]
            have hCR : CR g h B (d, k, hk, fo, tape, tp, bits, sz, num) := ⟨hB, gX_e rfl cX, ⟨gW_e rfl ⟨rfl, rfl, rfl, rfl, rfl, rfl⟩ cW, gP_e (fun j hj => rfl) rfl (fun _ _ _ => rfl) cP, gY_e rfl (fun x c hx hk => rfl) rfl (fun _ _ _ => rfl) cY, gT_e rfl (fun _ _ _ => rfl) cT, gM_e (fun j h1 h2 => rfl) (fun _ _ _ => rfl) cM⟩, ⟨k2, gWd_e (fun j h1 h2 => rfl) (fun x c hx hk => rfl) cK, hk2⟩, gO_e (fun j h1 h2 => rfl) cO, gR_e rfl cR, gA_e (fun j h1 h2 => rfl) cA, gS_e (fun j h1 h2 => rfl) cS, gF_e rfl cF⟩
            exact v_iret X r dX7_stands_141 (Nat.le_refl _) (Nat.le_refl _) ⟨by rw [eqr], by rw [eqr]; exact hCR⟩
          by_cases c6_1 : what = 1
          · refine v_tabIn X dX7_stands_105 (off := 37) (tgt := 142) 1 c6_1 (by decide) (by decide) (by decide) (by decide) ?_
            refine v_aload X dX7_stands_142 1 rfl ?_
            refine v_get X fX7_172 x7 rfl dX7_stands_144 ?_
            have eqr : op_stands (d, k, hk, fo, tape, tp, bits, sz, num) who what = (d 16, (d, k, hk, fo, tape, tp, bits, sz, num)) := by unfold op_stands; dsimp only; rw [if_pos (And.intro c1 c2), if_neg hd2, qjw, if_neg c6_0, if_pos c6_1]
            have hCR : CR g h B (d, k, hk, fo, tape, tp, bits, sz, num) := ⟨hB, gX_e rfl cX, ⟨gW_e rfl ⟨rfl, rfl, rfl, rfl, rfl, rfl⟩ cW, gP_e (fun j hj => rfl) rfl (fun _ _ _ => rfl) cP, gY_e rfl (fun x c hx hk => rfl) rfl (fun _ _ _ => rfl) cY, gT_e rfl (fun _ _ _ => rfl) cT, gM_e (fun j h1 h2 => rfl) (fun _ _ _ => rfl) cM⟩, ⟨k2, gWd_e (fun j h1 h2 => rfl) (fun x c hx hk => rfl) cK, hk2⟩, gO_e (fun j h1 h2 => rfl) cO, gR_e rfl cR, gA_e (fun j h1 h2 => rfl) cA, gS_e (fun j h1 h2 => rfl) cS, gF_e rfl cF⟩
            exact v_iret X r dX7_stands_147 (Nat.le_refl _) (Nat.le_refl _) ⟨by rw [eqr], by rw [eqr]; exact hCR⟩
          by_cases c6_2 : what = 2
          · refine v_tabIn X dX7_stands_105 (off := 43) (tgt := 148) 2 c6_2 (by decide) (by decide) (by decide) (by decide) ?_
            refine v_aload X dX7_stands_148 1 rfl ?_
            refine v_get X fX7_177 x7 rfl dX7_stands_150 ?_
            have eqr : op_stands (d, k, hk, fo, tape, tp, bits, sz, num) who what = (d 18, (d, k, hk, fo, tape, tp, bits, sz, num)) := by unfold op_stands; dsimp only; rw [if_pos (And.intro c1 c2), if_neg hd2, qjw, if_neg c6_0, if_neg c6_1, if_pos c6_2]
            have hCR : CR g h B (d, k, hk, fo, tape, tp, bits, sz, num) := ⟨hB, gX_e rfl cX, ⟨gW_e rfl ⟨rfl, rfl, rfl, rfl, rfl, rfl⟩ cW, gP_e (fun j hj => rfl) rfl (fun _ _ _ => rfl) cP, gY_e rfl (fun x c hx hk => rfl) rfl (fun _ _ _ => rfl) cY, gT_e rfl (fun _ _ _ => rfl) cT, gM_e (fun j h1 h2 => rfl) (fun _ _ _ => rfl) cM⟩, ⟨k2, gWd_e (fun j h1 h2 => rfl) (fun x c hx hk => rfl) cK, hk2⟩, gO_e (fun j h1 h2 => rfl) cO, gR_e rfl cR, gA_e (fun j h1 h2 => rfl) cA, gS_e (fun j h1 h2 => rfl) cS, gF_e rfl cF⟩
            exact v_iret X r dX7_stands_153 (Nat.le_refl _) (Nat.le_refl _) ⟨by rw [eqr], by rw [eqr]; exact hCR⟩
          by_cases c6_3 : what = 3
          · refine v_tabIn X dX7_stands_105 (off := 49) (tgt := 154) 3 c6_3 (by decide) (by decide) (by decide) (by decide) ?_
            refine v_aload X dX7_stands_154 1 rfl ?_
            refine v_get X fX7_180 x7 rfl dX7_stands_156 ?_
            have eqr : op_stands (d, k, hk, fo, tape, tp, bits, sz, num) who what = (d 20, (d, k, hk, fo, tape, tp, bits, sz, num)) := by unfold op_stands; dsimp only; rw [if_pos (And.intro c1 c2), if_neg hd2, qjw, if_neg c6_0, if_neg c6_1, if_neg c6_2, if_pos c6_3]
            have hCR : CR g h B (d, k, hk, fo, tape, tp, bits, sz, num) := ⟨hB, gX_e rfl cX, ⟨gW_e rfl ⟨rfl, rfl, rfl, rfl, rfl, rfl⟩ cW, gP_e (fun j hj => rfl) rfl (fun _ _ _ => rfl) cP, gY_e rfl (fun x c hx hk => rfl) rfl (fun _ _ _ => rfl) cY, gT_e rfl (fun _ _ _ => rfl) cT, gM_e (fun j h1 h2 => rfl) (fun _ _ _ => rfl) cM⟩, ⟨k2, gWd_e (fun j h1 h2 => rfl) (fun x c hx hk => rfl) cK, hk2⟩, gO_e (fun j h1 h2 => rfl) cO, gR_e rfl cR, gA_e (fun j h1 h2 => rfl) cA, gS_e (fun j h1 h2 => rfl) cS, gF_e rfl cF⟩
            exact v_iret X r dX7_stands_159 (Nat.le_refl _) (Nat.le_refl _) ⟨by rw [eqr], by rw [eqr]; exact hCR⟩
          by_cases c6_4 : what = 4
          · refine v_tabIn X dX7_stands_105 (off := 55) (tgt := 160) 4 c6_4 (by decide) (by decide) (by decide) (by decide) ?_
            refine v_aload_n X dX7_stands_160 3 rfl ?_
            refine v_get X fX7_10 x0 rfl dX7_stands_161 ?_
            refine v_get X fX7_150 x1 rfl dX7_stands_164 ?_
            refine v_aload X dX7_stands_167 0 rfl ?_
            refine v_cVi X [.ref (B (9 + p0))] sX7_183 (ct_X0_seenBy (m := d) (p := p0) ll g x5 (pC p0 (by omega)) x6 hR e6 hT30 el0 hl0) x5 rfl dX7_stands_169 rfl rfl ⟨rfl, rfl⟩ ⟨(Nat.le_of_ble_eq_true rfl), (Nat.le_of_ble_eq_true rfl)⟩ ⟨Nat.zero_le _, Nat.zero_le _⟩ (Nat.le_of_ble_eq_true rfl) ?_
            have eqr : op_stands (d, k, hk, fo, tape, tp, bits, sz, num) who what = (seesM d p0, (d, k, hk, fo, tape, tp, bits, sz, num)) := by unfold op_stands; dsimp only; rw [if_pos (And.intro c1 c2), if_neg hd2, qjw, if_neg c6_0, if_neg c6_1, if_neg c6_2, if_neg c6_3, if_pos c6_4, qp]
            have hCR : CR g h B (d, k, hk, fo, tape, tp, bits, sz, num) := ⟨hB, gX_e rfl cX, ⟨gW_e rfl ⟨rfl, rfl, rfl, rfl, rfl, rfl⟩ cW, gP_e (fun j hj => rfl) rfl (fun _ _ _ => rfl) cP, gY_e rfl (fun x c hx hk => rfl) rfl (fun _ _ _ => rfl) cY, gT_e rfl (fun _ _ _ => rfl) cT, gM_e (fun j h1 h2 => rfl) (fun _ _ _ => rfl) cM⟩, ⟨k2, gWd_e (fun j h1 h2 => rfl) (fun x c hx hk => rfl) cK, hk2⟩, gO_e (fun j h1 h2 => rfl) cO, gR_e rfl cR, gA_e (fun j h1 h2 => rfl) cA, gS_e (fun j h1 h2 => rfl) cS, gF_e rfl cF⟩
            exact v_iret X r dX7_stands_172 (Nat.le_refl _) (Nat.le_refl _) ⟨by rw [eqr], by rw [eqr]; exact hCR⟩
          refine v_tabOut X dX7_stands_105 (tgt := 173) (by have e0 := lv_neT (k := 0) (a := 0) c6_0 (by decide); have e1 := lv_neT (k := 1) (a := 1) c6_1 (by decide); have e2 := lv_neT (k := 2) (a := 2) c6_2 (by decide); have e3 := lv_neT (k := 3) (a := 3) c6_3 (by decide); have e4 := lv_neT (k := 4) (a := 4) c6_4 (by decide); omega) (by decide) ?_
          refine v_aload_n X dX7_stands_173 3 rfl ?_
          refine v_get X fX7_10 x0 rfl dX7_stands_174 ?_
          refine v_get X fX7_150 x1 rfl dX7_stands_177 ?_
          refine v_aload X dX7_stands_180 0 rfl ?_
          refine v_aload X dX7_stands_182 1 rfl ?_
          refine v_cVi X [.ref (B (9 + p0)), .ref (B 7)] sX7_187 (ct_X0_nextShove (m := d) (p := p0) ll g x5 (pC p0 (by omega)) x6 x3 x7 hR e6 hT30 el0 hl0 (HW_of hnw (hper p0 hq0).2.2.2.2 (fun w h6 hw => hwy w h6 (by rw [qw]; exact hw))) (Int32.le_trans (by decide) (hper p0 hq0).2.2.2.1.1) (iB_ne (sees_B hR e6 hT30 el0 hl0 hRB) (by omega))) x5 rfl dX7_stands_184 rfl rfl ⟨rfl, rfl⟩ ⟨(Nat.le_of_ble_eq_true rfl), (Nat.le_of_ble_eq_true rfl)⟩ ⟨Nat.zero_le _, Nat.zero_le _⟩ (Nat.le_of_ble_eq_true rfl) ?_
          have eqr : op_stands (d, k, hk, fo, tape, tp, bits, sz, num) who what = (pshS d p0 (d 18) (d 20), (d, k, hk, fo, tape, tp, bits, sz, num)) := by unfold op_stands; dsimp only; rw [if_pos (And.intro c1 c2), if_neg hd2, qjw, if_neg c6_0, if_neg c6_1, if_neg c6_2, if_neg c6_3, if_neg c6_4, qp]; rfl
          have hCR : CR g h B (d, k, hk, fo, tape, tp, bits, sz, num) := ⟨hB, gX_e rfl cX, ⟨gW_e rfl ⟨rfl, rfl, rfl, rfl, rfl, rfl⟩ cW, gP_e (fun j hj => rfl) rfl (fun _ _ _ => rfl) cP, gY_e rfl (fun x c hx hk => rfl) rfl (fun _ _ _ => rfl) cY, gT_e rfl (fun _ _ _ => rfl) cT, gM_e (fun j h1 h2 => rfl) (fun _ _ _ => rfl) cM⟩, ⟨k2, gWd_e (fun j h1 h2 => rfl) (fun x c hx hk => rfl) cK, hk2⟩, gO_e (fun j h1 h2 => rfl) cO, gR_e rfl cR, gA_e (fun j h1 h2 => rfl) cA, gS_e (fun j h1 h2 => rfl) cS, gF_e rfl cF⟩
          exact v_iret X r dX7_stands_187 (Nat.le_refl _) (Nat.le_refl _) ⟨by rw [eqr], by rw [eqr]; exact hCR⟩
      · refine v_aload_n X dX7_stands_35 0 rfl ?_
        refine v_ldc X dX7_stands_36 kX7_103 ?_
        refine v_cVi X [.int (-1000000005)] sX7_73 (ct_X7_finding (pe := 0) (wy := 0) (pt := 0) (mt := 0) (np := 0) (nw := 0) (oc := 0) (fi := 0) (se := 0) (lo := 0) (q := 4) (v := (-1000000005)) ll g x0 x41 (by decide) (by decide)) x0 rfl dX7_stands_38 rfl rfl ⟨rfl, rfl⟩ ⟨(Nat.le_of_ble_eq_true rfl), (Nat.le_of_ble_eq_true rfl)⟩ ⟨Nat.zero_le _, Nat.zero_le _⟩ (Nat.le_of_ble_eq_true rfl) ?_
        have eqr : op_stands (d, k, hk, fo, tape, tp, bits, sz, num) who what = ((-1000000005), (d, k, hk, fnd fo 4, tape, tp, bits, sz, num)) := by unfold op_stands; dsimp only; rw [if_pos (And.intro c1 c2), if_pos (hon.resolve_right c3)]
        have hCR : CR g (hU h (B 41) (ai g 7 (fnd fo 4))) B (d, k, hk, fnd fo 4, tape, tp, bits, sz, num) := ⟨hB, gX_e (hU_n (hB 0 41 (by omega) (by omega) (by omega))) cX, ⟨gW_e (hU_n (hB 1 41 (by omega) (by omega) (by omega))) ⟨rfl, rfl, rfl, rfl, rfl, rfl⟩ cW, gP_e (fun j hj => (hU_n (hB j 41 (by omega) (by omega) (by omega)))) rfl (fun _ _ _ => rfl) cP, gY_e (hU_n (hB 3 41 (by omega) (by omega) (by omega))) (fun x c hx hk => (hU_n (kd_ne hx x41 hk rfl))) rfl (fun _ _ _ => rfl) cY, gT_e (hU_n (hB 4 41 (by omega) (by omega) (by omega))) (fun _ _ _ => rfl) cT, gM_e (fun j h1 h2 => (hU_n (hB j 41 (by omega) (by omega) (by omega)))) (fun _ _ _ => rfl) cM⟩, ⟨k2, gWd_e (fun j h1 h2 => (hU_n (hB (j + 16) 41 (by omega) (by omega) (by omega)))) (fun x c hx hk => (hU_n (kd_ne hx x41 hk rfl))) cK, hk2⟩, gO_e (fun j h1 h2 => (hU_n (hB j 41 (by omega) (by omega) (by omega)))) cO, gR_e (hU_n (hB 37 41 (by omega) (by omega) (by omega))) cR, gA_e (fun j h1 h2 => (hU_n (hB j 41 (by omega) (by omega) (by omega)))) cA, gS_e (fun j h1 h2 => (hU_n (hB j 41 (by omega) (by omega) (by omega)))) cS, (hU_s : _)⟩
        exact v_iret X r dX7_stands_41 (Nat.le_refl _) (Nat.le_refl _) ⟨by rw [eqr], by rw [eqr]; exact hCR⟩
    · refine v_aload_n X dX7_stands_18 0 rfl ?_
      refine v_ldc X dX7_stands_19 kX7_72 ?_
      refine v_cVi X [.int (-1000000001)] sX7_73 (ct_X7_finding (pe := 0) (wy := 0) (pt := 0) (mt := 0) (np := 0) (nw := 0) (oc := 0) (fi := 0) (se := 0) (lo := 0) (q := 0) (v := (-1000000001)) ll g x0 x41 (by decide) (by decide)) x0 rfl dX7_stands_21 rfl rfl ⟨rfl, rfl⟩ ⟨(Nat.le_of_ble_eq_true rfl), (Nat.le_of_ble_eq_true rfl)⟩ ⟨Nat.zero_le _, Nat.zero_le _⟩ (Nat.le_of_ble_eq_true rfl) ?_
      have eqr : op_stands (d, k, hk, fo, tape, tp, bits, sz, num) who what = ((-1000000001), (d, k, hk, fnd fo 0, tape, tp, bits, sz, num)) := by unfold op_stands; dsimp only; rw [if_neg (fun q : _ ∧ _ => c2 (And.right q))]
      have hCR : CR g (hU h (B 41) (ai g 7 (fnd fo 0))) B (d, k, hk, fnd fo 0, tape, tp, bits, sz, num) := ⟨hB, gX_e (hU_n (hB 0 41 (by omega) (by omega) (by omega))) cX, ⟨gW_e (hU_n (hB 1 41 (by omega) (by omega) (by omega))) ⟨rfl, rfl, rfl, rfl, rfl, rfl⟩ cW, gP_e (fun j hj => (hU_n (hB j 41 (by omega) (by omega) (by omega)))) rfl (fun _ _ _ => rfl) cP, gY_e (hU_n (hB 3 41 (by omega) (by omega) (by omega))) (fun x c hx hk => (hU_n (kd_ne hx x41 hk rfl))) rfl (fun _ _ _ => rfl) cY, gT_e (hU_n (hB 4 41 (by omega) (by omega) (by omega))) (fun _ _ _ => rfl) cT, gM_e (fun j h1 h2 => (hU_n (hB j 41 (by omega) (by omega) (by omega)))) (fun _ _ _ => rfl) cM⟩, ⟨k2, gWd_e (fun j h1 h2 => (hU_n (hB (j + 16) 41 (by omega) (by omega) (by omega)))) (fun x c hx hk => (hU_n (kd_ne hx x41 hk rfl))) cK, hk2⟩, gO_e (fun j h1 h2 => (hU_n (hB j 41 (by omega) (by omega) (by omega)))) cO, gR_e (hU_n (hB 37 41 (by omega) (by omega) (by omega))) cR, gA_e (fun j h1 h2 => (hU_n (hB j 41 (by omega) (by omega) (by omega)))) cA, gS_e (fun j h1 h2 => (hU_n (hB j 41 (by omega) (by omega) (by omega)))) cS, (hU_s : _)⟩
      exact v_iret X r dX7_stands_24 (Nat.le_refl _) (Nat.le_refl _) ⟨by rw [eqr], by rw [eqr]; exact hCR⟩
set_option maxHeartbeats 4000000 in
set_option maxRecDepth 100000 in
theorem ct_X7_endBout1 (ll : Launch) (g : GT) {h : Hp} {x w kp ot tl tp sh fo pe wy pt mt a b : Nat} {ik np nw oc fi se lo : Int32} {f1 f2 : Nat → Int32} (hx : h x = some (ob 7 [.ref w, .ref kp, .int ik, .ref ot, .ref tl, .ref tp, .ref sh, .ref fo])) (hw : h w = some (ob 6 [.ref pe, .int np, .ref wy, .int nw, .ref pt, .ref mt, .int oc, .int fi, .int se, .int lo])) (ha : h a = some (ob 1 [.int (f1 0), .int (f1 1), .int (f1 2), .int (f1 3), .int (f1 4), .int (f1 5), .int (f1 6)])) (hb : h b = some (ob 1 [.int (f2 0), .int (f2 1), .int (f2 2), .int (f2 3), .int (f2 4), .int (f2 5), .int (f2 6)])) (hab : a ≠ b) : MF ll g yX7_endBout cX7_endBout 4 none (k2_rm 0 0) [.ref x, .ref a, .ref b, .int 1] h none (hU (hU h a (ob 1 [.int (f1 0), .int (f1 1), .int (f1 2), .int (f1 3), .int (f1 4), .int ((f1 5) + 1), .int (f1 6)])) w (ob 6 [.ref pe, .int np, .ref wy, .int nw, .ref pt, .ref mt, .int 0, .int fi, .int se, .int 1])) := by
  have ne_1 : x ≠ a := hneb hx ha rfl
  have ne_2 : w ≠ a := hneb hw ha rfl
  have ne_3 : x ≠ w := hneb hx hw rfl
  refine mc_of (by decide) (Nat.le_of_ble_eq_true rfl) ?_
  intro K X r
  refine v_eqv (lv2 := [(0, .ref x), (1, .ref a), (2, .ref b), (3, .int 1)]) rfl ?_
  refine v_iload_n X dX7_endBout_0 3 rfl ?_
  refine v_iconst X dX7_endBout_1 (v := 1) (by decide) ?_
  refine v_icmp_eq X dX7_endBout_2 (tgt := 10) (by decide) (fun _ => ?_) (fun c => absurd c (by decide))
  refine v_aload_n X dX7_endBout_10 1 rfl ?_
  refine v_dup X dX7_endBout_11 rfl ?_
  refine v_get X fX7_114 ha rfl dX7_endBout_12 ?_
  refine v_iconst X dX7_endBout_15 (v := 1) (by decide) ?_
  refine v_iadd X dX7_endBout_16 ?_
  refine v_putE (h2 := (hU h a (ob 1 [.int (f1 0), .int (f1 1), .int (f1 2), .int (f1 3), .int (f1 4), .int ((f1 5) + 1), .int (f1 6)]))) X fX7_114 tyX1_ok nmX1 rfl pd_I ha rfl rfl (ltb rfl) dX7_endBout_17 rfl ?_
  refine v_iload_n X dX7_endBout_20 3 rfl ?_
  refine v_iconst X dX7_endBout_21 (v := 2) (by decide) ?_
  refine v_icmp_eq X dX7_endBout_22 (tgt := 30) (by decide) (fun c => absurd c (by decide)) (fun _ => ?_)
  refine v_iload_n X dX7_endBout_25 3 rfl ?_
  refine v_iconst X dX7_endBout_26 (v := 3) (by decide) ?_
  refine v_icmp_ne X dX7_endBout_27 (tgt := 40) (by decide) (fun _ => ?_) (fun c => absurd c (by decide))
  refine v_aload_n X dX7_endBout_40 0 rfl ?_
  refine v_get X fX7_10 ((hU_n ne_1).trans hx) rfl dX7_endBout_41 ?_
  refine v_iconst X dX7_endBout_44 (v := 0) (by decide) ?_
  refine v_putE (h2 := (hU (hU h a (ob 1 [.int (f1 0), .int (f1 1), .int (f1 2), .int (f1 3), .int (f1 4), .int ((f1 5) + 1), .int (f1 6)])) w (ob 6 [.ref pe, .int np, .ref wy, .int nw, .ref pt, .ref mt, .int 0, .int fi, .int se, .int lo]))) X fX7_141 tyX6_ok nmX6 rfl pd_Z ((hU_n ne_2).trans hw) rfl rfl (ltb rfl) dX7_endBout_45 rfl ?_
  refine v_aload_n X dX7_endBout_48 0 rfl ?_
  refine v_get X fX7_10 ((hU_n ne_3).trans ((hU_n ne_1).trans hx)) rfl dX7_endBout_49 ?_
  refine v_iload_n X dX7_endBout_52 3 rfl ?_
  refine v_putE (h2 := (hU (hU h a (ob 1 [.int (f1 0), .int (f1 1), .int (f1 2), .int (f1 3), .int (f1 4), .int ((f1 5) + 1), .int (f1 6)])) w (ob 6 [.ref pe, .int np, .ref wy, .int nw, .ref pt, .ref mt, .int 0, .int fi, .int se, .int 1]))) X fX7_194 tyX6_ok nmX6 rfl pd_I hU_s rfl rfl (ltb rfl) dX7_endBout_53 hU_u ?_
  exact v_vret X r dX7_endBout_56 (Nat.le_refl _) (Nat.le_refl _) ⟨rfl, rfl⟩
set_option maxHeartbeats 4000000 in
set_option maxRecDepth 100000 in
theorem ct_X7_endBout2 (ll : Launch) (g : GT) {h : Hp} {x w kp ot tl tp sh fo pe wy pt mt a b : Nat} {ik np nw oc fi se lo : Int32} {f1 f2 : Nat → Int32} (hx : h x = some (ob 7 [.ref w, .ref kp, .int ik, .ref ot, .ref tl, .ref tp, .ref sh, .ref fo])) (hw : h w = some (ob 6 [.ref pe, .int np, .ref wy, .int nw, .ref pt, .ref mt, .int oc, .int fi, .int se, .int lo])) (ha : h a = some (ob 1 [.int (f1 0), .int (f1 1), .int (f1 2), .int (f1 3), .int (f1 4), .int (f1 5), .int (f1 6)])) (hb : h b = some (ob 1 [.int (f2 0), .int (f2 1), .int (f2 2), .int (f2 3), .int (f2 4), .int (f2 5), .int (f2 6)])) (hab : a ≠ b) : MF ll g yX7_endBout cX7_endBout 4 none (k2_rm 0 0) [.ref x, .ref a, .ref b, .int 2] h none (hU (hU h b (ob 1 [.int (f2 0), .int (f2 1), .int (f2 2), .int (f2 3), .int (f2 4), .int ((f2 5) + 1), .int (f2 6)])) w (ob 6 [.ref pe, .int np, .ref wy, .int nw, .ref pt, .ref mt, .int 0, .int fi, .int se, .int 2])) := by
  have ne_1 : x ≠ b := hneb hx hb rfl
  have ne_2 : w ≠ b := hneb hw hb rfl
  have ne_3 : x ≠ w := hneb hx hw rfl
  refine mc_of (by decide) (Nat.le_of_ble_eq_true rfl) ?_
  intro K X r
  refine v_eqv (lv2 := [(0, .ref x), (1, .ref a), (2, .ref b), (3, .int 2)]) rfl ?_
  refine v_iload_n X dX7_endBout_0 3 rfl ?_
  refine v_iconst X dX7_endBout_1 (v := 1) (by decide) ?_
  refine v_icmp_eq X dX7_endBout_2 (tgt := 10) (by decide) (fun c => absurd c (by decide)) (fun _ => ?_)
  refine v_iload_n X dX7_endBout_5 3 rfl ?_
  refine v_iconst X dX7_endBout_6 (v := 3) (by decide) ?_
  refine v_icmp_ne X dX7_endBout_7 (tgt := 20) (by decide) (fun _ => ?_) (fun c => absurd c (by decide))
  refine v_iload_n X dX7_endBout_20 3 rfl ?_
  refine v_iconst X dX7_endBout_21 (v := 2) (by decide) ?_
  refine v_icmp_eq X dX7_endBout_22 (tgt := 30) (by decide) (fun _ => ?_) (fun c => absurd c (by decide))
  refine v_aload_n X dX7_endBout_30 2 rfl ?_
  refine v_dup X dX7_endBout_31 rfl ?_
  refine v_get X fX7_114 hb rfl dX7_endBout_32 ?_
  refine v_iconst X dX7_endBout_35 (v := 1) (by decide) ?_
  refine v_iadd X dX7_endBout_36 ?_
  refine v_putE (h2 := (hU h b (ob 1 [.int (f2 0), .int (f2 1), .int (f2 2), .int (f2 3), .int (f2 4), .int ((f2 5) + 1), .int (f2 6)]))) X fX7_114 tyX1_ok nmX1 rfl pd_I hb rfl rfl (ltb rfl) dX7_endBout_37 rfl ?_
  refine v_aload_n X dX7_endBout_40 0 rfl ?_
  refine v_get X fX7_10 ((hU_n ne_1).trans hx) rfl dX7_endBout_41 ?_
  refine v_iconst X dX7_endBout_44 (v := 0) (by decide) ?_
  refine v_putE (h2 := (hU (hU h b (ob 1 [.int (f2 0), .int (f2 1), .int (f2 2), .int (f2 3), .int (f2 4), .int ((f2 5) + 1), .int (f2 6)])) w (ob 6 [.ref pe, .int np, .ref wy, .int nw, .ref pt, .ref mt, .int 0, .int fi, .int se, .int lo]))) X fX7_141 tyX6_ok nmX6 rfl pd_Z ((hU_n ne_2).trans hw) rfl rfl (ltb rfl) dX7_endBout_45 rfl ?_
  refine v_aload_n X dX7_endBout_48 0 rfl ?_
  refine v_get X fX7_10 ((hU_n ne_3).trans ((hU_n ne_1).trans hx)) rfl dX7_endBout_49 ?_
  refine v_iload_n X dX7_endBout_52 3 rfl ?_
  refine v_putE (h2 := (hU (hU h b (ob 1 [.int (f2 0), .int (f2 1), .int (f2 2), .int (f2 3), .int (f2 4), .int ((f2 5) + 1), .int (f2 6)])) w (ob 6 [.ref pe, .int np, .ref wy, .int nw, .ref pt, .ref mt, .int 0, .int fi, .int se, .int 2]))) X fX7_194 tyX6_ok nmX6 rfl pd_I hU_s rfl rfl (ltb rfl) dX7_endBout_53 hU_u ?_
  exact v_vret X r dX7_endBout_56 (Nat.le_refl _) (Nat.le_refl _) ⟨rfl, rfl⟩
set_option maxHeartbeats 4000000 in
set_option maxRecDepth 100000 in
theorem ct_X7_endBout3 (ll : Launch) (g : GT) {h : Hp} {x w kp ot tl tp sh fo pe wy pt mt a b : Nat} {ik np nw oc fi se lo : Int32} {f1 f2 : Nat → Int32} (hx : h x = some (ob 7 [.ref w, .ref kp, .int ik, .ref ot, .ref tl, .ref tp, .ref sh, .ref fo])) (hw : h w = some (ob 6 [.ref pe, .int np, .ref wy, .int nw, .ref pt, .ref mt, .int oc, .int fi, .int se, .int lo])) (ha : h a = some (ob 1 [.int (f1 0), .int (f1 1), .int (f1 2), .int (f1 3), .int (f1 4), .int (f1 5), .int (f1 6)])) (hb : h b = some (ob 1 [.int (f2 0), .int (f2 1), .int (f2 2), .int (f2 3), .int (f2 4), .int (f2 5), .int (f2 6)])) (hab : a ≠ b) : MF ll g yX7_endBout cX7_endBout 4 none (k2_rm 0 0) [.ref x, .ref a, .ref b, .int 3] h none (hU (hU (hU h a (ob 1 [.int (f1 0), .int (f1 1), .int (f1 2), .int (f1 3), .int (f1 4), .int ((f1 5) + 1), .int (f1 6)])) b (ob 1 [.int (f2 0), .int (f2 1), .int (f2 2), .int (f2 3), .int (f2 4), .int ((f2 5) + 1), .int (f2 6)])) w (ob 6 [.ref pe, .int np, .ref wy, .int nw, .ref pt, .ref mt, .int 0, .int fi, .int se, .int 3])) := by
  have ne_1 : x ≠ a := hneb hx ha rfl
  have ne_2 : x ≠ b := hneb hx hb rfl
  have ne_3 : w ≠ a := hneb hw ha rfl
  have ne_4 : w ≠ b := hneb hw hb rfl
  have ne_5 : x ≠ w := hneb hx hw rfl
  refine mc_of (by decide) (Nat.le_of_ble_eq_true rfl) ?_
  intro K X r
  refine v_eqv (lv2 := [(0, .ref x), (1, .ref a), (2, .ref b), (3, .int 3)]) rfl ?_
  refine v_iload_n X dX7_endBout_0 3 rfl ?_
  refine v_iconst X dX7_endBout_1 (v := 1) (by decide) ?_
  refine v_icmp_eq X dX7_endBout_2 (tgt := 10) (by decide) (fun c => absurd c (by decide)) (fun _ => ?_)
  refine v_iload_n X dX7_endBout_5 3 rfl ?_
  refine v_iconst X dX7_endBout_6 (v := 3) (by decide) ?_
  refine v_icmp_ne X dX7_endBout_7 (tgt := 20) (by decide) (fun c => absurd c (by decide)) (fun _ => ?_)
  refine v_aload_n X dX7_endBout_10 1 rfl ?_
  refine v_dup X dX7_endBout_11 rfl ?_
  refine v_get X fX7_114 ha rfl dX7_endBout_12 ?_
  refine v_iconst X dX7_endBout_15 (v := 1) (by decide) ?_
  refine v_iadd X dX7_endBout_16 ?_
  refine v_putE (h2 := (hU h a (ob 1 [.int (f1 0), .int (f1 1), .int (f1 2), .int (f1 3), .int (f1 4), .int ((f1 5) + 1), .int (f1 6)]))) X fX7_114 tyX1_ok nmX1 rfl pd_I ha rfl rfl (ltb rfl) dX7_endBout_17 rfl ?_
  refine v_iload_n X dX7_endBout_20 3 rfl ?_
  refine v_iconst X dX7_endBout_21 (v := 2) (by decide) ?_
  refine v_icmp_eq X dX7_endBout_22 (tgt := 30) (by decide) (fun c => absurd c (by decide)) (fun _ => ?_)
  refine v_iload_n X dX7_endBout_25 3 rfl ?_
  refine v_iconst X dX7_endBout_26 (v := 3) (by decide) ?_
  refine v_icmp_ne X dX7_endBout_27 (tgt := 40) (by decide) (fun c => absurd c (by decide)) (fun _ => ?_)
  refine v_aload_n X dX7_endBout_30 2 rfl ?_
  refine v_dup X dX7_endBout_31 rfl ?_
  refine v_get X fX7_114 ((hU_n (Ne.symm hab)).trans hb) rfl dX7_endBout_32 ?_
  refine v_iconst X dX7_endBout_35 (v := 1) (by decide) ?_
  refine v_iadd X dX7_endBout_36 ?_
  refine v_putE (h2 := (hU (hU h a (ob 1 [.int (f1 0), .int (f1 1), .int (f1 2), .int (f1 3), .int (f1 4), .int ((f1 5) + 1), .int (f1 6)])) b (ob 1 [.int (f2 0), .int (f2 1), .int (f2 2), .int (f2 3), .int (f2 4), .int ((f2 5) + 1), .int (f2 6)]))) X fX7_114 tyX1_ok nmX1 rfl pd_I ((hU_n (Ne.symm hab)).trans hb) rfl rfl (ltb rfl) dX7_endBout_37 rfl ?_
  refine v_aload_n X dX7_endBout_40 0 rfl ?_
  refine v_get X fX7_10 ((hU_n ne_2).trans ((hU_n ne_1).trans hx)) rfl dX7_endBout_41 ?_
  refine v_iconst X dX7_endBout_44 (v := 0) (by decide) ?_
  refine v_putE (h2 := (hU (hU (hU h a (ob 1 [.int (f1 0), .int (f1 1), .int (f1 2), .int (f1 3), .int (f1 4), .int ((f1 5) + 1), .int (f1 6)])) b (ob 1 [.int (f2 0), .int (f2 1), .int (f2 2), .int (f2 3), .int (f2 4), .int ((f2 5) + 1), .int (f2 6)])) w (ob 6 [.ref pe, .int np, .ref wy, .int nw, .ref pt, .ref mt, .int 0, .int fi, .int se, .int lo]))) X fX7_141 tyX6_ok nmX6 rfl pd_Z ((hU_n ne_4).trans ((hU_n ne_3).trans hw)) rfl rfl (ltb rfl) dX7_endBout_45 rfl ?_
  refine v_aload_n X dX7_endBout_48 0 rfl ?_
  refine v_get X fX7_10 ((hU_n ne_5).trans ((hU_n ne_2).trans ((hU_n ne_1).trans hx))) rfl dX7_endBout_49 ?_
  refine v_iload_n X dX7_endBout_52 3 rfl ?_
  refine v_putE (h2 := (hU (hU (hU h a (ob 1 [.int (f1 0), .int (f1 1), .int (f1 2), .int (f1 3), .int (f1 4), .int ((f1 5) + 1), .int (f1 6)])) b (ob 1 [.int (f2 0), .int (f2 1), .int (f2 2), .int (f2 3), .int (f2 4), .int ((f2 5) + 1), .int (f2 6)])) w (ob 6 [.ref pe, .int np, .ref wy, .int nw, .ref pt, .ref mt, .int 0, .int fi, .int se, .int 3]))) X fX7_194 tyX6_ok nmX6 rfl pd_I hU_s rfl rfl (ltb rfl) dX7_endBout_53 hU_u ?_
  exact v_vret X r dX7_endBout_56 (Nat.le_refl _) (Nat.le_refl _) ⟨rfl, rfl⟩
set_option maxHeartbeats 4000000 in
set_option maxRecDepth 100000 in
theorem ct_X7_bout (ll : Launch) (g : GT) {h : Hp} {B : Nat → Nat} {d k fo tape bits sz : Nat → Int32} {num : Nat → Int64} {hk tp : Int32} {N : Nat}  (n : Int32) (hC : CR g h B (d, k, hk, fo, tape, tp, bits, sz, num)) (hI : SOk (d, k, hk, fo, tape, tp, bits, sz, num) N) (hN : N + 400 ≤ 204800) : MC ll g yX7_bout cX7_bout 5 (some .int) { frames := 10, cells := 0, slots := 0, locals := 380 } [.ref (B 0), .int n] h (fun r h2 => r = some (.int (op_bout (d, k, hk, fo, tape, tp, bits, sz, num) n).1) ∧ CR g h2 B (op_bout (d, k, hk, fo, tape, tp, bits, sz, num) n).2) 0 0 := by
  have hC0 := hC
  have hI0 := hI
  obtain ⟨hB, cX, ⟨cW, cP, cY, cT, cM⟩, ⟨k2, cK, hk2⟩, cO, cR, cA, cS, cF⟩ := hC
  obtain ⟨⟨np, nw, T, p0, p1, e0, hnp, e1, hnw, e6, hT, hon, e3, hp0, e4, hp1, honp, hper, h10, h11, h12, hwc⟩, hkd, hkb, ⟨tn, htn, etp⟩, hsz⟩ := hI
  have x0 : h (B 0) = some (ob 7 [.ref (B 1), .ref (B 17), .int hk, .ref (B 33), .ref (B 37), .ref (B 38), .ref (B 40), .ref (B 41)]) := cX
  have x1 : h (B 1) = some (ob 6 [.ref (B 2), .int (d 0), .ref (B 3), .int (d 1), .ref (B 4), .ref (B 5), .int (bI (d 2 = 1)), .int (d 3), .int (d 4), .int (d 7)]) := cW
  have cP0 := cP
  obtain ⟨pf, F, x2, hpf, hF, hFd⟩ := cP0
  have cY0 := cY
  obtain ⟨wf, x3, hwo, hwy⟩ := cY0
  have x4 : h (B 4) = some (ai g 5 (ptF d)) := cT
  have cM0 := cM
  obtain ⟨tr, T9, s0, v0, s1, v1, x5, x6, x7, x8, e69, hT30, hR, hRB⟩ := cM0
  have eT9 : T9 = T := nI_inj (by omega) (by omega) (e69.symm.trans e6)
  subst eT9
  have cO0 := cO
  obtain ⟨otr, u5, u6, u8, a0, a1, a2, a3, a4, b0, b1, b2, b3, b4, x33, x34, x35, x36⟩ := cO0
  have cR0 := cR
  obtain ⟨rf, x37⟩ := cR0
  have cA0 := cA
  obtain ⟨ts, te, tt, tv, x38, x39⟩ := cA0
  have cS0 := cS
  obtain ⟨sf, nf, x40, hsf, hsh, hnm, hnv⟩ := cS0
  have x41 : h (B 41) = some (ai g 7 fo) := cF
  have qn : (d 0).toNatClampNeg = np := ix_cl e0 (by omega)
  have qw : (d 1).toNatClampNeg = nw := ix_cl e1 (by omega)
  have pC : ∀ p, p < np → h (B (9 + p)) = some (ob 1 [.int ((told d p) 0), .int ((told d p) 1), .int ((told d p) 2), .int ((told d p) 3), .int ((told d p) 4), .int ((told d p) 5), .int ((told d p) 6)]) := fun p hp => gP_at (by omega) (by rw [qn]; exact hp) cP
  refine mc_of (by decide) (Nat.le_of_ble_eq_true rfl) ?_
  intro K X r
  refine v_eqv (lv2 := [(0, .ref (B 0)), (1, .int n)]) rfl ?_
  refine v_iload_n X dX7_bout_0 1 rfl ?_
  refine v_iconst X dX7_bout_1 (v := 1) (by decide) ?_
  refine v_sipush X dX7_bout_2 (v := 400) (by decide) ?_
  refine v_cSi X [.int n, .int 1, .int 400] sX7_68 (ct_X7_within ll g n 1 400) dX7_bout_5 rfl rfl ⟨rfl, rfl⟩ ⟨(Nat.le_of_ble_eq_true rfl), (Nat.le_of_ble_eq_true rfl)⟩ ⟨Nat.zero_le _, Nat.zero_le _⟩ (Nat.le_of_ble_eq_true rfl) ?_
  refine v_ifb_ne X dX7_bout_8 (tgt := 18) (by decide) (fun c1 => ?_) (fun c1 => ?_)
  · refine v_aload_n X dX7_bout_18 0 rfl ?_
    refine v_get X fX7_10 x0 rfl dX7_bout_19 ?_
    refine v_get X fX7_141 x1 rfl dX7_bout_22 ?_
    refine v_ifb_ne X dX7_bout_25 (tgt := 35) (by decide) (fun c2 => ?_) (fun c2 => ?_)
    · obtain ⟨hq0, hq1, hq01⟩ := honp c2
      obtain ⟨l0, hl0, el0⟩ := (hper p0 hq0).2.2.1
      obtain ⟨l1, hl1, el1⟩ := (hper p1 hq1).2.2.1
      have hd2 : ¬ d 2 = 0 := fun z => by have y := c2; rw [z] at y; exact absurd y (by decide)
      obtain ⟨nn, hn1, hn4, en⟩ := wi_1 400 rfl (by decide) c1
      have qnn : n.toNatClampNeg = nn := ix_cl en (by omega)
      have q3 : (d 3).toNatClampNeg = p0 := ix_cl e3 (by omega)
      have q4 : (d 4).toNatClampNeg = p1 := ix_cl e4 (by omega)
      have q6 : (d 6).toNatClampNeg = T9 := ix_cl e6 (by omega)
      have hbR : boutR d n.toNatClampNeg = runA d p0 p1 T9 nn := by unfold boutR; rw [qnn, q3, q4, q6]
      refine v_aload_n X dX7_bout_35 0 rfl ?_
      refine v_get X fX7_10 x0 rfl dX7_bout_36 ?_
      refine v_get X fX7_82 x1 rfl dX7_bout_39 ?_
      refine v_aload_n X dX7_bout_42 0 rfl ?_
      refine v_get X fX7_10 x0 rfl dX7_bout_43 ?_
      refine v_get X fX7_144 x1 rfl dX7_bout_46 ?_
      refine v_aaldK X 2 rfl p0 (v := .ref (B (9 + p0))) x2 e3 (by omega) (by decide) (by rw [hpf p0 (by omega)]; rfl) dX7_bout_49 ?_
      refine v_astore_n (lv1 := [(2, .ref (B (9 + p0))), (0, .ref (B 0)), (1, .int n)]) X dX7_bout_50 (by decide) rfl ?_
      refine v_aload_n X dX7_bout_51 1 rfl ?_
      refine v_get X fX7_10 x0 rfl dX7_bout_52 ?_
      refine v_get X fX7_82 x1 rfl dX7_bout_55 ?_
      refine v_aload_n X dX7_bout_58 1 rfl ?_
      refine v_get X fX7_10 x0 rfl dX7_bout_59 ?_
      refine v_get X fX7_147 x1 rfl dX7_bout_62 ?_
      refine v_aaldK X 2 rfl p1 (v := .ref (B (9 + p1))) x2 e4 (by omega) (by decide) (by rw [hpf p1 (by omega)]; rfl) dX7_bout_65 ?_
      refine v_astore_n (lv1 := [(3, .ref (B (9 + p1))), (2, .ref (B (9 + p0))), (0, .ref (B 0)), (1, .int n)]) X dX7_bout_66 (by decide) rfl ?_
      refine v_aload_n X dX7_bout_67 2 rfl ?_
      refine v_get X fX7_10 x0 rfl dX7_bout_68 ?_
      refine v_get X fX7_150 x1 rfl dX7_bout_71 ?_
      refine v_aload_n X dX7_bout_74 1 rfl ?_
      refine v_aload_n X dX7_bout_75 0 rfl ?_
      refine v_iload_n X dX7_bout_76 3 rfl ?_
      refine v_cV X (av := [.ref (B (9 + p0)), .ref (B (9 + p1)), .int n]) sX7_159 (ct_X0_go (m := d) (p0 := p0) (p1 := p1) (T := T9) (n := nn) ll g x5 (pC p0 (by omega)) (pC p1 (by omega)) x6 x3 x4 x7 x8 (hB 7 8 (by omega) (by omega) (by omega)) ⟨hR, e6, hRB, ⟨l0, hl0, el0⟩, ⟨l1, hl1, el1⟩, (HW_of hnw (hper p0 hq0).2.2.2.2 (fun w h6 hw => hwy w h6 (by rw [qw]; exact hw))), (HW_of hnw (hper p1 hq1).2.2.2.2 (fun w h6 hw => hwy w h6 (by rw [qw]; exact hw))), (hper p0 hq0).2.2.2.1, (hper p1 hq1).2.2.2.1, (hper p0 hq0).2.1, (hper p1 hq1).2.1, h10, h11, h12⟩ en (by omega)) x5 rfl dX7_bout_77 rfl rfl ⟨rfl, rfl⟩ ⟨(Nat.le_of_ble_eq_true rfl), (Nat.le_of_ble_eq_true rfl)⟩ ⟨(Nat.le_of_ble_eq_true rfl), (Nat.le_of_ble_eq_true rfl)⟩ (Nat.le_of_ble_eq_true rfl) (fun r_ h_ q_ => ?_)
      obtain ⟨g0, t0, g1, t1, tr2, T2, e_, eh, eT2, hT2, hR2, hRB2⟩ := q_
      have hO := runA_o (p0 := p0) (p1 := p1) nn d T9
      have hK := fun j h => rA_keep (p0 := p0) (p1 := p1) (j := j) h nn d T9
      obtain ⟨R, eR⟩ : ∃ R, R = runA d p0 p1 T9 nn := ⟨_, rfl⟩
      rw [← eR] at e_ eh eT2 hR2 hO
      simp only [← eR] at hK
      subst e_
      subst eh
      refine v_eqs (st2 := [.int R.2]) rfl ?_
      refine v_istore (lv1 := [(4, .int R.2), (3, .ref (B (9 + p1))), (2, .ref (B (9 + p0))), (0, .ref (B 0)), (1, .int n)]) X dX7_bout_80 (by decide) rfl ?_
      rcases hO with eo | eo | eo | eo
      · refine v_eqv (lv2 := [(4, .int 0), (3, .ref (B (9 + p1))), (2, .ref (B (9 + p0))), (0, .ref (B 0)), (1, .int n)]) (by rw [eo]) ?_
        refine v_iload X dX7_bout_82 0 rfl ?_
        refine v_if_eq X dX7_bout_84 (tgt := 95) (by decide) (fun _ => ?_) (fun c => absurd c (by decide))
        refine v_iload X dX7_bout_95 0 rfl ?_
        have eqr : op_bout (d, k, hk, fo, tape, tp, bits, sz, num) n = (0, (R.1, k, hk, fo, tape, tp, bits, sz, num)) := by unfold op_bout; dsimp only; unfold boutE; rw [if_pos c1, if_neg hd2, hbR, ← eR, q3, q4, eo, if_neg (by decide)]
        have hCR : CR g (hU (hU (hU (hU h (B 7) (ob 3 [.int (R.1 16), .int (R.1 18), .int (R.1 20), .int g0, .int t0])) (B 8) (ob 3 [.int (R.1 17), .int (R.1 19), .int (R.1 21), .int g1, .int t1])) (B 5) (ob 0 [.ref (B 4), .ref (B 3), .ref (B 6), .ref (B 7), .ref (B 8), .int (R.1 5), .int (R.1 6), .int (R.1 8)])) (B 6) (ai g 10 tr2)) B (R.1, k, hk, fo, tape, tp, bits, sz, num) := ⟨hB, gX_e ((hU_n (hB 0 6 (by omega) (by omega) (by omega))).trans ((hU_n (hB 0 5 (by omega) (by omega) (by omega))).trans ((hU_n (hB 0 8 (by omega) (by omega) (by omega))).trans (hU_n (hB 0 7 (by omega) (by omega) (by omega)))))) cX, ⟨gW_e ((hU_n (hB 1 6 (by omega) (by omega) (by omega))).trans ((hU_n (hB 1 5 (by omega) (by omega) (by omega))).trans ((hU_n (hB 1 8 (by omega) (by omega) (by omega))).trans (hU_n (hB 1 7 (by omega) (by omega) (by omega)))))) ⟨(hK _ (by omega)), (hK _ (by omega)), (hK _ (by omega)), (hK _ (by omega)), (hK _ (by omega)), (hK _ (by omega))⟩ cW, gP_e (fun j hj => ((hU_n (hB j 6 (by omega) (by omega) (by omega))).trans ((hU_n (hB j 5 (by omega) (by omega) (by omega))).trans ((hU_n (hB j 8 (by omega) (by omega) (by omega))).trans (hU_n (hB j 7 (by omega) (by omega) (by omega))))))) (hK _ (by omega)) (fun j h1 h2 => hK j (by omega)) cP, gY_e ((hU_n (hB 3 6 (by omega) (by omega) (by omega))).trans ((hU_n (hB 3 5 (by omega) (by omega) (by omega))).trans ((hU_n (hB 3 8 (by omega) (by omega) (by omega))).trans (hU_n (hB 3 7 (by omega) (by omega) (by omega)))))) (fun x c hx hk => ((hU_n (kd_ne hx x6 hk rfl)).trans ((hU_n (kd_ne hx x5 hk rfl)).trans ((hU_n (kd_ne hx x8 hk rfl)).trans (hU_n (kd_ne hx x7 hk rfl)))))) (hK _ (by omega)) (fun j h1 h2 => hK j (by omega)) cY, gT_e ((hU_n (hB 4 6 (by omega) (by omega) (by omega))).trans ((hU_n (hB 4 5 (by omega) (by omega) (by omega))).trans ((hU_n (hB 4 8 (by omega) (by omega) (by omega))).trans (hU_n (hB 4 7 (by omega) (by omega) (by omega)))))) (fun j h1 h2 => hK j (by omega)) cT, gM_i ((hU_n (hB 5 6 (by omega) (by omega) (by omega))).trans hU_s) hU_s ((hU_n (hB 7 6 (by omega) (by omega) (by omega))).trans ((hU_n (hB 7 5 (by omega) (by omega) (by omega))).trans ((hU_n (hB 7 8 (by omega) (by omega) (by omega))).trans hU_s))) ((hU_n (hB 8 6 (by omega) (by omega) (by omega))).trans ((hU_n (hB 8 5 (by omega) (by omega) (by omega))).trans hU_s)) rfl rfl rfl rfl rfl rfl rfl rfl rfl eT2 (by omega) hR2 hRB2⟩, ⟨k2, gWd_e (fun j h1 h2 => ((hU_n (hB (j + 16) 6 (by omega) (by omega) (by omega))).trans ((hU_n (hB (j + 16) 5 (by omega) (by omega) (by omega))).trans ((hU_n (hB (j + 16) 8 (by omega) (by omega) (by omega))).trans (hU_n (hB (j + 16) 7 (by omega) (by omega) (by omega))))))) (fun x c hx hk => ((hU_n (kd_ne hx x6 hk rfl)).trans ((hU_n (kd_ne hx x5 hk rfl)).trans ((hU_n (kd_ne hx x8 hk rfl)).trans (hU_n (kd_ne hx x7 hk rfl)))))) cK, hk2⟩, gO_e (fun j h1 h2 => ((hU_n (hB j 6 (by omega) (by omega) (by omega))).trans ((hU_n (hB j 5 (by omega) (by omega) (by omega))).trans ((hU_n (hB j 8 (by omega) (by omega) (by omega))).trans (hU_n (hB j 7 (by omega) (by omega) (by omega))))))) cO, gR_e ((hU_n (hB 37 6 (by omega) (by omega) (by omega))).trans ((hU_n (hB 37 5 (by omega) (by omega) (by omega))).trans ((hU_n (hB 37 8 (by omega) (by omega) (by omega))).trans (hU_n (hB 37 7 (by omega) (by omega) (by omega)))))) cR, gA_e (fun j h1 h2 => ((hU_n (hB j 6 (by omega) (by omega) (by omega))).trans ((hU_n (hB j 5 (by omega) (by omega) (by omega))).trans ((hU_n (hB j 8 (by omega) (by omega) (by omega))).trans (hU_n (hB j 7 (by omega) (by omega) (by omega))))))) cA, gS_e (fun j h1 h2 => ((hU_n (hB j 6 (by omega) (by omega) (by omega))).trans ((hU_n (hB j 5 (by omega) (by omega) (by omega))).trans ((hU_n (hB j 8 (by omega) (by omega) (by omega))).trans (hU_n (hB j 7 (by omega) (by omega) (by omega))))))) cS, gF_e ((hU_n (hB 41 6 (by omega) (by omega) (by omega))).trans ((hU_n (hB 41 5 (by omega) (by omega) (by omega))).trans ((hU_n (hB 41 8 (by omega) (by omega) (by omega))).trans (hU_n (hB 41 7 (by omega) (by omega) (by omega)))))) cF⟩
        exact v_iret X r dX7_bout_97 (Nat.le_refl _) (Nat.le_refl _) ⟨by rw [eqr], by rw [eqr]; exact hCR⟩
      · refine v_eqv (lv2 := [(4, .int 1), (3, .ref (B (9 + p1))), (2, .ref (B (9 + p0))), (0, .ref (B 0)), (1, .int n)]) (by rw [eo]) ?_
        refine v_iload X dX7_bout_82 0 rfl ?_
        refine v_if_eq X dX7_bout_84 (tgt := 95) (by decide) (fun c => absurd c (by decide)) (fun _ => ?_)
        refine v_aload_n X dX7_bout_87 3 rfl ?_
        refine v_aload_n X dX7_bout_88 2 rfl ?_
        refine v_aload_n X dX7_bout_89 1 rfl ?_
        refine v_iload X dX7_bout_90 0 rfl ?_
        refine v_cVv X [.ref (B (9 + p0)), .ref (B (9 + p1)), .int 1] sX7_163 (ct_X7_endBout1 ll g ((hU_n (hB 0 6 (by omega) (by omega) (by omega))).trans ((hU_n (hB 0 5 (by omega) (by omega) (by omega))).trans ((hU_n (hB 0 8 (by omega) (by omega) (by omega))).trans ((hU_n (hB 0 7 (by omega) (by omega) (by omega))).trans x0)))) ((hU_n (hB 1 6 (by omega) (by omega) (by omega))).trans ((hU_n (hB 1 5 (by omega) (by omega) (by omega))).trans ((hU_n (hB 1 8 (by omega) (by omega) (by omega))).trans ((hU_n (hB 1 7 (by omega) (by omega) (by omega))).trans x1)))) ((hU_n (hB (9 + p0) 6 (by omega) (by omega) (by omega))).trans ((hU_n (hB (9 + p0) 5 (by omega) (by omega) (by omega))).trans ((hU_n (hB (9 + p0) 8 (by omega) (by omega) (by omega))).trans ((hU_n (hB (9 + p0) 7 (by omega) (by omega) (by omega))).trans (pC p0 (by omega)))))) ((hU_n (hB (9 + p1) 6 (by omega) (by omega) (by omega))).trans ((hU_n (hB (9 + p1) 5 (by omega) (by omega) (by omega))).trans ((hU_n (hB (9 + p1) 8 (by omega) (by omega) (by omega))).trans ((hU_n (hB (9 + p1) 7 (by omega) (by omega) (by omega))).trans (pC p1 (by omega)))))) (hB (9 + p0) (9 + p1) (by omega) (by omega) (by omega))) ((hU_n (hB 0 6 (by omega) (by omega) (by omega))).trans ((hU_n (hB 0 5 (by omega) (by omega) (by omega))).trans ((hU_n (hB 0 8 (by omega) (by omega) (by omega))).trans ((hU_n (hB 0 7 (by omega) (by omega) (by omega))).trans x0)))) rfl dX7_bout_92 rfl rfl ⟨rfl, rfl⟩ ⟨(Nat.le_of_ble_eq_true rfl), (Nat.le_of_ble_eq_true rfl)⟩ ⟨Nat.zero_le _, Nat.zero_le _⟩ (Nat.le_of_ble_eq_true rfl) ?_
        refine v_iload X dX7_bout_95 0 rfl ?_
        have eqr : op_bout (d, k, hk, fo, tape, tp, bits, sz, num) n = (1, (endA R.1 1 p0 p1, k, hk, fo, tape, tp, bits, sz, num)) := by unfold op_bout; dsimp only; unfold boutE; rw [if_pos c1, if_neg hd2, hbR, ← eR, q3, q4, eo, if_pos (by decide)]
        have hCR : CR g (hU (hU (hU (hU (hU (hU h (B 7) (ob 3 [.int (R.1 16), .int (R.1 18), .int (R.1 20), .int g0, .int t0])) (B 8) (ob 3 [.int (R.1 17), .int (R.1 19), .int (R.1 21), .int g1, .int t1])) (B 5) (ob 0 [.ref (B 4), .ref (B 3), .ref (B 6), .ref (B 7), .ref (B 8), .int (R.1 5), .int (R.1 6), .int (R.1 8)])) (B 6) (ai g 10 tr2)) (B (9 + p0)) (ob 1 [.int ((told d p0) 0), .int ((told d p0) 1), .int ((told d p0) 2), .int ((told d p0) 3), .int ((told d p0) 4), .int (((told d p0) 5) + 1), .int ((told d p0) 6)])) (B 1) (ob 6 [.ref (B 2), .int (d 0), .ref (B 3), .int (d 1), .ref (B 4), .ref (B 5), .int 0, .int (d 3), .int (d 4), .int 1])) B (endA R.1 1 p0 p1, k, hk, fo, tape, tp, bits, sz, num) := ⟨hB, gX_e ((hU_n (hB 0 1 (by omega) (by omega) (by omega))).trans ((hU_n (hB 0 (9 + p0) (by omega) (by omega) (by omega))).trans ((hU_n (hB 0 6 (by omega) (by omega) (by omega))).trans ((hU_n (hB 0 5 (by omega) (by omega) (by omega))).trans ((hU_n (hB 0 8 (by omega) (by omega) (by omega))).trans (hU_n (hB 0 7 (by omega) (by omega) (by omega)))))))) cX, ⟨gW_i hU_s ((endA_n (by omega)).trans (hK _ (by omega))) ((endA_n (by omega)).trans (hK _ (by omega))) (bI_f (by rw [endA_2]; decide)) ((endA_n (by omega)).trans (hK _ (by omega))) ((endA_n (by omega)).trans (hK _ (by omega))) endA_7, gP_two (w0 := told d p0 5 + 1) (w1 := told d p1 5) (by omega) (by omega) hq01 cP ((hU_n (hB 2 1 (by omega) (by omega) (by omega))).trans ((hU_n (hB 2 (9 + p0) (by omega) (by omega) (by omega))).trans ((hU_n (hB 2 6 (by omega) (by omega) (by omega))).trans ((hU_n (hB 2 5 (by omega) (by omega) (by omega))).trans ((hU_n (hB 2 8 (by omega) (by omega) (by omega))).trans (hU_n (hB 2 7 (by omega) (by omega) (by omega)))))))) ((hU_n (hB (9 + p0) 1 (by omega) (by omega) (by omega))).trans hU_s) ((hU_n (hB (9 + p1) 1 (by omega) (by omega) (by omega))).trans ((hU_n (hB (9 + p1) (9 + p0) (by omega) (by omega) (by omega))).trans ((hU_n (hB (9 + p1) 6 (by omega) (by omega) (by omega))).trans ((hU_n (hB (9 + p1) 5 (by omega) (by omega) (by omega))).trans ((hU_n (hB (9 + p1) 8 (by omega) (by omega) (by omega))).trans ((hU_n (hB (9 + p1) 7 (by omega) (by omega) (by omega))).trans (pC p1 (by omega)))))))) (fun q hq hne0 hne1 => ((hU_n (hB (9 + q) 1 (by omega) (by omega) (by omega))).trans ((hU_n (hB (9 + q) (9 + p0) (by omega) (by omega) (by omega))).trans ((hU_n (hB (9 + q) 6 (by omega) (by omega) (by omega))).trans ((hU_n (hB (9 + q) 5 (by omega) (by omega) (by omega))).trans ((hU_n (hB (9 + q) 8 (by omega) (by omega) (by omega))).trans (hU_n (hB (9 + q) 7 (by omega) (by omega) (by omega))))))))) ((endA_n (by omega)).trans (hK _ (by omega))) (by rw [endA_a hq01, hK _ (by omega), show ((1 : Int32) &&& 1) = 1 by decide]; rfl) (by rw [endA_b, hK _ (by omega), show ((1 : Int32) >>> (1 &&& 31)) = 0 by decide]; exact Int32.add_zero _) (fun j h1 h2 h3 h4 => (endA_n ⟨by omega, by omega, h3, h4⟩).trans (hK j (by omega))), gY_e ((hU_n (hB 3 1 (by omega) (by omega) (by omega))).trans ((hU_n (hB 3 (9 + p0) (by omega) (by omega) (by omega))).trans ((hU_n (hB 3 6 (by omega) (by omega) (by omega))).trans ((hU_n (hB 3 5 (by omega) (by omega) (by omega))).trans ((hU_n (hB 3 8 (by omega) (by omega) (by omega))).trans (hU_n (hB 3 7 (by omega) (by omega) (by omega)))))))) (fun x c hx hk => ((hU_n (kd_ne hx x1 hk rfl)).trans ((hU_n (kd_ne hx (pC p0 (by omega)) hk rfl)).trans ((hU_n (kd_ne hx x6 hk rfl)).trans ((hU_n (kd_ne hx x5 hk rfl)).trans ((hU_n (kd_ne hx x8 hk rfl)).trans (hU_n (kd_ne hx x7 hk rfl)))))))) ((endA_n (by omega)).trans (hK _ (by omega))) (fun j h1 h2 => (endA_n (by omega)).trans (hK j (by omega))) cY, gT_e ((hU_n (hB 4 1 (by omega) (by omega) (by omega))).trans ((hU_n (hB 4 (9 + p0) (by omega) (by omega) (by omega))).trans ((hU_n (hB 4 6 (by omega) (by omega) (by omega))).trans ((hU_n (hB 4 5 (by omega) (by omega) (by omega))).trans ((hU_n (hB 4 8 (by omega) (by omega) (by omega))).trans (hU_n (hB 4 7 (by omega) (by omega) (by omega)))))))) (fun j h1 h2 => (endA_n (by omega)).trans (hK j (by omega))) cT, gM_i ((hU_n (hB 5 1 (by omega) (by omega) (by omega))).trans ((hU_n (hB 5 (9 + p0) (by omega) (by omega) (by omega))).trans ((hU_n (hB 5 6 (by omega) (by omega) (by omega))).trans hU_s))) ((hU_n (hB 6 1 (by omega) (by omega) (by omega))).trans ((hU_n (hB 6 (9 + p0) (by omega) (by omega) (by omega))).trans hU_s)) ((hU_n (hB 7 1 (by omega) (by omega) (by omega))).trans ((hU_n (hB 7 (9 + p0) (by omega) (by omega) (by omega))).trans ((hU_n (hB 7 6 (by omega) (by omega) (by omega))).trans ((hU_n (hB 7 5 (by omega) (by omega) (by omega))).trans ((hU_n (hB 7 8 (by omega) (by omega) (by omega))).trans hU_s))))) ((hU_n (hB 8 1 (by omega) (by omega) (by omega))).trans ((hU_n (hB 8 (9 + p0) (by omega) (by omega) (by omega))).trans ((hU_n (hB 8 6 (by omega) (by omega) (by omega))).trans ((hU_n (hB 8 5 (by omega) (by omega) (by omega))).trans hU_s)))) (endA_n (by omega)) (endA_n (by omega)) (endA_n (by omega)) (endA_n (by omega)) (endA_n (by omega)) (endA_n (by omega)) (endA_n (by omega)) (endA_n (by omega)) (endA_n (by omega)) ((endA_n (by omega)).trans eT2) (by omega) (RingOk_c (endA_n (by omega)) (fun j h1 h2 => endA_n (by omega)) hR2) hRB2⟩, ⟨k2, gWd_e (fun j h1 h2 => ((hU_n (hB (j + 16) 1 (by omega) (by omega) (by omega))).trans ((hU_n (hB (j + 16) (9 + p0) (by omega) (by omega) (by omega))).trans ((hU_n (hB (j + 16) 6 (by omega) (by omega) (by omega))).trans ((hU_n (hB (j + 16) 5 (by omega) (by omega) (by omega))).trans ((hU_n (hB (j + 16) 8 (by omega) (by omega) (by omega))).trans (hU_n (hB (j + 16) 7 (by omega) (by omega) (by omega))))))))) (fun x c hx hk => ((hU_n (kd_ne hx x1 hk rfl)).trans ((hU_n (kd_ne hx (pC p0 (by omega)) hk rfl)).trans ((hU_n (kd_ne hx x6 hk rfl)).trans ((hU_n (kd_ne hx x5 hk rfl)).trans ((hU_n (kd_ne hx x8 hk rfl)).trans (hU_n (kd_ne hx x7 hk rfl)))))))) cK, hk2⟩, gO_e (fun j h1 h2 => ((hU_n (hB j 1 (by omega) (by omega) (by omega))).trans ((hU_n (hB j (9 + p0) (by omega) (by omega) (by omega))).trans ((hU_n (hB j 6 (by omega) (by omega) (by omega))).trans ((hU_n (hB j 5 (by omega) (by omega) (by omega))).trans ((hU_n (hB j 8 (by omega) (by omega) (by omega))).trans (hU_n (hB j 7 (by omega) (by omega) (by omega))))))))) cO, gR_e ((hU_n (hB 37 1 (by omega) (by omega) (by omega))).trans ((hU_n (hB 37 (9 + p0) (by omega) (by omega) (by omega))).trans ((hU_n (hB 37 6 (by omega) (by omega) (by omega))).trans ((hU_n (hB 37 5 (by omega) (by omega) (by omega))).trans ((hU_n (hB 37 8 (by omega) (by omega) (by omega))).trans (hU_n (hB 37 7 (by omega) (by omega) (by omega)))))))) cR, gA_e (fun j h1 h2 => ((hU_n (hB j 1 (by omega) (by omega) (by omega))).trans ((hU_n (hB j (9 + p0) (by omega) (by omega) (by omega))).trans ((hU_n (hB j 6 (by omega) (by omega) (by omega))).trans ((hU_n (hB j 5 (by omega) (by omega) (by omega))).trans ((hU_n (hB j 8 (by omega) (by omega) (by omega))).trans (hU_n (hB j 7 (by omega) (by omega) (by omega))))))))) cA, gS_e (fun j h1 h2 => ((hU_n (hB j 1 (by omega) (by omega) (by omega))).trans ((hU_n (hB j (9 + p0) (by omega) (by omega) (by omega))).trans ((hU_n (hB j 6 (by omega) (by omega) (by omega))).trans ((hU_n (hB j 5 (by omega) (by omega) (by omega))).trans ((hU_n (hB j 8 (by omega) (by omega) (by omega))).trans (hU_n (hB j 7 (by omega) (by omega) (by omega))))))))) cS, gF_e ((hU_n (hB 41 1 (by omega) (by omega) (by omega))).trans ((hU_n (hB 41 (9 + p0) (by omega) (by omega) (by omega))).trans ((hU_n (hB 41 6 (by omega) (by omega) (by omega))).trans ((hU_n (hB 41 5 (by omega) (by omega) (by omega))).trans ((hU_n (hB 41 8 (by omega) (by omega) (by omega))).trans (hU_n (hB 41 7 (by omega) (by omega) (by omega)))))))) cF⟩
        exact v_iret X r dX7_bout_97 (Nat.le_refl _) (Nat.le_refl _) ⟨by rw [eqr], by rw [eqr]; exact hCR⟩
      · refine v_eqv (lv2 := [(4, .int 2), (3, .ref (B (9 + p1))), (2, .ref (B (9 + p0))), (0, .ref (B 0)), (1, .int n)]) (by rw [eo]) ?_
        refine v_iload X dX7_bout_82 0 rfl ?_
        refine v_if_eq X dX7_bout_84 (tgt := 95) (by decide) (fun c => absurd c (by decide)) (fun _ => ?_)
        refine v_aload_n X dX7_bout_87 3 rfl ?_
        refine v_aload_n X dX7_bout_88 2 rfl ?_
        refine v_aload_n X dX7_bout_89 1 rfl ?_
        refine v_iload X dX7_bout_90 0 rfl ?_
        refine v_cVv X [.ref (B (9 + p0)), .ref (B (9 + p1)), .int 2] sX7_163 (ct_X7_endBout2 ll g ((hU_n (hB 0 6 (by omega) (by omega) (by omega))).trans ((hU_n (hB 0 5 (by omega) (by omega) (by omega))).trans ((hU_n (hB 0 8 (by omega) (by omega) (by omega))).trans ((hU_n (hB 0 7 (by omega) (by omega) (by omega))).trans x0)))) ((hU_n (hB 1 6 (by omega) (by omega) (by omega))).trans ((hU_n (hB 1 5 (by omega) (by omega) (by omega))).trans ((hU_n (hB 1 8 (by omega) (by omega) (by omega))).trans ((hU_n (hB 1 7 (by omega) (by omega) (by omega))).trans x1)))) ((hU_n (hB (9 + p0) 6 (by omega) (by omega) (by omega))).trans ((hU_n (hB (9 + p0) 5 (by omega) (by omega) (by omega))).trans ((hU_n (hB (9 + p0) 8 (by omega) (by omega) (by omega))).trans ((hU_n (hB (9 + p0) 7 (by omega) (by omega) (by omega))).trans (pC p0 (by omega)))))) ((hU_n (hB (9 + p1) 6 (by omega) (by omega) (by omega))).trans ((hU_n (hB (9 + p1) 5 (by omega) (by omega) (by omega))).trans ((hU_n (hB (9 + p1) 8 (by omega) (by omega) (by omega))).trans ((hU_n (hB (9 + p1) 7 (by omega) (by omega) (by omega))).trans (pC p1 (by omega)))))) (hB (9 + p0) (9 + p1) (by omega) (by omega) (by omega))) ((hU_n (hB 0 6 (by omega) (by omega) (by omega))).trans ((hU_n (hB 0 5 (by omega) (by omega) (by omega))).trans ((hU_n (hB 0 8 (by omega) (by omega) (by omega))).trans ((hU_n (hB 0 7 (by omega) (by omega) (by omega))).trans x0)))) rfl dX7_bout_92 rfl rfl ⟨rfl, rfl⟩ ⟨(Nat.le_of_ble_eq_true rfl), (Nat.le_of_ble_eq_true rfl)⟩ ⟨Nat.zero_le _, Nat.zero_le _⟩ (Nat.le_of_ble_eq_true rfl) ?_
        refine v_iload X dX7_bout_95 0 rfl ?_
        have eqr : op_bout (d, k, hk, fo, tape, tp, bits, sz, num) n = (2, (endA R.1 2 p0 p1, k, hk, fo, tape, tp, bits, sz, num)) := by unfold op_bout; dsimp only; unfold boutE; rw [if_pos c1, if_neg hd2, hbR, ← eR, q3, q4, eo, if_pos (by decide)]
        have hCR : CR g (hU (hU (hU (hU (hU (hU h (B 7) (ob 3 [.int (R.1 16), .int (R.1 18), .int (R.1 20), .int g0, .int t0])) (B 8) (ob 3 [.int (R.1 17), .int (R.1 19), .int (R.1 21), .int g1, .int t1])) (B 5) (ob 0 [.ref (B 4), .ref (B 3), .ref (B 6), .ref (B 7), .ref (B 8), .int (R.1 5), .int (R.1 6), .int (R.1 8)])) (B 6) (ai g 10 tr2)) (B (9 + p1)) (ob 1 [.int ((told d p1) 0), .int ((told d p1) 1), .int ((told d p1) 2), .int ((told d p1) 3), .int ((told d p1) 4), .int (((told d p1) 5) + 1), .int ((told d p1) 6)])) (B 1) (ob 6 [.ref (B 2), .int (d 0), .ref (B 3), .int (d 1), .ref (B 4), .ref (B 5), .int 0, .int (d 3), .int (d 4), .int 2])) B (endA R.1 2 p0 p1, k, hk, fo, tape, tp, bits, sz, num) := ⟨hB, gX_e ((hU_n (hB 0 1 (by omega) (by omega) (by omega))).trans ((hU_n (hB 0 (9 + p1) (by omega) (by omega) (by omega))).trans ((hU_n (hB 0 6 (by omega) (by omega) (by omega))).trans ((hU_n (hB 0 5 (by omega) (by omega) (by omega))).trans ((hU_n (hB 0 8 (by omega) (by omega) (by omega))).trans (hU_n (hB 0 7 (by omega) (by omega) (by omega)))))))) cX, ⟨gW_i hU_s ((endA_n (by omega)).trans (hK _ (by omega))) ((endA_n (by omega)).trans (hK _ (by omega))) (bI_f (by rw [endA_2]; decide)) ((endA_n (by omega)).trans (hK _ (by omega))) ((endA_n (by omega)).trans (hK _ (by omega))) endA_7, gP_two (w0 := told d p0 5) (w1 := told d p1 5 + 1) (by omega) (by omega) hq01 cP ((hU_n (hB 2 1 (by omega) (by omega) (by omega))).trans ((hU_n (hB 2 (9 + p1) (by omega) (by omega) (by omega))).trans ((hU_n (hB 2 6 (by omega) (by omega) (by omega))).trans ((hU_n (hB 2 5 (by omega) (by omega) (by omega))).trans ((hU_n (hB 2 8 (by omega) (by omega) (by omega))).trans (hU_n (hB 2 7 (by omega) (by omega) (by omega)))))))) ((hU_n (hB (9 + p0) 1 (by omega) (by omega) (by omega))).trans ((hU_n (hB (9 + p0) (9 + p1) (by omega) (by omega) (by omega))).trans ((hU_n (hB (9 + p0) 6 (by omega) (by omega) (by omega))).trans ((hU_n (hB (9 + p0) 5 (by omega) (by omega) (by omega))).trans ((hU_n (hB (9 + p0) 8 (by omega) (by omega) (by omega))).trans ((hU_n (hB (9 + p0) 7 (by omega) (by omega) (by omega))).trans (pC p0 (by omega)))))))) ((hU_n (hB (9 + p1) 1 (by omega) (by omega) (by omega))).trans hU_s) (fun q hq hne0 hne1 => ((hU_n (hB (9 + q) 1 (by omega) (by omega) (by omega))).trans ((hU_n (hB (9 + q) (9 + p1) (by omega) (by omega) (by omega))).trans ((hU_n (hB (9 + q) 6 (by omega) (by omega) (by omega))).trans ((hU_n (hB (9 + q) 5 (by omega) (by omega) (by omega))).trans ((hU_n (hB (9 + q) 8 (by omega) (by omega) (by omega))).trans (hU_n (hB (9 + q) 7 (by omega) (by omega) (by omega))))))))) ((endA_n (by omega)).trans (hK _ (by omega))) (by rw [endA_a hq01, hK _ (by omega), show ((2 : Int32) &&& 1) = 0 by decide]; exact Int32.add_zero _) (by rw [endA_b, hK _ (by omega), show ((2 : Int32) >>> (1 &&& 31)) = 1 by decide]; rfl) (fun j h1 h2 h3 h4 => (endA_n ⟨by omega, by omega, h3, h4⟩).trans (hK j (by omega))), gY_e ((hU_n (hB 3 1 (by omega) (by omega) (by omega))).trans ((hU_n (hB 3 (9 + p1) (by omega) (by omega) (by omega))).trans ((hU_n (hB 3 6 (by omega) (by omega) (by omega))).trans ((hU_n (hB 3 5 (by omega) (by omega) (by omega))).trans ((hU_n (hB 3 8 (by omega) (by omega) (by omega))).trans (hU_n (hB 3 7 (by omega) (by omega) (by omega)))))))) (fun x c hx hk => ((hU_n (kd_ne hx x1 hk rfl)).trans ((hU_n (kd_ne hx (pC p1 (by omega)) hk rfl)).trans ((hU_n (kd_ne hx x6 hk rfl)).trans ((hU_n (kd_ne hx x5 hk rfl)).trans ((hU_n (kd_ne hx x8 hk rfl)).trans (hU_n (kd_ne hx x7 hk rfl)))))))) ((endA_n (by omega)).trans (hK _ (by omega))) (fun j h1 h2 => (endA_n (by omega)).trans (hK j (by omega))) cY, gT_e ((hU_n (hB 4 1 (by omega) (by omega) (by omega))).trans ((hU_n (hB 4 (9 + p1) (by omega) (by omega) (by omega))).trans ((hU_n (hB 4 6 (by omega) (by omega) (by omega))).trans ((hU_n (hB 4 5 (by omega) (by omega) (by omega))).trans ((hU_n (hB 4 8 (by omega) (by omega) (by omega))).trans (hU_n (hB 4 7 (by omega) (by omega) (by omega)))))))) (fun j h1 h2 => (endA_n (by omega)).trans (hK j (by omega))) cT, gM_i ((hU_n (hB 5 1 (by omega) (by omega) (by omega))).trans ((hU_n (hB 5 (9 + p1) (by omega) (by omega) (by omega))).trans ((hU_n (hB 5 6 (by omega) (by omega) (by omega))).trans hU_s))) ((hU_n (hB 6 1 (by omega) (by omega) (by omega))).trans ((hU_n (hB 6 (9 + p1) (by omega) (by omega) (by omega))).trans hU_s)) ((hU_n (hB 7 1 (by omega) (by omega) (by omega))).trans ((hU_n (hB 7 (9 + p1) (by omega) (by omega) (by omega))).trans ((hU_n (hB 7 6 (by omega) (by omega) (by omega))).trans ((hU_n (hB 7 5 (by omega) (by omega) (by omega))).trans ((hU_n (hB 7 8 (by omega) (by omega) (by omega))).trans hU_s))))) ((hU_n (hB 8 1 (by omega) (by omega) (by omega))).trans ((hU_n (hB 8 (9 + p1) (by omega) (by omega) (by omega))).trans ((hU_n (hB 8 6 (by omega) (by omega) (by omega))).trans ((hU_n (hB 8 5 (by omega) (by omega) (by omega))).trans hU_s)))) (endA_n (by omega)) (endA_n (by omega)) (endA_n (by omega)) (endA_n (by omega)) (endA_n (by omega)) (endA_n (by omega)) (endA_n (by omega)) (endA_n (by omega)) (endA_n (by omega)) ((endA_n (by omega)).trans eT2) (by omega) (RingOk_c (endA_n (by omega)) (fun j h1 h2 => endA_n (by omega)) hR2) hRB2⟩, ⟨k2, gWd_e (fun j h1 h2 => ((hU_n (hB (j + 16) 1 (by omega) (by omega) (by omega))).trans ((hU_n (hB (j + 16) (9 + p1) (by omega) (by omega) (by omega))).trans ((hU_n (hB (j + 16) 6 (by omega) (by omega) (by omega))).trans ((hU_n (hB (j + 16) 5 (by omega) (by omega) (by omega))).trans ((hU_n (hB (j + 16) 8 (by omega) (by omega) (by omega))).trans (hU_n (hB (j + 16) 7 (by omega) (by omega) (by omega))))))))) (fun x c hx hk => ((hU_n (kd_ne hx x1 hk rfl)).trans ((hU_n (kd_ne hx (pC p1 (by omega)) hk rfl)).trans ((hU_n (kd_ne hx x6 hk rfl)).trans ((hU_n (kd_ne hx x5 hk rfl)).trans ((hU_n (kd_ne hx x8 hk rfl)).trans (hU_n (kd_ne hx x7 hk rfl)))))))) cK, hk2⟩, gO_e (fun j h1 h2 => ((hU_n (hB j 1 (by omega) (by omega) (by omega))).trans ((hU_n (hB j (9 + p1) (by omega) (by omega) (by omega))).trans ((hU_n (hB j 6 (by omega) (by omega) (by omega))).trans ((hU_n (hB j 5 (by omega) (by omega) (by omega))).trans ((hU_n (hB j 8 (by omega) (by omega) (by omega))).trans (hU_n (hB j 7 (by omega) (by omega) (by omega))))))))) cO, gR_e ((hU_n (hB 37 1 (by omega) (by omega) (by omega))).trans ((hU_n (hB 37 (9 + p1) (by omega) (by omega) (by omega))).trans ((hU_n (hB 37 6 (by omega) (by omega) (by omega))).trans ((hU_n (hB 37 5 (by omega) (by omega) (by omega))).trans ((hU_n (hB 37 8 (by omega) (by omega) (by omega))).trans (hU_n (hB 37 7 (by omega) (by omega) (by omega)))))))) cR, gA_e (fun j h1 h2 => ((hU_n (hB j 1 (by omega) (by omega) (by omega))).trans ((hU_n (hB j (9 + p1) (by omega) (by omega) (by omega))).trans ((hU_n (hB j 6 (by omega) (by omega) (by omega))).trans ((hU_n (hB j 5 (by omega) (by omega) (by omega))).trans ((hU_n (hB j 8 (by omega) (by omega) (by omega))).trans (hU_n (hB j 7 (by omega) (by omega) (by omega))))))))) cA, gS_e (fun j h1 h2 => ((hU_n (hB j 1 (by omega) (by omega) (by omega))).trans ((hU_n (hB j (9 + p1) (by omega) (by omega) (by omega))).trans ((hU_n (hB j 6 (by omega) (by omega) (by omega))).trans ((hU_n (hB j 5 (by omega) (by omega) (by omega))).trans ((hU_n (hB j 8 (by omega) (by omega) (by omega))).trans (hU_n (hB j 7 (by omega) (by omega) (by omega))))))))) cS, gF_e ((hU_n (hB 41 1 (by omega) (by omega) (by omega))).trans ((hU_n (hB 41 (9 + p1) (by omega) (by omega) (by omega))).trans ((hU_n (hB 41 6 (by omega) (by omega) (by omega))).trans ((hU_n (hB 41 5 (by omega) (by omega) (by omega))).trans ((hU_n (hB 41 8 (by omega) (by omega) (by omega))).trans (hU_n (hB 41 7 (by omega) (by omega) (by omega)))))))) cF⟩
        exact v_iret X r dX7_bout_97 (Nat.le_refl _) (Nat.le_refl _) ⟨by rw [eqr], by rw [eqr]; exact hCR⟩
      · refine v_eqv (lv2 := [(4, .int 3), (3, .ref (B (9 + p1))), (2, .ref (B (9 + p0))), (0, .ref (B 0)), (1, .int n)]) (by rw [eo]) ?_
        refine v_iload X dX7_bout_82 0 rfl ?_
        refine v_if_eq X dX7_bout_84 (tgt := 95) (by decide) (fun c => absurd c (by decide)) (fun _ => ?_)
        refine v_aload_n X dX7_bout_87 3 rfl ?_
        refine v_aload_n X dX7_bout_88 2 rfl ?_
        refine v_aload_n X dX7_bout_89 1 rfl ?_
        refine v_iload X dX7_bout_90 0 rfl ?_
        refine v_cVv X [.ref (B (9 + p0)), .ref (B (9 + p1)), .int 3] sX7_163 (ct_X7_endBout3 ll g ((hU_n (hB 0 6 (by omega) (by omega) (by omega))).trans ((hU_n (hB 0 5 (by omega) (by omega) (by omega))).trans ((hU_n (hB 0 8 (by omega) (by omega) (by omega))).trans ((hU_n (hB 0 7 (by omega) (by omega) (by omega))).trans x0)))) ((hU_n (hB 1 6 (by omega) (by omega) (by omega))).trans ((hU_n (hB 1 5 (by omega) (by omega) (by omega))).trans ((hU_n (hB 1 8 (by omega) (by omega) (by omega))).trans ((hU_n (hB 1 7 (by omega) (by omega) (by omega))).trans x1)))) ((hU_n (hB (9 + p0) 6 (by omega) (by omega) (by omega))).trans ((hU_n (hB (9 + p0) 5 (by omega) (by omega) (by omega))).trans ((hU_n (hB (9 + p0) 8 (by omega) (by omega) (by omega))).trans ((hU_n (hB (9 + p0) 7 (by omega) (by omega) (by omega))).trans (pC p0 (by omega)))))) ((hU_n (hB (9 + p1) 6 (by omega) (by omega) (by omega))).trans ((hU_n (hB (9 + p1) 5 (by omega) (by omega) (by omega))).trans ((hU_n (hB (9 + p1) 8 (by omega) (by omega) (by omega))).trans ((hU_n (hB (9 + p1) 7 (by omega) (by omega) (by omega))).trans (pC p1 (by omega)))))) (hB (9 + p0) (9 + p1) (by omega) (by omega) (by omega))) ((hU_n (hB 0 6 (by omega) (by omega) (by omega))).trans ((hU_n (hB 0 5 (by omega) (by omega) (by omega))).trans ((hU_n (hB 0 8 (by omega) (by omega) (by omega))).trans ((hU_n (hB 0 7 (by omega) (by omega) (by omega))).trans x0)))) rfl dX7_bout_92 rfl rfl ⟨rfl, rfl⟩ ⟨(Nat.le_of_ble_eq_true rfl), (Nat.le_of_ble_eq_true rfl)⟩ ⟨Nat.zero_le _, Nat.zero_le _⟩ (Nat.le_of_ble_eq_true rfl) ?_
        refine v_iload X dX7_bout_95 0 rfl ?_
        have eqr : op_bout (d, k, hk, fo, tape, tp, bits, sz, num) n = (3, (endA R.1 3 p0 p1, k, hk, fo, tape, tp, bits, sz, num)) := by unfold op_bout; dsimp only; unfold boutE; rw [if_pos c1, if_neg hd2, hbR, ← eR, q3, q4, eo, if_pos (by decide)]
        have hCR : CR g (hU (hU (hU (hU (hU (hU (hU h (B 7) (ob 3 [.int (R.1 16), .int (R.1 18), .int (R.1 20), .int g0, .int t0])) (B 8) (ob 3 [.int (R.1 17), .int (R.1 19), .int (R.1 21), .int g1, .int t1])) (B 5) (ob 0 [.ref (B 4), .ref (B 3), .ref (B 6), .ref (B 7), .ref (B 8), .int (R.1 5), .int (R.1 6), .int (R.1 8)])) (B 6) (ai g 10 tr2)) (B (9 + p0)) (ob 1 [.int ((told d p0) 0), .int ((told d p0) 1), .int ((told d p0) 2), .int ((told d p0) 3), .int ((told d p0) 4), .int (((told d p0) 5) + 1), .int ((told d p0) 6)])) (B (9 + p1)) (ob 1 [.int ((told d p1) 0), .int ((told d p1) 1), .int ((told d p1) 2), .int ((told d p1) 3), .int ((told d p1) 4), .int (((told d p1) 5) + 1), .int ((told d p1) 6)])) (B 1) (ob 6 [.ref (B 2), .int (d 0), .ref (B 3), .int (d 1), .ref (B 4), .ref (B 5), .int 0, .int (d 3), .int (d 4), .int 3])) B (endA R.1 3 p0 p1, k, hk, fo, tape, tp, bits, sz, num) := ⟨hB, gX_e ((hU_n (hB 0 1 (by omega) (by omega) (by omega))).trans ((hU_n (hB 0 (9 + p1) (by omega) (by omega) (by omega))).trans ((hU_n (hB 0 (9 + p0) (by omega) (by omega) (by omega))).trans ((hU_n (hB 0 6 (by omega) (by omega) (by omega))).trans ((hU_n (hB 0 5 (by omega) (by omega) (by omega))).trans ((hU_n (hB 0 8 (by omega) (by omega) (by omega))).trans (hU_n (hB 0 7 (by omega) (by omega) (by omega))))))))) cX, ⟨gW_i hU_s ((endA_n (by omega)).trans (hK _ (by omega))) ((endA_n (by omega)).trans (hK _ (by omega))) (bI_f (by rw [endA_2]; decide)) ((endA_n (by omega)).trans (hK _ (by omega))) ((endA_n (by omega)).trans (hK _ (by omega))) endA_7, gP_two (w0 := told d p0 5 + 1) (w1 := told d p1 5 + 1) (by omega) (by omega) hq01 cP ((hU_n (hB 2 1 (by omega) (by omega) (by omega))).trans ((hU_n (hB 2 (9 + p1) (by omega) (by omega) (by omega))).trans ((hU_n (hB 2 (9 + p0) (by omega) (by omega) (by omega))).trans ((hU_n (hB 2 6 (by omega) (by omega) (by omega))).trans ((hU_n (hB 2 5 (by omega) (by omega) (by omega))).trans ((hU_n (hB 2 8 (by omega) (by omega) (by omega))).trans (hU_n (hB 2 7 (by omega) (by omega) (by omega))))))))) ((hU_n (hB (9 + p0) 1 (by omega) (by omega) (by omega))).trans ((hU_n (hB (9 + p0) (9 + p1) (by omega) (by omega) (by omega))).trans hU_s)) ((hU_n (hB (9 + p1) 1 (by omega) (by omega) (by omega))).trans hU_s) (fun q hq hne0 hne1 => ((hU_n (hB (9 + q) 1 (by omega) (by omega) (by omega))).trans ((hU_n (hB (9 + q) (9 + p1) (by omega) (by omega) (by omega))).trans ((hU_n (hB (9 + q) (9 + p0) (by omega) (by omega) (by omega))).trans ((hU_n (hB (9 + q) 6 (by omega) (by omega) (by omega))).trans ((hU_n (hB (9 + q) 5 (by omega) (by omega) (by omega))).trans ((hU_n (hB (9 + q) 8 (by omega) (by omega) (by omega))).trans (hU_n (hB (9 + q) 7 (by omega) (by omega) (by omega)))))))))) ((endA_n (by omega)).trans (hK _ (by omega))) (by rw [endA_a hq01, hK _ (by omega), show ((3 : Int32) &&& 1) = 1 by decide]; rfl) (by rw [endA_b, hK _ (by omega), show ((3 : Int32) >>> (1 &&& 31)) = 1 by decide]; rfl) (fun j h1 h2 h3 h4 => (endA_n ⟨by omega, by omega, h3, h4⟩).trans (hK j (by omega))), gY_e ((hU_n (hB 3 1 (by omega) (by omega) (by omega))).trans ((hU_n (hB 3 (9 + p1) (by omega) (by omega) (by omega))).trans ((hU_n (hB 3 (9 + p0) (by omega) (by omega) (by omega))).trans ((hU_n (hB 3 6 (by omega) (by omega) (by omega))).trans ((hU_n (hB 3 5 (by omega) (by omega) (by omega))).trans ((hU_n (hB 3 8 (by omega) (by omega) (by omega))).trans (hU_n (hB 3 7 (by omega) (by omega) (by omega))))))))) (fun x c hx hk => ((hU_n (kd_ne hx x1 hk rfl)).trans ((hU_n (kd_ne hx (pC p1 (by omega)) hk rfl)).trans ((hU_n (kd_ne hx (pC p0 (by omega)) hk rfl)).trans ((hU_n (kd_ne hx x6 hk rfl)).trans ((hU_n (kd_ne hx x5 hk rfl)).trans ((hU_n (kd_ne hx x8 hk rfl)).trans (hU_n (kd_ne hx x7 hk rfl))))))))) ((endA_n (by omega)).trans (hK _ (by omega))) (fun j h1 h2 => (endA_n (by omega)).trans (hK j (by omega))) cY, gT_e ((hU_n (hB 4 1 (by omega) (by omega) (by omega))).trans ((hU_n (hB 4 (9 + p1) (by omega) (by omega) (by omega))).trans ((hU_n (hB 4 (9 + p0) (by omega) (by omega) (by omega))).trans ((hU_n (hB 4 6 (by omega) (by omega) (by omega))).trans ((hU_n (hB 4 5 (by omega) (by omega) (by omega))).trans ((hU_n (hB 4 8 (by omega) (by omega) (by omega))).trans (hU_n (hB 4 7 (by omega) (by omega) (by omega))))))))) (fun j h1 h2 => (endA_n (by omega)).trans (hK j (by omega))) cT, gM_i ((hU_n (hB 5 1 (by omega) (by omega) (by omega))).trans ((hU_n (hB 5 (9 + p1) (by omega) (by omega) (by omega))).trans ((hU_n (hB 5 (9 + p0) (by omega) (by omega) (by omega))).trans ((hU_n (hB 5 6 (by omega) (by omega) (by omega))).trans hU_s)))) ((hU_n (hB 6 1 (by omega) (by omega) (by omega))).trans ((hU_n (hB 6 (9 + p1) (by omega) (by omega) (by omega))).trans ((hU_n (hB 6 (9 + p0) (by omega) (by omega) (by omega))).trans hU_s))) ((hU_n (hB 7 1 (by omega) (by omega) (by omega))).trans ((hU_n (hB 7 (9 + p1) (by omega) (by omega) (by omega))).trans ((hU_n (hB 7 (9 + p0) (by omega) (by omega) (by omega))).trans ((hU_n (hB 7 6 (by omega) (by omega) (by omega))).trans ((hU_n (hB 7 5 (by omega) (by omega) (by omega))).trans ((hU_n (hB 7 8 (by omega) (by omega) (by omega))).trans hU_s)))))) ((hU_n (hB 8 1 (by omega) (by omega) (by omega))).trans ((hU_n (hB 8 (9 + p1) (by omega) (by omega) (by omega))).trans ((hU_n (hB 8 (9 + p0) (by omega) (by omega) (by omega))).trans ((hU_n (hB 8 6 (by omega) (by omega) (by omega))).trans ((hU_n (hB 8 5 (by omega) (by omega) (by omega))).trans hU_s))))) (endA_n (by omega)) (endA_n (by omega)) (endA_n (by omega)) (endA_n (by omega)) (endA_n (by omega)) (endA_n (by omega)) (endA_n (by omega)) (endA_n (by omega)) (endA_n (by omega)) ((endA_n (by omega)).trans eT2) (by omega) (RingOk_c (endA_n (by omega)) (fun j h1 h2 => endA_n (by omega)) hR2) hRB2⟩, ⟨k2, gWd_e (fun j h1 h2 => ((hU_n (hB (j + 16) 1 (by omega) (by omega) (by omega))).trans ((hU_n (hB (j + 16) (9 + p1) (by omega) (by omega) (by omega))).trans ((hU_n (hB (j + 16) (9 + p0) (by omega) (by omega) (by omega))).trans ((hU_n (hB (j + 16) 6 (by omega) (by omega) (by omega))).trans ((hU_n (hB (j + 16) 5 (by omega) (by omega) (by omega))).trans ((hU_n (hB (j + 16) 8 (by omega) (by omega) (by omega))).trans (hU_n (hB (j + 16) 7 (by omega) (by omega) (by omega)))))))))) (fun x c hx hk => ((hU_n (kd_ne hx x1 hk rfl)).trans ((hU_n (kd_ne hx (pC p1 (by omega)) hk rfl)).trans ((hU_n (kd_ne hx (pC p0 (by omega)) hk rfl)).trans ((hU_n (kd_ne hx x6 hk rfl)).trans ((hU_n (kd_ne hx x5 hk rfl)).trans ((hU_n (kd_ne hx x8 hk rfl)).trans (hU_n (kd_ne hx x7 hk rfl))))))))) cK, hk2⟩, gO_e (fun j h1 h2 => ((hU_n (hB j 1 (by omega) (by omega) (by omega))).trans ((hU_n (hB j (9 + p1) (by omega) (by omega) (by omega))).trans ((hU_n (hB j (9 + p0) (by omega) (by omega) (by omega))).trans ((hU_n (hB j 6 (by omega) (by omega) (by omega))).trans ((hU_n (hB j 5 (by omega) (by omega) (by omega))).trans ((hU_n (hB j 8 (by omega) (by omega) (by omega))).trans (hU_n (hB j 7 (by omega) (by omega) (by omega)))))))))) cO, gR_e ((hU_n (hB 37 1 (by omega) (by omega) (by omega))).trans ((hU_n (hB 37 (9 + p1) (by omega) (by omega) (by omega))).trans ((hU_n (hB 37 (9 + p0) (by omega) (by omega) (by omega))).trans ((hU_n (hB 37 6 (by omega) (by omega) (by omega))).trans ((hU_n (hB 37 5 (by omega) (by omega) (by omega))).trans ((hU_n (hB 37 8 (by omega) (by omega) (by omega))).trans (hU_n (hB 37 7 (by omega) (by omega) (by omega))))))))) cR, gA_e (fun j h1 h2 => ((hU_n (hB j 1 (by omega) (by omega) (by omega))).trans ((hU_n (hB j (9 + p1) (by omega) (by omega) (by omega))).trans ((hU_n (hB j (9 + p0) (by omega) (by omega) (by omega))).trans ((hU_n (hB j 6 (by omega) (by omega) (by omega))).trans ((hU_n (hB j 5 (by omega) (by omega) (by omega))).trans ((hU_n (hB j 8 (by omega) (by omega) (by omega))).trans (hU_n (hB j 7 (by omega) (by omega) (by omega)))))))))) cA, gS_e (fun j h1 h2 => ((hU_n (hB j 1 (by omega) (by omega) (by omega))).trans ((hU_n (hB j (9 + p1) (by omega) (by omega) (by omega))).trans ((hU_n (hB j (9 + p0) (by omega) (by omega) (by omega))).trans ((hU_n (hB j 6 (by omega) (by omega) (by omega))).trans ((hU_n (hB j 5 (by omega) (by omega) (by omega))).trans ((hU_n (hB j 8 (by omega) (by omega) (by omega))).trans (hU_n (hB j 7 (by omega) (by omega) (by omega)))))))))) cS, gF_e ((hU_n (hB 41 1 (by omega) (by omega) (by omega))).trans ((hU_n (hB 41 (9 + p1) (by omega) (by omega) (by omega))).trans ((hU_n (hB 41 (9 + p0) (by omega) (by omega) (by omega))).trans ((hU_n (hB 41 6 (by omega) (by omega) (by omega))).trans ((hU_n (hB 41 5 (by omega) (by omega) (by omega))).trans ((hU_n (hB 41 8 (by omega) (by omega) (by omega))).trans (hU_n (hB 41 7 (by omega) (by omega) (by omega))))))))) cF⟩
        exact v_iret X r dX7_bout_97 (Nat.le_refl _) (Nat.le_refl _) ⟨by rw [eqr], by rw [eqr]; exact hCR⟩
    · refine v_aload_n X dX7_bout_28 0 rfl ?_
      refine v_ldc X dX7_bout_29 kX7_103 ?_
      refine v_cVi X [.int (-1000000005)] sX7_73 (ct_X7_finding (pe := 0) (wy := 0) (pt := 0) (mt := 0) (np := 0) (nw := 0) (oc := 0) (fi := 0) (se := 0) (lo := 0) (q := 4) (v := (-1000000005)) ll g x0 x41 (by decide) (by decide)) x0 rfl dX7_bout_31 rfl rfl ⟨rfl, rfl⟩ ⟨(Nat.le_of_ble_eq_true rfl), (Nat.le_of_ble_eq_true rfl)⟩ ⟨Nat.zero_le _, Nat.zero_le _⟩ (Nat.le_of_ble_eq_true rfl) ?_
      have eqr : op_bout (d, k, hk, fo, tape, tp, bits, sz, num) n = ((-1000000005), (d, k, hk, fnd fo 4, tape, tp, bits, sz, num)) := by unfold op_bout; dsimp only; rw [if_pos c1, if_pos (hon.resolve_right c2)]
      have hCR : CR g (hU h (B 41) (ai g 7 (fnd fo 4))) B (d, k, hk, fnd fo 4, tape, tp, bits, sz, num) := ⟨hB, gX_e (hU_n (hB 0 41 (by omega) (by omega) (by omega))) cX, ⟨gW_e (hU_n (hB 1 41 (by omega) (by omega) (by omega))) ⟨rfl, rfl, rfl, rfl, rfl, rfl⟩ cW, gP_e (fun j hj => (hU_n (hB j 41 (by omega) (by omega) (by omega)))) rfl (fun _ _ _ => rfl) cP, gY_e (hU_n (hB 3 41 (by omega) (by omega) (by omega))) (fun x c hx hk => (hU_n (kd_ne hx x41 hk rfl))) rfl (fun _ _ _ => rfl) cY, gT_e (hU_n (hB 4 41 (by omega) (by omega) (by omega))) (fun _ _ _ => rfl) cT, gM_e (fun j h1 h2 => (hU_n (hB j 41 (by omega) (by omega) (by omega)))) (fun _ _ _ => rfl) cM⟩, ⟨k2, gWd_e (fun j h1 h2 => (hU_n (hB (j + 16) 41 (by omega) (by omega) (by omega)))) (fun x c hx hk => (hU_n (kd_ne hx x41 hk rfl))) cK, hk2⟩, gO_e (fun j h1 h2 => (hU_n (hB j 41 (by omega) (by omega) (by omega)))) cO, gR_e (hU_n (hB 37 41 (by omega) (by omega) (by omega))) cR, gA_e (fun j h1 h2 => (hU_n (hB j 41 (by omega) (by omega) (by omega)))) cA, gS_e (fun j h1 h2 => (hU_n (hB j 41 (by omega) (by omega) (by omega)))) cS, (hU_s : _)⟩
      exact v_iret X r dX7_bout_34 (Nat.le_refl _) (Nat.le_refl _) ⟨by rw [eqr], by rw [eqr]; exact hCR⟩
  · refine v_aload_n X dX7_bout_11 0 rfl ?_
    refine v_ldc X dX7_bout_12 kX7_72 ?_
    refine v_cVi X [.int (-1000000001)] sX7_73 (ct_X7_finding (pe := 0) (wy := 0) (pt := 0) (mt := 0) (np := 0) (nw := 0) (oc := 0) (fi := 0) (se := 0) (lo := 0) (q := 0) (v := (-1000000001)) ll g x0 x41 (by decide) (by decide)) x0 rfl dX7_bout_14 rfl rfl ⟨rfl, rfl⟩ ⟨(Nat.le_of_ble_eq_true rfl), (Nat.le_of_ble_eq_true rfl)⟩ ⟨Nat.zero_le _, Nat.zero_le _⟩ (Nat.le_of_ble_eq_true rfl) ?_
    have eqr : op_bout (d, k, hk, fo, tape, tp, bits, sz, num) n = ((-1000000001), (d, k, hk, fnd fo 0, tape, tp, bits, sz, num)) := by unfold op_bout; dsimp only; rw [if_neg c1]
    have hCR : CR g (hU h (B 41) (ai g 7 (fnd fo 0))) B (d, k, hk, fnd fo 0, tape, tp, bits, sz, num) := ⟨hB, gX_e (hU_n (hB 0 41 (by omega) (by omega) (by omega))) cX, ⟨gW_e (hU_n (hB 1 41 (by omega) (by omega) (by omega))) ⟨rfl, rfl, rfl, rfl, rfl, rfl⟩ cW, gP_e (fun j hj => (hU_n (hB j 41 (by omega) (by omega) (by omega)))) rfl (fun _ _ _ => rfl) cP, gY_e (hU_n (hB 3 41 (by omega) (by omega) (by omega))) (fun x c hx hk => (hU_n (kd_ne hx x41 hk rfl))) rfl (fun _ _ _ => rfl) cY, gT_e (hU_n (hB 4 41 (by omega) (by omega) (by omega))) (fun _ _ _ => rfl) cT, gM_e (fun j h1 h2 => (hU_n (hB j 41 (by omega) (by omega) (by omega)))) (fun _ _ _ => rfl) cM⟩, ⟨k2, gWd_e (fun j h1 h2 => (hU_n (hB (j + 16) 41 (by omega) (by omega) (by omega)))) (fun x c hx hk => (hU_n (kd_ne hx x41 hk rfl))) cK, hk2⟩, gO_e (fun j h1 h2 => (hU_n (hB j 41 (by omega) (by omega) (by omega)))) cO, gR_e (hU_n (hB 37 41 (by omega) (by omega) (by omega))) cR, gA_e (fun j h1 h2 => (hU_n (hB j 41 (by omega) (by omega) (by omega)))) cA, gS_e (fun j h1 h2 => (hU_n (hB j 41 (by omega) (by omega) (by omega)))) cS, (hU_s : _)⟩
    exact v_iret X r dX7_bout_17 (Nat.le_refl _) (Nat.le_refl _) ⟨by rw [eqr], by rw [eqr]; exact hCR⟩
