/-! ===== the class: way ===== -/
theorem rdD_out {f : Nat → Int32} {n a W m j : Nat} {D : Nat → Int32} (e : D W = nI m) (hm : m ≤ 6) (hj : j < W ∨ W + 25 ≤ j) : rdD f n a D W (W + 1 + 4 * m) j = D j := by
  by_cases z : m = 6
  · have h6 : 6 ≤ D W := by rw [e, z]; decide
    unfold rdD
    rw [if_neg (fun q => q.2 h6)]
  · exact rdD_n (by omega) (by omega) (by omega) (by omega) (by omega)
theorem wyF_n {f : Nat → Int32} {n W : Nat} : ∀ (q m : Nat) (D : Nat → Int32) (a : Nat), D W = nI m → m ≤ 6 → ∀ j, (j < W ∨ W + 25 ≤ j) → (wyF f n W q m D a).2.2 j = D j := by
  intro q
  induction q with
  | zero => intro m D a e hm j hj; exact rdD_out e hm hj
  | succ q ih =>
    intro m D a e hm j hj
    unfold wyF
    by_cases z : rdOk f n a D W
    · rw [if_pos z]
      have h6 : m < 6 := dlt6 e hm z.1.2
      by_cases y : lkT f n (rdA f n a D W) = 0
      · rw [if_pos y]; exact rdD_out e hm hj
      · rw [if_neg y]
        by_cases x : sgAt f n (rdA f n a D W) 59
        · rw [if_pos x, ih (m + 1) _ _ (rdD_w (by omega) e z) (by omega) j hj]; exact rdD_out e hm hj
        · rw [if_neg x]; exact rdD_out e hm hj
    · rw [if_neg z]; exact rdD_out e hm hj
theorem WayC_q {g : GT} {h h2 : Hp} {d d2 : Nat → Int32} {a w : Nat} (ew : ∀ x c, h x = some c → wayKd (kd c) = true → h2 x = h x) (q : ∀ j, 110 + 25 * w ≤ j → j < 110 + 25 * w + 25 → d2 j = d j) (H : WayC g h a d w) : WayC g h2 a d2 w := by
  obtain ⟨c, n1, n2, n3, n4, f1, f2, f3, f4, a0, a1, a2, a3, a4, hc, e0, hr⟩ := H
  exact ⟨c, n1, n2, n3, n4, f1, f2, f3, f4, (ew _ _ a0 rfl).trans a0, (ew _ _ a1 rfl).trans a1, (ew _ _ a2 rfl).trans a2, (ew _ _ a3 rfl).trans a3, (ew _ _ a4 rfl).trans a4, hc, (q _ (by omega) (by omega)).trans e0, fun k hk => RuleE_c (fun j h1 h2 => q j (by omega) (by omega)) (hr k hk)⟩
theorem gY_w {g : GT} {h h2 : Hp} {C : Nat → Nat} {d d2 : Nat → Int32} {nw : Nat} (e1 : (d 1).toNatClampNeg = nw) (e : h2 (C 3) = h (C 3)) (ew : ∀ x c, h x = some c → wayKd (kd c) = true → h2 x = h x) (q1 : d2 1 = d 1) (q : ∀ j, 110 ≤ j → j < 110 + 25 * nw → d2 j = d j) (H : gY g h C d) : gY g h2 C d2 := by
  obtain ⟨wf, a1, a2, a3⟩ := H
  refine ⟨wf, e.trans a1, fun j a hj hf => ?_, fun w h6 hw => ?_⟩
  · obtain ⟨fs, hfs⟩ := a2 j a hj hf
    exact ⟨fs, (ew _ _ hfs rfl).trans hfs⟩
  · rw [q1] at hw
    obtain ⟨a, b1, b2⟩ := a3 w h6 hw
    rw [e1] at hw
    exact ⟨a, b1, WayC_q ew (fun j h1 h2 => q j (by omega) (by omega)) b2⟩
theorem gY_add {g : GT} {h h2 : Hp} {C : Nat → Nat} {d d2 : Nat → Int32} {nw q : Nat} {wf : Nat → Option Nat} (hnw : nw < 6) (e1 : (d 1).toNatClampNeg = nw) (a2 : ∀ j a, j < 6 → wf j = some a → ∃ fs, h a = some (ob 5 fs)) (a3 : ∀ w, w < 6 → w < (d 1).toNatClampNeg → ∃ a, wf w = some a ∧ WayC g h a d w) (e : h2 (C 3) = some (ar g 4 6 (va_up wf nw (some q)))) (ew : ∀ x c, h x = some c → wayKd (kd c) = true → h2 x = h x) (q1 : d2 1 = nI (nw + 1)) (qo : ∀ j, 110 ≤ j → j < 110 + 25 * nw → d2 j = d j) (hq : WayC g h2 q d2 nw) : gY g h2 C d2 := by
  refine ⟨_, e, fun j a hj hf => ?_, fun w h6 hw => ?_⟩
  · by_cases z : j = nw
    · subst z
      rw [va_up_self] at hf
      cases hf
      obtain ⟨c, n1, n2, n3, n4, f1, f2, f3, f4, b0, b1⟩ := hq
      exact ⟨_, b0⟩
    · rw [va_up_ne _ _ z] at hf
      obtain ⟨fs, hfs⟩ := a2 j a hj hf
      exact ⟨fs, (ew _ _ hfs rfl).trans hfs⟩
  · rw [q1, nI_clamp (by omega)] at hw
    by_cases z : w = nw
    · subst z; exact ⟨q, va_up_self _ _ _, hq⟩
    · obtain ⟨a, b1, b2⟩ := a3 w h6 (by omega)
      exact ⟨a, (va_up_ne _ _ z).trans b1, WayC_q ew (fun j h1 h2 => qo j (by omega) (by omega)) b2⟩
theorem CR_fr {g : GT} {h h2 : Hp} {B : Nat → Nat} {d k fo tape bits sz : Nat → Int32} {num : Nat → Int64} {hk tp : Int32} (H : CR g h B (d, k, hk, fo, tape, tp, bits, sz, num)) (hfr : ∀ x, h x ≠ none → x ≠ B 38 → h2 x = h x) (y : ∃ a b c e : Int32, h2 (B 38) = some (ob 4 [.ref (B 39), .int tp, .int a, .int b, .int c, .int e])) : CR g h2 B (d, k, hk, fo, tape, tp, bits, sz, num) := by
  have hdm := CR_dom H
  obtain ⟨hB, cX, cW, ⟨k2, cK, hk2⟩, cO, cR, cA, cS, cF⟩ := H
  have e : ∀ j, j < 50 → j ≠ 38 → h2 (B j) = h (B j) := fun j hj hne => hfr _ (hdm j hj) (hB j 38 hj (by decide) hne)
  obtain ⟨ts, te, tt, tv, x38, x39⟩ := cA
  have ew : ∀ x c, h x = some c → wayKd (kd c) = true → h2 x = h x := fun x c hx hk => hfr x (ne_some hx) (kd_ne hx x38 hk rfl)
  obtain ⟨a, b, c, e4, y38⟩ := y
  exact ⟨hB, gX_e (e 0 (by decide) (by decide)) cX, gWd_e (fun j h1 h2 => e j (by omega) (by omega)) ew cW, ⟨k2, gWd_e (fun j h1 h2 => e (j + 16) (by omega) (by omega)) ew cK, hk2⟩, gO_e (fun j h1 h2 => e j (by omega) (by omega)) cO, gR_e (e 37 (by decide) (by decide)) cR, ⟨a, b, c, e4, y38, (e 39 (by decide) (by decide)).trans x39⟩, gS_e (fun j h1 h2 => e j (by omega) (by omega)) cS, gF_e (e 41 (by decide) (by decide)) cF⟩
set_option maxHeartbeats 4000000 in
set_option maxRecDepth 100000 in
theorem ct_X7_way (ll : Launch) (g : GT) {h : Hp} {B : Nat → Nat} {d k fo tape bits sz : Nat → Int32} {num : Nat → Int64} {hk tp : Int32} {N : Nat}  (hC : CR g h B (d, k, hk, fo, tape, tp, bits, sz, num)) (hI : SOk (d, k, hk, fo, tape, tp, bits, sz, num) N) (hN : N + 400 ≤ 204800) : MC ll g yX7_way cX7_way 3 (some .int) { frames := 10, cells := 5, slots := 29, locals := 380 } [.ref (B 0)] h (fun r h2 => r = some (.int (op_way (d, k, hk, fo, tape, tp, bits, sz, num)).1) ∧ CR g h2 B (op_way (d, k, hk, fo, tape, tp, bits, sz, num)).2) 5 29 := by
  have hC0 := hC
  have hI0 := hI
  obtain ⟨hB, cX, ⟨cW, cP, cY, cT, cM⟩, ⟨k2, cK, hk2⟩, cO, cR, cA, cS, cF⟩ := hC
  obtain ⟨⟨np, nw, T, p0, p1, e0, hnp, e1, hnw, e6, hT, hon, e3, hp0, e4, hp1, honp, hper, h10, h11, h12, hwc⟩, hkd, hkb, ⟨tn, htn, etp⟩, hsz⟩ := hI
  have x0 : h (B 0) = some (ob 7 [.ref (B 1), .ref (B 17), .int hk, .ref (B 33), .ref (B 37), .ref (B 38), .ref (B 40), .ref (B 41)]) := cX
  have x1 : h (B 1) = some (ob 6 [.ref (B 2), .int (d 0), .ref (B 3), .int (d 1), .ref (B 4), .ref (B 5), .int (bI (d 2 = 1)), .int (d 3), .int (d 4), .int (d 7)]) := cW
  have cP0 := cP
  obtain ⟨pf, F, x2, hpf, hF, hFd⟩ := cP0
  have cY0 := cY
  obtain ⟨wf, x3, hwo, hwy⟩ := cY0
  have x4 : h (B 4) = some (ai g 5 (ptF d)) := cT
  have cM0 := cM
  obtain ⟨tr, T9, s0, v0, s1, v1, x5, x6, x7, x8, e69, hT30, hR, hRB⟩ := cM0
  have eT9 : T9 = T := nI_inj (by omega) (by omega) (e69.symm.trans e6)
  subst eT9
  have cO0 := cO
  obtain ⟨otr, u5, u6, u8, a0, a1, a2, a3, a4, b0, b1, b2, b3, b4, x33, x34, x35, x36⟩ := cO0
  have cR0 := cR
  obtain ⟨rf, x37⟩ := cR0
  have cA0 := cA
  obtain ⟨ts, te, tt, tv, x38, x39⟩ := cA0
  have cS0 := cS
  obtain ⟨sf, nf, x40, hsf, hsh, hnm, hnv⟩ := cS0
  have x41 : h (B 41) = some (ai g 7 fo) := cF
  have qn : (d 0).toNatClampNeg = np := ix_cl e0 (by omega)
  have qw : (d 1).toNatClampNeg = nw := ix_cl e1 (by omega)
  have pC : ∀ p, p < np → h (B (9 + p)) = some (ob 1 [.int ((told d p) 0), .int ((told d p) 1), .int ((told d p) 2), .int ((told d p) 3), .int ((told d p) 4), .int ((told d p) 5), .int ((told d p) 6)]) := fun p hp => gP_at (by omega) (by rw [qn]; exact hp) cP
  refine mc_of (by decide) (Nat.le_of_ble_eq_true rfl) ?_
  intro K X r
  refine v_eqv (lv2 := [(0, .ref (B 0))]) rfl ?_
  refine v_aload_n X dX7_way_0 0 rfl ?_
  refine v_get X fX7_10 x0 rfl dX7_way_1 ?_
  refine v_get X fX7_242 x1 rfl dX7_way_4 ?_
  refine v_bipush X dX7_way_7 (v := 6) (by decide) ?_
  refine v_icmp_lt X dX7_way_9 (tgt := 19) (by decide) (fun c1 => ?_) (fun c1 => ?_)
  · have hnl : nw < 6 := (nI_ltI (by omega) (by decide)).mp (by have z := c1; rw [e1] at z; exact z)
    have hn6 : ¬ d 1 = 6 := fun z => by rw [e1] at z; have := nI_inj (a := nw) (b := 6) (by omega) (by decide) z; omega
    refine v_aload_n X dX7_way_19 0 rfl ?_
    refine v_get X fX7_50 x0 rfl dX7_way_20 ?_
    refine v_cV X (av := []) sX7_245 (ct_X4_toWay (w := nw) (D0 := upd d (110 + 25 * nw) 0) (f := tape) (n := tn) ll g (by rw [← etp]; exact x38) x39 (by omega) pk_us) x38 rfl dX7_way_23 rfl rfl ⟨rfl, rfl⟩ ⟨(Nat.le_of_ble_eq_true rfl), (Nat.le_of_ble_eq_true rfl)⟩ ⟨(Nat.le_of_ble_eq_true rfl), (Nat.le_of_ble_eq_true rfl)⟩ (Nat.le_of_ble_eq_true rfl) (fun r_ hh q_ => ?_)
    obtain ⟨R, eR⟩ : ∃ R, R = wyF tape tn (110 + 25 * nw) 7 0 (upd d (110 + 25 * nw) 0) 0 := ⟨_, rfl⟩
    rw [← eR] at q_
    obtain ⟨hfr, ⟨e2, t2, v2, y38⟩, hres⟩ := q_
    have hK : ∀ j, (j < 110 + 25 * nw ∨ 110 + 25 * nw + 25 ≤ j) → R.2.2 j = d j := fun j hj => by rw [eR]; exact (wyF_n 7 0 (upd d (110 + 25 * nw) 0) 0 (show upd d (110 + 25 * nw) 0 (110 + 25 * nw) = nI 0 from pk_us) (by decide) j hj).trans (pk_un (by omega))
    have hC : CR g hh B (d, k, hk, fo, tape, tp, bits, sz, num) := CR_fr hC0 hfr ⟨_, _, _, _, by rw [etp]; exact y38⟩
    obtain ⟨hB, cX, ⟨cW, cP, cY, cT, cM⟩, ⟨k2, cK, hk2⟩, cO, cR, cA, cS, cF⟩ := hC
    have x0 : hh (B 0) = some (ob 7 [.ref (B 1), .ref (B 17), .int hk, .ref (B 33), .ref (B 37), .ref (B 38), .ref (B 40), .ref (B 41)]) := cX
    have x1 : hh (B 1) = some (ob 6 [.ref (B 2), .int (d 0), .ref (B 3), .int (d 1), .ref (B 4), .ref (B 5), .int (bI (d 2 = 1)), .int (d 3), .int (d 4), .int (d 7)]) := cW
    have cP0 := cP
    obtain ⟨pf, F, x2, hpf, hF, hFd⟩ := cP0
    have cY0 := cY
    obtain ⟨wf, x3, hwo, hwy⟩ := cY0
    have x4 : hh (B 4) = some (ai g 5 (ptF d)) := cT
    have cM0 := cM
    obtain ⟨tr, T8, s0, v0, s1, v1, x5, x6, x7, x8, e69, hT30, hR, hRB⟩ := cM0
    have cO0 := cO
    obtain ⟨otr, u5, u6, u8, a0, a1, a2, a3, a4, b0, b1, b2, b3, b4, x33, x34, x35, x36⟩ := cO0
    have cR0 := cR
    obtain ⟨rf, x37⟩ := cR0
    have cA0 := cA
    obtain ⟨ts, te, tt, tv, x38, x39⟩ := cA0
    have cS0 := cS
    obtain ⟨sf, nf, x40, hsf, hsh, hnm, hnv⟩ := cS0
    have x41 : hh (B 41) = some (ai g 7 fo) := cF
    have pC : ∀ p, p < np → hh (B (9 + p)) = some (ob 1 [.int ((told d p) 0), .int ((told d p) 1), .int ((told d p) 2), .int ((told d p) 3), .int ((told d p) 4), .int ((told d p) 5), .int ((told d p) 6)]) := fun p hp => gP_at (by omega) (by rw [qn]; exact hp) cP
    have qt : pr tp = tn := ix_cl etp (by omega)
    have hK1 : R.2.2 1 = d 1 := hK 1 (by omega)
    rcases hres with ⟨hR1, qw_, e_, hq0, hWC⟩ | ⟨hR1, e_⟩
    · subst e_
      refine v_eqs (st2 := [.ref qw_]) rfl ?_
      have hWC0 := hWC
      obtain ⟨wc, n1, n2, n3, n4, f1, f2, f3, f4, y0, y1, y2, y3, y4, hc6, ec, hr⟩ := hWC0
      refine v_astore_n (lv1 := [(1, .ref qw_), (0, .ref (B 0))]) X dX7_way_26 (by decide) rfl ?_
      refine v_aload_n X dX7_way_27 1 rfl ?_
      refine v_get X fX7_50 x0 rfl dX7_way_28 ?_
      refine v_iconst X dX7_way_31 (v := 0) (by decide) ?_
      refine v_putE (h2 := (hU hh (B 38) (ob 4 [.ref (B 39), .int 0, .int (nI (lkJ tape tn R.2.1)), .int e2, .int t2, .int v2]))) X fX7_235 tyX4_ok nmX4 rfl pd_I y38 rfl rfl (ltb rfl) dX7_way_32 rfl ?_
      refine v_aload_n X dX7_way_35 0 rfl ?_
      refine v_ifnonnull X dX7_way_36 (tgt := 49) (by decide) ?_
      refine v_aload_n X dX7_way_49 1 rfl ?_
      refine v_get X fX7_10 ((hU_n (hB 0 38 (by omega) (by omega) (by omega))).trans x0) rfl dX7_way_50 ?_
      refine v_get X fX7_242 ((hU_n (hB 1 38 (by omega) (by omega) (by omega))).trans x1) rfl dX7_way_53 ?_
      refine v_istore_n (lv1 := [(2, .int (d 1)), (1, .ref qw_), (0, .ref (B 0))]) X dX7_way_56 (by decide) rfl ?_
      refine v_aload_n X dX7_way_57 2 rfl ?_
      refine v_get X fX7_10 ((hU_n (hB 0 38 (by omega) (by omega) (by omega))).trans x0) rfl dX7_way_58 ?_
      refine v_get X fX7_29 ((hU_n (hB 1 38 (by omega) (by omega) (by omega))).trans x1) rfl dX7_way_61 ?_
      refine v_iload_n X dX7_way_64 0 rfl ?_
      refine v_aload_n X dX7_way_65 1 rfl ?_
      refine v_aastK (h2 := (hU (hU hh (B 38) (ob 4 [.ref (B 39), .int 0, .int (nI (lkJ tape tn R.2.1)), .int e2, .int t2, .int v2])) (B 3) (ar g 4 6 (va_up wf nw (some qw_))))) X 4 rfl rfl nw ((hU_n (hB 3 38 (by omega) (by omega) (by omega))).trans x3) ((hU_n (hneb y0 y38 rfl)).trans y0) e1 (by omega) (by decide) dX7_way_66 rfl ?_
      refine v_aload_n X dX7_way_67 2 rfl ?_
      refine v_get X fX7_10 ((hU_n (hB 0 3 (by omega) (by omega) (by omega))).trans ((hU_n (hB 0 38 (by omega) (by omega) (by omega))).trans x0)) rfl dX7_way_68 ?_
      refine v_dup X dX7_way_71 rfl ?_
      refine v_get X fX7_242 ((hU_n (hB 1 3 (by omega) (by omega) (by omega))).trans ((hU_n (hB 1 38 (by omega) (by omega) (by omega))).trans x1)) rfl dX7_way_72 ?_
      refine v_iconst X dX7_way_75 (v := 1) (by decide) ?_
      refine v_iadd X dX7_way_76 ?_
      refine v_putE (h2 := (hU (hU (hU hh (B 38) (ob 4 [.ref (B 39), .int 0, .int (nI (lkJ tape tn R.2.1)), .int e2, .int t2, .int v2])) (B 3) (ar g 4 6 (va_up wf nw (some qw_)))) (B 1) (ob 6 [.ref (B 2), .int (d 0), .ref (B 3), .int ((d 1) + 1), .ref (B 4), .ref (B 5), .int (bI (d 2 = 1)), .int (d 3), .int (d 4), .int (d 7)]))) X fX7_242 tyX6_ok nmX6 rfl pd_I ((hU_n (hB 1 3 (by omega) (by omega) (by omega))).trans ((hU_n (hB 1 38 (by omega) (by omega) (by omega))).trans x1)) rfl rfl (ltb rfl) dX7_way_77 rfl ?_
      refine v_iload_n X dX7_way_80 0 rfl ?_
      have eqr : op_way (d, k, hk, fo, tape, tp, bits, sz, num) = (d 1, (upd R.2.2 1 (R.2.2 1 + 1), k, hk, fo, tape, 0, bits, sz, num)) := by have hA : R.2.2 1 + 1 - 1 = d 1 := (by rw [hK1, e1, nI_1, nI_pred]); unfold op_way; dsimp only; rw [if_neg hn6, qt, show pr (d 1) = nw from qw, ← eR, if_pos hR1, hA]
      have hCR : CR g (hU (hU (hU hh (B 38) (ob 4 [.ref (B 39), .int 0, .int (nI (lkJ tape tn R.2.1)), .int e2, .int t2, .int v2])) (B 3) (ar g 4 6 (va_up wf nw (some qw_)))) (B 1) (ob 6 [.ref (B 2), .int (d 0), .ref (B 3), .int ((d 1) + 1), .ref (B 4), .ref (B 5), .int (bI (d 2 = 1)), .int (d 3), .int (d 4), .int (d 7)])) B (upd R.2.2 1 (R.2.2 1 + 1), k, hk, fo, tape, 0, bits, sz, num) := ⟨hB, gX_e ((hU_n (hB 0 1 (by omega) (by omega) (by omega))).trans ((hU_n (hB 0 3 (by omega) (by omega) (by omega))).trans (hU_n (hB 0 38 (by omega) (by omega) (by omega))))) cX, ⟨gW_i hU_s ((pk_un (by omega)).trans (hK _ (by omega))) (pk_us.trans (by rw [hK1])) (by rw [pk_un (by decide), hK 2 (by omega)]) ((pk_un (by omega)).trans (hK _ (by omega))) ((pk_un (by omega)).trans (hK _ (by omega))) ((pk_un (by omega)).trans (hK _ (by omega))), gP_e (fun j hj => ((hU_n (hB j 1 (by omega) (by omega) (by omega))).trans ((hU_n (hB j 3 (by omega) (by omega) (by omega))).trans (hU_n (hB j 38 (by omega) (by omega) (by omega)))))) ((pk_un (by omega)).trans (hK _ (by omega))) (fun j h1 h2 => (pk_un (by omega)).trans (hK j (by omega))) cP, gY_add hnl qw hwo hwy ((hU_n (hB 3 1 (by omega) (by omega) (by omega))).trans hU_s) (fun x c hx hk => ((hU_n (kd_ne hx x1 hk rfl)).trans ((hU_n (kd_ne hx x3 hk rfl)).trans (hU_n (kd_ne hx y38 hk rfl))))) (pk_us.trans (by rw [hK1, e1, nI_1])) (fun j h1 h2 => (pk_un (by omega)).trans (hK j (by omega))) (WayC_q (fun x c hx hk => ((hU_n (kd_ne hx x1 hk rfl)).trans ((hU_n (kd_ne hx x3 hk rfl)).trans (hU_n (kd_ne hx y38 hk rfl))))) (fun j h1 h2 => pk_un (by omega)) hWC), gT_e ((hU_n (hB 4 1 (by omega) (by omega) (by omega))).trans ((hU_n (hB 4 3 (by omega) (by omega) (by omega))).trans (hU_n (hB 4 38 (by omega) (by omega) (by omega))))) (fun j h1 h2 => (pk_un (by omega)).trans (hK j (by omega))) cT, gM_e (fun j h1 h2 => ((hU_n (hB j 1 (by omega) (by omega) (by omega))).trans ((hU_n (hB j 3 (by omega) (by omega) (by omega))).trans (hU_n (hB j 38 (by omega) (by omega) (by omega)))))) (fun j h1 h2 => (pk_un (by omega)).trans (hK j (by omega))) cM⟩, ⟨k2, gWd_e (fun j h1 h2 => ((hU_n (hB (j + 16) 1 (by omega) (by omega) (by omega))).trans ((hU_n (hB (j + 16) 3 (by omega) (by omega) (by omega))).trans (hU_n (hB (j + 16) 38 (by omega) (by omega) (by omega)))))) (fun x c hx hk => ((hU_n (kd_ne hx x1 hk rfl)).trans ((hU_n (kd_ne hx x3 hk rfl)).trans (hU_n (kd_ne hx y38 hk rfl))))) cK, hk2⟩, gO_e (fun j h1 h2 => ((hU_n (hB j 1 (by omega) (by omega) (by omega))).trans ((hU_n (hB j 3 (by omega) (by omega) (by omega))).trans (hU_n (hB j 38 (by omega) (by omega) (by omega)))))) cO, gR_e ((hU_n (hB 37 1 (by omega) (by omega) (by omega))).trans ((hU_n (hB 37 3 (by omega) (by omega) (by omega))).trans (hU_n (hB 37 38 (by omega) (by omega) (by omega))))) cR, ⟨_, _, _, _, ((hU_n (hB 38 1 (by omega) (by omega) (by omega))).trans ((hU_n (hB 38 3 (by omega) (by omega) (by omega))).trans hU_s)), ((hU_n (hB 39 1 (by omega) (by omega) (by omega))).trans ((hU_n (hB 39 3 (by omega) (by omega) (by omega))).trans ((hU_n (hB 39 38 (by omega) (by omega) (by omega))).trans x39)))⟩, gS_e (fun j h1 h2 => ((hU_n (hB j 1 (by omega) (by omega) (by omega))).trans ((hU_n (hB j 3 (by omega) (by omega) (by omega))).trans (hU_n (hB j 38 (by omega) (by omega) (by omega)))))) cS, gF_e ((hU_n (hB 41 1 (by omega) (by omega) (by omega))).trans ((hU_n (hB 41 3 (by omega) (by omega) (by omega))).trans (hU_n (hB 41 38 (by omega) (by omega) (by omega))))) cF⟩
      exact v_iret X r dX7_way_81 (Nat.le_of_ble_eq_true rfl) (Nat.le_of_ble_eq_true rfl) ⟨by rw [eqr], by rw [eqr]; exact hCR⟩
    · subst e_
      refine v_eqs (st2 := [.null]) rfl ?_
      refine v_astore_nN (lv1 := [(1, .null), (0, .ref (B 0))]) X dX7_way_26 (by decide) rfl ?_
      refine v_aload_n X dX7_way_27 1 rfl ?_
      refine v_get X fX7_50 x0 rfl dX7_way_28 ?_
      refine v_iconst X dX7_way_31 (v := 0) (by decide) ?_
      refine v_putE (h2 := (hU hh (B 38) (ob 4 [.ref (B 39), .int 0, .int (nI (lkJ tape tn R.2.1)), .int e2, .int t2, .int v2]))) X fX7_235 tyX4_ok nmX4 rfl pd_I y38 rfl rfl (ltb rfl) dX7_way_32 rfl ?_
      refine v_aload_nN X dX7_way_35 0 rfl ?_
      refine v_ifnonnullN X dX7_way_36 ?_
      refine v_iconst X dX7_way_39 (v := (-1)) (by decide) ?_
      refine v_aload_n X dX7_way_40 1 rfl ?_
      refine v_get X fX7_50 ((hU_n (hB 0 38 (by omega) (by omega) (by omega))).trans x0) rfl dX7_way_41 ?_
      refine v_get X fX7_249 hU_s rfl dX7_way_44 ?_
      refine v_isub X dX7_way_47 ?_
      have eqr : op_way (d, k, hk, fo, tape, tp, bits, sz, num) = ((-1) - (nI (lkJ tape tn R.2.1)), (R.2.2, k, hk, fo, tape, 0, bits, sz, num)) := by unfold op_way; dsimp only; rw [if_neg hn6, qt, show pr (d 1) = nw from qw, ← eR, if_neg (by rw [hR1]; decide)]
      have hCR : CR g (hU hh (B 38) (ob 4 [.ref (B 39), .int 0, .int (nI (lkJ tape tn R.2.1)), .int e2, .int t2, .int v2])) B (R.2.2, k, hk, fo, tape, 0, bits, sz, num) := ⟨hB, gX_e (hU_n (hB 0 38 (by omega) (by omega) (by omega))) cX, ⟨gW_e (hU_n (hB 1 38 (by omega) (by omega) (by omega))) ⟨(hK _ (by omega)), (hK _ (by omega)), (hK _ (by omega)), (hK _ (by omega)), (hK _ (by omega)), (hK _ (by omega))⟩ cW, gP_e (fun j hj => (hU_n (hB j 38 (by omega) (by omega) (by omega)))) (hK _ (by omega)) (fun j h1 h2 => hK j (by omega)) cP, gY_w qw (hU_n (hB 3 38 (by omega) (by omega) (by omega))) (fun x c hx hk => (hU_n (kd_ne hx y38 hk rfl))) hK1 (fun j h1 h2 => hK j (by omega)) cY, gT_e (hU_n (hB 4 38 (by omega) (by omega) (by omega))) (fun j h1 h2 => hK j (by omega)) cT, gM_e (fun j h1 h2 => (hU_n (hB j 38 (by omega) (by omega) (by omega)))) (fun j h1 h2 => hK j (by omega)) cM⟩, ⟨k2, gWd_e (fun j h1 h2 => (hU_n (hB (j + 16) 38 (by omega) (by omega) (by omega)))) (fun x c hx hk => (hU_n (kd_ne hx y38 hk rfl))) cK, hk2⟩, gO_e (fun j h1 h2 => (hU_n (hB j 38 (by omega) (by omega) (by omega)))) cO, gR_e (hU_n (hB 37 38 (by omega) (by omega) (by omega))) cR, ⟨_, _, _, _, hU_s, ((hU_n (hB 39 38 (by omega) (by omega) (by omega))).trans x39)⟩, gS_e (fun j h1 h2 => (hU_n (hB j 38 (by omega) (by omega) (by omega)))) cS, gF_e (hU_n (hB 41 38 (by omega) (by omega) (by omega))) cF⟩
      exact v_iret X r dX7_way_48 (Nat.le_of_ble_eq_true rfl) (Nat.le_of_ble_eq_true rfl) ⟨by rw [eqr], by rw [eqr]; exact hCR⟩
  · refine v_aload_n X dX7_way_12 0 rfl ?_
    refine v_ldc X dX7_way_13 kX7_81 ?_
    refine v_cVi X [.int (-1000000002)] sX7_73 (ct_X7_finding (pe := 0) (wy := 0) (pt := 0) (mt := 0) (np := 0) (nw := 0) (oc := 0) (fi := 0) (se := 0) (lo := 0) (q := 1) (v := (-1000000002)) ll g x0 x41 (by decide) (by decide)) x0 rfl dX7_way_15 rfl rfl ⟨rfl, rfl⟩ ⟨(Nat.le_of_ble_eq_true rfl), (Nat.le_of_ble_eq_true rfl)⟩ ⟨Nat.zero_le _, Nat.zero_le _⟩ (Nat.le_of_ble_eq_true rfl) ?_
    have eqr : op_way (d, k, hk, fo, tape, tp, bits, sz, num) = ((-1000000002), (d, k, hk, fnd fo 1, tape, tp, bits, sz, num)) := by have z6 : d 1 = 6 := (by rw [e1, show nw = 6 from (by have z := Int32.not_lt.mp c1; rw [e1] at z; have := (nI_leI (a := 6) (b := nw) (by decide) (by omega)).mp z; omega)]; rfl); unfold op_way; dsimp only; rw [if_pos z6]
    have hCR : CR g (hU h (B 41) (ai g 7 (fnd fo 1))) B (d, k, hk, fnd fo 1, tape, tp, bits, sz, num) := ⟨hB, gX_e (hU_n (hB 0 41 (by omega) (by omega) (by omega))) cX, ⟨gW_e (hU_n (hB 1 41 (by omega) (by omega) (by omega))) ⟨rfl, rfl, rfl, rfl, rfl, rfl⟩ cW, gP_e (fun j hj => (hU_n (hB j 41 (by omega) (by omega) (by omega)))) rfl (fun _ _ _ => rfl) cP, gY_e (hU_n (hB 3 41 (by omega) (by omega) (by omega))) (fun x c hx hk => (hU_n (kd_ne hx x41 hk rfl))) rfl (fun _ _ _ => rfl) cY, gT_e (hU_n (hB 4 41 (by omega) (by omega) (by omega))) (fun _ _ _ => rfl) cT, gM_e (fun j h1 h2 => (hU_n (hB j 41 (by omega) (by omega) (by omega)))) (fun _ _ _ => rfl) cM⟩, ⟨k2, gWd_e (fun j h1 h2 => (hU_n (hB (j + 16) 41 (by omega) (by omega) (by omega)))) (fun x c hx hk => (hU_n (kd_ne hx x41 hk rfl))) cK, hk2⟩, gO_e (fun j h1 h2 => (hU_n (hB j 41 (by omega) (by omega) (by omega)))) cO, gR_e (hU_n (hB 37 41 (by omega) (by omega) (by omega))) cR, gA_e (fun j h1 h2 => (hU_n (hB j 41 (by omega) (by omega) (by omega)))) cA, gS_e (fun j h1 h2 => (hU_n (hB j 41 (by omega) (by omega) (by omega)))) cS, (hU_s : _)⟩
    exact v_iret X r dX7_way_18 (Nat.le_of_ble_eq_true rfl) (Nat.le_of_ble_eq_true rfl) ⟨by rw [eqr], by rw [eqr]; exact hCR⟩
