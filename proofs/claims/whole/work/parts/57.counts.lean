/-! ===== the class: pushes, counts ===== -/
theorem statF_at {fo : Nat → Int32} {j : Nat} (hj : j < 7) : statF fo (nI j) 0 0 7 = fo j := by
  have hc : j = 0 ∨ j = 1 ∨ j = 2 ∨ j = 3 ∨ j = 4 ∨ j = 5 ∨ j = 6 := by omega
  rcases hc with rfl | rfl | rfl | rfl | rfl | rfl | rfl
  · have z0 : (if (nI 0 : Int32) = -1 ∨ (nI 0 : Int32) = nI 0 then fo 0 else 0) = fo 0 := if_pos (by decide)
    have z1 : (if (nI 0 : Int32) = -1 ∨ (nI 0 : Int32) = nI 1 then fo 1 else 0) = 0 := if_neg (by decide)
    have z2 : (if (nI 0 : Int32) = -1 ∨ (nI 0 : Int32) = nI 2 then fo 2 else 0) = 0 := if_neg (by decide)
    have z3 : (if (nI 0 : Int32) = -1 ∨ (nI 0 : Int32) = nI 3 then fo 3 else 0) = 0 := if_neg (by decide)
    have z4 : (if (nI 0 : Int32) = -1 ∨ (nI 0 : Int32) = nI 4 then fo 4 else 0) = 0 := if_neg (by decide)
    have z5 : (if (nI 0 : Int32) = -1 ∨ (nI 0 : Int32) = nI 5 then fo 5 else 0) = 0 := if_neg (by decide)
    have z6 : (if (nI 0 : Int32) = -1 ∨ (nI 0 : Int32) = nI 6 then fo 6 else 0) = 0 := if_neg (by decide)
    show 0 + (if (nI 0 : Int32) = -1 ∨ (nI 0 : Int32) = nI 0 then fo 0 else 0) + _ + _ + _ + _ + _ + _ = _
    rw [z0, z1, z2, z3, z4, z5, z6]; simp
  · have z0 : (if (nI 1 : Int32) = -1 ∨ (nI 1 : Int32) = nI 0 then fo 0 else 0) = 0 := if_neg (by decide)
    have z1 : (if (nI 1 : Int32) = -1 ∨ (nI 1 : Int32) = nI 1 then fo 1 else 0) = fo 1 := if_pos (by decide)
    have z2 : (if (nI 1 : Int32) = -1 ∨ (nI 1 : Int32) = nI 2 then fo 2 else 0) = 0 := if_neg (by decide)
    have z3 : (if (nI 1 : Int32) = -1 ∨ (nI 1 : Int32) = nI 3 then fo 3 else 0) = 0 := if_neg (by decide)
    have z4 : (if (nI 1 : Int32) = -1 ∨ (nI 1 : Int32) = nI 4 then fo 4 else 0) = 0 := if_neg (by decide)
    have z5 : (if (nI 1 : Int32) = -1 ∨ (nI 1 : Int32) = nI 5 then fo 5 else 0) = 0 := if_neg (by decide)
    have z6 : (if (nI 1 : Int32) = -1 ∨ (nI 1 : Int32) = nI 6 then fo 6 else 0) = 0 := if_neg (by decide)
    show 0 + (if (nI 1 : Int32) = -1 ∨ (nI 1 : Int32) = nI 0 then fo 0 else 0) + _ + _ + _ + _ + _ + _ = _
    rw [z0, z1, z2, z3, z4, z5, z6]; simp
  · have z0 : (if (nI 2 : Int32) = -1 ∨ (nI 2 : Int32) = nI 0 then fo 0 else 0) = 0 := if_neg (by decide)
    have z1 : (if (nI 2 : Int32) = -1 ∨ (nI 2 : Int32) = nI 1 then fo 1 else 0) = 0 := if_neg (by decide)
    have z2 : (if (nI 2 : Int32) = -1 ∨ (nI 2 : Int32) = nI 2 then fo 2 else 0) = fo 2 := if_pos (by decide)
    have z3 : (if (nI 2 : Int32) = -1 ∨ (nI 2 : Int32) = nI 3 then fo 3 else 0) = 0 := if_neg (by decide)
    have z4 : (if (nI 2 : Int32) = -1 ∨ (nI 2 : Int32) = nI 4 then fo 4 else 0) = 0 := if_neg (by decide)
    have z5 : (if (nI 2 : Int32) = -1 ∨ (nI 2 : Int32) = nI 5 then fo 5 else 0) = 0 := if_neg (by decide)
    have z6 : (if (nI 2 : Int32) = -1 ∨ (nI 2 : Int32) = nI 6 then fo 6 else 0) = 0 := if_neg (by decide)
    show 0 + (if (nI 2 : Int32) = -1 ∨ (nI 2 : Int32) = nI 0 then fo 0 else 0) + _ + _ + _ + _ + _ + _ = _
    rw [z0, z1, z2, z3, z4, z5, z6]; simp
  · have z0 : (if (nI 3 : Int32) = -1 ∨ (nI 3 : Int32) = nI 0 then fo 0 else 0) = 0 := if_neg (by decide)
    have z1 : (if (nI 3 : Int32) = -1 ∨ (nI 3 : Int32) = nI 1 then fo 1 else 0) = 0 := if_neg (by decide)
    have z2 : (if (nI 3 : Int32) = -1 ∨ (nI 3 : Int32) = nI 2 then fo 2 else 0) = 0 := if_neg (by decide)
    have z3 : (if (nI 3 : Int32) = -1 ∨ (nI 3 : Int32) = nI 3 then fo 3 else 0) = fo 3 := if_pos (by decide)
    have z4 : (if (nI 3 : Int32) = -1 ∨ (nI 3 : Int32) = nI 4 then fo 4 else 0) = 0 := if_neg (by decide)
    have z5 : (if (nI 3 : Int32) = -1 ∨ (nI 3 : Int32) = nI 5 then fo 5 else 0) = 0 := if_neg (by decide)
    have z6 : (if (nI 3 : Int32) = -1 ∨ (nI 3 : Int32) = nI 6 then fo 6 else 0) = 0 := if_neg (by decide)
    show 0 + (if (nI 3 : Int32) = -1 ∨ (nI 3 : Int32) = nI 0 then fo 0 else 0) + _ + _ + _ + _ + _ + _ = _
    rw [z0, z1, z2, z3, z4, z5, z6]; simp
  · have z0 : (if (nI 4 : Int32) = -1 ∨ (nI 4 : Int32) = nI 0 then fo 0 else 0) = 0 := if_neg (by decide)
    have z1 : (if (nI 4 : Int32) = -1 ∨ (nI 4 : Int32) = nI 1 then fo 1 else 0) = 0 := if_neg (by decide)
    have z2 : (if (nI 4 : Int32) = -1 ∨ (nI 4 : Int32) = nI 2 then fo 2 else 0) = 0 := if_neg (by decide)
    have z3 : (if (nI 4 : Int32) = -1 ∨ (nI 4 : Int32) = nI 3 then fo 3 else 0) = 0 := if_neg (by decide)
    have z4 : (if (nI 4 : Int32) = -1 ∨ (nI 4 : Int32) = nI 4 then fo 4 else 0) = fo 4 := if_pos (by decide)
    have z5 : (if (nI 4 : Int32) = -1 ∨ (nI 4 : Int32) = nI 5 then fo 5 else 0) = 0 := if_neg (by decide)
    have z6 : (if (nI 4 : Int32) = -1 ∨ (nI 4 : Int32) = nI 6 then fo 6 else 0) = 0 := if_neg (by decide)
    show 0 + (if (nI 4 : Int32) = -1 ∨ (nI 4 : Int32) = nI 0 then fo 0 else 0) + _ + _ + _ + _ + _ + _ = _
    rw [z0, z1, z2, z3, z4, z5, z6]; simp
  · have z0 : (if (nI 5 : Int32) = -1 ∨ (nI 5 : Int32) = nI 0 then fo 0 else 0) = 0 := if_neg (by decide)
    have z1 : (if (nI 5 : Int32) = -1 ∨ (nI 5 : Int32) = nI 1 then fo 1 else 0) = 0 := if_neg (by decide)
    have z2 : (if (nI 5 : Int32) = -1 ∨ (nI 5 : Int32) = nI 2 then fo 2 else 0) = 0 := if_neg (by decide)
    have z3 : (if (nI 5 : Int32) = -1 ∨ (nI 5 : Int32) = nI 3 then fo 3 else 0) = 0 := if_neg (by decide)
    have z4 : (if (nI 5 : Int32) = -1 ∨ (nI 5 : Int32) = nI 4 then fo 4 else 0) = 0 := if_neg (by decide)
    have z5 : (if (nI 5 : Int32) = -1 ∨ (nI 5 : Int32) = nI 5 then fo 5 else 0) = fo 5 := if_pos (by decide)
    have z6 : (if (nI 5 : Int32) = -1 ∨ (nI 5 : Int32) = nI 6 then fo 6 else 0) = 0 := if_neg (by decide)
    show 0 + (if (nI 5 : Int32) = -1 ∨ (nI 5 : Int32) = nI 0 then fo 0 else 0) + _ + _ + _ + _ + _ + _ = _
    rw [z0, z1, z2, z3, z4, z5, z6]; simp
  · have z0 : (if (nI 6 : Int32) = -1 ∨ (nI 6 : Int32) = nI 0 then fo 0 else 0) = 0 := if_neg (by decide)
    have z1 : (if (nI 6 : Int32) = -1 ∨ (nI 6 : Int32) = nI 1 then fo 1 else 0) = 0 := if_neg (by decide)
    have z2 : (if (nI 6 : Int32) = -1 ∨ (nI 6 : Int32) = nI 2 then fo 2 else 0) = 0 := if_neg (by decide)
    have z3 : (if (nI 6 : Int32) = -1 ∨ (nI 6 : Int32) = nI 3 then fo 3 else 0) = 0 := if_neg (by decide)
    have z4 : (if (nI 6 : Int32) = -1 ∨ (nI 6 : Int32) = nI 4 then fo 4 else 0) = 0 := if_neg (by decide)
    have z5 : (if (nI 6 : Int32) = -1 ∨ (nI 6 : Int32) = nI 5 then fo 5 else 0) = 0 := if_neg (by decide)
    have z6 : (if (nI 6 : Int32) = -1 ∨ (nI 6 : Int32) = nI 6 then fo 6 else 0) = fo 6 := if_pos (by decide)
    show 0 + (if (nI 6 : Int32) = -1 ∨ (nI 6 : Int32) = nI 0 then fo 0 else 0) + _ + _ + _ + _ + _ + _ = _
    rw [z0, z1, z2, z3, z4, z5, z6]; simp
theorem wi_m1 {w b : Int32} (h : wi w (-1) b) (h0 : w < 0) : w = -1 := by
  have h1 := Int32.le_iff_toInt_le.mp h.1
  have h2 := Int32.lt_iff_toInt_lt.mp h0
  have e1 : (-1 : Int32).toInt = -1 := rfl
  have e2 : (0 : Int32).toInt = 0 := rfl
  exact Int32.toInt_inj.mp (by omega)
theorem HW_of {g : GT} {h : Hp} {wf : Nat → Option Nat} {d : Nat → Int32} {nw p : Nat} (hnw : nw ≤ 6) (hw : told d p 6 = -1 ∨ ∃ w, w < nw ∧ told d p 6 = nI w) (hy : ∀ w, w < 6 → w < nw → ∃ a, wf w = some a ∧ WayC g h a d w) : HW g h wf d p := by
  rcases hw with z | ⟨w, h1, h2⟩
  · exact Or.inl z
  · obtain ⟨a, b1, b2⟩ := hy w (by omega) h1
    exact Or.inr ⟨w, a, h2, by omega, b1, b2⟩
theorem not_wi {v c : Int32} {n w : Nat} (hv : v = nI w) (hc : c = nI n) (hn : n ≤ 6) (h : w < n) : wi v 0 (c - 1) := by
  rw [hv, hc]
  obtain ⟨m, rfl⟩ : ∃ m, n = m + 1 := ⟨n - 1, by omega⟩
  rw [nI_pred]
  exact ⟨nI_le (Nat.zero_le w) (by omega), nI_le (by omega) (by omega)⟩
set_option maxHeartbeats 4000000 in
set_option maxRecDepth 100000 in
theorem ct_X6_wayAtN (ll : Launch) (g : GT) {h : Hp} {w pe wy pt mt : Nat} {np nw oc fi se lo v : Int32} (hw : h w = some (ob 6 [.ref pe, .int np, .ref wy, .int nw, .ref pt, .ref mt, .int oc, .int fi, .int se, .int lo])) (hno : ¬ wi v 0 (nw - 1)) : MF ll g yX6_wayAt cX6_wayAt 2 (some (.object "LogRollers$Way")) (k2_rm 1 40) [.ref w, .int v] h (some (.null)) h := by
  refine mc_of (by decide) (Nat.le_of_ble_eq_true rfl) ?_
  intro K X r
  refine v_eqv (lv2 := [(0, .ref w), (1, .int v)]) rfl ?_
  refine v_iload_n X dX6_wayAt_0 1 rfl ?_
  refine v_iconst X dX6_wayAt_1 (v := 0) (by decide) ?_
  refine v_aload_n X dX6_wayAt_2 0 rfl ?_
  refine v_get X fX6_27 hw rfl dX6_wayAt_3 ?_
  refine v_iconst X dX6_wayAt_6 (v := 1) (by decide) ?_
  refine v_isub X dX6_wayAt_7 ?_
  refine v_cSni X [.int v, .int 0, .int (nw - 1)] sX6_72 (ct_X7_within ll g v 0 (nw - 1)) dX6_wayAt_8 rfl rfl ⟨rfl, rfl⟩ ⟨(Nat.le_of_ble_eq_true rfl), (Nat.le_of_ble_eq_true rfl)⟩ ⟨Nat.zero_le _, Nat.zero_le _⟩ (Nat.le_of_ble_eq_true rfl) ?_
  refine v_ifb_eq X dX6_wayAt_11 (tgt := 23) (by decide) (fun c1 => ?_) (fun c1 => ?_)
  · refine v_null X dX6_wayAt_23 ?_
    exact v_aret X r (Or.inl ⟨_, rfl⟩) (Or.inl rfl) dX6_wayAt_24 (Nat.le_refl _) (Nat.le_refl _) ⟨rr rfl, rfl⟩
  · exact absurd c1 hno
set_option maxHeartbeats 4000000 in
set_option maxRecDepth 100000 in
theorem ct_X6_wayAtR (ll : Launch) (g : GT) {h : Hp} {w pe wy pt mt : Nat} {np nw oc fi se lo : Int32} {wf : Nat → Option Nat} {v : Int32} {j a : Nat} (hw : h w = some (ob 6 [.ref pe, .int np, .ref wy, .int nw, .ref pt, .ref mt, .int oc, .int fi, .int se, .int lo])) (hy : h wy = some (ar g 4 6 wf)) (hv : v = nI j) (hj : j < 6) (hyes : wi v 0 (nw - 1)) (hf : wf j = some a) : MF ll g yX6_wayAt cX6_wayAt 2 (some (.object "LogRollers$Way")) (k2_rm 1 40) [.ref w, .int v] h (some (.ref a)) h := by
  refine mc_of (by decide) (Nat.le_of_ble_eq_true rfl) ?_
  intro K X r
  refine v_eqv (lv2 := [(0, .ref w), (1, .int v)]) rfl ?_
  refine v_iload_n X dX6_wayAt_0 1 rfl ?_
  refine v_iconst X dX6_wayAt_1 (v := 0) (by decide) ?_
  refine v_aload_n X dX6_wayAt_2 0 rfl ?_
  refine v_get X fX6_27 hw rfl dX6_wayAt_3 ?_
  refine v_iconst X dX6_wayAt_6 (v := 1) (by decide) ?_
  refine v_isub X dX6_wayAt_7 ?_
  refine v_cSni X [.int v, .int 0, .int (nw - 1)] sX6_72 (ct_X7_within ll g v 0 (nw - 1)) dX6_wayAt_8 rfl rfl ⟨rfl, rfl⟩ ⟨(Nat.le_of_ble_eq_true rfl), (Nat.le_of_ble_eq_true rfl)⟩ ⟨Nat.zero_le _, Nat.zero_le _⟩ (Nat.le_of_ble_eq_true rfl) ?_
  refine v_ifb_eq X dX6_wayAt_11 (tgt := 23) (by decide) (fun c1 => ?_) (fun c1 => ?_)
  · exact absurd hyes c1
  · refine v_aload_n X dX6_wayAt_14 0 rfl ?_
    refine v_get X fX6_23 hw rfl dX6_wayAt_15 ?_
    refine v_iload_n X dX6_wayAt_18 1 rfl ?_
    refine v_aaldK X 4 rfl j (v := .ref a) hy hv hj (by decide) (by rw [hf]; rfl) dX6_wayAt_19 ?_
    refine v_goto X dX6_wayAt_20 (tgt := 24) (by decide) ?_
    exact v_aret X r (Or.inl ⟨_, rfl⟩) (Or.inr ⟨_, rfl⟩) dX6_wayAt_24 (Nat.le_refl _) (Nat.le_refl _) ⟨rr rfl, rfl⟩
set_option maxHeartbeats 4000000 in
set_option maxRecDepth 100000 in
theorem ct_X7_push (ll : Launch) (g : GT) {h : Hp} {B : Nat → Nat} {d k fo tape bits sz : Nat → Int32} {num : Nat → Int64} {hk tp : Int32} {N : Nat}  (p : Int32) (s : Int32) (l : Int32) (e1_ : Int32) (t1 : Int32) (hC : CR g h B (d, k, hk, fo, tape, tp, bits, sz, num)) (hI : SOk (d, k, hk, fo, tape, tp, bits, sz, num) N) (hN : N + 400 ≤ 204800) : MC ll g yX7_push cX7_push 7 (some .int) { frames := 10, cells := 0, slots := 0, locals := 380 } [.ref (B 0), .int p, .int s, .int l, .int e1_, .int t1] h (fun r h2 => r = some (.int (op_push (d, k, hk, fo, tape, tp, bits, sz, num) p s l e1_ t1).1) ∧ CR g h2 B (op_push (d, k, hk, fo, tape, tp, bits, sz, num) p s l e1_ t1).2) 0 0 := by
  have hC0 := hC
  have hI0 := hI
  obtain ⟨hB, cX, ⟨cW, cP, cY, cT, cM⟩, ⟨k2, cK, hk2⟩, cO, cR, cA, cS, cF⟩ := hC
  obtain ⟨⟨np, nw, T, p0, p1, e0, hnp, e1, hnw, e6, hT, hon, e3, hp0, e4, hp1, honp, hper, h10, h11, h12, hwc⟩, hkd, hkb, ⟨tn, htn, etp⟩, hsz⟩ := hI
  have x0 : h (B 0) = some (ob 7 [.ref (B 1), .ref (B 17), .int hk, .ref (B 33), .ref (B 37), .ref (B 38), .ref (B 40), .ref (B 41)]) := cX
  have x1 : h (B 1) = some (ob 6 [.ref (B 2), .int (d 0), .ref (B 3), .int (d 1), .ref (B 4), .ref (B 5), .int (bI (d 2 = 1)), .int (d 3), .int (d 4), .int (d 7)]) := cW
  have cP0 := cP
  obtain ⟨pf, F, x2, hpf, hF, hFd⟩ := cP0
  have cY0 := cY
  obtain ⟨wf, x3, hwo, hwy⟩ := cY0
  have x4 : h (B 4) = some (ai g 5 (ptF d)) := cT
  have cM0 := cM
  obtain ⟨tr, T9, s0, v0, s1, v1, x5, x6, x7, x8, e69, hT30, hR, hRB⟩ := cM0
  have eT9 : T9 = T := nI_inj (by omega) (by omega) (e69.symm.trans e6)
  subst eT9
  have cO0 := cO
  obtain ⟨otr, u5, u6, u8, a0, a1, a2, a3, a4, b0, b1, b2, b3, b4, x33, x34, x35, x36⟩ := cO0
  have cR0 := cR
  obtain ⟨rf, x37⟩ := cR0
  have cA0 := cA
  obtain ⟨ts, te, tt, tv, x38, x39⟩ := cA0
  have cS0 := cS
  obtain ⟨sf, nf, x40, hsf, hsh, hnm, hnv⟩ := cS0
  have x41 : h (B 41) = some (ai g 7 fo) := cF
  have qn : (d 0).toNatClampNeg = np := ix_cl e0 (by omega)
  have qw : (d 1).toNatClampNeg = nw := ix_cl e1 (by omega)
  have pC : ∀ p, p < np → h (B (9 + p)) = some (ob 1 [.int ((told d p) 0), .int ((told d p) 1), .int ((told d p) 2), .int ((told d p) 3), .int ((told d p) 4), .int ((told d p) 5), .int ((told d p) 6)]) := fun p hp => gP_at (by omega) (by rw [qn]; exact hp) cP
  refine mc_of (by decide) (Nat.le_of_ble_eq_true rfl) ?_
  intro K X r
  refine v_eqv (lv2 := [(0, .ref (B 0)), (1, .int p), (2, .int s), (3, .int l), (4, .int e1_), (5, .int t1)]) rfl ?_
  refine v_aload_n X dX7_push_0 0 rfl ?_
  refine v_iload_n X dX7_push_1 1 rfl ?_
  refine v_cVi X [.int p] sX7_90 (ct_X7_isPerson ll g p x0 x1) x0 rfl dX7_push_2 rfl rfl ⟨rfl, rfl⟩ ⟨(Nat.le_of_ble_eq_true rfl), (Nat.le_of_ble_eq_true rfl)⟩ ⟨Nat.zero_le _, Nat.zero_le _⟩ (Nat.le_of_ble_eq_true rfl) ?_
  refine v_ifb_eq X dX7_push_5 (tgt := 20) (by decide) (fun c1 => ?_) (fun c1 => ?_)
  · refine v_aload_n X dX7_push_20 0 rfl ?_
    refine v_ldc X dX7_push_21 kX7_72 ?_
    refine v_cVi X [.int (-1000000001)] sX7_73 (ct_X7_finding (pe := 0) (wy := 0) (pt := 0) (mt := 0) (np := 0) (nw := 0) (oc := 0) (fi := 0) (se := 0) (lo := 0) (q := 0) (v := (-1000000001)) ll g x0 x41 (by decide) (by decide)) x0 rfl dX7_push_23 rfl rfl ⟨rfl, rfl⟩ ⟨(Nat.le_of_ble_eq_true rfl), (Nat.le_of_ble_eq_true rfl)⟩ ⟨Nat.zero_le _, Nat.zero_le _⟩ (Nat.le_of_ble_eq_true rfl) ?_
    have eqr : op_push (d, k, hk, fo, tape, tp, bits, sz, num) p s l e1_ t1 = ((-1000000001), (d, k, hk, fnd fo 0, tape, tp, bits, sz, num)) := by unfold op_push; dsimp only; rw [if_neg (fun q : _ ∧ _ => c1 (And.left q))]
    have hCR : CR g (hU h (B 41) (ai g 7 (fnd fo 0))) B (d, k, hk, fnd fo 0, tape, tp, bits, sz, num) := ⟨hB, gX_e (hU_n (hB 0 41 (by omega) (by omega) (by omega))) cX, ⟨gW_e (hU_n (hB 1 41 (by omega) (by omega) (by omega))) ⟨rfl, rfl, rfl, rfl, rfl, rfl⟩ cW, gP_e (fun j hj => (hU_n (hB j 41 (by omega) (by omega) (by omega)))) rfl (fun _ _ _ => rfl) cP, gY_e (hU_n (hB 3 41 (by omega) (by omega) (by omega))) (fun x c hx hk => (hU_n (kd_ne hx x41 hk rfl))) rfl (fun _ _ _ => rfl) cY, gT_e (hU_n (hB 4 41 (by omega) (by omega) (by omega))) (fun _ _ _ => rfl) cT, gM_e (fun j h1 h2 => (hU_n (hB j 41 (by omega) (by omega) (by omega)))) (fun _ _ _ => rfl) cM⟩, ⟨k2, gWd_e (fun j h1 h2 => (hU_n (hB (j + 16) 41 (by omega) (by omega) (by omega)))) (fun x c hx hk => (hU_n (kd_ne hx x41 hk rfl))) cK, hk2⟩, gO_e (fun j h1 h2 => (hU_n (hB j 41 (by omega) (by omega) (by omega)))) cO, gR_e (hU_n (hB 37 41 (by omega) (by omega) (by omega))) cR, gA_e (fun j h1 h2 => (hU_n (hB j 41 (by omega) (by omega) (by omega)))) cA, gS_e (fun j h1 h2 => (hU_n (hB j 41 (by omega) (by omega) (by omega)))) cS, (hU_s : _)⟩
    exact v_iret X r dX7_push_26 (Nat.le_refl _) (Nat.le_refl _) ⟨by rw [eqr], by rw [eqr]; exact hCR⟩
  · refine v_iload_n X dX7_push_8 2 rfl ?_
    refine v_iload_n X dX7_push_9 3 rfl ?_
    refine v_iload X dX7_push_10 4 rfl ?_
    refine v_iload X dX7_push_12 5 rfl ?_
    refine v_cSi X [.int s, .int l, .int e1_, .int t1] sX7_123 (ct_X7_isSituation ll g s l e1_ t1) dX7_push_14 rfl rfl ⟨rfl, rfl⟩ ⟨(Nat.le_of_ble_eq_true rfl), (Nat.le_of_ble_eq_true rfl)⟩ ⟨Nat.zero_le _, Nat.zero_le _⟩ (Nat.le_of_ble_eq_true rfl) ?_
    refine v_ifb_ne X dX7_push_17 (tgt := 27) (by decide) (fun c2 => ?_) (fun c2 => ?_)
    · have hs9 : ¬ s = -2147483648 := fun z => by have y := c2.1.1; rw [z] at y; exact absurd y (by decide)
      obtain ⟨jp, hjp, ejp⟩ := wi_n e0 (by omega) c1
      have qjp : pr p = jp := ix_cl ejp (by omega)
      refine v_aload_n X dX7_push_27 0 rfl ?_
      refine v_get X fX7_10 x0 rfl dX7_push_28 ?_
      refine v_get X fX7_82 x1 rfl dX7_push_31 ?_
      refine v_iload_n X dX7_push_34 1 rfl ?_
      refine v_aaldK X 2 rfl jp (v := .ref (B (9 + jp))) x2 ejp (by omega) (by decide) (by rw [hpf jp (by omega)]; rfl) dX7_push_35 ?_
      refine v_astore (lv1 := [(6, .ref (B (9 + jp))), (0, .ref (B 0)), (1, .int p), (2, .int s), (3, .int l), (4, .int e1_), (5, .int t1)]) X dX7_push_36 (by decide) rfl ?_
      rcases (hper jp hjp).2.2.2.2 with h6 | ⟨w, hw, e6w⟩
      · skip
        refine v_aload X dX7_push_38 0 rfl ?_
        refine v_aload_n X dX7_push_40 1 rfl ?_
        refine v_get X fX7_10 x0 rfl dX7_push_41 ?_
        refine v_aload X dX7_push_44 0 rfl ?_
        refine v_get X fX7_127 (pC jp (by omega)) rfl dX7_push_46 ?_
        refine v_cVr X [.int ((told d jp) 6)] sX7_130 (ct_X6_wayAtN (v := (told d jp) 6) ll g x1 (by rw [h6, e1]; exact fun z => absurd z.1 (by decide))) x1 rfl dX7_push_49 rfl rfl ⟨rfl, rfl⟩ ⟨(Nat.le_of_ble_eq_true rfl), (Nat.le_of_ble_eq_true rfl)⟩ ⟨Nat.zero_le _, Nat.zero_le _⟩ (Nat.le_of_ble_eq_true rfl) ?_
        refine v_iload_n X dX7_push_52 3 rfl ?_
        refine v_iload_n X dX7_push_53 4 rfl ?_
        refine v_iload X dX7_push_54 5 rfl ?_
        refine v_iload X dX7_push_56 6 rfl ?_
        refine v_cVi X [.null, .int s, .int l, .int e1_, .int t1] sX7_134 (ct_X1_shoveN (m := d) (p := jp) ll g s l e1_ t1 (pC jp (by omega)) (Int32.le_trans (by decide) (hper jp hjp).2.2.2.1.1) hs9 h6) (pC jp (by omega)) rfl dX7_push_58 rfl rfl ⟨rfl, rfl⟩ ⟨(Nat.le_of_ble_eq_true rfl), (Nat.le_of_ble_eq_true rfl)⟩ ⟨Nat.zero_le _, Nat.zero_le _⟩ (Nat.le_of_ble_eq_true rfl) ?_
        have eqr : op_push (d, k, hk, fo, tape, tp, bits, sz, num) p s l e1_ t1 = (pushM d jp s l e1_ t1, (d, k, hk, fo, tape, tp, bits, sz, num)) := by unfold op_push; dsimp only; rw [if_pos (And.intro c1 c2), qjp]
        have hCR : CR g h B (d, k, hk, fo, tape, tp, bits, sz, num) := ⟨hB, gX_e rfl cX, ⟨gW_e rfl ⟨rfl, rfl, rfl, rfl, rfl, rfl⟩ cW, gP_e (fun j hj => rfl) rfl (fun _ _ _ => rfl) cP, gY_e rfl (fun x c hx hk => rfl) rfl (fun _ _ _ => rfl) cY, gT_e rfl (fun _ _ _ => rfl) cT, gM_e (fun j h1 h2 => rfl) (fun _ _ _ => rfl) cM⟩, ⟨k2, gWd_e (fun j h1 h2 => rfl) (fun x c hx hk => rfl) cK, hk2⟩, gO_e (fun j h1 h2 => rfl) cO, gR_e rfl cR, gA_e (fun j h1 h2 => rfl) cA, gS_e (fun j h1 h2 => rfl) cS, gF_e rfl cF⟩
        exact v_iret X r dX7_push_61 (Nat.le_refl _) (Nat.le_refl _) ⟨by rw [eqr], by rw [eqr]; exact hCR⟩
      · obtain ⟨aw, hfw, wc, n1, n2, n3, n4, f1, f2, f3, f4, y0, y1, y2, y3, y4, hc6, ec, hr⟩ := hwy w (by omega) (by rw [qw]; exact hw)
        refine v_aload X dX7_push_38 0 rfl ?_
        refine v_aload_n X dX7_push_40 1 rfl ?_
        refine v_get X fX7_10 x0 rfl dX7_push_41 ?_
        refine v_aload X dX7_push_44 0 rfl ?_
        refine v_get X fX7_127 (pC jp (by omega)) rfl dX7_push_46 ?_
        refine v_cVr X [.int ((told d jp) 6)] sX7_130 (ct_X6_wayAtR (v := (told d jp) 6) (j := w) (a := aw) ll g x1 x3 e6w (by omega) (not_wi e6w e1 hnw hw) hfw) x1 rfl dX7_push_49 rfl rfl ⟨rfl, rfl⟩ ⟨(Nat.le_of_ble_eq_true rfl), (Nat.le_of_ble_eq_true rfl)⟩ ⟨Nat.zero_le _, Nat.zero_le _⟩ (Nat.le_of_ble_eq_true rfl) ?_
        refine v_iload_n X dX7_push_52 3 rfl ?_
        refine v_iload_n X dX7_push_53 4 rfl ?_
        refine v_iload X dX7_push_54 5 rfl ?_
        refine v_iload X dX7_push_56 6 rfl ?_
        refine v_cVi X [.ref aw, .int s, .int l, .int e1_, .int t1] sX7_134 (ct_X1_shoveR (m := d) (p := jp) (w := w) ll g s l e1_ t1 (pC jp (by omega)) (Int32.le_trans (by decide) (hper jp hjp).2.2.2.1.1) hs9 y0 y1 y2 y3 y4 hc6 hr e6w (by omega) ec) (pC jp (by omega)) rfl dX7_push_58 rfl rfl ⟨rfl, rfl⟩ ⟨(Nat.le_of_ble_eq_true rfl), (Nat.le_of_ble_eq_true rfl)⟩ ⟨Nat.zero_le _, Nat.zero_le _⟩ (Nat.le_of_ble_eq_true rfl) ?_
        have eqr : op_push (d, k, hk, fo, tape, tp, bits, sz, num) p s l e1_ t1 = (pushM d jp s l e1_ t1, (d, k, hk, fo, tape, tp, bits, sz, num)) := by unfold op_push; dsimp only; rw [if_pos (And.intro c1 c2), qjp]
        have hCR : CR g h B (d, k, hk, fo, tape, tp, bits, sz, num) := ⟨hB, gX_e rfl cX, ⟨gW_e rfl ⟨rfl, rfl, rfl, rfl, rfl, rfl⟩ cW, gP_e (fun j hj => rfl) rfl (fun _ _ _ => rfl) cP, gY_e rfl (fun x c hx hk => rfl) rfl (fun _ _ _ => rfl) cY, gT_e rfl (fun _ _ _ => rfl) cT, gM_e (fun j h1 h2 => rfl) (fun _ _ _ => rfl) cM⟩, ⟨k2, gWd_e (fun j h1 h2 => rfl) (fun x c hx hk => rfl) cK, hk2⟩, gO_e (fun j h1 h2 => rfl) cO, gR_e rfl cR, gA_e (fun j h1 h2 => rfl) cA, gS_e (fun j h1 h2 => rfl) cS, gF_e rfl cF⟩
        exact v_iret X r dX7_push_61 (Nat.le_refl _) (Nat.le_refl _) ⟨by rw [eqr], by rw [eqr]; exact hCR⟩
    · refine v_aload_n X dX7_push_20 0 rfl ?_
      refine v_ldc X dX7_push_21 kX7_72 ?_
      refine v_cVi X [.int (-1000000001)] sX7_73 (ct_X7_finding (pe := 0) (wy := 0) (pt := 0) (mt := 0) (np := 0) (nw := 0) (oc := 0) (fi := 0) (se := 0) (lo := 0) (q := 0) (v := (-1000000001)) ll g x0 x41 (by decide) (by decide)) x0 rfl dX7_push_23 rfl rfl ⟨rfl, rfl⟩ ⟨(Nat.le_of_ble_eq_true rfl), (Nat.le_of_ble_eq_true rfl)⟩ ⟨Nat.zero_le _, Nat.zero_le _⟩ (Nat.le_of_ble_eq_true rfl) ?_
      have eqr : op_push (d, k, hk, fo, tape, tp, bits, sz, num) p s l e1_ t1 = ((-1000000001), (d, k, hk, fnd fo 0, tape, tp, bits, sz, num)) := by unfold op_push; dsimp only; rw [if_neg (fun q : _ ∧ _ => c2 (And.right q))]
      have hCR : CR g (hU h (B 41) (ai g 7 (fnd fo 0))) B (d, k, hk, fnd fo 0, tape, tp, bits, sz, num) := ⟨hB, gX_e (hU_n (hB 0 41 (by omega) (by omega) (by omega))) cX, ⟨gW_e (hU_n (hB 1 41 (by omega) (by omega) (by omega))) ⟨rfl, rfl, rfl, rfl, rfl, rfl⟩ cW, gP_e (fun j hj => (hU_n (hB j 41 (by omega) (by omega) (by omega)))) rfl (fun _ _ _ => rfl) cP, gY_e (hU_n (hB 3 41 (by omega) (by omega) (by omega))) (fun x c hx hk => (hU_n (kd_ne hx x41 hk rfl))) rfl (fun _ _ _ => rfl) cY, gT_e (hU_n (hB 4 41 (by omega) (by omega) (by omega))) (fun _ _ _ => rfl) cT, gM_e (fun j h1 h2 => (hU_n (hB j 41 (by omega) (by omega) (by omega)))) (fun _ _ _ => rfl) cM⟩, ⟨k2, gWd_e (fun j h1 h2 => (hU_n (hB (j + 16) 41 (by omega) (by omega) (by omega)))) (fun x c hx hk => (hU_n (kd_ne hx x41 hk rfl))) cK, hk2⟩, gO_e (fun j h1 h2 => (hU_n (hB j 41 (by omega) (by omega) (by omega)))) cO, gR_e (hU_n (hB 37 41 (by omega) (by omega) (by omega))) cR, gA_e (fun j h1 h2 => (hU_n (hB j 41 (by omega) (by omega) (by omega)))) cA, gS_e (fun j h1 h2 => (hU_n (hB j 41 (by omega) (by omega) (by omega)))) cS, (hU_s : _)⟩
      exact v_iret X r dX7_push_26 (Nat.le_refl _) (Nat.le_refl _) ⟨by rw [eqr], by rw [eqr]; exact hCR⟩
set_option maxHeartbeats 4000000 in
set_option maxRecDepth 100000 in
theorem ct_X7_rules (ll : Launch) (g : GT) {h : Hp} {B : Nat → Nat} {d k fo tape bits sz : Nat → Int32} {num : Nat → Int64} {hk tp : Int32} {N : Nat}  (w_ : Int32) (hC : CR g h B (d, k, hk, fo, tape, tp, bits, sz, num)) (hI : SOk (d, k, hk, fo, tape, tp, bits, sz, num) N) (hN : N + 400 ≤ 204800) : MC ll g yX7_rules cX7_rules 3 (some .int) { frames := 10, cells := 0, slots := 0, locals := 380 } [.ref (B 0), .int w_] h (fun r h2 => r = some (.int (op_rules (d, k, hk, fo, tape, tp, bits, sz, num) w_).1) ∧ CR g h2 B (op_rules (d, k, hk, fo, tape, tp, bits, sz, num) w_).2) 0 0 := by
  have hC0 := hC
  have hI0 := hI
  obtain ⟨hB, cX, ⟨cW, cP, cY, cT, cM⟩, ⟨k2, cK, hk2⟩, cO, cR, cA, cS, cF⟩ := hC
  obtain ⟨⟨np, nw, T, p0, p1, e0, hnp, e1, hnw, e6, hT, hon, e3, hp0, e4, hp1, honp, hper, h10, h11, h12, hwc⟩, hkd, hkb, ⟨tn, htn, etp⟩, hsz⟩ := hI
  have x0 : h (B 0) = some (ob 7 [.ref (B 1), .ref (B 17), .int hk, .ref (B 33), .ref (B 37), .ref (B 38), .ref (B 40), .ref (B 41)]) := cX
  have x1 : h (B 1) = some (ob 6 [.ref (B 2), .int (d 0), .ref (B 3), .int (d 1), .ref (B 4), .ref (B 5), .int (bI (d 2 = 1)), .int (d 3), .int (d 4), .int (d 7)]) := cW
  have cP0 := cP
  obtain ⟨pf, F, x2, hpf, hF, hFd⟩ := cP0
  have cY0 := cY
  obtain ⟨wf, x3, hwo, hwy⟩ := cY0
  have x4 : h (B 4) = some (ai g 5 (ptF d)) := cT
  have cM0 := cM
  obtain ⟨tr, T9, s0, v0, s1, v1, x5, x6, x7, x8, e69, hT30, hR, hRB⟩ := cM0
  have eT9 : T9 = T := nI_inj (by omega) (by omega) (e69.symm.trans e6)
  subst eT9
  have cO0 := cO
  obtain ⟨otr, u5, u6, u8, a0, a1, a2, a3, a4, b0, b1, b2, b3, b4, x33, x34, x35, x36⟩ := cO0
  have cR0 := cR
  obtain ⟨rf, x37⟩ := cR0
  have cA0 := cA
  obtain ⟨ts, te, tt, tv, x38, x39⟩ := cA0
  have cS0 := cS
  obtain ⟨sf, nf, x40, hsf, hsh, hnm, hnv⟩ := cS0
  have x41 : h (B 41) = some (ai g 7 fo) := cF
  have qn : (d 0).toNatClampNeg = np := ix_cl e0 (by omega)
  have qw : (d 1).toNatClampNeg = nw := ix_cl e1 (by omega)
  have pC : ∀ p, p < np → h (B (9 + p)) = some (ob 1 [.int ((told d p) 0), .int ((told d p) 1), .int ((told d p) 2), .int ((told d p) 3), .int ((told d p) 4), .int ((told d p) 5), .int ((told d p) 6)]) := fun p hp => gP_at (by omega) (by rw [qn]; exact hp) cP
  refine mc_of (by decide) (Nat.le_of_ble_eq_true rfl) ?_
  intro K X r
  refine v_eqv (lv2 := [(0, .ref (B 0)), (1, .int w_)]) rfl ?_
  by_cases hye : wi w_ 0 (d 1 - 1)
  · obtain ⟨w, hw, ew⟩ := wi_n e1 (by omega) hye
    have qjw : pr w_ = w := ix_cl ew (by omega)
    obtain ⟨aw, hfw, wc, n1, n2, n3, n4, f1, f2, f3, f4, y0, y1, y2, y3, y4, hc6, ec, hr⟩ := hwy w (by omega) (by rw [qw]; exact hw)
    refine v_aload_n X dX7_rules_0 0 rfl ?_
    refine v_get X fX7_10 x0 rfl dX7_rules_1 ?_
    refine v_iload_n X dX7_rules_4 1 rfl ?_
    refine v_cVr X [.int w_] sX7_130 (ct_X6_wayAtR (v := w_) (j := w) (a := aw) ll g x1 x3 ew (by omega) hye hfw) x1 rfl dX7_rules_5 rfl rfl ⟨rfl, rfl⟩ ⟨(Nat.le_of_ble_eq_true rfl), (Nat.le_of_ble_eq_true rfl)⟩ ⟨Nat.zero_le _, Nat.zero_le _⟩ (Nat.le_of_ble_eq_true rfl) ?_
    refine v_astore_n (lv1 := [(2, .ref aw), (0, .ref (B 0)), (1, .int w_)]) X dX7_rules_8 (by decide) rfl ?_
    refine v_aload_n X dX7_rules_9 0 rfl ?_
    refine v_ifnonnull X dX7_rules_10 (tgt := 20) (by decide) ?_
    refine v_aload_n X dX7_rules_20 0 rfl ?_
    refine v_get X fX7_252 y0 rfl dX7_rules_21 ?_
    have eqr : op_rules (d, k, hk, fo, tape, tp, bits, sz, num) w_ = (nI wc, (d, k, hk, fo, tape, tp, bits, sz, num)) := by unfold op_rules; dsimp only; rw [if_pos hye, qjw, ec]
    have hCR : CR g h B (d, k, hk, fo, tape, tp, bits, sz, num) := ⟨hB, gX_e rfl cX, ⟨gW_e rfl ⟨rfl, rfl, rfl, rfl, rfl, rfl⟩ cW, gP_e (fun j hj => rfl) rfl (fun _ _ _ => rfl) cP, gY_e rfl (fun x c hx hk => rfl) rfl (fun _ _ _ => rfl) cY, gT_e rfl (fun _ _ _ => rfl) cT, gM_e (fun j h1 h2 => rfl) (fun _ _ _ => rfl) cM⟩, ⟨k2, gWd_e (fun j h1 h2 => rfl) (fun x c hx hk => rfl) cK, hk2⟩, gO_e (fun j h1 h2 => rfl) cO, gR_e rfl cR, gA_e (fun j h1 h2 => rfl) cA, gS_e (fun j h1 h2 => rfl) cS, gF_e rfl cF⟩
    exact v_iret X r dX7_rules_24 (Nat.le_refl _) (Nat.le_refl _) ⟨by rw [eqr], by rw [eqr]; exact hCR⟩
  · have hno := hye
    refine v_aload_n X dX7_rules_0 0 rfl ?_
    refine v_get X fX7_10 x0 rfl dX7_rules_1 ?_
    refine v_iload_n X dX7_rules_4 1 rfl ?_
    refine v_cVr X [.int w_] sX7_130 (ct_X6_wayAtN (v := w_) ll g x1 hno) x1 rfl dX7_rules_5 rfl rfl ⟨rfl, rfl⟩ ⟨(Nat.le_of_ble_eq_true rfl), (Nat.le_of_ble_eq_true rfl)⟩ ⟨Nat.zero_le _, Nat.zero_le _⟩ (Nat.le_of_ble_eq_true rfl) ?_
    refine v_astore_nN (lv1 := [(2, .null), (0, .ref (B 0)), (1, .int w_)]) X dX7_rules_8 (by decide) rfl ?_
    refine v_aload_nN X dX7_rules_9 0 rfl ?_
    refine v_ifnonnullN X dX7_rules_10 ?_
    refine v_aload_n X dX7_rules_13 1 rfl ?_
    refine v_ldc X dX7_rules_14 kX7_72 ?_
    refine v_cVi X [.int (-1000000001)] sX7_73 (ct_X7_finding (pe := 0) (wy := 0) (pt := 0) (mt := 0) (np := 0) (nw := 0) (oc := 0) (fi := 0) (se := 0) (lo := 0) (q := 0) (v := (-1000000001)) ll g x0 x41 (by decide) (by decide)) x0 rfl dX7_rules_16 rfl rfl ⟨rfl, rfl⟩ ⟨(Nat.le_of_ble_eq_true rfl), (Nat.le_of_ble_eq_true rfl)⟩ ⟨Nat.zero_le _, Nat.zero_le _⟩ (Nat.le_of_ble_eq_true rfl) ?_
    have eqr : op_rules (d, k, hk, fo, tape, tp, bits, sz, num) w_ = ((-1000000001), (d, k, hk, fnd fo 0, tape, tp, bits, sz, num)) := by unfold op_rules; dsimp only; rw [if_neg hno]
    have hCR : CR g (hU h (B 41) (ai g 7 (fnd fo 0))) B (d, k, hk, fnd fo 0, tape, tp, bits, sz, num) := ⟨hB, gX_e (hU_n (hB 0 41 (by omega) (by omega) (by omega))) cX, ⟨gW_e (hU_n (hB 1 41 (by omega) (by omega) (by omega))) ⟨rfl, rfl, rfl, rfl, rfl, rfl⟩ cW, gP_e (fun j hj => (hU_n (hB j 41 (by omega) (by omega) (by omega)))) rfl (fun _ _ _ => rfl) cP, gY_e (hU_n (hB 3 41 (by omega) (by omega) (by omega))) (fun x c hx hk => (hU_n (kd_ne hx x41 hk rfl))) rfl (fun _ _ _ => rfl) cY, gT_e (hU_n (hB 4 41 (by omega) (by omega) (by omega))) (fun _ _ _ => rfl) cT, gM_e (fun j h1 h2 => (hU_n (hB j 41 (by omega) (by omega) (by omega)))) (fun _ _ _ => rfl) cM⟩, ⟨k2, gWd_e (fun j h1 h2 => (hU_n (hB (j + 16) 41 (by omega) (by omega) (by omega)))) (fun x c hx hk => (hU_n (kd_ne hx x41 hk rfl))) cK, hk2⟩, gO_e (fun j h1 h2 => (hU_n (hB j 41 (by omega) (by omega) (by omega)))) cO, gR_e (hU_n (hB 37 41 (by omega) (by omega) (by omega))) cR, gA_e (fun j h1 h2 => (hU_n (hB j 41 (by omega) (by omega) (by omega)))) cA, gS_e (fun j h1 h2 => (hU_n (hB j 41 (by omega) (by omega) (by omega)))) cS, (hU_s : _)⟩
    exact v_iret X r dX7_rules_19 (Nat.le_refl _) (Nat.le_refl _) ⟨by rw [eqr], by rw [eqr]; exact hCR⟩
set_option maxHeartbeats 4000000 in
set_option maxRecDepth 100000 in
theorem ct_X7_holds (ll : Launch) (g : GT) {h : Hp} {B : Nat → Nat} {d k fo tape bits sz : Nat → Int32} {num : Nat → Int64} {hk tp : Int32} {N : Nat}  (w_ : Int32) (s : Int32) (l : Int32) (e1_ : Int32) (t1 : Int32) (hC : CR g h B (d, k, hk, fo, tape, tp, bits, sz, num)) (hI : SOk (d, k, hk, fo, tape, tp, bits, sz, num) N) (hN : N + 400 ≤ 204800) : MC ll g yX7_holds cX7_holds 8 (some .int) { frames := 10, cells := 0, slots := 0, locals := 380 } [.ref (B 0), .int w_, .int s, .int l, .int e1_, .int t1] h (fun r h2 => r = some (.int (op_holds (d, k, hk, fo, tape, tp, bits, sz, num) w_ s l e1_ t1).1) ∧ CR g h2 B (op_holds (d, k, hk, fo, tape, tp, bits, sz, num) w_ s l e1_ t1).2) 0 0 := by
  have hC0 := hC
  have hI0 := hI
  obtain ⟨hB, cX, ⟨cW, cP, cY, cT, cM⟩, ⟨k2, cK, hk2⟩, cO, cR, cA, cS, cF⟩ := hC
  obtain ⟨⟨np, nw, T, p0, p1, e0, hnp, e1, hnw, e6, hT, hon, e3, hp0, e4, hp1, honp, hper, h10, h11, h12, hwc⟩, hkd, hkb, ⟨tn, htn, etp⟩, hsz⟩ := hI
  have x0 : h (B 0) = some (ob 7 [.ref (B 1), .ref (B 17), .int hk, .ref (B 33), .ref (B 37), .ref (B 38), .ref (B 40), .ref (B 41)]) := cX
  have x1 : h (B 1) = some (ob 6 [.ref (B 2), .int (d 0), .ref (B 3), .int (d 1), .ref (B 4), .ref (B 5), .int (bI (d 2 = 1)), .int (d 3), .int (d 4), .int (d 7)]) := cW
  have cP0 := cP
  obtain ⟨pf, F, x2, hpf, hF, hFd⟩ := cP0
  have cY0 := cY
  obtain ⟨wf, x3, hwo, hwy⟩ := cY0
  have x4 : h (B 4) = some (ai g 5 (ptF d)) := cT
  have cM0 := cM
  obtain ⟨tr, T9, s0, v0, s1, v1, x5, x6, x7, x8, e69, hT30, hR, hRB⟩ := cM0
  have eT9 : T9 = T := nI_inj (by omega) (by omega) (e69.symm.trans e6)
  subst eT9
  have cO0 := cO
  obtain ⟨otr, u5, u6, u8, a0, a1, a2, a3, a4, b0, b1, b2, b3, b4, x33, x34, x35, x36⟩ := cO0
  have cR0 := cR
  obtain ⟨rf, x37⟩ := cR0
  have cA0 := cA
  obtain ⟨ts, te, tt, tv, x38, x39⟩ := cA0
  have cS0 := cS
  obtain ⟨sf, nf, x40, hsf, hsh, hnm, hnv⟩ := cS0
  have x41 : h (B 41) = some (ai g 7 fo) := cF
  have qn : (d 0).toNatClampNeg = np := ix_cl e0 (by omega)
  have qw : (d 1).toNatClampNeg = nw := ix_cl e1 (by omega)
  have pC : ∀ p, p < np → h (B (9 + p)) = some (ob 1 [.int ((told d p) 0), .int ((told d p) 1), .int ((told d p) 2), .int ((told d p) 3), .int ((told d p) 4), .int ((told d p) 5), .int ((told d p) 6)]) := fun p hp => gP_at (by omega) (by rw [qn]; exact hp) cP
  refine mc_of (by decide) (Nat.le_of_ble_eq_true rfl) ?_
  intro K X r
  refine v_eqv (lv2 := [(0, .ref (B 0)), (1, .int w_), (2, .int s), (3, .int l), (4, .int e1_), (5, .int t1)]) rfl ?_
  by_cases hye : wi w_ 0 (d 1 - 1)
  · obtain ⟨w, hw, ew⟩ := wi_n e1 (by omega) hye
    have qjw : pr w_ = w := ix_cl ew (by omega)
    obtain ⟨aw, hfw, wc, n1, n2, n3, n4, f1, f2, f3, f4, y0, y1, y2, y3, y4, hc6, ec, hr⟩ := hwy w (by omega) (by rw [qw]; exact hw)
    refine v_aload_n X dX7_holds_0 0 rfl ?_
    refine v_get X fX7_10 x0 rfl dX7_holds_1 ?_
    refine v_iload_n X dX7_holds_4 1 rfl ?_
    refine v_cVr X [.int w_] sX7_130 (ct_X6_wayAtR (v := w_) (j := w) (a := aw) ll g x1 x3 ew (by omega) hye hfw) x1 rfl dX7_holds_5 rfl rfl ⟨rfl, rfl⟩ ⟨(Nat.le_of_ble_eq_true rfl), (Nat.le_of_ble_eq_true rfl)⟩ ⟨Nat.zero_le _, Nat.zero_le _⟩ (Nat.le_of_ble_eq_true rfl) ?_
    refine v_astore (lv1 := [(6, .ref aw), (0, .ref (B 0)), (1, .int w_), (2, .int s), (3, .int l), (4, .int e1_), (5, .int t1)]) X dX7_holds_8 (by decide) rfl ?_
    refine v_aload X dX7_holds_10 0 rfl ?_
    refine v_ifnull X dX7_holds_12 ?_
    refine v_iload_n X dX7_holds_15 3 rfl ?_
    refine v_iload_n X dX7_holds_16 4 rfl ?_
    refine v_iload X dX7_holds_17 5 rfl ?_
    refine v_iload X dX7_holds_19 6 rfl ?_
    refine v_cSi X [.int s, .int l, .int e1_, .int t1] sX7_123 (ct_X7_isSituation ll g s l e1_ t1) dX7_holds_21 rfl rfl ⟨rfl, rfl⟩ ⟨(Nat.le_of_ble_eq_true rfl), (Nat.le_of_ble_eq_true rfl)⟩ ⟨Nat.zero_le _, Nat.zero_le _⟩ (Nat.le_of_ble_eq_true rfl) ?_
    refine v_ifb_ne X dX7_holds_24 (tgt := 34) (by decide) (fun c1 => ?_) (fun c1 => ?_)
    · refine v_aload X dX7_holds_34 0 rfl ?_
      refine v_iload_n X dX7_holds_36 3 rfl ?_
      refine v_iload_n X dX7_holds_37 4 rfl ?_
      refine v_iload X dX7_holds_38 5 rfl ?_
      refine v_iload X dX7_holds_40 6 rfl ?_
      refine v_cVi X [.int s, .int l, .int e1_, .int t1] sX7_255 (ct_X5_firstThat (w := w) (m := d) ll g s l e1_ t1 y0 y1 y2 y3 y4 hc6 hr) y0 rfl dX7_holds_42 rfl rfl ⟨rfl, rfl⟩ ⟨(Nat.le_of_ble_eq_true rfl), (Nat.le_of_ble_eq_true rfl)⟩ ⟨Nat.zero_le _, Nat.zero_le _⟩ (Nat.le_of_ble_eq_true rfl) ?_
      refine v_istore (lv1 := [(7, .int (ruleS d w wc s l e1_ t1)), (6, .ref aw), (0, .ref (B 0)), (1, .int w_), (2, .int s), (3, .int l), (4, .int e1_), (5, .int t1)]) X dX7_holds_45 (by decide) rfl ?_
      refine v_iload X dX7_holds_47 0 rfl ?_
      refine v_if_ge X dX7_holds_49 (tgt := 61) (by decide) (fun c2 => ?_) (fun c2 => ?_)
      · refine v_iload X dX7_holds_61 0 rfl ?_
        have eqr : op_holds (d, k, hk, fo, tape, tp, bits, sz, num) w_ s l e1_ t1 = (ruleS d w wc s l e1_ t1, (d, k, hk, fo, tape, tp, bits, sz, num)) := by have qc : wayC d w = wc := ix_cl ec (by omega); unfold op_holds; dsimp only; rw [if_pos ⟨hye, c1⟩, qjw, qc, if_neg (Int32.not_lt.mpr c2)]
        have hCR : CR g h B (d, k, hk, fo, tape, tp, bits, sz, num) := ⟨hB, gX_e rfl cX, ⟨gW_e rfl ⟨rfl, rfl, rfl, rfl, rfl, rfl⟩ cW, gP_e (fun j hj => rfl) rfl (fun _ _ _ => rfl) cP, gY_e rfl (fun x c hx hk => rfl) rfl (fun _ _ _ => rfl) cY, gT_e rfl (fun _ _ _ => rfl) cT, gM_e (fun j h1 h2 => rfl) (fun _ _ _ => rfl) cM⟩, ⟨k2, gWd_e (fun j h1 h2 => rfl) (fun x c hx hk => rfl) cK, hk2⟩, gO_e (fun j h1 h2 => rfl) cO, gR_e rfl cR, gA_e (fun j h1 h2 => rfl) cA, gS_e (fun j h1 h2 => rfl) cS, gF_e rfl cF⟩
        exact v_iret X r dX7_holds_63 (Nat.le_refl _) (Nat.le_refl _) ⟨by rw [eqr], by rw [eqr]; exact hCR⟩
      · refine v_aload_n X dX7_holds_52 2 rfl ?_
        refine v_ldc X dX7_holds_53 kX7_207 ?_
        refine v_cVi X [.int (-1000000004)] sX7_73 (ct_X7_finding (pe := 0) (wy := 0) (pt := 0) (mt := 0) (np := 0) (nw := 0) (oc := 0) (fi := 0) (se := 0) (lo := 0) (q := 3) (v := (-1000000004)) ll g x0 x41 (by decide) (by decide)) x0 rfl dX7_holds_55 rfl rfl ⟨rfl, rfl⟩ ⟨(Nat.le_of_ble_eq_true rfl), (Nat.le_of_ble_eq_true rfl)⟩ ⟨Nat.zero_le _, Nat.zero_le _⟩ (Nat.le_of_ble_eq_true rfl) ?_
        refine v_goto X dX7_holds_58 (tgt := 63) (by decide) ?_
        have eqr : op_holds (d, k, hk, fo, tape, tp, bits, sz, num) w_ s l e1_ t1 = ((-1000000004), (d, k, hk, fnd fo 3, tape, tp, bits, sz, num)) := by have qc : wayC d w = wc := ix_cl ec (by omega); unfold op_holds; dsimp only; rw [if_pos ⟨hye, c1⟩, qjw, qc, if_pos (Int32.not_le.mp c2)]
        have hCR : CR g (hU h (B 41) (ai g 7 (fnd fo 3))) B (d, k, hk, fnd fo 3, tape, tp, bits, sz, num) := ⟨hB, gX_e (hU_n (hB 0 41 (by omega) (by omega) (by omega))) cX, ⟨gW_e (hU_n (hB 1 41 (by omega) (by omega) (by omega))) ⟨rfl, rfl, rfl, rfl, rfl, rfl⟩ cW, gP_e (fun j hj => (hU_n (hB j 41 (by omega) (by omega) (by omega)))) rfl (fun _ _ _ => rfl) cP, gY_e (hU_n (hB 3 41 (by omega) (by omega) (by omega))) (fun x c hx hk => (hU_n (kd_ne hx x41 hk rfl))) rfl (fun _ _ _ => rfl) cY, gT_e (hU_n (hB 4 41 (by omega) (by omega) (by omega))) (fun _ _ _ => rfl) cT, gM_e (fun j h1 h2 => (hU_n (hB j 41 (by omega) (by omega) (by omega)))) (fun _ _ _ => rfl) cM⟩, ⟨k2, gWd_e (fun j h1 h2 => (hU_n (hB (j + 16) 41 (by omega) (by omega) (by omega)))) (fun x c hx hk => (hU_n (kd_ne hx x41 hk rfl))) cK, hk2⟩, gO_e (fun j h1 h2 => (hU_n (hB j 41 (by omega) (by omega) (by omega)))) cO, gR_e (hU_n (hB 37 41 (by omega) (by omega) (by omega))) cR, gA_e (fun j h1 h2 => (hU_n (hB j 41 (by omega) (by omega) (by omega)))) cA, gS_e (fun j h1 h2 => (hU_n (hB j 41 (by omega) (by omega) (by omega)))) cS, (hU_s : _)⟩
        exact v_iret X r dX7_holds_63 (Nat.le_refl _) (Nat.le_refl _) ⟨by rw [eqr], by rw [eqr]; exact hCR⟩
    · refine v_aload_n X dX7_holds_27 1 rfl ?_
      refine v_ldc X dX7_holds_28 kX7_72 ?_
      refine v_cVi X [.int (-1000000001)] sX7_73 (ct_X7_finding (pe := 0) (wy := 0) (pt := 0) (mt := 0) (np := 0) (nw := 0) (oc := 0) (fi := 0) (se := 0) (lo := 0) (q := 0) (v := (-1000000001)) ll g x0 x41 (by decide) (by decide)) x0 rfl dX7_holds_30 rfl rfl ⟨rfl, rfl⟩ ⟨(Nat.le_of_ble_eq_true rfl), (Nat.le_of_ble_eq_true rfl)⟩ ⟨Nat.zero_le _, Nat.zero_le _⟩ (Nat.le_of_ble_eq_true rfl) ?_
      have eqr : op_holds (d, k, hk, fo, tape, tp, bits, sz, num) w_ s l e1_ t1 = ((-1000000001), (d, k, hk, fnd fo 0, tape, tp, bits, sz, num)) := by unfold op_holds; dsimp only; rw [if_neg (fun z => c1 z.2)]
      have hCR : CR g (hU h (B 41) (ai g 7 (fnd fo 0))) B (d, k, hk, fnd fo 0, tape, tp, bits, sz, num) := ⟨hB, gX_e (hU_n (hB 0 41 (by omega) (by omega) (by omega))) cX, ⟨gW_e (hU_n (hB 1 41 (by omega) (by omega) (by omega))) ⟨rfl, rfl, rfl, rfl, rfl, rfl⟩ cW, gP_e (fun j hj => (hU_n (hB j 41 (by omega) (by omega) (by omega)))) rfl (fun _ _ _ => rfl) cP, gY_e (hU_n (hB 3 41 (by omega) (by omega) (by omega))) (fun x c hx hk => (hU_n (kd_ne hx x41 hk rfl))) rfl (fun _ _ _ => rfl) cY, gT_e (hU_n (hB 4 41 (by omega) (by omega) (by omega))) (fun _ _ _ => rfl) cT, gM_e (fun j h1 h2 => (hU_n (hB j 41 (by omega) (by omega) (by omega)))) (fun _ _ _ => rfl) cM⟩, ⟨k2, gWd_e (fun j h1 h2 => (hU_n (hB (j + 16) 41 (by omega) (by omega) (by omega)))) (fun x c hx hk => (hU_n (kd_ne hx x41 hk rfl))) cK, hk2⟩, gO_e (fun j h1 h2 => (hU_n (hB j 41 (by omega) (by omega) (by omega)))) cO, gR_e (hU_n (hB 37 41 (by omega) (by omega) (by omega))) cR, gA_e (fun j h1 h2 => (hU_n (hB j 41 (by omega) (by omega) (by omega)))) cA, gS_e (fun j h1 h2 => (hU_n (hB j 41 (by omega) (by omega) (by omega)))) cS, (hU_s : _)⟩
      exact v_iret X r dX7_holds_33 (Nat.le_refl _) (Nat.le_refl _) ⟨by rw [eqr], by rw [eqr]; exact hCR⟩
  · have hno := hye
    refine v_aload_n X dX7_holds_0 0 rfl ?_
    refine v_get X fX7_10 x0 rfl dX7_holds_1 ?_
    refine v_iload_n X dX7_holds_4 1 rfl ?_
    refine v_cVr X [.int w_] sX7_130 (ct_X6_wayAtN (v := w_) ll g x1 hno) x1 rfl dX7_holds_5 rfl rfl ⟨rfl, rfl⟩ ⟨(Nat.le_of_ble_eq_true rfl), (Nat.le_of_ble_eq_true rfl)⟩ ⟨Nat.zero_le _, Nat.zero_le _⟩ (Nat.le_of_ble_eq_true rfl) ?_
    refine v_astoreN (lv1 := [(6, .null), (0, .ref (B 0)), (1, .int w_), (2, .int s), (3, .int l), (4, .int e1_), (5, .int t1)]) X dX7_holds_8 (by decide) rfl ?_
    refine v_aloadN X dX7_holds_10 0 rfl ?_
    refine v_ifnullN X dX7_holds_12 (tgt := 27) (by decide) ?_
    refine v_aload_n X dX7_holds_27 1 rfl ?_
    refine v_ldc X dX7_holds_28 kX7_72 ?_
    refine v_cVi X [.int (-1000000001)] sX7_73 (ct_X7_finding (pe := 0) (wy := 0) (pt := 0) (mt := 0) (np := 0) (nw := 0) (oc := 0) (fi := 0) (se := 0) (lo := 0) (q := 0) (v := (-1000000001)) ll g x0 x41 (by decide) (by decide)) x0 rfl dX7_holds_30 rfl rfl ⟨rfl, rfl⟩ ⟨(Nat.le_of_ble_eq_true rfl), (Nat.le_of_ble_eq_true rfl)⟩ ⟨Nat.zero_le _, Nat.zero_le _⟩ (Nat.le_of_ble_eq_true rfl) ?_
    have eqr : op_holds (d, k, hk, fo, tape, tp, bits, sz, num) w_ s l e1_ t1 = ((-1000000001), (d, k, hk, fnd fo 0, tape, tp, bits, sz, num)) := by unfold op_holds; dsimp only; rw [if_neg (fun z => hno z.1)]
    have hCR : CR g (hU h (B 41) (ai g 7 (fnd fo 0))) B (d, k, hk, fnd fo 0, tape, tp, bits, sz, num) := ⟨hB, gX_e (hU_n (hB 0 41 (by omega) (by omega) (by omega))) cX, ⟨gW_e (hU_n (hB 1 41 (by omega) (by omega) (by omega))) ⟨rfl, rfl, rfl, rfl, rfl, rfl⟩ cW, gP_e (fun j hj => (hU_n (hB j 41 (by omega) (by omega) (by omega)))) rfl (fun _ _ _ => rfl) cP, gY_e (hU_n (hB 3 41 (by omega) (by omega) (by omega))) (fun x c hx hk => (hU_n (kd_ne hx x41 hk rfl))) rfl (fun _ _ _ => rfl) cY, gT_e (hU_n (hB 4 41 (by omega) (by omega) (by omega))) (fun _ _ _ => rfl) cT, gM_e (fun j h1 h2 => (hU_n (hB j 41 (by omega) (by omega) (by omega)))) (fun _ _ _ => rfl) cM⟩, ⟨k2, gWd_e (fun j h1 h2 => (hU_n (hB (j + 16) 41 (by omega) (by omega) (by omega)))) (fun x c hx hk => (hU_n (kd_ne hx x41 hk rfl))) cK, hk2⟩, gO_e (fun j h1 h2 => (hU_n (hB j 41 (by omega) (by omega) (by omega)))) cO, gR_e (hU_n (hB 37 41 (by omega) (by omega) (by omega))) cR, gA_e (fun j h1 h2 => (hU_n (hB j 41 (by omega) (by omega) (by omega)))) cA, gS_e (fun j h1 h2 => (hU_n (hB j 41 (by omega) (by omega) (by omega)))) cS, (hU_s : _)⟩
    exact v_iret X r dX7_holds_33 (Nat.le_refl _) (Nat.le_refl _) ⟨by rw [eqr], by rw [eqr]; exact hCR⟩
set_option maxHeartbeats 4000000 in
set_option maxRecDepth 100000 in
theorem ct_X6_allFalls (ll : Launch) (g : GT) {h : Hp} {w pe wy pt mt n : Nat} {np nw oc fi se lo : Int32} {pf : Nat → Option Nat} {d : Nat → Int32} {Ad : Nat → Nat} (hw : h w = some (ob 6 [.ref pe, .int np, .ref wy, .int nw, .ref pt, .ref mt, .int oc, .int fi, .int se, .int lo])) (hpe : h pe = some (ar g 2 8 pf)) (hn : np = nI n) (hn8 : n ≤ 8) (hpf : ∀ p, p < n → pf p = some (Ad p)) (hp : ∀ p, p < n → h (Ad p) = some (ob 1 [.int ((told d p) 0), .int ((told d p) 1), .int ((told d p) 2), .int ((told d p) 3), .int ((told d p) 4), .int ((told d p) 5), .int ((told d p) 6)])) : MF ll g yX6_allFalls cX6_allFalls 3 (some .int) (k2_rm 0 0) [.ref w] h (some (.int (sumF d 0 0 n))) h := by
  refine mc_of (by decide) (Nat.le_of_ble_eq_true rfl) ?_
  intro K X r
  refine v_eqv (lv2 := [(0, .ref w)]) rfl ?_
  refine v_iconst X dX6_allFalls_0 (v := 0) (by decide) ?_
  refine v_istore_n (lv1 := [(1, .int 0), (0, .ref w)]) X dX6_allFalls_1 (by decide) rfl ?_
  refine v_iconst X dX6_allFalls_2 (v := 0) (by decide) ?_
  refine v_istore_n (lv1 := [(2, .int 0), (1, .int 0), (0, .ref w)]) X dX6_allFalls_3 (by decide) rfl ?_
  have L4 : ∀ (N : Nat) (q : Nat) (acc : Int32), (q ≤ n) → (sumF d 0 0 n = sumF d q acc (n - q)) → n - q < N → VJ K 0 0 h 4 [(0, .ref w), (1, .int acc), (2, .int (nI q))] [] := by
    intro N
    induction N with
    | zero => intro q acc _ _ hm; exact absurd hm (Nat.not_lt_zero _)
    | succ N ih4 =>
      intro q acc hqq hq hm
      refine v_iload_n X dX6_allFalls_4 2 rfl ?_
      refine v_aload_n X dX6_allFalls_5 0 rfl ?_
      refine v_get X fX6_17 hw rfl dX6_allFalls_6 ?_
      refine v_icmp_ge X dX6_allFalls_9 (tgt := 30) (by decide) (fun c1 => ?_) (fun c1 => ?_)
      · refine v_iload_n X dX6_allFalls_30 1 rfl ?_
        exact v_iret X r dX6_allFalls_31 (Nat.le_refl _) (Nat.le_refl _) ⟨ri (sumF_e hq (fun z => absurd (by rw [hn]; exact nI_lt z (by omega)) (Int32.not_lt.mpr c1))).symm, rfl⟩
      · have hqn : q < n := by
          rcases Nat.lt_or_ge q n with z | z
          · exact z
          · exact absurd (by rw [hn]; exact nI_le z (by omega)) c1
        refine v_iload_n X dX6_allFalls_12 1 rfl ?_
        refine v_aload_n X dX6_allFalls_13 0 rfl ?_
        refine v_get X fX6_11 hw rfl dX6_allFalls_14 ?_
        refine v_iload_n X dX6_allFalls_17 2 rfl ?_
        refine v_aaldK X 2 rfl q (v := .ref (Ad q)) hpe rfl (by omega) (by decide) (by rw [hpf q hqn]; rfl) dX6_allFalls_18 ?_
        refine v_get X fX6_76 (hp q hqn) rfl dX6_allFalls_19 ?_
        refine v_iadd X dX6_allFalls_22 ?_
        refine v_istore_n (lv1 := [(1, .int (acc + ((told d q) 5))), (0, .ref w), (2, .int (nI q))]) X dX6_allFalls_23 (by decide) rfl ?_
        refine v_iinc (v := (nI q) + 1) (lv1 := [(2, .int ((nI q) + 1)), (1, .int (acc + ((told d q) 5))), (0, .ref w)]) X dX6_allFalls_24 2 rfl rfl (by decide) rfl ?_
        refine v_goto X dX6_allFalls_27 (tgt := 4) (by decide) ?_
        refine v_lv (lv2 := [(0, .ref w), (1, .int (acc + ((told d q) 5))), (2, .int ((nI q) + 1))]) [2, 1, 0] rfl ?_
        refine v_eqv (lv2 := [(0, .ref w), (1, .int (acc + told d q 5)), (2, .int (nI (q + 1)))]) (by rw [nI_1]) ?_
        exact ih4 (q + 1) (acc + told d q 5) (by omega) (sumF_s hq hqn) (by omega)
  refine v_lv (lv2 := [(0, .ref w), (1, .int 0), (2, .int 0)]) [2, 1, 0] rfl ?_
  refine v_eqv (lv2 := [(0, .ref w), (1, .int 0), (2, .int (nI 0))]) rfl ?_
  exact L4 _ 0 0 (Nat.zero_le _) rfl (Nat.lt_succ_self _)
set_option maxHeartbeats 4000000 in
set_option maxRecDepth 100000 in
theorem ct_X7_count (ll : Launch) (g : GT) {h : Hp} {B : Nat → Nat} {d k fo tape bits sz : Nat → Int32} {num : Nat → Int64} {hk tp : Int32} {N : Nat}  (what : Int32) (hC : CR g h B (d, k, hk, fo, tape, tp, bits, sz, num)) (hI : SOk (d, k, hk, fo, tape, tp, bits, sz, num) N) (hN : N + 400 ≤ 204800) : MC ll g yX7_count cX7_count 2 (some .int) { frames := 10, cells := 0, slots := 0, locals := 380 } [.ref (B 0), .int what] h (fun r h2 => r = some (.int (op_count (d, k, hk, fo, tape, tp, bits, sz, num) what).1) ∧ CR g h2 B (op_count (d, k, hk, fo, tape, tp, bits, sz, num) what).2) 0 0 := by
  have hC0 := hC
  have hI0 := hI
  obtain ⟨hB, cX, ⟨cW, cP, cY, cT, cM⟩, ⟨k2, cK, hk2⟩, cO, cR, cA, cS, cF⟩ := hC
  obtain ⟨⟨np, nw, T, p0, p1, e0, hnp, e1, hnw, e6, hT, hon, e3, hp0, e4, hp1, honp, hper, h10, h11, h12, hwc⟩, hkd, hkb, ⟨tn, htn, etp⟩, hsz⟩ := hI
  have x0 : h (B 0) = some (ob 7 [.ref (B 1), .ref (B 17), .int hk, .ref (B 33), .ref (B 37), .ref (B 38), .ref (B 40), .ref (B 41)]) := cX
  have x1 : h (B 1) = some (ob 6 [.ref (B 2), .int (d 0), .ref (B 3), .int (d 1), .ref (B 4), .ref (B 5), .int (bI (d 2 = 1)), .int (d 3), .int (d 4), .int (d 7)]) := cW
  have cP0 := cP
  obtain ⟨pf, F, x2, hpf, hF, hFd⟩ := cP0
  have cY0 := cY
  obtain ⟨wf, x3, hwo, hwy⟩ := cY0
  have x4 : h (B 4) = some (ai g 5 (ptF d)) := cT
  have cM0 := cM
  obtain ⟨tr, T9, s0, v0, s1, v1, x5, x6, x7, x8, e69, hT30, hR, hRB⟩ := cM0
  have eT9 : T9 = T := nI_inj (by omega) (by omega) (e69.symm.trans e6)
  subst eT9
  have cO0 := cO
  obtain ⟨otr, u5, u6, u8, a0, a1, a2, a3, a4, b0, b1, b2, b3, b4, x33, x34, x35, x36⟩ := cO0
  have cR0 := cR
  obtain ⟨rf, x37⟩ := cR0
  have cA0 := cA
  obtain ⟨ts, te, tt, tv, x38, x39⟩ := cA0
  have cS0 := cS
  obtain ⟨sf, nf, x40, hsf, hsh, hnm, hnv⟩ := cS0
  have x41 : h (B 41) = some (ai g 7 fo) := cF
  have qn : (d 0).toNatClampNeg = np := ix_cl e0 (by omega)
  have qw : (d 1).toNatClampNeg = nw := ix_cl e1 (by omega)
  have pC : ∀ p, p < np → h (B (9 + p)) = some (ob 1 [.int ((told d p) 0), .int ((told d p) 1), .int ((told d p) 2), .int ((told d p) 3), .int ((told d p) 4), .int ((told d p) 5), .int ((told d p) 6)]) := fun p hp => gP_at (by omega) (by rw [qn]; exact hp) cP
  refine mc_of (by decide) (Nat.le_of_ble_eq_true rfl) ?_
  intro K X r
  refine v_eqv (lv2 := [(0, .ref (B 0)), (1, .int what)]) rfl ?_
  refine v_iload_n X dX7_count_0 1 rfl ?_
  by_cases c1_0 : what = 0
  · refine v_tabIn X dX7_count_1 (off := 39) (tgt := 40) 0 c1_0 (by decide) (by decide) (by decide) (by decide) ?_
    refine v_aload_n X dX7_count_40 0 rfl ?_
    refine v_get X fX7_10 x0 rfl dX7_count_41 ?_
    refine v_get X fX7_77 x1 rfl dX7_count_44 ?_
    have eqr : op_count (d, k, hk, fo, tape, tp, bits, sz, num) what = (d 0, (d, k, hk, fo, tape, tp, bits, sz, num)) := by unfold op_count; dsimp only; rw [if_pos c1_0]
    have hCR : CR g h B (d, k, hk, fo, tape, tp, bits, sz, num) := ⟨hB, gX_e rfl cX, ⟨gW_e rfl ⟨rfl, rfl, rfl, rfl, rfl, rfl⟩ cW, gP_e (fun j hj => rfl) rfl (fun _ _ _ => rfl) cP, gY_e rfl (fun x c hx hk => rfl) rfl (fun _ _ _ => rfl) cY, gT_e rfl (fun _ _ _ => rfl) cT, gM_e (fun j h1 h2 => rfl) (fun _ _ _ => rfl) cM⟩, ⟨k2, gWd_e (fun j h1 h2 => rfl) (fun x c hx hk => rfl) cK, hk2⟩, gO_e (fun j h1 h2 => rfl) cO, gR_e rfl cR, gA_e (fun j h1 h2 => rfl) cA, gS_e (fun j h1 h2 => rfl) cS, gF_e rfl cF⟩
    exact v_iret X r dX7_count_47 (Nat.le_refl _) (Nat.le_refl _) ⟨by rw [eqr], by rw [eqr]; exact hCR⟩
  by_cases c1_1 : what = 1
  · refine v_tabIn X dX7_count_1 (off := 47) (tgt := 48) 1 c1_1 (by decide) (by decide) (by decide) (by decide) ?_
    refine v_aload_n X dX7_count_48 0 rfl ?_
    refine v_get X fX7_10 x0 rfl dX7_count_49 ?_
    refine v_get X fX7_242 x1 rfl dX7_count_52 ?_
    have eqr : op_count (d, k, hk, fo, tape, tp, bits, sz, num) what = (d 1, (d, k, hk, fo, tape, tp, bits, sz, num)) := by unfold op_count; dsimp only; rw [if_neg c1_0, if_pos c1_1]
    have hCR : CR g h B (d, k, hk, fo, tape, tp, bits, sz, num) := ⟨hB, gX_e rfl cX, ⟨gW_e rfl ⟨rfl, rfl, rfl, rfl, rfl, rfl⟩ cW, gP_e (fun j hj => rfl) rfl (fun _ _ _ => rfl) cP, gY_e rfl (fun x c hx hk => rfl) rfl (fun _ _ _ => rfl) cY, gT_e rfl (fun _ _ _ => rfl) cT, gM_e (fun j h1 h2 => rfl) (fun _ _ _ => rfl) cM⟩, ⟨k2, gWd_e (fun j h1 h2 => rfl) (fun x c hx hk => rfl) cK, hk2⟩, gO_e (fun j h1 h2 => rfl) cO, gR_e rfl cR, gA_e (fun j h1 h2 => rfl) cA, gS_e (fun j h1 h2 => rfl) cS, gF_e rfl cF⟩
    exact v_iret X r dX7_count_55 (Nat.le_refl _) (Nat.le_refl _) ⟨by rw [eqr], by rw [eqr]; exact hCR⟩
  by_cases c1_2 : what = 2
  · refine v_tabIn X dX7_count_1 (off := 55) (tgt := 56) 2 c1_2 (by decide) (by decide) (by decide) (by decide) ?_
    refine v_aload_n X dX7_count_56 0 rfl ?_
    refine v_get X fX7_10 x0 rfl dX7_count_57 ?_
    refine v_get X fX7_141 x1 rfl dX7_count_60 ?_
    refine v_ifb_eq X dX7_count_63 (tgt := 70) (by decide) (fun c2 => ?_) (fun c2 => ?_)
    · refine v_iconst X dX7_count_70 (v := 0) (by decide) ?_
      have eqr : op_count (d, k, hk, fo, tape, tp, bits, sz, num) what = (0, (d, k, hk, fo, tape, tp, bits, sz, num)) := by unfold op_count; dsimp only; rw [if_neg c1_0, if_neg c1_1, if_pos c1_2]; rw [hon.resolve_right c2]
      have hCR : CR g h B (d, k, hk, fo, tape, tp, bits, sz, num) := ⟨hB, gX_e rfl cX, ⟨gW_e rfl ⟨rfl, rfl, rfl, rfl, rfl, rfl⟩ cW, gP_e (fun j hj => rfl) rfl (fun _ _ _ => rfl) cP, gY_e rfl (fun x c hx hk => rfl) rfl (fun _ _ _ => rfl) cY, gT_e rfl (fun _ _ _ => rfl) cT, gM_e (fun j h1 h2 => rfl) (fun _ _ _ => rfl) cM⟩, ⟨k2, gWd_e (fun j h1 h2 => rfl) (fun x c hx hk => rfl) cK, hk2⟩, gO_e (fun j h1 h2 => rfl) cO, gR_e rfl cR, gA_e (fun j h1 h2 => rfl) cA, gS_e (fun j h1 h2 => rfl) cS, gF_e rfl cF⟩
      exact v_iret X r dX7_count_71 (Nat.le_refl _) (Nat.le_refl _) ⟨by rw [eqr], by rw [eqr]; exact hCR⟩
    · refine v_iconst X dX7_count_66 (v := 1) (by decide) ?_
      refine v_goto X dX7_count_67 (tgt := 71) (by decide) ?_
      have eqr : op_count (d, k, hk, fo, tape, tp, bits, sz, num) what = (1, (d, k, hk, fo, tape, tp, bits, sz, num)) := by unfold op_count; dsimp only; rw [if_neg c1_0, if_neg c1_1, if_pos c1_2]; rw [c2]
      have hCR : CR g h B (d, k, hk, fo, tape, tp, bits, sz, num) := ⟨hB, gX_e rfl cX, ⟨gW_e rfl ⟨rfl, rfl, rfl, rfl, rfl, rfl⟩ cW, gP_e (fun j hj => rfl) rfl (fun _ _ _ => rfl) cP, gY_e rfl (fun x c hx hk => rfl) rfl (fun _ _ _ => rfl) cY, gT_e rfl (fun _ _ _ => rfl) cT, gM_e (fun j h1 h2 => rfl) (fun _ _ _ => rfl) cM⟩, ⟨k2, gWd_e (fun j h1 h2 => rfl) (fun x c hx hk => rfl) cK, hk2⟩, gO_e (fun j h1 h2 => rfl) cO, gR_e rfl cR, gA_e (fun j h1 h2 => rfl) cA, gS_e (fun j h1 h2 => rfl) cS, gF_e rfl cF⟩
      exact v_iret X r dX7_count_71 (Nat.le_refl _) (Nat.le_refl _) ⟨by rw [eqr], by rw [eqr]; exact hCR⟩
  by_cases c1_3 : what = 3
  · refine v_tabIn X dX7_count_1 (off := 71) (tgt := 72) 3 c1_3 (by decide) (by decide) (by decide) (by decide) ?_
    refine v_aload_n X dX7_count_72 0 rfl ?_
    refine v_get X fX7_10 x0 rfl dX7_count_73 ?_
    refine v_cVi X [] sX7_297 (ct_X6_allFalls (d := d) (n := np) (Ad := fun p => B (9 + p)) ll g x1 x2 e0 hnp (fun p hp => hpf p (by omega)) pC) x1 rfl dX7_count_76 rfl rfl ⟨rfl, rfl⟩ ⟨(Nat.le_of_ble_eq_true rfl), (Nat.le_of_ble_eq_true rfl)⟩ ⟨Nat.zero_le _, Nat.zero_le _⟩ (Nat.le_of_ble_eq_true rfl) ?_
    have eqr : op_count (d, k, hk, fo, tape, tp, bits, sz, num) what = (sumF d 0 0 np, (d, k, hk, fo, tape, tp, bits, sz, num)) := by unfold op_count; dsimp only; rw [if_neg c1_0, if_neg c1_1, if_neg c1_2, if_pos c1_3]; rw [show pr (d 0) = np from qn]
    have hCR : CR g h B (d, k, hk, fo, tape, tp, bits, sz, num) := ⟨hB, gX_e rfl cX, ⟨gW_e rfl ⟨rfl, rfl, rfl, rfl, rfl, rfl⟩ cW, gP_e (fun j hj => rfl) rfl (fun _ _ _ => rfl) cP, gY_e rfl (fun x c hx hk => rfl) rfl (fun _ _ _ => rfl) cY, gT_e rfl (fun _ _ _ => rfl) cT, gM_e (fun j h1 h2 => rfl) (fun _ _ _ => rfl) cM⟩, ⟨k2, gWd_e (fun j h1 h2 => rfl) (fun x c hx hk => rfl) cK, hk2⟩, gO_e (fun j h1 h2 => rfl) cO, gR_e rfl cR, gA_e (fun j h1 h2 => rfl) cA, gS_e (fun j h1 h2 => rfl) cS, gF_e rfl cF⟩
    exact v_iret X r dX7_count_79 (Nat.le_refl _) (Nat.le_refl _) ⟨by rw [eqr], by rw [eqr]; exact hCR⟩
  by_cases c1_4 : what = 4
  · refine v_tabIn X dX7_count_1 (off := 79) (tgt := 80) 4 c1_4 (by decide) (by decide) (by decide) (by decide) ?_
    refine v_aload_n X dX7_count_80 0 rfl ?_
    refine v_get X fX7_50 x0 rfl dX7_count_81 ?_
    refine v_get X fX7_235 x38 rfl dX7_count_84 ?_
    have eqr : op_count (d, k, hk, fo, tape, tp, bits, sz, num) what = (tp, (d, k, hk, fo, tape, tp, bits, sz, num)) := by unfold op_count; dsimp only; rw [if_neg c1_0, if_neg c1_1, if_neg c1_2, if_neg c1_3, if_pos c1_4]
    have hCR : CR g h B (d, k, hk, fo, tape, tp, bits, sz, num) := ⟨hB, gX_e rfl cX, ⟨gW_e rfl ⟨rfl, rfl, rfl, rfl, rfl, rfl⟩ cW, gP_e (fun j hj => rfl) rfl (fun _ _ _ => rfl) cP, gY_e rfl (fun x c hx hk => rfl) rfl (fun _ _ _ => rfl) cY, gT_e rfl (fun _ _ _ => rfl) cT, gM_e (fun j h1 h2 => rfl) (fun _ _ _ => rfl) cM⟩, ⟨k2, gWd_e (fun j h1 h2 => rfl) (fun x c hx hk => rfl) cK, hk2⟩, gO_e (fun j h1 h2 => rfl) cO, gR_e rfl cR, gA_e (fun j h1 h2 => rfl) cA, gS_e (fun j h1 h2 => rfl) cS, gF_e rfl cF⟩
    exact v_iret X r dX7_count_87 (Nat.le_refl _) (Nat.le_refl _) ⟨by rw [eqr], by rw [eqr]; exact hCR⟩
  by_cases c1_5 : what = 5
  · refine v_tabIn X dX7_count_1 (off := 87) (tgt := 88) 5 c1_5 (by decide) (by decide) (by decide) (by decide) ?_
    refine v_aload_n X dX7_count_88 0 rfl ?_
    refine v_get X fX7_10 x0 rfl dX7_count_89 ?_
    refine v_get X fX7_150 x1 rfl dX7_count_92 ?_
    refine v_get X fX7_197 x5 rfl dX7_count_95 ?_
    have eqr : op_count (d, k, hk, fo, tape, tp, bits, sz, num) what = (d 8, (d, k, hk, fo, tape, tp, bits, sz, num)) := by unfold op_count; dsimp only; rw [if_neg c1_0, if_neg c1_1, if_neg c1_2, if_neg c1_3, if_neg c1_4, if_pos c1_5]
    have hCR : CR g h B (d, k, hk, fo, tape, tp, bits, sz, num) := ⟨hB, gX_e rfl cX, ⟨gW_e rfl ⟨rfl, rfl, rfl, rfl, rfl, rfl⟩ cW, gP_e (fun j hj => rfl) rfl (fun _ _ _ => rfl) cP, gY_e rfl (fun x c hx hk => rfl) rfl (fun _ _ _ => rfl) cY, gT_e rfl (fun _ _ _ => rfl) cT, gM_e (fun j h1 h2 => rfl) (fun _ _ _ => rfl) cM⟩, ⟨k2, gWd_e (fun j h1 h2 => rfl) (fun x c hx hk => rfl) cK, hk2⟩, gO_e (fun j h1 h2 => rfl) cO, gR_e rfl cR, gA_e (fun j h1 h2 => rfl) cA, gS_e (fun j h1 h2 => rfl) cS, gF_e rfl cF⟩
    exact v_iret X r dX7_count_98 (Nat.le_refl _) (Nat.le_refl _) ⟨by rw [eqr], by rw [eqr]; exact hCR⟩
  refine v_tabOut X dX7_count_1 (tgt := 99) (by have e0 := lv_neT (k := 0) (a := 0) c1_0 (by decide); have e1 := lv_neT (k := 1) (a := 1) c1_1 (by decide); have e2 := lv_neT (k := 2) (a := 2) c1_2 (by decide); have e3 := lv_neT (k := 3) (a := 3) c1_3 (by decide); have e4 := lv_neT (k := 4) (a := 4) c1_4 (by decide); have e5 := lv_neT (k := 5) (a := 5) c1_5 (by decide); omega) (by decide) ?_
  refine v_aload_n X dX7_count_99 0 rfl ?_
  refine v_ldc X dX7_count_100 kX7_72 ?_
  refine v_cVi X [.int (-1000000001)] sX7_73 (ct_X7_finding (pe := 0) (wy := 0) (pt := 0) (mt := 0) (np := 0) (nw := 0) (oc := 0) (fi := 0) (se := 0) (lo := 0) (q := 0) (v := (-1000000001)) ll g x0 x41 (by decide) (by decide)) x0 rfl dX7_count_102 rfl rfl ⟨rfl, rfl⟩ ⟨(Nat.le_of_ble_eq_true rfl), (Nat.le_of_ble_eq_true rfl)⟩ ⟨Nat.zero_le _, Nat.zero_le _⟩ (Nat.le_of_ble_eq_true rfl) ?_
  have eqr : op_count (d, k, hk, fo, tape, tp, bits, sz, num) what = ((-1000000001), (d, k, hk, fnd fo 0, tape, tp, bits, sz, num)) := by unfold op_count; dsimp only; rw [if_neg c1_0, if_neg c1_1, if_neg c1_2, if_neg c1_3, if_neg c1_4, if_neg c1_5]
  have hCR : CR g (hU h (B 41) (ai g 7 (fnd fo 0))) B (d, k, hk, fnd fo 0, tape, tp, bits, sz, num) := ⟨hB, gX_e (hU_n (hB 0 41 (by omega) (by omega) (by omega))) cX, ⟨gW_e (hU_n (hB 1 41 (by omega) (by omega) (by omega))) ⟨rfl, rfl, rfl, rfl, rfl, rfl⟩ cW, gP_e (fun j hj => (hU_n (hB j 41 (by omega) (by omega) (by omega)))) rfl (fun _ _ _ => rfl) cP, gY_e (hU_n (hB 3 41 (by omega) (by omega) (by omega))) (fun x c hx hk => (hU_n (kd_ne hx x41 hk rfl))) rfl (fun _ _ _ => rfl) cY, gT_e (hU_n (hB 4 41 (by omega) (by omega) (by omega))) (fun _ _ _ => rfl) cT, gM_e (fun j h1 h2 => (hU_n (hB j 41 (by omega) (by omega) (by omega)))) (fun _ _ _ => rfl) cM⟩, ⟨k2, gWd_e (fun j h1 h2 => (hU_n (hB (j + 16) 41 (by omega) (by omega) (by omega)))) (fun x c hx hk => (hU_n (kd_ne hx x41 hk rfl))) cK, hk2⟩, gO_e (fun j h1 h2 => (hU_n (hB j 41 (by omega) (by omega) (by omega)))) cO, gR_e (hU_n (hB 37 41 (by omega) (by omega) (by omega))) cR, gA_e (fun j h1 h2 => (hU_n (hB j 41 (by omega) (by omega) (by omega)))) cA, gS_e (fun j h1 h2 => (hU_n (hB j 41 (by omega) (by omega) (by omega)))) cS, (hU_s : _)⟩
  exact v_iret X r dX7_count_105 (Nat.le_refl _) (Nat.le_refl _) ⟨by rw [eqr], by rw [eqr]; exact hCR⟩
set_option maxHeartbeats 4000000 in
set_option maxRecDepth 100000 in
theorem ct_X7_status (ll : Launch) (g : GT) {h : Hp} {B : Nat → Nat} {d k fo tape bits sz : Nat → Int32} {num : Nat → Int64} {hk tp : Int32} {N : Nat}  (w_ : Int32) (hC : CR g h B (d, k, hk, fo, tape, tp, bits, sz, num)) (hI : SOk (d, k, hk, fo, tape, tp, bits, sz, num) N) (hN : N + 400 ≤ 204800) : MC ll g yX7_status cX7_status 4 (some .int) { frames := 10, cells := 0, slots := 0, locals := 380 } [.ref (B 0), .int w_] h (fun r h2 => r = some (.int (op_status (d, k, hk, fo, tape, tp, bits, sz, num) w_).1) ∧ CR g h2 B (op_status (d, k, hk, fo, tape, tp, bits, sz, num) w_).2) 0 0 := by
  have hC0 := hC
  have hI0 := hI
  obtain ⟨hB, cX, ⟨cW, cP, cY, cT, cM⟩, ⟨k2, cK, hk2⟩, cO, cR, cA, cS, cF⟩ := hC
  obtain ⟨⟨np, nw, T, p0, p1, e0, hnp, e1, hnw, e6, hT, hon, e3, hp0, e4, hp1, honp, hper, h10, h11, h12, hwc⟩, hkd, hkb, ⟨tn, htn, etp⟩, hsz⟩ := hI
  have x0 : h (B 0) = some (ob 7 [.ref (B 1), .ref (B 17), .int hk, .ref (B 33), .ref (B 37), .ref (B 38), .ref (B 40), .ref (B 41)]) := cX
  have x1 : h (B 1) = some (ob 6 [.ref (B 2), .int (d 0), .ref (B 3), .int (d 1), .ref (B 4), .ref (B 5), .int (bI (d 2 = 1)), .int (d 3), .int (d 4), .int (d 7)]) := cW
  have cP0 := cP
  obtain ⟨pf, F, x2, hpf, hF, hFd⟩ := cP0
  have cY0 := cY
  obtain ⟨wf, x3, hwo, hwy⟩ := cY0
  have x4 : h (B 4) = some (ai g 5 (ptF d)) := cT
  have cM0 := cM
  obtain ⟨tr, T9, s0, v0, s1, v1, x5, x6, x7, x8, e69, hT30, hR, hRB⟩ := cM0
  have eT9 : T9 = T := nI_inj (by omega) (by omega) (e69.symm.trans e6)
  subst eT9
  have cO0 := cO
  obtain ⟨otr, u5, u6, u8, a0, a1, a2, a3, a4, b0, b1, b2, b3, b4, x33, x34, x35, x36⟩ := cO0
  have cR0 := cR
  obtain ⟨rf, x37⟩ := cR0
  have cA0 := cA
  obtain ⟨ts, te, tt, tv, x38, x39⟩ := cA0
  have cS0 := cS
  obtain ⟨sf, nf, x40, hsf, hsh, hnm, hnv⟩ := cS0
  have x41 : h (B 41) = some (ai g 7 fo) := cF
  have qn : (d 0).toNatClampNeg = np := ix_cl e0 (by omega)
  have qw : (d 1).toNatClampNeg = nw := ix_cl e1 (by omega)
  have pC : ∀ p, p < np → h (B (9 + p)) = some (ob 1 [.int ((told d p) 0), .int ((told d p) 1), .int ((told d p) 2), .int ((told d p) 3), .int ((told d p) 4), .int ((told d p) 5), .int ((told d p) 6)]) := fun p hp => gP_at (by omega) (by rw [qn]; exact hp) cP
  refine mc_of (by decide) (Nat.le_of_ble_eq_true rfl) ?_
  intro K X r
  refine v_eqv (lv2 := [(0, .ref (B 0)), (1, .int w_)]) rfl ?_
  refine v_iload_n X dX7_status_0 1 rfl ?_
  refine v_iconst X dX7_status_1 (v := (-1)) (by decide) ?_
  refine v_bipush X dX7_status_2 (v := 6) (by decide) ?_
  refine v_cSi X [.int w_, .int (-1), .int 6] sX7_68 (ct_X7_within ll g w_ (-1) 6) dX7_status_4 rfl rfl ⟨rfl, rfl⟩ ⟨(Nat.le_of_ble_eq_true rfl), (Nat.le_of_ble_eq_true rfl)⟩ ⟨Nat.zero_le _, Nat.zero_le _⟩ (Nat.le_of_ble_eq_true rfl) ?_
  refine v_ifb_ne X dX7_status_7 (tgt := 17) (by decide) (fun c1 => ?_) (fun c1 => ?_)
  · refine v_iload_n X dX7_status_17 1 rfl ?_
    refine v_if_lt X dX7_status_18 (tgt := 28) (by decide) (fun c2 => ?_) (fun c2 => ?_)
    · have ew1 : w_ = -1 := wi_m1 c1 c2
      refine v_iconst X dX7_status_28 (v := 0) (by decide) ?_
      refine v_istore_n (lv1 := [(2, .int 0), (0, .ref (B 0)), (1, .int w_)]) X dX7_status_29 (by decide) rfl ?_
      refine v_iconst X dX7_status_30 (v := 0) (by decide) ?_
      refine v_istore_n (lv1 := [(3, .int 0), (2, .int 0), (0, .ref (B 0)), (1, .int w_)]) X dX7_status_31 (by decide) rfl ?_
      have L32 : ∀ (N : Nat) (q : Nat) (acc : Int32), (q ≤ 7) → (statF fo w_ 0 0 7 = statF fo w_ q acc (7 - q)) → 7 - q < N → VJ K 0 0 h 32 [(0, .ref (B 0)), (1, .int w_), (2, .int acc), (3, .int (nI q))] [] := by
        intro N
        induction N with
        | zero => intro q acc _ _ hm; exact absurd hm (Nat.not_lt_zero _)
        | succ N ih32 =>
          intro q acc hqq hq hm
          refine v_iload_n X dX7_status_32 3 rfl ?_
          refine v_bipush X dX7_status_33 (v := 7) (by decide) ?_
          refine v_icmp_ge X dX7_status_35 (tgt := 53) (by decide) (fun c3 => ?_) (fun c3 => ?_)
          · refine v_iload_n X dX7_status_53 2 rfl ?_
            have eqr : op_status (d, k, hk, fo, tape, tp, bits, sz, num) w_ = (acc, (d, k, hk, fo, tape, tp, bits, sz, num)) := by unfold op_status; dsimp only; rw [if_pos c1, statF_e hq (fun z => absurd (nI_lt z (by decide)) (Int32.not_lt.mpr c3))]
            have hCR : CR g h B (d, k, hk, fo, tape, tp, bits, sz, num) := ⟨hB, gX_e rfl cX, ⟨gW_e rfl ⟨rfl, rfl, rfl, rfl, rfl, rfl⟩ cW, gP_e (fun j hj => rfl) rfl (fun _ _ _ => rfl) cP, gY_e rfl (fun x c hx hk => rfl) rfl (fun _ _ _ => rfl) cY, gT_e rfl (fun _ _ _ => rfl) cT, gM_e (fun j h1 h2 => rfl) (fun _ _ _ => rfl) cM⟩, ⟨k2, gWd_e (fun j h1 h2 => rfl) (fun x c hx hk => rfl) cK, hk2⟩, gO_e (fun j h1 h2 => rfl) cO, gR_e rfl cR, gA_e (fun j h1 h2 => rfl) cA, gS_e (fun j h1 h2 => rfl) cS, gF_e rfl cF⟩
            exact v_iret X r dX7_status_54 (Nat.le_refl _) (Nat.le_refl _) ⟨by rw [eqr], by rw [eqr]; exact hCR⟩
          · have hq7 : q < 7 := by
              rcases Nat.lt_or_ge q 7 with z | z
              · exact z
              · exact absurd (nI_le z (by omega)) c3
            refine v_iload_n X dX7_status_38 2 rfl ?_
            refine v_aload_n X dX7_status_39 0 rfl ?_
            refine v_get X fX7_60 x0 rfl dX7_status_40 ?_
            refine v_iload_n X dX7_status_43 3 rfl ?_
            refine v_ialdK X q x41 rfl hq7 (by decide) dX7_status_44 ?_
            refine v_iadd X dX7_status_45 ?_
            refine v_istore_n (lv1 := [(2, .int (acc + (fo q))), (0, .ref (B 0)), (1, .int w_), (3, .int (nI q))]) X dX7_status_46 (by decide) rfl ?_
            refine v_iinc (v := (nI q) + 1) (lv1 := [(3, .int ((nI q) + 1)), (2, .int (acc + (fo q))), (0, .ref (B 0)), (1, .int w_)]) X dX7_status_47 3 rfl rfl (by decide) rfl ?_
            refine v_goto X dX7_status_50 (tgt := 32) (by decide) ?_
            refine v_lv (lv2 := [(0, .ref (B 0)), (1, .int w_), (2, .int (acc + (fo q))), (3, .int ((nI q) + 1))]) [2, 3, 1, 0] rfl ?_
            refine v_eqv (lv2 := [(0, .ref (B 0)), (1, .int w_), (2, .int (acc + fo q)), (3, .int (nI (q + 1)))]) (by rw [nI_1]) ?_
            exact ih32 (q + 1) (acc + fo q) (by omega) (by have z := statF_s hq hq7; rw [if_pos (Or.inl ew1)] at z; exact z) (by omega)
      refine v_lv (lv2 := [(0, .ref (B 0)), (1, .int w_), (2, .int 0), (3, .int 0)]) [2, 3, 1, 0] rfl ?_
      refine v_eqv (lv2 := [(0, .ref (B 0)), (1, .int w_), (2, .int 0), (3, .int (nI 0))]) rfl ?_
      exact L32 _ 0 0 (Nat.zero_le _) rfl (Nat.lt_succ_self _)
    · obtain ⟨jw, hjw, ejw⟩ := wi_c 6 rfl (by decide) (show wi w_ 0 6 from ⟨Int32.not_lt.mp c2, c1.2⟩)
      refine v_aload_n X dX7_status_21 0 rfl ?_
      refine v_get X fX7_60 x0 rfl dX7_status_22 ?_
      refine v_iload_n X dX7_status_25 1 rfl ?_
      refine v_ialdK X jw x41 ejw (by omega) (by decide) dX7_status_26 ?_
      have eqr : op_status (d, k, hk, fo, tape, tp, bits, sz, num) w_ = (fo jw, (d, k, hk, fo, tape, tp, bits, sz, num)) := by unfold op_status; dsimp only; rw [if_pos c1, ejw, statF_at (by omega)]
      have hCR : CR g h B (d, k, hk, fo, tape, tp, bits, sz, num) := ⟨hB, gX_e rfl cX, ⟨gW_e rfl ⟨rfl, rfl, rfl, rfl, rfl, rfl⟩ cW, gP_e (fun j hj => rfl) rfl (fun _ _ _ => rfl) cP, gY_e rfl (fun x c hx hk => rfl) rfl (fun _ _ _ => rfl) cY, gT_e rfl (fun _ _ _ => rfl) cT, gM_e (fun j h1 h2 => rfl) (fun _ _ _ => rfl) cM⟩, ⟨k2, gWd_e (fun j h1 h2 => rfl) (fun x c hx hk => rfl) cK, hk2⟩, gO_e (fun j h1 h2 => rfl) cO, gR_e rfl cR, gA_e (fun j h1 h2 => rfl) cA, gS_e (fun j h1 h2 => rfl) cS, gF_e rfl cF⟩
      exact v_iret X r dX7_status_27 (Nat.le_refl _) (Nat.le_refl _) ⟨by rw [eqr], by rw [eqr]; exact hCR⟩
  · refine v_aload_n X dX7_status_10 0 rfl ?_
    refine v_ldc X dX7_status_11 kX7_72 ?_
    refine v_cVi X [.int (-1000000001)] sX7_73 (ct_X7_finding (pe := 0) (wy := 0) (pt := 0) (mt := 0) (np := 0) (nw := 0) (oc := 0) (fi := 0) (se := 0) (lo := 0) (q := 0) (v := (-1000000001)) ll g x0 x41 (by decide) (by decide)) x0 rfl dX7_status_13 rfl rfl ⟨rfl, rfl⟩ ⟨(Nat.le_of_ble_eq_true rfl), (Nat.le_of_ble_eq_true rfl)⟩ ⟨Nat.zero_le _, Nat.zero_le _⟩ (Nat.le_of_ble_eq_true rfl) ?_
    have eqr : op_status (d, k, hk, fo, tape, tp, bits, sz, num) w_ = ((-1000000001), (d, k, hk, fnd fo 0, tape, tp, bits, sz, num)) := by unfold op_status; dsimp only; rw [if_neg c1]
    have hCR : CR g (hU h (B 41) (ai g 7 (fnd fo 0))) B (d, k, hk, fnd fo 0, tape, tp, bits, sz, num) := ⟨hB, gX_e (hU_n (hB 0 41 (by omega) (by omega) (by omega))) cX, ⟨gW_e (hU_n (hB 1 41 (by omega) (by omega) (by omega))) ⟨rfl, rfl, rfl, rfl, rfl, rfl⟩ cW, gP_e (fun j hj => (hU_n (hB j 41 (by omega) (by omega) (by omega)))) rfl (fun _ _ _ => rfl) cP, gY_e (hU_n (hB 3 41 (by omega) (by omega) (by omega))) (fun x c hx hk => (hU_n (kd_ne hx x41 hk rfl))) rfl (fun _ _ _ => rfl) cY, gT_e (hU_n (hB 4 41 (by omega) (by omega) (by omega))) (fun _ _ _ => rfl) cT, gM_e (fun j h1 h2 => (hU_n (hB j 41 (by omega) (by omega) (by omega)))) (fun _ _ _ => rfl) cM⟩, ⟨k2, gWd_e (fun j h1 h2 => (hU_n (hB (j + 16) 41 (by omega) (by omega) (by omega)))) (fun x c hx hk => (hU_n (kd_ne hx x41 hk rfl))) cK, hk2⟩, gO_e (fun j h1 h2 => (hU_n (hB j 41 (by omega) (by omega) (by omega)))) cO, gR_e (hU_n (hB 37 41 (by omega) (by omega) (by omega))) cR, gA_e (fun j h1 h2 => (hU_n (hB j 41 (by omega) (by omega) (by omega)))) cA, gS_e (fun j h1 h2 => (hU_n (hB j 41 (by omega) (by omega) (by omega)))) cS, (hU_s : _)⟩
    exact v_iret X r dX7_status_16 (Nat.le_refl _) (Nat.le_refl _) ⟨by rw [eqr], by rw [eqr]; exact hCR⟩
set_option maxHeartbeats 4000000 in
set_option maxRecDepth 100000 in
theorem ct_X7_wipe (ll : Launch) (g : GT) {h : Hp} {B : Nat → Nat} {d k fo tape bits sz : Nat → Int32} {num : Nat → Int64} {hk tp : Int32} {N : Nat}  (hC : CR g h B (d, k, hk, fo, tape, tp, bits, sz, num)) (hI : SOk (d, k, hk, fo, tape, tp, bits, sz, num) N) (hN : N + 400 ≤ 204800) : MC ll g yX7_wipe cX7_wipe 2 (some .int) { frames := 10, cells := 0, slots := 0, locals := 380 } [.ref (B 0)] h (fun r h2 => r = some (.int (op_wipe (d, k, hk, fo, tape, tp, bits, sz, num)).1) ∧ CR g h2 B (op_wipe (d, k, hk, fo, tape, tp, bits, sz, num)).2) 0 0 := by
  have hC0 := hC
  have hI0 := hI
  obtain ⟨hB, cX, ⟨cW, cP, cY, cT, cM⟩, ⟨k2, cK, hk2⟩, cO, cR, cA, cS, cF⟩ := hC
  obtain ⟨⟨np, nw, T, p0, p1, e0, hnp, e1, hnw, e6, hT, hon, e3, hp0, e4, hp1, honp, hper, h10, h11, h12, hwc⟩, hkd, hkb, ⟨tn, htn, etp⟩, hsz⟩ := hI
  have x0 : h (B 0) = some (ob 7 [.ref (B 1), .ref (B 17), .int hk, .ref (B 33), .ref (B 37), .ref (B 38), .ref (B 40), .ref (B 41)]) := cX
  have x1 : h (B 1) = some (ob 6 [.ref (B 2), .int (d 0), .ref (B 3), .int (d 1), .ref (B 4), .ref (B 5), .int (bI (d 2 = 1)), .int (d 3), .int (d 4), .int (d 7)]) := cW
  have cP0 := cP
  obtain ⟨pf, F, x2, hpf, hF, hFd⟩ := cP0
  have cY0 := cY
  obtain ⟨wf, x3, hwo, hwy⟩ := cY0
  have x4 : h (B 4) = some (ai g 5 (ptF d)) := cT
  have cM0 := cM
  obtain ⟨tr, T9, s0, v0, s1, v1, x5, x6, x7, x8, e69, hT30, hR, hRB⟩ := cM0
  have eT9 : T9 = T := nI_inj (by omega) (by omega) (e69.symm.trans e6)
  subst eT9
  have cO0 := cO
  obtain ⟨otr, u5, u6, u8, a0, a1, a2, a3, a4, b0, b1, b2, b3, b4, x33, x34, x35, x36⟩ := cO0
  have cR0 := cR
  obtain ⟨rf, x37⟩ := cR0
  have cA0 := cA
  obtain ⟨ts, te, tt, tv, x38, x39⟩ := cA0
  have cS0 := cS
  obtain ⟨sf, nf, x40, hsf, hsh, hnm, hnv⟩ := cS0
  have x41 : h (B 41) = some (ai g 7 fo) := cF
  have qn : (d 0).toNatClampNeg = np := ix_cl e0 (by omega)
  have qw : (d 1).toNatClampNeg = nw := ix_cl e1 (by omega)
  have pC : ∀ p, p < np → h (B (9 + p)) = some (ob 1 [.int ((told d p) 0), .int ((told d p) 1), .int ((told d p) 2), .int ((told d p) 3), .int ((told d p) 4), .int ((told d p) 5), .int ((told d p) 6)]) := fun p hp => gP_at (by omega) (by rw [qn]; exact hp) cP
  refine mc_of (by decide) (Nat.le_of_ble_eq_true rfl) ?_
  intro K X r
  refine v_eqv (lv2 := [(0, .ref (B 0))]) rfl ?_
  refine v_aload_n X dX7_wipe_0 0 rfl ?_
  refine v_get X fX7_50 x0 rfl dX7_wipe_1 ?_
  refine v_get X fX7_235 x38 rfl dX7_wipe_4 ?_
  refine v_istore_n (lv1 := [(1, .int tp), (0, .ref (B 0))]) X dX7_wipe_7 (by decide) rfl ?_
  refine v_aload_n X dX7_wipe_8 1 rfl ?_
  refine v_get X fX7_50 x0 rfl dX7_wipe_9 ?_
  refine v_iconst X dX7_wipe_12 (v := 0) (by decide) ?_
  refine v_putE (h2 := (hU h (B 38) (ob 4 [.ref (B 39), .int 0, .int ts, .int te, .int tt, .int tv]))) X fX7_235 tyX4_ok nmX4 rfl pd_I x38 rfl rfl (ltb rfl) dX7_wipe_13 rfl ?_
  refine v_iload_n X dX7_wipe_16 0 rfl ?_
  have eqr : op_wipe (d, k, hk, fo, tape, tp, bits, sz, num) = (tp, (d, k, hk, fo, tape, 0, bits, sz, num)) := by rfl
  have hCR : CR g (hU h (B 38) (ob 4 [.ref (B 39), .int 0, .int ts, .int te, .int tt, .int tv])) B (d, k, hk, fo, tape, 0, bits, sz, num) := ⟨hB, gX_e (hU_n (hB 0 38 (by omega) (by omega) (by omega))) cX, ⟨gW_e (hU_n (hB 1 38 (by omega) (by omega) (by omega))) ⟨rfl, rfl, rfl, rfl, rfl, rfl⟩ cW, gP_e (fun j hj => (hU_n (hB j 38 (by omega) (by omega) (by omega)))) rfl (fun _ _ _ => rfl) cP, gY_e (hU_n (hB 3 38 (by omega) (by omega) (by omega))) (fun x c hx hk => (hU_n (kd_ne hx x38 hk rfl))) rfl (fun _ _ _ => rfl) cY, gT_e (hU_n (hB 4 38 (by omega) (by omega) (by omega))) (fun _ _ _ => rfl) cT, gM_e (fun j h1 h2 => (hU_n (hB j 38 (by omega) (by omega) (by omega)))) (fun _ _ _ => rfl) cM⟩, ⟨k2, gWd_e (fun j h1 h2 => (hU_n (hB (j + 16) 38 (by omega) (by omega) (by omega)))) (fun x c hx hk => (hU_n (kd_ne hx x38 hk rfl))) cK, hk2⟩, gO_e (fun j h1 h2 => (hU_n (hB j 38 (by omega) (by omega) (by omega)))) cO, gR_e (hU_n (hB 37 38 (by omega) (by omega) (by omega))) cR, ⟨ts, te, tt, tv, hU_s, ((hU_n (hB 39 38 (by omega) (by omega) (by omega))).trans x39)⟩, gS_e (fun j h1 h2 => (hU_n (hB j 38 (by omega) (by omega) (by omega)))) cS, gF_e (hU_n (hB 41 38 (by omega) (by omega) (by omega))) cF⟩
  exact v_iret X r dX7_wipe_17 (Nat.le_refl _) (Nat.le_refl _) ⟨by rw [eqr], by rw [eqr]; exact hCR⟩
set_option maxHeartbeats 4000000 in
set_option maxRecDepth 100000 in
theorem ct_X7_tear (ll : Launch) (g : GT) {h : Hp} {B : Nat → Nat} {d k fo tape bits sz : Nat → Int32} {num : Nat → Int64} {hk tp : Int32} {N : Nat}  (hC : CR g h B (d, k, hk, fo, tape, tp, bits, sz, num)) (hI : SOk (d, k, hk, fo, tape, tp, bits, sz, num) N) (hN : N + 400 ≤ 204800) : MC ll g yX7_tear cX7_tear 2 (some .int) { frames := 10, cells := 0, slots := 0, locals := 380 } [.ref (B 0)] h (fun r h2 => r = some (.int (op_tear (d, k, hk, fo, tape, tp, bits, sz, num)).1) ∧ CR g h2 B (op_tear (d, k, hk, fo, tape, tp, bits, sz, num)).2) 0 0 := by
  have hC0 := hC
  have hI0 := hI
  obtain ⟨hB, cX, ⟨cW, cP, cY, cT, cM⟩, ⟨k2, cK, hk2⟩, cO, cR, cA, cS, cF⟩ := hC
  obtain ⟨⟨np, nw, T, p0, p1, e0, hnp, e1, hnw, e6, hT, hon, e3, hp0, e4, hp1, honp, hper, h10, h11, h12, hwc⟩, hkd, hkb, ⟨tn, htn, etp⟩, hsz⟩ := hI
  have x0 : h (B 0) = some (ob 7 [.ref (B 1), .ref (B 17), .int hk, .ref (B 33), .ref (B 37), .ref (B 38), .ref (B 40), .ref (B 41)]) := cX
  have x1 : h (B 1) = some (ob 6 [.ref (B 2), .int (d 0), .ref (B 3), .int (d 1), .ref (B 4), .ref (B 5), .int (bI (d 2 = 1)), .int (d 3), .int (d 4), .int (d 7)]) := cW
  have cP0 := cP
  obtain ⟨pf, F, x2, hpf, hF, hFd⟩ := cP0
  have cY0 := cY
  obtain ⟨wf, x3, hwo, hwy⟩ := cY0
  have x4 : h (B 4) = some (ai g 5 (ptF d)) := cT
  have cM0 := cM
  obtain ⟨tr, T9, s0, v0, s1, v1, x5, x6, x7, x8, e69, hT30, hR, hRB⟩ := cM0
  have eT9 : T9 = T := nI_inj (by omega) (by omega) (e69.symm.trans e6)
  subst eT9
  have cO0 := cO
  obtain ⟨otr, u5, u6, u8, a0, a1, a2, a3, a4, b0, b1, b2, b3, b4, x33, x34, x35, x36⟩ := cO0
  have cR0 := cR
  obtain ⟨rf, x37⟩ := cR0
  have cA0 := cA
  obtain ⟨ts, te, tt, tv, x38, x39⟩ := cA0
  have cS0 := cS
  obtain ⟨sf, nf, x40, hsf, hsh, hnm, hnv⟩ := cS0
  have x41 : h (B 41) = some (ai g 7 fo) := cF
  have qn : (d 0).toNatClampNeg = np := ix_cl e0 (by omega)
  have qw : (d 1).toNatClampNeg = nw := ix_cl e1 (by omega)
  have pC : ∀ p, p < np → h (B (9 + p)) = some (ob 1 [.int ((told d p) 0), .int ((told d p) 1), .int ((told d p) 2), .int ((told d p) 3), .int ((told d p) 4), .int ((told d p) 5), .int ((told d p) 6)]) := fun p hp => gP_at (by omega) (by rw [qn]; exact hp) cP
  refine mc_of (by decide) (Nat.le_of_ble_eq_true rfl) ?_
  intro K X r
  refine v_eqv (lv2 := [(0, .ref (B 0))]) rfl ?_
  refine v_aload_n X dX7_tear_0 0 rfl ?_
  refine v_get X fX7_19 x0 rfl dX7_tear_1 ?_
  refine v_if_eq X dX7_tear_4 (tgt := 11) (by decide) (fun c1 => ?_) (fun c1 => ?_)
  · refine v_iconst X dX7_tear_11 (v := 0) (by decide) ?_
    refine v_istore_n (lv1 := [(1, .int 0), (0, .ref (B 0))]) X dX7_tear_12 (by decide) rfl ?_
    refine v_aload_n X dX7_tear_13 1 rfl ?_
    refine v_iconst X dX7_tear_14 (v := 0) (by decide) ?_
    refine v_putE (h2 := (hU h (B 0) (ob 7 [.ref (B 1), .ref (B 17), .int 0, .ref (B 33), .ref (B 37), .ref (B 38), .ref (B 40), .ref (B 41)]))) X fX7_19 tyX7_ok nmX7 rfl pd_Z x0 rfl rfl (ltb rfl) dX7_tear_15 rfl ?_
    refine v_iload_n X dX7_tear_18 0 rfl ?_
    have eqr : op_tear (d, k, hk, fo, tape, tp, bits, sz, num) = (0, (d, k, 0, fo, tape, tp, bits, sz, num)) := by unfold op_tear; dsimp only; rw [if_pos c1]
    have hCR : CR g (hU h (B 0) (ob 7 [.ref (B 1), .ref (B 17), .int 0, .ref (B 33), .ref (B 37), .ref (B 38), .ref (B 40), .ref (B 41)])) B (d, k, 0, fo, tape, tp, bits, sz, num) := ⟨hB, hU_s, ⟨gW_e (hU_n (hB 1 0 (by omega) (by omega) (by omega))) ⟨rfl, rfl, rfl, rfl, rfl, rfl⟩ cW, gP_e (fun j hj => (hU_n (hB j 0 (by omega) (by omega) (by omega)))) rfl (fun _ _ _ => rfl) cP, gY_e (hU_n (hB 3 0 (by omega) (by omega) (by omega))) (fun x c hx hk => (hU_n (kd_ne hx x0 hk rfl))) rfl (fun _ _ _ => rfl) cY, gT_e (hU_n (hB 4 0 (by omega) (by omega) (by omega))) (fun _ _ _ => rfl) cT, gM_e (fun j h1 h2 => (hU_n (hB j 0 (by omega) (by omega) (by omega)))) (fun _ _ _ => rfl) cM⟩, ⟨k2, gWd_e (fun j h1 h2 => (hU_n (hB (j + 16) 0 (by omega) (by omega) (by omega)))) (fun x c hx hk => (hU_n (kd_ne hx x0 hk rfl))) cK, fun z => absurd z (by decide)⟩, gO_e (fun j h1 h2 => (hU_n (hB j 0 (by omega) (by omega) (by omega)))) cO, gR_e (hU_n (hB 37 0 (by omega) (by omega) (by omega))) cR, gA_e (fun j h1 h2 => (hU_n (hB j 0 (by omega) (by omega) (by omega)))) cA, gS_e (fun j h1 h2 => (hU_n (hB j 0 (by omega) (by omega) (by omega)))) cS, gF_e (hU_n (hB 41 0 (by omega) (by omega) (by omega))) cF⟩
    exact v_iret X r dX7_tear_19 (Nat.le_refl _) (Nat.le_refl _) ⟨by rw [eqr], by rw [eqr]; exact hCR⟩
  · refine v_iconst X dX7_tear_7 (v := 1) (by decide) ?_
    refine v_goto X dX7_tear_8 (tgt := 12) (by decide) ?_
    refine v_istore_n (lv1 := [(1, .int 1), (0, .ref (B 0))]) X dX7_tear_12 (by decide) rfl ?_
    refine v_aload_n X dX7_tear_13 1 rfl ?_
    refine v_iconst X dX7_tear_14 (v := 0) (by decide) ?_
    refine v_putE (h2 := (hU h (B 0) (ob 7 [.ref (B 1), .ref (B 17), .int 0, .ref (B 33), .ref (B 37), .ref (B 38), .ref (B 40), .ref (B 41)]))) X fX7_19 tyX7_ok nmX7 rfl pd_Z x0 rfl rfl (ltb rfl) dX7_tear_15 rfl ?_
    refine v_iload_n X dX7_tear_18 0 rfl ?_
    have eqr : op_tear (d, k, hk, fo, tape, tp, bits, sz, num) = (1, (d, k, 0, fo, tape, tp, bits, sz, num)) := by unfold op_tear; dsimp only; rw [if_neg c1]
    have hCR : CR g (hU h (B 0) (ob 7 [.ref (B 1), .ref (B 17), .int 0, .ref (B 33), .ref (B 37), .ref (B 38), .ref (B 40), .ref (B 41)])) B (d, k, 0, fo, tape, tp, bits, sz, num) := ⟨hB, hU_s, ⟨gW_e (hU_n (hB 1 0 (by omega) (by omega) (by omega))) ⟨rfl, rfl, rfl, rfl, rfl, rfl⟩ cW, gP_e (fun j hj => (hU_n (hB j 0 (by omega) (by omega) (by omega)))) rfl (fun _ _ _ => rfl) cP, gY_e (hU_n (hB 3 0 (by omega) (by omega) (by omega))) (fun x c hx hk => (hU_n (kd_ne hx x0 hk rfl))) rfl (fun _ _ _ => rfl) cY, gT_e (hU_n (hB 4 0 (by omega) (by omega) (by omega))) (fun _ _ _ => rfl) cT, gM_e (fun j h1 h2 => (hU_n (hB j 0 (by omega) (by omega) (by omega)))) (fun _ _ _ => rfl) cM⟩, ⟨k2, gWd_e (fun j h1 h2 => (hU_n (hB (j + 16) 0 (by omega) (by omega) (by omega)))) (fun x c hx hk => (hU_n (kd_ne hx x0 hk rfl))) cK, fun z => absurd z (by decide)⟩, gO_e (fun j h1 h2 => (hU_n (hB j 0 (by omega) (by omega) (by omega)))) cO, gR_e (hU_n (hB 37 0 (by omega) (by omega) (by omega))) cR, gA_e (fun j h1 h2 => (hU_n (hB j 0 (by omega) (by omega) (by omega)))) cA, gS_e (fun j h1 h2 => (hU_n (hB j 0 (by omega) (by omega) (by omega)))) cS, gF_e (hU_n (hB 41 0 (by omega) (by omega) (by omega))) cF⟩
    exact v_iret X r dX7_tear_19 (Nat.le_refl _) (Nat.le_refl _) ⟨by rw [eqr], by rw [eqr]; exact hCR⟩
