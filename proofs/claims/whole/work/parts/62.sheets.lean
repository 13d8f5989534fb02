/-! ===== the class: bytes and sheets ===== -/
theorem sh_b {x s : Int32} {k : Nat} (hk : k = 0 ∨ k = 8 ∨ k = 16 ∨ k = 24) (h1 : (s.toBitVec.smod 32).toNat = k) : (x >>> s).toBitVec.toNat % 256 = x.toBitVec.toNat / 2 ^ k % 256 := by
  have e := pk_shr x s k h1
  rw [Int.shiftRight_eq_div_pow] at e
  have a : x.toInt = if 2 * x.toBitVec.toNat < 2 ^ 32 then (x.toBitVec.toNat : Int) else (x.toBitVec.toNat : Int) - (2 ^ 32 : Nat) := BitVec.toInt_eq_toNat_cond x.toBitVec
  have b : (x >>> s).toInt = if 2 * (x >>> s).toBitVec.toNat < 2 ^ 32 then ((x >>> s).toBitVec.toNat : Int) else ((x >>> s).toBitVec.toNat : Int) - (2 ^ 32 : Nat) := BitVec.toInt_eq_toNat_cond (x >>> s).toBitVec
  have l1 := x.toBitVec.isLt
  have l2 := (x >>> s).toBitVec.isLt
  rw [e] at b
  generalize (x >>> s).toBitVec.toNat = m at *
  generalize x.toBitVec.toNat = n at *
  rw [a] at b
  by_cases h : 2 * n < 2 ^ 32
  · rw [if_pos h] at b
    by_cases h3 : 2 * m < 2 ^ 32
    · rw [if_pos h3] at b
      rcases hk with rfl | rfl | rfl | rfl <;> omega
    · rw [if_neg h3] at b
      rcases hk with rfl | rfl | rfl | rfl <;> omega
  · rw [if_neg h] at b
    by_cases h3 : 2 * m < 2 ^ 32
    · rw [if_pos h3] at b
      rcases hk with rfl | rfl | rfl | rfl <;> omega
    · rw [if_neg h3] at b
      rcases hk with rfl | rfl | rfl | rfl <;> omega
theorem by_eq {x : Int32} {k : Nat} (hk : k < 4) : (x.toUInt32 >>> ((8 * nI k).toUInt32 &&& Int32.toUInt32 31)).toInt32 &&& 255 = byA x k := by
  unfold byA
  rw [pk_and _ 8 (by decide), pk_and _ 8 (by decide)]
  have hc : k = 0 ∨ k = 1 ∨ k = 2 ∨ k = 3 := by omega
  rcases hc with rfl | rfl | rfl | rfl
  · rw [pk_ushr x _ 0 (by decide), show (2 : Nat) ^ 8 = 256 from rfl, sh_b (k := 0) (by decide) (by decide)]
  · rw [pk_ushr x _ 8 (by decide), show (2 : Nat) ^ 8 = 256 from rfl, sh_b (k := 8) (by decide) (by decide)]
  · rw [pk_ushr x _ 16 (by decide), show (2 : Nat) ^ 8 = 256 from rfl, sh_b (k := 16) (by decide) (by decide)]
  · rw [pk_ushr x _ 24 (by decide), show (2 : Nat) ^ 8 = 256 from rfl, sh_b (k := 24) (by decide) (by decide)]
theorem row_iff {z f n : Int32} {zz : Nat} (hz : z = nI zz) (h4 : zz ≤ 40) : rowC z f n ↔ (¬ f < 0 ∧ ¬ n < 0 ∧ ¬ z - f < n) := by
  refine ⟨fun q => ⟨q.1, q.2.1, q.2.2.2⟩, fun q => ⟨q.1, q.2.1, ?_, q.2.2⟩⟩
  obtain ⟨ff, nn, rfl, rfl, h⟩ := rowOk_n hz h4 q.2.1 q.1 q.2.2
  rw [hz]
  exact Int32.not_lt.mpr (nI_le (by omega) (by omega))
theorem gS_new {g : GT} {h h2 : Hp} {B : Nat → Nat} {bits sz : Nat → Int32} {num : Nat → Int64} {t : Nat} {b z : Int32} (ht : t < 4) (H : gS g h B bits sz num) (e40 : h2 (B 40) = h (B 40)) (et : h2 (B (42 + 2 * t)) = some (ob 2 [.int b, .int z, .ref (B (43 + 2 * t))])) (en : h2 (B (43 + 2 * t)) = some (al g 40 (fun _ => 0))) (es : ∀ s, s < 4 → s ≠ t → h2 (B (42 + 2 * s)) = h (B (42 + 2 * s))) (eo : ∀ s, s < 4 → s ≠ t → h2 (B (43 + 2 * s)) = h (B (43 + 2 * s))) : gS g h2 B (upd bits t b) (upd sz t z) (zeroS num (40 * t) 40) := by
  obtain ⟨sf, nf, a1, a2, a3, a4, a5⟩ := H
  refine ⟨sf, fun s => if s = t then (fun _ => 0) else nf s, e40.trans a1, a2, fun s hs => ?_, fun s hs => ?_, fun s j hs hj => ?_⟩
  · by_cases y : s = t
    · subst y; rw [pk_us, pk_us]; exact et
    · rw [pk_un y, pk_un y]; exact (es s hs y).trans (a3 s hs)
  · by_cases y : s = t
    · subst y; simp only [if_pos]; exact en
    · simp only [if_neg y]; exact (eo s hs y).trans (a4 s hs)
  · unfold zeroS
    by_cases y : s = t
    · subst y; simp only [if_pos]; rw [if_pos (by omega)]
    · simp only [if_neg y]; rw [if_neg (by omega)]; exact a5 s j hs hj
theorem cp_in {num : Nat → Int64} {nf : Nat → Nat → Int64} {s t ff tt nn : Nat} (hs : s < 4) (ht : t < 4) (h1 : ff + nn ≤ 40) (h2 : tt + nn ≤ 40) (hnv : ∀ s j, s < 4 → j < 40 → nf s j = num (40 * s + j)) : ∀ j, j < 40 → va_cpy (nf s) (nf t) ff tt nn j = va_cpy num num (40 * s + ff) (40 * t + tt) nn (40 * t + j) := by
  intro j hj
  by_cases y : tt ≤ j ∧ j < tt + nn
  · rw [pk_cpy_in y.1 y.2, pk_cpy_in (by omega) (by omega), hnv s _ hs (by omega), show 40 * s + (ff + (j - tt)) = 40 * s + ff + (40 * t + j - (40 * t + tt)) by omega]
  · rw [pk_cpy_out (by omega), pk_cpy_out (by omega), hnv t j ht hj]
theorem cp_out {num : Nat → Int64} {s t ff tt nn : Nat} (h2 : tt + nn ≤ 40) : ∀ x j, x < 4 → x ≠ t → j < 40 → va_cpy num num (40 * s + ff) (40 * t + tt) nn (40 * x + j) = num (40 * x + j) := fun x j _ hx hj => pk_cpy_out (by omega)
set_option maxHeartbeats 4000000 in
set_option maxRecDepth 100000 in
theorem ct_X7_feed (ll : Launch) (g : GT) {h : Hp} {B : Nat → Nat} {d k fo tape bits sz : Nat → Int32} {num : Nat → Int64} {hk tp : Int32} {N : Nat}  (bytes : Int32) (n : Int32) (hC : CR g h B (d, k, hk, fo, tape, tp, bits, sz, num)) (hI : SOk (d, k, hk, fo, tape, tp, bits, sz, num) N) (hN : N + 400 ≤ 204800) : MC ll g yX7_feed cX7_feed 4 (some .int) { frames := 10, cells := 0, slots := 0, locals := 380 } [.ref (B 0), .int bytes, .int n] h (fun r h2 => r = some (.int (op_feed (d, k, hk, fo, tape, tp, bits, sz, num) bytes n).1) ∧ CR g h2 B (op_feed (d, k, hk, fo, tape, tp, bits, sz, num) bytes n).2) 0 0 := by
  have hC0 := hC
  have hI0 := hI
  obtain ⟨hB, cX, ⟨cW, cP, cY, cT, cM⟩, ⟨k2, cK, hk2⟩, cO, cR, cA, cS, cF⟩ := hC
  obtain ⟨⟨np, nw, T, p0, p1, e0, hnp, e1, hnw, e6, hT, hon, e3, hp0, e4, hp1, honp, hper, h10, h11, h12, hwc⟩, hkd, hkb, ⟨tn, htn, etp⟩, hsz⟩ := hI
  have x0 : h (B 0) = some (ob 7 [.ref (B 1), .ref (B 17), .int hk, .ref (B 33), .ref (B 37), .ref (B 38), .ref (B 40), .ref (B 41)]) := cX
  have x1 : h (B 1) = some (ob 6 [.ref (B 2), .int (d 0), .ref (B 3), .int (d 1), .ref (B 4), .ref (B 5), .int (bI (d 2 = 1)), .int (d 3), .int (d 4), .int (d 7)]) := cW
  have cP0 := cP
  obtain ⟨pf, F, x2, hpf, hF, hFd⟩ := cP0
  have cY0 := cY
  obtain ⟨wf, x3, hwo, hwy⟩ := cY0
  have x4 : h (B 4) = some (ai g 5 (ptF d)) := cT
  have cM0 := cM
  obtain ⟨tr, T9, s0, v0, s1, v1, x5, x6, x7, x8, e69, hT30, hR, hRB⟩ := cM0
  have eT9 : T9 = T := nI_inj (by omega) (by omega) (e69.symm.trans e6)
  subst eT9
  have cO0 := cO
  obtain ⟨otr, u5, u6, u8, a0, a1, a2, a3, a4, b0, b1, b2, b3, b4, x33, x34, x35, x36⟩ := cO0
  have cR0 := cR
  obtain ⟨rf, x37⟩ := cR0
  have cA0 := cA
  obtain ⟨ts, te, tt, tv, x38, x39⟩ := cA0
  have cS0 := cS
  obtain ⟨sf, nf, x40, hsf, hsh, hnm, hnv⟩ := cS0
  have x41 : h (B 41) = some (ai g 7 fo) := cF
  have qn : (d 0).toNatClampNeg = np := ix_cl e0 (by omega)
  have qw : (d 1).toNatClampNeg = nw := ix_cl e1 (by omega)
  have pC : ∀ p, p < np → h (B (9 + p)) = some (ob 1 [.int ((told d p) 0), .int ((told d p) 1), .int ((told d p) 2), .int ((told d p) 3), .int ((told d p) 4), .int ((told d p) 5), .int ((told d p) 6)]) := fun p hp => gP_at (by omega) (by rw [qn]; exact hp) cP
  refine mc_of (by decide) (Nat.le_of_ble_eq_true rfl) ?_
  intro K X r
  refine v_eqv (lv2 := [(0, .ref (B 0)), (1, .int bytes), (2, .int n)]) rfl ?_
  refine v_iload_n X dX7_feed_0 2 rfl ?_
  refine v_iconst X dX7_feed_1 (v := 1) (by decide) ?_
  refine v_iconst X dX7_feed_2 (v := 4) (by decide) ?_
  refine v_cSi X [.int n, .int 1, .int 4] sX7_68 (ct_X7_within ll g n 1 4) dX7_feed_3 rfl rfl ⟨rfl, rfl⟩ ⟨(Nat.le_of_ble_eq_true rfl), (Nat.le_of_ble_eq_true rfl)⟩ ⟨Nat.zero_le _, Nat.zero_le _⟩ (Nat.le_of_ble_eq_true rfl) ?_
  refine v_ifb_ne X dX7_feed_6 (tgt := 16) (by decide) (fun c1 => ?_) (fun c1 => ?_)
  · refine v_aload_n X dX7_feed_16 0 rfl ?_
    refine v_get X fX7_50 x0 rfl dX7_feed_17 ?_
    refine v_get X fX7_235 x38 rfl dX7_feed_20 ?_
    refine v_iload_n X dX7_feed_23 2 rfl ?_
    refine v_iadd X dX7_feed_24 ?_
    refine v_bipush X dX7_feed_25 (v := 100) (by decide) ?_
    refine v_icmp_le X dX7_feed_27 (tgt := 37) (by decide) (fun c2 => ?_) (fun c2 => ?_)
    · obtain ⟨nn, hn1, hn4, en⟩ := wi_1 4 rfl (by decide) c1
      have qn2 : pr n = nn := ix_cl en (by omega)
      have qt : pr tp = tn := ix_cl etp (by omega)
      have hle : tn + nn ≤ 100 := (nI_leI (by omega) (by decide)).mp (by have z := c2; rw [etp, en, nI_add] at z; exact z)
      refine v_iload_n X dX7_feed_37 2 rfl ?_
      refine v_iconst X dX7_feed_38 (v := 1) (by decide) ?_
      refine v_isub X dX7_feed_39 ?_
      refine v_istore_n (lv1 := [(3, .int (n - 1)), (0, .ref (B 0)), (1, .int bytes), (2, .int n)]) X dX7_feed_40 (by decide) rfl ?_
      have L41 : ∀ (N : Nat) (q : Nat) (mm : Nat → Int32), (q ≤ nn) → (feedF bytes tape tn nn = feedF bytes mm (tn + nn - q) q) → q < N → VJ K 0 0 (hU (hU h (B 39) (ai g 100 mm)) (B 38) (ob 4 [.ref (B 39), .int (nI (tn + nn - q)), .int ts, .int te, .int tt, .int tv])) 41 [(0, .ref (B 0)), (1, .int bytes), (2, .int n), (3, .int (latI q))] [] := by
        intro N
        induction N with
        | zero => intro q mm _ _ hm; exact absurd hm (Nat.not_lt_zero _)
        | succ N ih41 =>
          intro q mm hqq hq hm
          refine v_iload_n X dX7_feed_41 3 rfl ?_
          refine v_if_lt X dX7_feed_42 (tgt := 68) (by decide) (fun c3 => ?_) (fun c3 => ?_)
          · refine v_aload_n X dX7_feed_68 0 rfl ?_
            refine v_get X fX7_50 ((hU_n (hB 0 38 (by omega) (by omega) (by omega))).trans ((hU_n (hB 0 39 (by omega) (by omega) (by omega))).trans x0)) rfl dX7_feed_69 ?_
            refine v_get X fX7_235 hU_s rfl dX7_feed_72 ?_
            have eqr : op_feed (d, k, hk, fo, tape, tp, bits, sz, num) bytes n = (nI (tn + nn - q), (d, k, hk, fo, mm, nI (tn + nn - q), bits, sz, num)) := by have hq0 : q = 0 := (lat_0 (by omega)).mp c3; subst hq0; have hm2 : feedF bytes tape tn nn = mm := hq; unfold op_feed; dsimp only; rw [if_pos c1, if_pos c2, qn2, qt, hm2, etp, en, nI_add]; rfl
            have hCR : CR g (hU (hU h (B 39) (ai g 100 mm)) (B 38) (ob 4 [.ref (B 39), .int (nI (tn + nn - q)), .int ts, .int te, .int tt, .int tv])) B (d, k, hk, fo, mm, nI (tn + nn - q), bits, sz, num) := ⟨hB, gX_e ((hU_n (hB 0 38 (by omega) (by omega) (by omega))).trans (hU_n (hB 0 39 (by omega) (by omega) (by omega)))) cX, ⟨gW_e ((hU_n (hB 1 38 (by omega) (by omega) (by omega))).trans (hU_n (hB 1 39 (by omega) (by omega) (by omega)))) ⟨rfl, rfl, rfl, rfl, rfl, rfl⟩ cW, gP_e (fun j hj => ((hU_n (hB j 38 (by omega) (by omega) (by omega))).trans (hU_n (hB j 39 (by omega) (by omega) (by omega))))) rfl (fun _ _ _ => rfl) cP, gY_e ((hU_n (hB 3 38 (by omega) (by omega) (by omega))).trans (hU_n (hB 3 39 (by omega) (by omega) (by omega)))) (fun x c hx hk => ((hU_n (kd_ne hx x38 hk rfl)).trans (hU_n (kd_ne hx x39 hk rfl)))) rfl (fun _ _ _ => rfl) cY, gT_e ((hU_n (hB 4 38 (by omega) (by omega) (by omega))).trans (hU_n (hB 4 39 (by omega) (by omega) (by omega)))) (fun _ _ _ => rfl) cT, gM_e (fun j h1 h2 => ((hU_n (hB j 38 (by omega) (by omega) (by omega))).trans (hU_n (hB j 39 (by omega) (by omega) (by omega))))) (fun _ _ _ => rfl) cM⟩, ⟨k2, gWd_e (fun j h1 h2 => ((hU_n (hB (j + 16) 38 (by omega) (by omega) (by omega))).trans (hU_n (hB (j + 16) 39 (by omega) (by omega) (by omega))))) (fun x c hx hk => ((hU_n (kd_ne hx x38 hk rfl)).trans (hU_n (kd_ne hx x39 hk rfl)))) cK, hk2⟩, gO_e (fun j h1 h2 => ((hU_n (hB j 38 (by omega) (by omega) (by omega))).trans (hU_n (hB j 39 (by omega) (by omega) (by omega))))) cO, gR_e ((hU_n (hB 37 38 (by omega) (by omega) (by omega))).trans (hU_n (hB 37 39 (by omega) (by omega) (by omega)))) cR, ⟨ts, te, tt, tv, hU_s, ((hU_n (hB 39 38 (by omega) (by omega) (by omega))).trans hU_s)⟩, gS_e (fun j h1 h2 => ((hU_n (hB j 38 (by omega) (by omega) (by omega))).trans (hU_n (hB j 39 (by omega) (by omega) (by omega))))) cS, gF_e ((hU_n (hB 41 38 (by omega) (by omega) (by omega))).trans (hU_n (hB 41 39 (by omega) (by omega) (by omega)))) cF⟩
            exact v_iret X r dX7_feed_75 (Nat.le_refl _) (Nat.le_refl _) ⟨by rw [eqr], by rw [eqr]; exact hCR⟩
          · have hq0 : 0 < q := by
              rcases Nat.eq_zero_or_pos q with z | z
              · exact absurd ((lat_0 (by omega)).mpr z) c3
              · exact z
            refine v_eqv (lv2 := [(0, .ref (B 0)), (1, .int bytes), (2, .int n), (3, .int (nI (q - 1)))]) (by rw [lat_s hq0]) ?_
            refine v_aload_n X dX7_feed_45 0 rfl ?_
            refine v_get X fX7_50 ((hU_n (hB 0 38 (by omega) (by omega) (by omega))).trans ((hU_n (hB 0 39 (by omega) (by omega) (by omega))).trans x0)) rfl dX7_feed_46 ?_
            refine v_iload_n X dX7_feed_49 1 rfl ?_
            refine v_bipush X dX7_feed_50 (v := 8) (by decide) ?_
            refine v_iload_n X dX7_feed_52 3 rfl ?_
            refine v_imul X dX7_feed_53 ?_
            refine v_iushr X dX7_feed_54 ?_
            refine v_sipush X dX7_feed_55 (v := 255) (by decide) ?_
            refine v_iand X dX7_feed_58 ?_
            refine v_eqi (y := byA bytes (q - 1)) (by_eq (by omega)) ?_
            refine v_cVv X [.int (byA bytes (q - 1))] sX7_238 (ct_X4_addByte (n := tn + nn - q) ll g (byA bytes (q - 1)) hU_s ((hU_n (hB 39 38 (by omega) (by omega) (by omega))).trans hU_s) (by omega)) hU_s rfl dX7_feed_59 rfl rfl ⟨rfl, rfl⟩ ⟨(Nat.le_of_ble_eq_true rfl), (Nat.le_of_ble_eq_true rfl)⟩ ⟨Nat.zero_le _, Nat.zero_le _⟩ (Nat.le_of_ble_eq_true rfl) ?_
            refine v_eqh (h2 := (hU (hU h (B 39) (ai g 100 (upd mm (tn + nn - q) (byA bytes (q - 1))))) (B 38) (ob 4 [.ref (B 39), .int (nI (tn + nn - q + 1)), .int ts, .int te, .int tt, .int tv]))) (Eq.trans (congrArg (fun z => hU (z) (B 38) (ob 4 [.ref (B 39), .int (nI (tn + nn - q + 1)), .int ts, .int te, .int tt, .int tv])) (hU_u2 (hB 38 39 (by omega) (by omega) (by omega)))) hU_u) ?_
            refine v_iinc (v := (nI (q - 1)) + (-1)) (lv1 := [(3, .int ((nI (q - 1)) + (-1))), (0, .ref (B 0)), (1, .int bytes), (2, .int n)]) X dX7_feed_62 3 rfl rfl (by decide) rfl ?_
            refine v_goto X dX7_feed_65 (tgt := 41) (by decide) ?_
            refine v_lv (lv2 := [(0, .ref (B 0)), (1, .int bytes), (2, .int n), (3, .int ((nI (q - 1)) + (-1)))]) [1, 2, 3, 0] rfl ?_
            refine v_eqv (lv2 := [(0, .ref (B 0)), (1, .int bytes), (2, .int n), (3, .int (latI (q - 1)))]) (by rw [← lat_s hq0, latN hq0]) ?_
            refine v_eqh (h2 := (hU (hU h (B 39) (ai g 100 (upd mm (tn + nn - q) (byA bytes (q - 1))))) (B 38) (ob 4 [.ref (B 39), .int (nI (tn + nn - (q - 1))), .int ts, .int te, .int tt, .int tv]))) (by rw [show tn + nn - q + 1 = tn + nn - (q - 1) by omega]) ?_
            exact ih41 (q - 1) (upd mm (tn + nn - q) (byA bytes (q - 1))) (by omega) (by have z := feedF_s hq hq0; rw [show tn + nn - q + 1 = tn + nn - (q - 1) by omega] at z; exact z) (by omega)
      refine v_lv (lv2 := [(0, .ref (B 0)), (1, .int bytes), (2, .int n), (3, .int (n - 1))]) [1, 2, 3, 0] rfl ?_
      refine v_eqv (lv2 := [(0, .ref (B 0)), (1, .int bytes), (2, .int n), (3, .int (latI nn))]) (by rw [en]; rfl) ?_
      refine v_eqh (h2 := (hU (hU h (B 39) (ai g 100 tape)) (B 38) (ob 4 [.ref (B 39), .int (nI (tn + nn - nn)), .int ts, .int te, .int tt, .int tv]))) (by rw [Nat.add_sub_cancel, ← etp, hU_id x39, hU_id x38]) ?_
      exact L41 _ nn tape (Nat.le_refl _) (by rw [Nat.add_sub_cancel]) (Nat.lt_succ_self _)
    · refine v_aload_n X dX7_feed_30 0 rfl ?_
      refine v_ldc X dX7_feed_31 kX7_81 ?_
      refine v_cVi X [.int (-1000000002)] sX7_73 (ct_X7_finding (pe := 0) (wy := 0) (pt := 0) (mt := 0) (np := 0) (nw := 0) (oc := 0) (fi := 0) (se := 0) (lo := 0) (q := 1) (v := (-1000000002)) ll g x0 x41 (by decide) (by decide)) x0 rfl dX7_feed_33 rfl rfl ⟨rfl, rfl⟩ ⟨(Nat.le_of_ble_eq_true rfl), (Nat.le_of_ble_eq_true rfl)⟩ ⟨Nat.zero_le _, Nat.zero_le _⟩ (Nat.le_of_ble_eq_true rfl) ?_
      have eqr : op_feed (d, k, hk, fo, tape, tp, bits, sz, num) bytes n = ((-1000000002), (d, k, hk, fnd fo 1, tape, tp, bits, sz, num)) := by unfold op_feed; dsimp only; rw [if_pos c1, if_neg c2]
      have hCR : CR g (hU h (B 41) (ai g 7 (fnd fo 1))) B (d, k, hk, fnd fo 1, tape, tp, bits, sz, num) := ⟨hB, gX_e (hU_n (hB 0 41 (by omega) (by omega) (by omega))) cX, ⟨gW_e (hU_n (hB 1 41 (by omega) (by omega) (by omega))) ⟨rfl, rfl, rfl, rfl, rfl, rfl⟩ cW, gP_e (fun j hj => (hU_n (hB j 41 (by omega) (by omega) (by omega)))) rfl (fun _ _ _ => rfl) cP, gY_e (hU_n (hB 3 41 (by omega) (by omega) (by omega))) (fun x c hx hk => (hU_n (kd_ne hx x41 hk rfl))) rfl (fun _ _ _ => rfl) cY, gT_e (hU_n (hB 4 41 (by omega) (by omega) (by omega))) (fun _ _ _ => rfl) cT, gM_e (fun j h1 h2 => (hU_n (hB j 41 (by omega) (by omega) (by omega)))) (fun _ _ _ => rfl) cM⟩, ⟨k2, gWd_e (fun j h1 h2 => (hU_n (hB (j + 16) 41 (by omega) (by omega) (by omega)))) (fun x c hx hk => (hU_n (kd_ne hx x41 hk rfl))) cK, hk2⟩, gO_e (fun j h1 h2 => (hU_n (hB j 41 (by omega) (by omega) (by omega)))) cO, gR_e (hU_n (hB 37 41 (by omega) (by omega) (by omega))) cR, gA_e (fun j h1 h2 => (hU_n (hB j 41 (by omega) (by omega) (by omega)))) cA, gS_e (fun j h1 h2 => (hU_n (hB j 41 (by omega) (by omega) (by omega)))) cS, (hU_s : _)⟩
      exact v_iret X r dX7_feed_36 (Nat.le_refl _) (Nat.le_refl _) ⟨by rw [eqr], by rw [eqr]; exact hCR⟩
  · refine v_aload_n X dX7_feed_9 0 rfl ?_
    refine v_ldc X dX7_feed_10 kX7_72 ?_
    refine v_cVi X [.int (-1000000001)] sX7_73 (ct_X7_finding (pe := 0) (wy := 0) (pt := 0) (mt := 0) (np := 0) (nw := 0) (oc := 0) (fi := 0) (se := 0) (lo := 0) (q := 0) (v := (-1000000001)) ll g x0 x41 (by decide) (by decide)) x0 rfl dX7_feed_12 rfl rfl ⟨rfl, rfl⟩ ⟨(Nat.le_of_ble_eq_true rfl), (Nat.le_of_ble_eq_true rfl)⟩ ⟨Nat.zero_le _, Nat.zero_le _⟩ (Nat.le_of_ble_eq_true rfl) ?_
    have eqr : op_feed (d, k, hk, fo, tape, tp, bits, sz, num) bytes n = ((-1000000001), (d, k, hk, fnd fo 0, tape, tp, bits, sz, num)) := by unfold op_feed; dsimp only; rw [if_neg c1]
    have hCR : CR g (hU h (B 41) (ai g 7 (fnd fo 0))) B (d, k, hk, fnd fo 0, tape, tp, bits, sz, num) := ⟨hB, gX_e (hU_n (hB 0 41 (by omega) (by omega) (by omega))) cX, ⟨gW_e (hU_n (hB 1 41 (by omega) (by omega) (by omega))) ⟨rfl, rfl, rfl, rfl, rfl, rfl⟩ cW, gP_e (fun j hj => (hU_n (hB j 41 (by omega) (by omega) (by omega)))) rfl (fun _ _ _ => rfl) cP, gY_e (hU_n (hB 3 41 (by omega) (by omega) (by omega))) (fun x c hx hk => (hU_n (kd_ne hx x41 hk rfl))) rfl (fun _ _ _ => rfl) cY, gT_e (hU_n (hB 4 41 (by omega) (by omega) (by omega))) (fun _ _ _ => rfl) cT, gM_e (fun j h1 h2 => (hU_n (hB j 41 (by omega) (by omega) (by omega)))) (fun _ _ _ => rfl) cM⟩, ⟨k2, gWd_e (fun j h1 h2 => (hU_n (hB (j + 16) 41 (by omega) (by omega) (by omega)))) (fun x c hx hk => (hU_n (kd_ne hx x41 hk rfl))) cK, hk2⟩, gO_e (fun j h1 h2 => (hU_n (hB j 41 (by omega) (by omega) (by omega)))) cO, gR_e (hU_n (hB 37 41 (by omega) (by omega) (by omega))) cR, gA_e (fun j h1 h2 => (hU_n (hB j 41 (by omega) (by omega) (by omega)))) cA, gS_e (fun j h1 h2 => (hU_n (hB j 41 (by omega) (by omega) (by omega)))) cS, (hU_s : _)⟩
    exact v_iret X r dX7_feed_15 (Nat.le_refl _) (Nat.le_refl _) ⟨by rw [eqr], by rw [eqr]; exact hCR⟩
set_option maxHeartbeats 4000000 in
set_option maxRecDepth 100000 in
theorem ct_X7_sheet (ll : Launch) (g : GT) {h : Hp} {B : Nat → Nat} {d k fo tape bits sz : Nat → Int32} {num : Nat → Int64} {hk tp : Int32} {N : Nat}  (s : Int32) (b : Int32) (n : Int32) (hC : CR g h B (d, k, hk, fo, tape, tp, bits, sz, num)) (hI : SOk (d, k, hk, fo, tape, tp, bits, sz, num) N) (hN : N + 400 ≤ 204800) : MC ll g yX7_sheet cX7_sheet 5 (some .int) { frames := 10, cells := 0, slots := 0, locals := 380 } [.ref (B 0), .int s, .int b, .int n] h (fun r h2 => r = some (.int (op_sheet (d, k, hk, fo, tape, tp, bits, sz, num) s b n).1) ∧ CR g h2 B (op_sheet (d, k, hk, fo, tape, tp, bits, sz, num) s b n).2) 0 0 := by
  have hC0 := hC
  have hI0 := hI
  obtain ⟨hB, cX, ⟨cW, cP, cY, cT, cM⟩, ⟨k2, cK, hk2⟩, cO, cR, cA, cS, cF⟩ := hC
  obtain ⟨⟨np, nw, T, p0, p1, e0, hnp, e1, hnw, e6, hT, hon, e3, hp0, e4, hp1, honp, hper, h10, h11, h12, hwc⟩, hkd, hkb, ⟨tn, htn, etp⟩, hsz⟩ := hI
  have x0 : h (B 0) = some (ob 7 [.ref (B 1), .ref (B 17), .int hk, .ref (B 33), .ref (B 37), .ref (B 38), .ref (B 40), .ref (B 41)]) := cX
  have x1 : h (B 1) = some (ob 6 [.ref (B 2), .int (d 0), .ref (B 3), .int (d 1), .ref (B 4), .ref (B 5), .int (bI (d 2 = 1)), .int (d 3), .int (d 4), .int (d 7)]) := cW
  have cP0 := cP
  obtain ⟨pf, F, x2, hpf, hF, hFd⟩ := cP0
  have cY0 := cY
  obtain ⟨wf, x3, hwo, hwy⟩ := cY0
  have x4 : h (B 4) = some (ai g 5 (ptF d)) := cT
  have cM0 := cM
  obtain ⟨tr, T9, s0, v0, s1, v1, x5, x6, x7, x8, e69, hT30, hR, hRB⟩ := cM0
  have eT9 : T9 = T := nI_inj (by omega) (by omega) (e69.symm.trans e6)
  subst eT9
  have cO0 := cO
  obtain ⟨otr, u5, u6, u8, a0, a1, a2, a3, a4, b0, b1, b2, b3, b4, x33, x34, x35, x36⟩ := cO0
  have cR0 := cR
  obtain ⟨rf, x37⟩ := cR0
  have cA0 := cA
  obtain ⟨ts, te, tt, tv, x38, x39⟩ := cA0
  have cS0 := cS
  obtain ⟨sf, nf, x40, hsf, hsh, hnm, hnv⟩ := cS0
  have x41 : h (B 41) = some (ai g 7 fo) := cF
  have qn : (d 0).toNatClampNeg = np := ix_cl e0 (by omega)
  have qw : (d 1).toNatClampNeg = nw := ix_cl e1 (by omega)
  have pC : ∀ p, p < np → h (B (9 + p)) = some (ob 1 [.int ((told d p) 0), .int ((told d p) 1), .int ((told d p) 2), .int ((told d p) 3), .int ((told d p) 4), .int ((told d p) 5), .int ((told d p) 6)]) := fun p hp => gP_at (by omega) (by rw [qn]; exact hp) cP
  refine mc_of (by decide) (Nat.le_of_ble_eq_true rfl) ?_
  intro K X r
  refine v_eqv (lv2 := [(0, .ref (B 0)), (1, .int s), (2, .int b), (3, .int n)]) rfl ?_
  refine v_iload_n X dX7_sheet_0 2 rfl ?_
  have J1 : VJ K 0 0 h 27 [(0, .ref (B 0)), (1, .int s), (2, .int b), (3, .int n)] [.int (bI (okBits b))] := by
    refine v_istore (lv1 := [(4, .int (bI (okBits b))), (0, .ref (B 0)), (1, .int s), (2, .int b), (3, .int n)]) X dX7_sheet_27 (by decide) rfl ?_
    refine v_iload_n X dX7_sheet_29 2 rfl ?_
    refine v_cSi X [.int s] sX7_259 (ct_X7_isSheet ll g s) dX7_sheet_30 rfl rfl ⟨rfl, rfl⟩ ⟨(Nat.le_of_ble_eq_true rfl), (Nat.le_of_ble_eq_true rfl)⟩ ⟨Nat.zero_le _, Nat.zero_le _⟩ (Nat.le_of_ble_eq_true rfl) ?_
    refine v_ifb_eq X dX7_sheet_33 (tgt := 41) (by decide) (fun c1 => ?_) (fun c1 => ?_)
    · refine v_aload_n X dX7_sheet_41 1 rfl ?_
      refine v_ldc X dX7_sheet_42 kX7_72 ?_
      refine v_cVi X [.int (-1000000001)] sX7_73 (ct_X7_finding (pe := 0) (wy := 0) (pt := 0) (mt := 0) (np := 0) (nw := 0) (oc := 0) (fi := 0) (se := 0) (lo := 0) (q := 0) (v := (-1000000001)) ll g x0 x41 (by decide) (by decide)) x0 rfl dX7_sheet_44 rfl rfl ⟨rfl, rfl⟩ ⟨(Nat.le_of_ble_eq_true rfl), (Nat.le_of_ble_eq_true rfl)⟩ ⟨Nat.zero_le _, Nat.zero_le _⟩ (Nat.le_of_ble_eq_true rfl) ?_
      have eqr : op_sheet (d, k, hk, fo, tape, tp, bits, sz, num) s b n = ((-1000000001), (d, k, hk, fnd fo 0, tape, tp, bits, sz, num)) := by unfold op_sheet; dsimp only; rw [if_neg (fun z => c1 z.1)]
      have hCR : CR g (hU h (B 41) (ai g 7 (fnd fo 0))) B (d, k, hk, fnd fo 0, tape, tp, bits, sz, num) := ⟨hB, gX_e (hU_n (hB 0 41 (by omega) (by omega) (by omega))) cX, ⟨gW_e (hU_n (hB 1 41 (by omega) (by omega) (by omega))) ⟨rfl, rfl, rfl, rfl, rfl, rfl⟩ cW, gP_e (fun j hj => (hU_n (hB j 41 (by omega) (by omega) (by omega)))) rfl (fun _ _ _ => rfl) cP, gY_e (hU_n (hB 3 41 (by omega) (by omega) (by omega))) (fun x c hx hk => (hU_n (kd_ne hx x41 hk rfl))) rfl (fun _ _ _ => rfl) cY, gT_e (hU_n (hB 4 41 (by omega) (by omega) (by omega))) (fun _ _ _ => rfl) cT, gM_e (fun j h1 h2 => (hU_n (hB j 41 (by omega) (by omega) (by omega)))) (fun _ _ _ => rfl) cM⟩, ⟨k2, gWd_e (fun j h1 h2 => (hU_n (hB (j + 16) 41 (by omega) (by omega) (by omega)))) (fun x c hx hk => (hU_n (kd_ne hx x41 hk rfl))) cK, hk2⟩, gO_e (fun j h1 h2 => (hU_n (hB j 41 (by omega) (by omega) (by omega)))) cO, gR_e (hU_n (hB 37 41 (by omega) (by omega) (by omega))) cR, gA_e (fun j h1 h2 => (hU_n (hB j 41 (by omega) (by omega) (by omega)))) cA, gS_e (fun j h1 h2 => (hU_n (hB j 41 (by omega) (by omega) (by omega)))) cS, (hU_s : _)⟩
      exact v_iret X r dX7_sheet_47 (Nat.le_refl _) (Nat.le_refl _) ⟨by rw [eqr], by rw [eqr]; exact hCR⟩
    · refine v_iload X dX7_sheet_36 0 rfl ?_
      refine v_ifb_ne X dX7_sheet_38 (tgt := 48) (by decide) (fun c2 => ?_) (fun c2 => ?_)
      · refine v_iload_n X dX7_sheet_48 4 rfl ?_
        refine v_if_ge X dX7_sheet_49 (tgt := 60) (by decide) (fun c3 => ?_) (fun c3 => ?_)
        · refine v_iload_n X dX7_sheet_60 4 rfl ?_
          refine v_bipush X dX7_sheet_61 (v := 40) (by decide) ?_
          refine v_icmp_le X dX7_sheet_63 (tgt := 73) (by decide) (fun c4 => ?_) (fun c4 => ?_)
          · obtain ⟨js, hjs, ejs⟩ := wi_c 3 rfl (by decide) c1
            have qjs : pr s = js := ix_cl ejs (by omega)
            refine v_aload_n X dX7_sheet_73 1 rfl ?_
            refine v_get X fX7_56 x0 rfl dX7_sheet_74 ?_
            refine v_iload_n X dX7_sheet_77 2 rfl ?_
            refine v_aaldK X 3 rfl js (v := .ref (B (42 + 2 * js))) x40 ejs (by omega) (by decide) (by rw [hsf js (by omega)]; rfl) dX7_sheet_78 ?_
            refine v_iload_n X dX7_sheet_79 3 rfl ?_
            refine v_iload_n X dX7_sheet_80 3 rfl ?_
            have J2 : VJ K 0 0 h 89 [(4, .int (bI (okBits b))), (0, .ref (B 0)), (1, .int s), (2, .int b), (3, .int n)] [.int (if b = 0 then 0 else n), .int b, .ref (B (42 + 2 * js))] := by
              refine v_cVv X [.int b, .int (if b = 0 then 0 else n)] sX7_263 (ct_X2_begin ll g b (if b = 0 then 0 else n) (hsh js (by omega)) (hnm js (by omega))) (hsh js (by omega)) rfl dX7_sheet_89 rfl rfl ⟨rfl, rfl⟩ ⟨(Nat.le_of_ble_eq_true rfl), (Nat.le_of_ble_eq_true rfl)⟩ ⟨Nat.zero_le _, Nat.zero_le _⟩ (Nat.le_of_ble_eq_true rfl) ?_
              refine v_aload_n X dX7_sheet_92 1 rfl ?_
              refine v_get X fX7_56 ((hU_n (hB 0 (43 + 2 * js) (by omega) (by omega) (by omega))).trans ((hU_n (hB 0 (42 + 2 * js) (by omega) (by omega) (by omega))).trans x0)) rfl dX7_sheet_93 ?_
              refine v_iload_n X dX7_sheet_96 2 rfl ?_
              refine v_aaldK X 3 rfl js (v := .ref (B (42 + 2 * js))) ((hU_n (hB 40 (43 + 2 * js) (by omega) (by omega) (by omega))).trans ((hU_n (hB 40 (42 + 2 * js) (by omega) (by omega) (by omega))).trans x40)) ejs (by omega) (by decide) (by rw [hsf js (by omega)]; rfl) dX7_sheet_97 ?_
              refine v_get X fX7_264 ((hU_n (hB (42 + 2 * js) (43 + 2 * js) (by omega) (by omega) (by omega))).trans hU_s) rfl dX7_sheet_98 ?_
              have eqr : op_sheet (d, k, hk, fo, tape, tp, bits, sz, num) s b n = (if b = 0 then 0 else n, (d, k, hk, fo, tape, tp, upd bits js b, upd sz js (if b = 0 then 0 else n), zeroS num (40 * js) 40)) := by unfold op_sheet; dsimp only; rw [if_pos ⟨c1, c2⟩, if_neg (Int32.not_lt.mpr c3), if_neg (Int32.not_lt.mpr c4), qjs]
              have hCR : CR g (hU (hU h (B (42 + 2 * js)) (ob 2 [.int b, .int (if b = 0 then 0 else n), .ref (B (43 + 2 * js))])) (B (43 + 2 * js)) (al g 40 (fun _ => 0))) B (d, k, hk, fo, tape, tp, upd bits js b, upd sz js (if b = 0 then 0 else n), zeroS num (40 * js) 40) := ⟨hB, gX_e ((hU_n (hB 0 (43 + 2 * js) (by omega) (by omega) (by omega))).trans (hU_n (hB 0 (42 + 2 * js) (by omega) (by omega) (by omega)))) cX, ⟨gW_e ((hU_n (hB 1 (43 + 2 * js) (by omega) (by omega) (by omega))).trans (hU_n (hB 1 (42 + 2 * js) (by omega) (by omega) (by omega)))) ⟨rfl, rfl, rfl, rfl, rfl, rfl⟩ cW, gP_e (fun j hj => ((hU_n (hB j (43 + 2 * js) (by omega) (by omega) (by omega))).trans (hU_n (hB j (42 + 2 * js) (by omega) (by omega) (by omega))))) rfl (fun _ _ _ => rfl) cP, gY_e ((hU_n (hB 3 (43 + 2 * js) (by omega) (by omega) (by omega))).trans (hU_n (hB 3 (42 + 2 * js) (by omega) (by omega) (by omega)))) (fun x c hx hk => ((hU_n (kd_ne hx (hnm js (by omega)) hk rfl)).trans (hU_n (kd_ne hx (hsh js (by omega)) hk rfl)))) rfl (fun _ _ _ => rfl) cY, gT_e ((hU_n (hB 4 (43 + 2 * js) (by omega) (by omega) (by omega))).trans (hU_n (hB 4 (42 + 2 * js) (by omega) (by omega) (by omega)))) (fun _ _ _ => rfl) cT, gM_e (fun j h1 h2 => ((hU_n (hB j (43 + 2 * js) (by omega) (by omega) (by omega))).trans (hU_n (hB j (42 + 2 * js) (by omega) (by omega) (by omega))))) (fun _ _ _ => rfl) cM⟩, ⟨k2, gWd_e (fun j h1 h2 => ((hU_n (hB (j + 16) (43 + 2 * js) (by omega) (by omega) (by omega))).trans (hU_n (hB (j + 16) (42 + 2 * js) (by omega) (by omega) (by omega))))) (fun x c hx hk => ((hU_n (kd_ne hx (hnm js (by omega)) hk rfl)).trans (hU_n (kd_ne hx (hsh js (by omega)) hk rfl)))) cK, hk2⟩, gO_e (fun j h1 h2 => ((hU_n (hB j (43 + 2 * js) (by omega) (by omega) (by omega))).trans (hU_n (hB j (42 + 2 * js) (by omega) (by omega) (by omega))))) cO, gR_e ((hU_n (hB 37 (43 + 2 * js) (by omega) (by omega) (by omega))).trans (hU_n (hB 37 (42 + 2 * js) (by omega) (by omega) (by omega)))) cR, gA_e (fun j h1 h2 => ((hU_n (hB j (43 + 2 * js) (by omega) (by omega) (by omega))).trans (hU_n (hB j (42 + 2 * js) (by omega) (by omega) (by omega))))) cA, gS_new (by omega) cS ((hU_n (hB 40 (43 + 2 * js) (by omega) (by omega) (by omega))).trans (hU_n (hB 40 (42 + 2 * js) (by omega) (by omega) (by omega)))) ((hU_n (hB (42 + 2 * js) (43 + 2 * js) (by omega) (by omega) (by omega))).trans hU_s) hU_s (fun s hs hne => ((hU_n (hB (42 + 2 * s) (43 + 2 * js) (by omega) (by omega) (by omega))).trans (hU_n (hB (42 + 2 * s) (42 + 2 * js) (by omega) (by omega) (by omega))))) (fun s hs hne => ((hU_n (hB (43 + 2 * s) (43 + 2 * js) (by omega) (by omega) (by omega))).trans (hU_n (hB (43 + 2 * s) (42 + 2 * js) (by omega) (by omega) (by omega))))), gF_e ((hU_n (hB 41 (43 + 2 * js) (by omega) (by omega) (by omega))).trans (hU_n (hB 41 (42 + 2 * js) (by omega) (by omega) (by omega)))) cF⟩
              exact v_iret X r dX7_sheet_101 (Nat.le_refl _) (Nat.le_refl _) ⟨by rw [eqr], by rw [eqr]; exact hCR⟩
            refine v_if_ne X dX7_sheet_81 (tgt := 88) (by decide) (fun c5 => ?_) (fun c5 => ?_)
            · refine v_iload_n X dX7_sheet_88 4 rfl ?_
              exact v_eqi (if_neg c5).symm J2
            · refine v_iconst X dX7_sheet_84 (v := 0) (by decide) ?_
              refine v_goto X dX7_sheet_85 (tgt := 89) (by decide) ?_
              exact v_eqi (if_pos c5).symm J2
          · refine v_aload_n X dX7_sheet_66 1 rfl ?_
            refine v_ldc X dX7_sheet_67 kX7_72 ?_
            refine v_cVi X [.int (-1000000001)] sX7_73 (ct_X7_finding (pe := 0) (wy := 0) (pt := 0) (mt := 0) (np := 0) (nw := 0) (oc := 0) (fi := 0) (se := 0) (lo := 0) (q := 0) (v := (-1000000001)) ll g x0 x41 (by decide) (by decide)) x0 rfl dX7_sheet_69 rfl rfl ⟨rfl, rfl⟩ ⟨(Nat.le_of_ble_eq_true rfl), (Nat.le_of_ble_eq_true rfl)⟩ ⟨Nat.zero_le _, Nat.zero_le _⟩ (Nat.le_of_ble_eq_true rfl) ?_
            have eqr : op_sheet (d, k, hk, fo, tape, tp, bits, sz, num) s b n = ((-1000000001), (d, k, hk, fnd fo 0, tape, tp, bits, sz, num)) := by unfold op_sheet; dsimp only; rw [if_pos ⟨c1, c2⟩, if_neg (Int32.not_lt.mpr c3), if_pos (Int32.not_le.mp c4)]
            have hCR : CR g (hU h (B 41) (ai g 7 (fnd fo 0))) B (d, k, hk, fnd fo 0, tape, tp, bits, sz, num) := ⟨hB, gX_e (hU_n (hB 0 41 (by omega) (by omega) (by omega))) cX, ⟨gW_e (hU_n (hB 1 41 (by omega) (by omega) (by omega))) ⟨rfl, rfl, rfl, rfl, rfl, rfl⟩ cW, gP_e (fun j hj => (hU_n (hB j 41 (by omega) (by omega) (by omega)))) rfl (fun _ _ _ => rfl) cP, gY_e (hU_n (hB 3 41 (by omega) (by omega) (by omega))) (fun x c hx hk => (hU_n (kd_ne hx x41 hk rfl))) rfl (fun _ _ _ => rfl) cY, gT_e (hU_n (hB 4 41 (by omega) (by omega) (by omega))) (fun _ _ _ => rfl) cT, gM_e (fun j h1 h2 => (hU_n (hB j 41 (by omega) (by omega) (by omega)))) (fun _ _ _ => rfl) cM⟩, ⟨k2, gWd_e (fun j h1 h2 => (hU_n (hB (j + 16) 41 (by omega) (by omega) (by omega)))) (fun x c hx hk => (hU_n (kd_ne hx x41 hk rfl))) cK, hk2⟩, gO_e (fun j h1 h2 => (hU_n (hB j 41 (by omega) (by omega) (by omega)))) cO, gR_e (hU_n (hB 37 41 (by omega) (by omega) (by omega))) cR, gA_e (fun j h1 h2 => (hU_n (hB j 41 (by omega) (by omega) (by omega)))) cA, gS_e (fun j h1 h2 => (hU_n (hB j 41 (by omega) (by omega) (by omega)))) cS, (hU_s : _)⟩
            exact v_iret X r dX7_sheet_72 (Nat.le_refl _) (Nat.le_refl _) ⟨by rw [eqr], by rw [eqr]; exact hCR⟩
        · refine v_aload_n X dX7_sheet_52 1 rfl ?_
          refine v_ldcw X dX7_sheet_53 kX7_262 ?_
          refine v_cVi X [.int (-1000000007)] sX7_73 (ct_X7_finding (pe := 0) (wy := 0) (pt := 0) (mt := 0) (np := 0) (nw := 0) (oc := 0) (fi := 0) (se := 0) (lo := 0) (q := 6) (v := (-1000000007)) ll g x0 x41 (by decide) (by decide)) x0 rfl dX7_sheet_56 rfl rfl ⟨rfl, rfl⟩ ⟨(Nat.le_of_ble_eq_true rfl), (Nat.le_of_ble_eq_true rfl)⟩ ⟨Nat.zero_le _, Nat.zero_le _⟩ (Nat.le_of_ble_eq_true rfl) ?_
          have eqr : op_sheet (d, k, hk, fo, tape, tp, bits, sz, num) s b n = ((-1000000007), (d, k, hk, fnd fo 6, tape, tp, bits, sz, num)) := by unfold op_sheet; dsimp only; rw [if_pos ⟨c1, c2⟩, if_pos (Int32.not_le.mp c3)]
          have hCR : CR g (hU h (B 41) (ai g 7 (fnd fo 6))) B (d, k, hk, fnd fo 6, tape, tp, bits, sz, num) := ⟨hB, gX_e (hU_n (hB 0 41 (by omega) (by omega) (by omega))) cX, ⟨gW_e (hU_n (hB 1 41 (by omega) (by omega) (by omega))) ⟨rfl, rfl, rfl, rfl, rfl, rfl⟩ cW, gP_e (fun j hj => (hU_n (hB j 41 (by omega) (by omega) (by omega)))) rfl (fun _ _ _ => rfl) cP, gY_e (hU_n (hB 3 41 (by omega) (by omega) (by omega))) (fun x c hx hk => (hU_n (kd_ne hx x41 hk rfl))) rfl (fun _ _ _ => rfl) cY, gT_e (hU_n (hB 4 41 (by omega) (by omega) (by omega))) (fun _ _ _ => rfl) cT, gM_e (fun j h1 h2 => (hU_n (hB j 41 (by omega) (by omega) (by omega)))) (fun _ _ _ => rfl) cM⟩, ⟨k2, gWd_e (fun j h1 h2 => (hU_n (hB (j + 16) 41 (by omega) (by omega) (by omega)))) (fun x c hx hk => (hU_n (kd_ne hx x41 hk rfl))) cK, hk2⟩, gO_e (fun j h1 h2 => (hU_n (hB j 41 (by omega) (by omega) (by omega)))) cO, gR_e (hU_n (hB 37 41 (by omega) (by omega) (by omega))) cR, gA_e (fun j h1 h2 => (hU_n (hB j 41 (by omega) (by omega) (by omega)))) cA, gS_e (fun j h1 h2 => (hU_n (hB j 41 (by omega) (by omega) (by omega)))) cS, (hU_s : _)⟩
          exact v_iret X r dX7_sheet_59 (Nat.le_refl _) (Nat.le_refl _) ⟨by rw [eqr], by rw [eqr]; exact hCR⟩
      · refine v_aload_n X dX7_sheet_41 1 rfl ?_
        refine v_ldc X dX7_sheet_42 kX7_72 ?_
        refine v_cVi X [.int (-1000000001)] sX7_73 (ct_X7_finding (pe := 0) (wy := 0) (pt := 0) (mt := 0) (np := 0) (nw := 0) (oc := 0) (fi := 0) (se := 0) (lo := 0) (q := 0) (v := (-1000000001)) ll g x0 x41 (by decide) (by decide)) x0 rfl dX7_sheet_44 rfl rfl ⟨rfl, rfl⟩ ⟨(Nat.le_of_ble_eq_true rfl), (Nat.le_of_ble_eq_true rfl)⟩ ⟨Nat.zero_le _, Nat.zero_le _⟩ (Nat.le_of_ble_eq_true rfl) ?_
        have eqr : op_sheet (d, k, hk, fo, tape, tp, bits, sz, num) s b n = ((-1000000001), (d, k, hk, fnd fo 0, tape, tp, bits, sz, num)) := by unfold op_sheet; dsimp only; rw [if_neg (fun z => c2 z.2)]
        have hCR : CR g (hU h (B 41) (ai g 7 (fnd fo 0))) B (d, k, hk, fnd fo 0, tape, tp, bits, sz, num) := ⟨hB, gX_e (hU_n (hB 0 41 (by omega) (by omega) (by omega))) cX, ⟨gW_e (hU_n (hB 1 41 (by omega) (by omega) (by omega))) ⟨rfl, rfl, rfl, rfl, rfl, rfl⟩ cW, gP_e (fun j hj => (hU_n (hB j 41 (by omega) (by omega) (by omega)))) rfl (fun _ _ _ => rfl) cP, gY_e (hU_n (hB 3 41 (by omega) (by omega) (by omega))) (fun x c hx hk => (hU_n (kd_ne hx x41 hk rfl))) rfl (fun _ _ _ => rfl) cY, gT_e (hU_n (hB 4 41 (by omega) (by omega) (by omega))) (fun _ _ _ => rfl) cT, gM_e (fun j h1 h2 => (hU_n (hB j 41 (by omega) (by omega) (by omega)))) (fun _ _ _ => rfl) cM⟩, ⟨k2, gWd_e (fun j h1 h2 => (hU_n (hB (j + 16) 41 (by omega) (by omega) (by omega)))) (fun x c hx hk => (hU_n (kd_ne hx x41 hk rfl))) cK, hk2⟩, gO_e (fun j h1 h2 => (hU_n (hB j 41 (by omega) (by omega) (by omega)))) cO, gR_e (hU_n (hB 37 41 (by omega) (by omega) (by omega))) cR, gA_e (fun j h1 h2 => (hU_n (hB j 41 (by omega) (by omega) (by omega)))) cA, gS_e (fun j h1 h2 => (hU_n (hB j 41 (by omega) (by omega) (by omega)))) cS, (hU_s : _)⟩
        exact v_iret X r dX7_sheet_47 (Nat.le_refl _) (Nat.le_refl _) ⟨by rw [eqr], by rw [eqr]; exact hCR⟩
  refine v_if_eq X dX7_sheet_1 (tgt := 22) (by decide) (fun c6 => ?_) (fun c6 => ?_)
  · refine v_iconst X dX7_sheet_22 (v := 1) (by decide) ?_
    refine v_goto X dX7_sheet_23 (tgt := 27) (by decide) ?_
    exact v_eqi (bI_t (Or.inl c6)).symm J1
  · refine v_iload_n X dX7_sheet_4 2 rfl ?_
    refine v_bipush X dX7_sheet_5 (v := 8) (by decide) ?_
    refine v_icmp_eq X dX7_sheet_7 (tgt := 22) (by decide) (fun c7 => ?_) (fun c7 => ?_)
    · refine v_iconst X dX7_sheet_22 (v := 1) (by decide) ?_
      refine v_goto X dX7_sheet_23 (tgt := 27) (by decide) ?_
      exact v_eqi (bI_t (Or.inr (Or.inl c7))).symm J1
    · refine v_iload_n X dX7_sheet_10 2 rfl ?_
      refine v_bipush X dX7_sheet_11 (v := 16) (by decide) ?_
      refine v_icmp_eq X dX7_sheet_13 (tgt := 22) (by decide) (fun c8 => ?_) (fun c8 => ?_)
      · refine v_iconst X dX7_sheet_22 (v := 1) (by decide) ?_
        refine v_goto X dX7_sheet_23 (tgt := 27) (by decide) ?_
        exact v_eqi (bI_t (Or.inr (Or.inr (Or.inl c8)))).symm J1
      · refine v_iload_n X dX7_sheet_16 2 rfl ?_
        refine v_bipush X dX7_sheet_17 (v := 64) (by decide) ?_
        refine v_icmp_ne X dX7_sheet_19 (tgt := 26) (by decide) (fun c9 => ?_) (fun c9 => ?_)
        · refine v_iconst X dX7_sheet_26 (v := 0) (by decide) ?_
          exact v_eqi (bI_f (fun z => z.elim c6 (fun z => z.elim c7 (fun z => z.elim c8 c9)))).symm J1
        · refine v_iconst X dX7_sheet_22 (v := 1) (by decide) ?_
          refine v_goto X dX7_sheet_23 (tgt := 27) (by decide) ?_
          exact v_eqi (bI_t (Or.inr (Or.inr (Or.inr c9)))).symm J1
set_option maxHeartbeats 4000000 in
set_option maxRecDepth 100000 in
theorem ct_X7_write (ll : Launch) (g : GT) {h : Hp} {B : Nat → Nat} {d k fo tape bits sz : Nat → Int32} {num : Nat → Int64} {hk tp : Int32} {N : Nat}  (s : Int32) (q : Int32) (v : Int64) (hC : CR g h B (d, k, hk, fo, tape, tp, bits, sz, num)) (hI : SOk (d, k, hk, fo, tape, tp, bits, sz, num) N) (hN : N + 400 ≤ 204800) : MC ll g yX7_write cX7_write 7 (some .long) { frames := 10, cells := 0, slots := 0, locals := 380 } [.ref (B 0), .int s, .int q, .long v] h (fun r h2 => r = some (.long (op_write (d, k, hk, fo, tape, tp, bits, sz, num) s q v).1) ∧ CR g h2 B (op_write (d, k, hk, fo, tape, tp, bits, sz, num) s q v).2) 0 0 := by
  have hC0 := hC
  have hI0 := hI
  obtain ⟨hB, cX, ⟨cW, cP, cY, cT, cM⟩, ⟨k2, cK, hk2⟩, cO, cR, cA, cS, cF⟩ := hC
  obtain ⟨⟨np, nw, T, p0, p1, e0, hnp, e1, hnw, e6, hT, hon, e3, hp0, e4, hp1, honp, hper, h10, h11, h12, hwc⟩, hkd, hkb, ⟨tn, htn, etp⟩, hsz⟩ := hI
  have x0 : h (B 0) = some (ob 7 [.ref (B 1), .ref (B 17), .int hk, .ref (B 33), .ref (B 37), .ref (B 38), .ref (B 40), .ref (B 41)]) := cX
  have x1 : h (B 1) = some (ob 6 [.ref (B 2), .int (d 0), .ref (B 3), .int (d 1), .ref (B 4), .ref (B 5), .int (bI (d 2 = 1)), .int (d 3), .int (d 4), .int (d 7)]) := cW
  have cP0 := cP
  obtain ⟨pf, F, x2, hpf, hF, hFd⟩ := cP0
  have cY0 := cY
  obtain ⟨wf, x3, hwo, hwy⟩ := cY0
  have x4 : h (B 4) = some (ai g 5 (ptF d)) := cT
  have cM0 := cM
  obtain ⟨tr, T9, s0, v0, s1, v1, x5, x6, x7, x8, e69, hT30, hR, hRB⟩ := cM0
  have eT9 : T9 = T := nI_inj (by omega) (by omega) (e69.symm.trans e6)
  subst eT9
  have cO0 := cO
  obtain ⟨otr, u5, u6, u8, a0, a1, a2, a3, a4, b0, b1, b2, b3, b4, x33, x34, x35, x36⟩ := cO0
  have cR0 := cR
  obtain ⟨rf, x37⟩ := cR0
  have cA0 := cA
  obtain ⟨ts, te, tt, tv, x38, x39⟩ := cA0
  have cS0 := cS
  obtain ⟨sf, nf, x40, hsf, hsh, hnm, hnv⟩ := cS0
  have x41 : h (B 41) = some (ai g 7 fo) := cF
  have qn : (d 0).toNatClampNeg = np := ix_cl e0 (by omega)
  have qw : (d 1).toNatClampNeg = nw := ix_cl e1 (by omega)
  have pC : ∀ p, p < np → h (B (9 + p)) = some (ob 1 [.int ((told d p) 0), .int ((told d p) 1), .int ((told d p) 2), .int ((told d p) 3), .int ((told d p) 4), .int ((told d p) 5), .int ((told d p) 6)]) := fun p hp => gP_at (by omega) (by rw [qn]; exact hp) cP
  refine mc_of (by decide) (Nat.le_of_ble_eq_true rfl) ?_
  intro K X r
  refine v_eqv (lv2 := [(0, .ref (B 0)), (1, .int s), (2, .int q), (3, .long v)]) rfl ?_
  refine v_iload_n X dX7_write_0 1 rfl ?_
  refine v_cSi X [.int s] sX7_259 (ct_X7_isSheet ll g s) dX7_write_1 rfl rfl ⟨rfl, rfl⟩ ⟨(Nat.le_of_ble_eq_true rfl), (Nat.le_of_ble_eq_true rfl)⟩ ⟨Nat.zero_le _, Nat.zero_le _⟩ (Nat.le_of_ble_eq_true rfl) ?_
  refine v_ifb_ne X dX7_write_4 (tgt := 15) (by decide) (fun c1 => ?_) (fun c1 => ?_)
  · obtain ⟨js, hjs, ejs⟩ := wi_c 3 rfl (by decide) c1
    have qjs : pr s = js := ix_cl ejs (by omega)
    obtain ⟨z0, hz0, ez⟩ := hsz js (by omega)
    refine v_aload_n X dX7_write_15 0 rfl ?_
    refine v_get X fX7_56 x0 rfl dX7_write_16 ?_
    refine v_iload_n X dX7_write_19 1 rfl ?_
    refine v_aaldK X 3 rfl js (v := .ref (B (42 + 2 * js))) x40 ejs (by omega) (by decide) (by rw [hsf js (by omega)]; rfl) dX7_write_20 ?_
    refine v_cVi X [] sX7_265 (ct_X2_isMissing ll g  (hsh js (by omega))) (hsh js (by omega)) rfl dX7_write_21 rfl rfl ⟨rfl, rfl⟩ ⟨(Nat.le_of_ble_eq_true rfl), (Nat.le_of_ble_eq_true rfl)⟩ ⟨Nat.zero_le _, Nat.zero_le _⟩ (Nat.le_of_ble_eq_true rfl) ?_
    refine v_ifb_eq X dX7_write_24 (tgt := 36) (by decide) (fun c2 => ?_) (fun c2 => ?_)
    · refine v_iload_n X dX7_write_36 2 rfl ?_
      refine v_iconst X dX7_write_37 (v := 0) (by decide) ?_
      refine v_aload_n X dX7_write_38 0 rfl ?_
      refine v_get X fX7_56 x0 rfl dX7_write_39 ?_
      refine v_iload_n X dX7_write_42 1 rfl ?_
      refine v_aaldK X 3 rfl js (v := .ref (B (42 + 2 * js))) x40 ejs (by omega) (by decide) (by rw [hsf js (by omega)]; rfl) dX7_write_43 ?_
      refine v_get X fX7_264 (hsh js (by omega)) rfl dX7_write_44 ?_
      refine v_iconst X dX7_write_47 (v := 1) (by decide) ?_
      refine v_isub X dX7_write_48 ?_
      refine v_cSi X [.int q, .int 0, .int ((sz js) - 1)] sX7_68 (ct_X7_within ll g q 0 ((sz js) - 1)) dX7_write_49 rfl rfl ⟨rfl, rfl⟩ ⟨(Nat.le_of_ble_eq_true rfl), (Nat.le_of_ble_eq_true rfl)⟩ ⟨Nat.zero_le _, Nat.zero_le _⟩ (Nat.le_of_ble_eq_true rfl) ?_
      refine v_ifb_ne X dX7_write_52 (tgt := 63) (by decide) (fun c3 => ?_) (fun c3 => ?_)
      · obtain ⟨jq, hjq, ejq⟩ := wi_n ez (by omega) c3
        have qjq : pr q = jq := ix_cl ejq (by omega)
        refine v_aload_n X dX7_write_63 0 rfl ?_
        refine v_get X fX7_56 x0 rfl dX7_write_64 ?_
        refine v_iload_n X dX7_write_67 1 rfl ?_
        refine v_aaldK X 3 rfl js (v := .ref (B (42 + 2 * js))) x40 ejs (by omega) (by decide) (by rw [hsf js (by omega)]; rfl) dX7_write_68 ?_
        refine v_get X fX7_270 (hsh js (by omega)) rfl dX7_write_69 ?_
        refine v_iload_n X dX7_write_72 2 rfl ?_
        refine v_laldK X jq (hnm js (by omega)) ejq (by omega) (by decide) dX7_write_73 ?_
        refine v_lstore (lv1 := [(5, .long ((nf js) jq)), (0, .ref (B 0)), (1, .int s), (2, .int q), (3, .long v)]) X dX7_write_74 (by decide) rfl ?_
        refine v_aload_n X dX7_write_76 1 rfl ?_
        refine v_get X fX7_56 x0 rfl dX7_write_77 ?_
        refine v_iload_n X dX7_write_80 2 rfl ?_
        refine v_aaldK X 3 rfl js (v := .ref (B (42 + 2 * js))) x40 ejs (by omega) (by decide) (by rw [hsf js (by omega)]; rfl) dX7_write_81 ?_
        refine v_iload_n X dX7_write_82 3 rfl ?_
        refine v_lload_n X dX7_write_83 4 rfl ?_
        refine v_cVv X [.int q, .long v] sX7_274 (ct_X2_put (j := jq) ll g v (hsh js (by omega)) (hnm js (by omega)) ejq (by omega) (wi_in ejq ez (by omega) hjq)) (hsh js (by omega)) rfl dX7_write_84 rfl rfl ⟨rfl, rfl⟩ ⟨(Nat.le_of_ble_eq_true rfl), (Nat.le_of_ble_eq_true rfl)⟩ ⟨Nat.zero_le _, Nat.zero_le _⟩ (Nat.le_of_ble_eq_true rfl) ?_
        refine v_lload X dX7_write_87 0 rfl ?_
        have eqr : op_write (d, k, hk, fo, tape, tp, bits, sz, num) s q v = ((nf js) jq, (d, k, hk, fo, tape, tp, bits, sz, vp_updL num (40 * js + jq) (lowS (bits js) v))) := by unfold op_write; dsimp only; rw [if_pos c1, qjs, if_neg c2, if_pos c3, qjq, hnv js jq (by omega) (by omega)]
        have hCR : CR g (hU h (B (43 + 2 * js)) (al g 40 (vp_updL (nf js) jq (lowS (bits js) v)))) B (d, k, hk, fo, tape, tp, bits, sz, vp_updL num (40 * js + jq) (lowS (bits js) v)) := ⟨hB, gX_e (hU_n (hB 0 (43 + 2 * js) (by omega) (by omega) (by omega))) cX, ⟨gW_e (hU_n (hB 1 (43 + 2 * js) (by omega) (by omega) (by omega))) ⟨rfl, rfl, rfl, rfl, rfl, rfl⟩ cW, gP_e (fun j hj => (hU_n (hB j (43 + 2 * js) (by omega) (by omega) (by omega)))) rfl (fun _ _ _ => rfl) cP, gY_e (hU_n (hB 3 (43 + 2 * js) (by omega) (by omega) (by omega))) (fun x c hx hk => (hU_n (kd_ne hx (hnm js (by omega)) hk rfl))) rfl (fun _ _ _ => rfl) cY, gT_e (hU_n (hB 4 (43 + 2 * js) (by omega) (by omega) (by omega))) (fun _ _ _ => rfl) cT, gM_e (fun j h1 h2 => (hU_n (hB j (43 + 2 * js) (by omega) (by omega) (by omega)))) (fun _ _ _ => rfl) cM⟩, ⟨k2, gWd_e (fun j h1 h2 => (hU_n (hB (j + 16) (43 + 2 * js) (by omega) (by omega) (by omega)))) (fun x c hx hk => (hU_n (kd_ne hx (hnm js (by omega)) hk rfl))) cK, hk2⟩, gO_e (fun j h1 h2 => (hU_n (hB j (43 + 2 * js) (by omega) (by omega) (by omega)))) cO, gR_e (hU_n (hB 37 (43 + 2 * js) (by omega) (by omega) (by omega))) cR, gA_e (fun j h1 h2 => (hU_n (hB j (43 + 2 * js) (by omega) (by omega) (by omega)))) cA, gS_one (by omega) cS (hU_n (hB 40 (43 + 2 * js) (by omega) (by omega) (by omega))) (fun s hs => (hU_n (hB (42 + 2 * s) (43 + 2 * js) (by omega) (by omega) (by omega)))) hU_s (fun s hs hne => (hU_n (hB (43 + 2 * s) (43 + 2 * js) (by omega) (by omega) (by omega)))) (fl_s rfl (fun j hj => hnv js j (by omega) hj)) (fun s j hs hne hj => fl_o hne (by omega) hj), gF_e (hU_n (hB 41 (43 + 2 * js) (by omega) (by omega) (by omega))) cF⟩
        exact v_lret X r dX7_write_89 (Nat.le_refl _) (Nat.le_refl _) ⟨by rw [eqr], by rw [eqr]; exact hCR⟩
      · refine v_aload_n X dX7_write_55 0 rfl ?_
        refine v_ldc X dX7_write_56 kX7_72 ?_
        refine v_cVi X [.int (-1000000001)] sX7_73 (ct_X7_finding (pe := 0) (wy := 0) (pt := 0) (mt := 0) (np := 0) (nw := 0) (oc := 0) (fi := 0) (se := 0) (lo := 0) (q := 0) (v := (-1000000001)) ll g x0 x41 (by decide) (by decide)) x0 rfl dX7_write_58 rfl rfl ⟨rfl, rfl⟩ ⟨(Nat.le_of_ble_eq_true rfl), (Nat.le_of_ble_eq_true rfl)⟩ ⟨Nat.zero_le _, Nat.zero_le _⟩ (Nat.le_of_ble_eq_true rfl) ?_
        refine v_i2l X dX7_write_61 ?_
        have eqr : op_write (d, k, hk, fo, tape, tp, bits, sz, num) s q v = ((-1000000001 : Int32).toInt64, (d, k, hk, fnd fo 0, tape, tp, bits, sz, num)) := by rw [show (-1000000001 : Int32).toInt64 = (-1000000001 : Int64) by decide]; unfold op_write; dsimp only; rw [if_pos c1, qjs, if_neg c2, if_neg c3]
        have hCR : CR g (hU h (B 41) (ai g 7 (fnd fo 0))) B (d, k, hk, fnd fo 0, tape, tp, bits, sz, num) := ⟨hB, gX_e (hU_n (hB 0 41 (by omega) (by omega) (by omega))) cX, ⟨gW_e (hU_n (hB 1 41 (by omega) (by omega) (by omega))) ⟨rfl, rfl, rfl, rfl, rfl, rfl⟩ cW, gP_e (fun j hj => (hU_n (hB j 41 (by omega) (by omega) (by omega)))) rfl (fun _ _ _ => rfl) cP, gY_e (hU_n (hB 3 41 (by omega) (by omega) (by omega))) (fun x c hx hk => (hU_n (kd_ne hx x41 hk rfl))) rfl (fun _ _ _ => rfl) cY, gT_e (hU_n (hB 4 41 (by omega) (by omega) (by omega))) (fun _ _ _ => rfl) cT, gM_e (fun j h1 h2 => (hU_n (hB j 41 (by omega) (by omega) (by omega)))) (fun _ _ _ => rfl) cM⟩, ⟨k2, gWd_e (fun j h1 h2 => (hU_n (hB (j + 16) 41 (by omega) (by omega) (by omega)))) (fun x c hx hk => (hU_n (kd_ne hx x41 hk rfl))) cK, hk2⟩, gO_e (fun j h1 h2 => (hU_n (hB j 41 (by omega) (by omega) (by omega)))) cO, gR_e (hU_n (hB 37 41 (by omega) (by omega) (by omega))) cR, gA_e (fun j h1 h2 => (hU_n (hB j 41 (by omega) (by omega) (by omega)))) cA, gS_e (fun j h1 h2 => (hU_n (hB j 41 (by omega) (by omega) (by omega)))) cS, (hU_s : _)⟩
        exact v_lret X r dX7_write_62 (Nat.le_refl _) (Nat.le_refl _) ⟨by rw [eqr], by rw [eqr]; exact hCR⟩
    · refine v_aload_n X dX7_write_27 0 rfl ?_
      refine v_ldcw X dX7_write_28 kX7_269 ?_
      refine v_cVi X [.int (-1000000006)] sX7_73 (ct_X7_finding (pe := 0) (wy := 0) (pt := 0) (mt := 0) (np := 0) (nw := 0) (oc := 0) (fi := 0) (se := 0) (lo := 0) (q := 5) (v := (-1000000006)) ll g x0 x41 (by decide) (by decide)) x0 rfl dX7_write_31 rfl rfl ⟨rfl, rfl⟩ ⟨(Nat.le_of_ble_eq_true rfl), (Nat.le_of_ble_eq_true rfl)⟩ ⟨Nat.zero_le _, Nat.zero_le _⟩ (Nat.le_of_ble_eq_true rfl) ?_
      refine v_i2l X dX7_write_34 ?_
      have eqr : op_write (d, k, hk, fo, tape, tp, bits, sz, num) s q v = ((-1000000006 : Int32).toInt64, (d, k, hk, fnd fo 5, tape, tp, bits, sz, num)) := by rw [show (-1000000006 : Int32).toInt64 = (-1000000006 : Int64) by decide]; unfold op_write; dsimp only; rw [if_pos c1, qjs, if_pos c2]
      have hCR : CR g (hU h (B 41) (ai g 7 (fnd fo 5))) B (d, k, hk, fnd fo 5, tape, tp, bits, sz, num) := ⟨hB, gX_e (hU_n (hB 0 41 (by omega) (by omega) (by omega))) cX, ⟨gW_e (hU_n (hB 1 41 (by omega) (by omega) (by omega))) ⟨rfl, rfl, rfl, rfl, rfl, rfl⟩ cW, gP_e (fun j hj => (hU_n (hB j 41 (by omega) (by omega) (by omega)))) rfl (fun _ _ _ => rfl) cP, gY_e (hU_n (hB 3 41 (by omega) (by omega) (by omega))) (fun x c hx hk => (hU_n (kd_ne hx x41 hk rfl))) rfl (fun _ _ _ => rfl) cY, gT_e (hU_n (hB 4 41 (by omega) (by omega) (by omega))) (fun _ _ _ => rfl) cT, gM_e (fun j h1 h2 => (hU_n (hB j 41 (by omega) (by omega) (by omega)))) (fun _ _ _ => rfl) cM⟩, ⟨k2, gWd_e (fun j h1 h2 => (hU_n (hB (j + 16) 41 (by omega) (by omega) (by omega)))) (fun x c hx hk => (hU_n (kd_ne hx x41 hk rfl))) cK, hk2⟩, gO_e (fun j h1 h2 => (hU_n (hB j 41 (by omega) (by omega) (by omega)))) cO, gR_e (hU_n (hB 37 41 (by omega) (by omega) (by omega))) cR, gA_e (fun j h1 h2 => (hU_n (hB j 41 (by omega) (by omega) (by omega)))) cA, gS_e (fun j h1 h2 => (hU_n (hB j 41 (by omega) (by omega) (by omega)))) cS, (hU_s : _)⟩
      exact v_lret X r dX7_write_35 (Nat.le_refl _) (Nat.le_refl _) ⟨by rw [eqr], by rw [eqr]; exact hCR⟩
  · refine v_aload_n X dX7_write_7 0 rfl ?_
    refine v_ldc X dX7_write_8 kX7_72 ?_
    refine v_cVi X [.int (-1000000001)] sX7_73 (ct_X7_finding (pe := 0) (wy := 0) (pt := 0) (mt := 0) (np := 0) (nw := 0) (oc := 0) (fi := 0) (se := 0) (lo := 0) (q := 0) (v := (-1000000001)) ll g x0 x41 (by decide) (by decide)) x0 rfl dX7_write_10 rfl rfl ⟨rfl, rfl⟩ ⟨(Nat.le_of_ble_eq_true rfl), (Nat.le_of_ble_eq_true rfl)⟩ ⟨Nat.zero_le _, Nat.zero_le _⟩ (Nat.le_of_ble_eq_true rfl) ?_
    refine v_i2l X dX7_write_13 ?_
    have eqr : op_write (d, k, hk, fo, tape, tp, bits, sz, num) s q v = ((-1000000001 : Int32).toInt64, (d, k, hk, fnd fo 0, tape, tp, bits, sz, num)) := by rw [show (-1000000001 : Int32).toInt64 = (-1000000001 : Int64) by decide]; unfold op_write; dsimp only; rw [if_neg c1]
    have hCR : CR g (hU h (B 41) (ai g 7 (fnd fo 0))) B (d, k, hk, fnd fo 0, tape, tp, bits, sz, num) := ⟨hB, gX_e (hU_n (hB 0 41 (by omega) (by omega) (by omega))) cX, ⟨gW_e (hU_n (hB 1 41 (by omega) (by omega) (by omega))) ⟨rfl, rfl, rfl, rfl, rfl, rfl⟩ cW, gP_e (fun j hj => (hU_n (hB j 41 (by omega) (by omega) (by omega)))) rfl (fun _ _ _ => rfl) cP, gY_e (hU_n (hB 3 41 (by omega) (by omega) (by omega))) (fun x c hx hk => (hU_n (kd_ne hx x41 hk rfl))) rfl (fun _ _ _ => rfl) cY, gT_e (hU_n (hB 4 41 (by omega) (by omega) (by omega))) (fun _ _ _ => rfl) cT, gM_e (fun j h1 h2 => (hU_n (hB j 41 (by omega) (by omega) (by omega)))) (fun _ _ _ => rfl) cM⟩, ⟨k2, gWd_e (fun j h1 h2 => (hU_n (hB (j + 16) 41 (by omega) (by omega) (by omega)))) (fun x c hx hk => (hU_n (kd_ne hx x41 hk rfl))) cK, hk2⟩, gO_e (fun j h1 h2 => (hU_n (hB j 41 (by omega) (by omega) (by omega)))) cO, gR_e (hU_n (hB 37 41 (by omega) (by omega) (by omega))) cR, gA_e (fun j h1 h2 => (hU_n (hB j 41 (by omega) (by omega) (by omega)))) cA, gS_e (fun j h1 h2 => (hU_n (hB j 41 (by omega) (by omega) (by omega)))) cS, (hU_s : _)⟩
    exact v_lret X r dX7_write_14 (Nat.le_refl _) (Nat.le_refl _) ⟨by rw [eqr], by rw [eqr]; exact hCR⟩
set_option maxHeartbeats 4000000 in
set_option maxRecDepth 100000 in
theorem ct_X7_copy (ll : Launch) (g : GT) {h : Hp} {B : Nat → Nat} {d k fo tape bits sz : Nat → Int32} {num : Nat → Int64} {hk tp : Int32} {N : Nat}  (s : Int32) (f : Int32) (u : Int32) (to : Int32) (n : Int32) (hC : CR g h B (d, k, hk, fo, tape, tp, bits, sz, num)) (hI : SOk (d, k, hk, fo, tape, tp, bits, sz, num) N) (hN : N + 400 ≤ 204800) : MC ll g yX7_copy cX7_copy 6 (some .int) { frames := 10, cells := 0, slots := 0, locals := 380 } [.ref (B 0), .int s, .int f, .int u, .int to, .int n] h (fun r h2 => r = some (.int (op_copy (d, k, hk, fo, tape, tp, bits, sz, num) s f u to n).1) ∧ CR g h2 B (op_copy (d, k, hk, fo, tape, tp, bits, sz, num) s f u to n).2) 0 0 := by
  have hC0 := hC
  have hI0 := hI
  obtain ⟨hB, cX, ⟨cW, cP, cY, cT, cM⟩, ⟨k2, cK, hk2⟩, cO, cR, cA, cS, cF⟩ := hC
  obtain ⟨⟨np, nw, T, p0, p1, e0, hnp, e1, hnw, e6, hT, hon, e3, hp0, e4, hp1, honp, hper, h10, h11, h12, hwc⟩, hkd, hkb, ⟨tn, htn, etp⟩, hsz⟩ := hI
  have x0 : h (B 0) = some (ob 7 [.ref (B 1), .ref (B 17), .int hk, .ref (B 33), .ref (B 37), .ref (B 38), .ref (B 40), .ref (B 41)]) := cX
  have x1 : h (B 1) = some (ob 6 [.ref (B 2), .int (d 0), .ref (B 3), .int (d 1), .ref (B 4), .ref (B 5), .int (bI (d 2 = 1)), .int (d 3), .int (d 4), .int (d 7)]) := cW
  have cP0 := cP
  obtain ⟨pf, F, x2, hpf, hF, hFd⟩ := cP0
  have cY0 := cY
  obtain ⟨wf, x3, hwo, hwy⟩ := cY0
  have x4 : h (B 4) = some (ai g 5 (ptF d)) := cT
  have cM0 := cM
  obtain ⟨tr, T9, s0, v0, s1, v1, x5, x6, x7, x8, e69, hT30, hR, hRB⟩ := cM0
  have eT9 : T9 = T := nI_inj (by omega) (by omega) (e69.symm.trans e6)
  subst eT9
  have cO0 := cO
  obtain ⟨otr, u5, u6, u8, a0, a1, a2, a3, a4, b0, b1, b2, b3, b4, x33, x34, x35, x36⟩ := cO0
  have cR0 := cR
  obtain ⟨rf, x37⟩ := cR0
  have cA0 := cA
  obtain ⟨ts, te, tt, tv, x38, x39⟩ := cA0
  have cS0 := cS
  obtain ⟨sf, nf, x40, hsf, hsh, hnm, hnv⟩ := cS0
  have x41 : h (B 41) = some (ai g 7 fo) := cF
  have qn : (d 0).toNatClampNeg = np := ix_cl e0 (by omega)
  have qw : (d 1).toNatClampNeg = nw := ix_cl e1 (by omega)
  have pC : ∀ p, p < np → h (B (9 + p)) = some (ob 1 [.int ((told d p) 0), .int ((told d p) 1), .int ((told d p) 2), .int ((told d p) 3), .int ((told d p) 4), .int ((told d p) 5), .int ((told d p) 6)]) := fun p hp => gP_at (by omega) (by rw [qn]; exact hp) cP
  refine mc_of (by decide) (Nat.le_of_ble_eq_true rfl) ?_
  intro K X r
  refine v_eqv (lv2 := [(0, .ref (B 0)), (1, .int s), (2, .int f), (3, .int u), (4, .int to), (5, .int n)]) rfl ?_
  refine v_iload_n X dX7_copy_0 1 rfl ?_
  refine v_cSi X [.int s] sX7_259 (ct_X7_isSheet ll g s) dX7_copy_1 rfl rfl ⟨rfl, rfl⟩ ⟨(Nat.le_of_ble_eq_true rfl), (Nat.le_of_ble_eq_true rfl)⟩ ⟨Nat.zero_le _, Nat.zero_le _⟩ (Nat.le_of_ble_eq_true rfl) ?_
  refine v_ifb_eq X dX7_copy_4 (tgt := 14) (by decide) (fun c1 => ?_) (fun c1 => ?_)
  · refine v_aload_n X dX7_copy_14 0 rfl ?_
    refine v_ldc X dX7_copy_15 kX7_72 ?_
    refine v_cVi X [.int (-1000000001)] sX7_73 (ct_X7_finding (pe := 0) (wy := 0) (pt := 0) (mt := 0) (np := 0) (nw := 0) (oc := 0) (fi := 0) (se := 0) (lo := 0) (q := 0) (v := (-1000000001)) ll g x0 x41 (by decide) (by decide)) x0 rfl dX7_copy_17 rfl rfl ⟨rfl, rfl⟩ ⟨(Nat.le_of_ble_eq_true rfl), (Nat.le_of_ble_eq_true rfl)⟩ ⟨Nat.zero_le _, Nat.zero_le _⟩ (Nat.le_of_ble_eq_true rfl) ?_
    have eqr : op_copy (d, k, hk, fo, tape, tp, bits, sz, num) s f u to n = ((-1000000001), (d, k, hk, fnd fo 0, tape, tp, bits, sz, num)) := by unfold op_copy; dsimp only; rw [if_neg (fun z => c1 z.1)]
    have hCR : CR g (hU h (B 41) (ai g 7 (fnd fo 0))) B (d, k, hk, fnd fo 0, tape, tp, bits, sz, num) := ⟨hB, gX_e (hU_n (hB 0 41 (by omega) (by omega) (by omega))) cX, ⟨gW_e (hU_n (hB 1 41 (by omega) (by omega) (by omega))) ⟨rfl, rfl, rfl, rfl, rfl, rfl⟩ cW, gP_e (fun j hj => (hU_n (hB j 41 (by omega) (by omega) (by omega)))) rfl (fun _ _ _ => rfl) cP, gY_e (hU_n (hB 3 41 (by omega) (by omega) (by omega))) (fun x c hx hk => (hU_n (kd_ne hx x41 hk rfl))) rfl (fun _ _ _ => rfl) cY, gT_e (hU_n (hB 4 41 (by omega) (by omega) (by omega))) (fun _ _ _ => rfl) cT, gM_e (fun j h1 h2 => (hU_n (hB j 41 (by omega) (by omega) (by omega)))) (fun _ _ _ => rfl) cM⟩, ⟨k2, gWd_e (fun j h1 h2 => (hU_n (hB (j + 16) 41 (by omega) (by omega) (by omega)))) (fun x c hx hk => (hU_n (kd_ne hx x41 hk rfl))) cK, hk2⟩, gO_e (fun j h1 h2 => (hU_n (hB j 41 (by omega) (by omega) (by omega)))) cO, gR_e (hU_n (hB 37 41 (by omega) (by omega) (by omega))) cR, gA_e (fun j h1 h2 => (hU_n (hB j 41 (by omega) (by omega) (by omega)))) cA, gS_e (fun j h1 h2 => (hU_n (hB j 41 (by omega) (by omega) (by omega)))) cS, (hU_s : _)⟩
    exact v_iret X r dX7_copy_20 (Nat.le_refl _) (Nat.le_refl _) ⟨by rw [eqr], by rw [eqr]; exact hCR⟩
  · refine v_iload_n X dX7_copy_7 3 rfl ?_
    refine v_cSi X [.int u] sX7_259 (ct_X7_isSheet ll g u) dX7_copy_8 rfl rfl ⟨rfl, rfl⟩ ⟨(Nat.le_of_ble_eq_true rfl), (Nat.le_of_ble_eq_true rfl)⟩ ⟨Nat.zero_le _, Nat.zero_le _⟩ (Nat.le_of_ble_eq_true rfl) ?_
    refine v_ifb_ne X dX7_copy_11 (tgt := 21) (by decide) (fun c2 => ?_) (fun c2 => ?_)
    · obtain ⟨js, hjs, ejs⟩ := wi_c 3 rfl (by decide) c1
      have qjs : pr s = js := ix_cl ejs (by omega)
      obtain ⟨ju, hju, eju⟩ := wi_c 3 rfl (by decide) c2
      have qju : pr u = ju := ix_cl eju (by omega)
      obtain ⟨z0, hz0, ez⟩ := hsz js (by omega)
      obtain ⟨z1, hz1, ez1⟩ := hsz ju (by omega)
      refine v_aload_n X dX7_copy_21 0 rfl ?_
      refine v_get X fX7_56 x0 rfl dX7_copy_22 ?_
      refine v_iload_n X dX7_copy_25 1 rfl ?_
      refine v_aaldK X 3 rfl js (v := .ref (B (42 + 2 * js))) x40 ejs (by omega) (by decide) (by rw [hsf js (by omega)]; rfl) dX7_copy_26 ?_
      refine v_cVi X [] sX7_265 (ct_X2_isMissing ll g  (hsh js (by omega))) (hsh js (by omega)) rfl dX7_copy_27 rfl rfl ⟨rfl, rfl⟩ ⟨(Nat.le_of_ble_eq_true rfl), (Nat.le_of_ble_eq_true rfl)⟩ ⟨Nat.zero_le _, Nat.zero_le _⟩ (Nat.le_of_ble_eq_true rfl) ?_
      refine v_ifb_ne X dX7_copy_30 (tgt := 45) (by decide) (fun c3 => ?_) (fun c3 => ?_)
      · refine v_aload_n X dX7_copy_45 0 rfl ?_
        refine v_ldcw X dX7_copy_46 kX7_269 ?_
        refine v_cVi X [.int (-1000000006)] sX7_73 (ct_X7_finding (pe := 0) (wy := 0) (pt := 0) (mt := 0) (np := 0) (nw := 0) (oc := 0) (fi := 0) (se := 0) (lo := 0) (q := 5) (v := (-1000000006)) ll g x0 x41 (by decide) (by decide)) x0 rfl dX7_copy_49 rfl rfl ⟨rfl, rfl⟩ ⟨(Nat.le_of_ble_eq_true rfl), (Nat.le_of_ble_eq_true rfl)⟩ ⟨Nat.zero_le _, Nat.zero_le _⟩ (Nat.le_of_ble_eq_true rfl) ?_
        have eqr : op_copy (d, k, hk, fo, tape, tp, bits, sz, num) s f u to n = ((-1000000006), (d, k, hk, fnd fo 5, tape, tp, bits, sz, num)) := by unfold op_copy; dsimp only; rw [if_pos ⟨c1, c2⟩, qjs, qju, if_pos (Or.inl c3)]
        have hCR : CR g (hU h (B 41) (ai g 7 (fnd fo 5))) B (d, k, hk, fnd fo 5, tape, tp, bits, sz, num) := ⟨hB, gX_e (hU_n (hB 0 41 (by omega) (by omega) (by omega))) cX, ⟨gW_e (hU_n (hB 1 41 (by omega) (by omega) (by omega))) ⟨rfl, rfl, rfl, rfl, rfl, rfl⟩ cW, gP_e (fun j hj => (hU_n (hB j 41 (by omega) (by omega) (by omega)))) rfl (fun _ _ _ => rfl) cP, gY_e (hU_n (hB 3 41 (by omega) (by omega) (by omega))) (fun x c hx hk => (hU_n (kd_ne hx x41 hk rfl))) rfl (fun _ _ _ => rfl) cY, gT_e (hU_n (hB 4 41 (by omega) (by omega) (by omega))) (fun _ _ _ => rfl) cT, gM_e (fun j h1 h2 => (hU_n (hB j 41 (by omega) (by omega) (by omega)))) (fun _ _ _ => rfl) cM⟩, ⟨k2, gWd_e (fun j h1 h2 => (hU_n (hB (j + 16) 41 (by omega) (by omega) (by omega)))) (fun x c hx hk => (hU_n (kd_ne hx x41 hk rfl))) cK, hk2⟩, gO_e (fun j h1 h2 => (hU_n (hB j 41 (by omega) (by omega) (by omega)))) cO, gR_e (hU_n (hB 37 41 (by omega) (by omega) (by omega))) cR, gA_e (fun j h1 h2 => (hU_n (hB j 41 (by omega) (by omega) (by omega)))) cA, gS_e (fun j h1 h2 => (hU_n (hB j 41 (by omega) (by omega) (by omega)))) cS, (hU_s : _)⟩
        exact v_iret X r dX7_copy_52 (Nat.le_refl _) (Nat.le_refl _) ⟨by rw [eqr], by rw [eqr]; exact hCR⟩
      · refine v_aload_n X dX7_copy_33 0 rfl ?_
        refine v_get X fX7_56 x0 rfl dX7_copy_34 ?_
        refine v_iload_n X dX7_copy_37 3 rfl ?_
        refine v_aaldK X 3 rfl ju (v := .ref (B (42 + 2 * ju))) x40 eju (by omega) (by decide) (by rw [hsf ju (by omega)]; rfl) dX7_copy_38 ?_
        refine v_cVi X [] sX7_265 (ct_X2_isMissing ll g  (hsh ju (by omega))) (hsh ju (by omega)) rfl dX7_copy_39 rfl rfl ⟨rfl, rfl⟩ ⟨(Nat.le_of_ble_eq_true rfl), (Nat.le_of_ble_eq_true rfl)⟩ ⟨Nat.zero_le _, Nat.zero_le _⟩ (Nat.le_of_ble_eq_true rfl) ?_
        refine v_ifb_eq X dX7_copy_42 (tgt := 53) (by decide) (fun c4 => ?_) (fun c4 => ?_)
        · refine v_aload_n X dX7_copy_53 0 rfl ?_
          refine v_get X fX7_56 x0 rfl dX7_copy_54 ?_
          refine v_iload_n X dX7_copy_57 1 rfl ?_
          refine v_aaldK X 3 rfl js (v := .ref (B (42 + 2 * js))) x40 ejs (by omega) (by decide) (by rw [hsf js (by omega)]; rfl) dX7_copy_58 ?_
          refine v_get X fX7_278 (hsh js (by omega)) rfl dX7_copy_59 ?_
          refine v_aload_n X dX7_copy_62 0 rfl ?_
          refine v_get X fX7_56 x0 rfl dX7_copy_63 ?_
          refine v_iload_n X dX7_copy_66 3 rfl ?_
          refine v_aaldK X 3 rfl ju (v := .ref (B (42 + 2 * ju))) x40 eju (by omega) (by decide) (by rw [hsf ju (by omega)]; rfl) dX7_copy_67 ?_
          refine v_get X fX7_278 (hsh ju (by omega)) rfl dX7_copy_68 ?_
          refine v_icmp_eq X dX7_copy_71 (tgt := 81) (by decide) (fun c5 => ?_) (fun c5 => ?_)
          · refine v_aload_n X dX7_copy_81 0 rfl ?_
            refine v_get X fX7_56 x0 rfl dX7_copy_82 ?_
            refine v_iload_n X dX7_copy_85 1 rfl ?_
            refine v_aaldK X 3 rfl js (v := .ref (B (42 + 2 * js))) x40 ejs (by omega) (by decide) (by rw [hsf js (by omega)]; rfl) dX7_copy_86 ?_
            refine v_iload_n X dX7_copy_87 2 rfl ?_
            refine v_iload X dX7_copy_88 5 rfl ?_
            refine v_cVi X [.int f, .int n] sX7_281 (ct_X2_hasRow ll g f n (hsh js (by omega))) (hsh js (by omega)) rfl dX7_copy_90 rfl rfl ⟨rfl, rfl⟩ ⟨(Nat.le_of_ble_eq_true rfl), (Nat.le_of_ble_eq_true rfl)⟩ ⟨Nat.zero_le _, Nat.zero_le _⟩ (Nat.le_of_ble_eq_true rfl) ?_
            refine v_ifb_eq X dX7_copy_93 (tgt := 112) (by decide) (fun c6 => ?_) (fun c6 => ?_)
            · refine v_aload_n X dX7_copy_112 0 rfl ?_
              refine v_ldc X dX7_copy_113 kX7_72 ?_
              refine v_cVi X [.int (-1000000001)] sX7_73 (ct_X7_finding (pe := 0) (wy := 0) (pt := 0) (mt := 0) (np := 0) (nw := 0) (oc := 0) (fi := 0) (se := 0) (lo := 0) (q := 0) (v := (-1000000001)) ll g x0 x41 (by decide) (by decide)) x0 rfl dX7_copy_115 rfl rfl ⟨rfl, rfl⟩ ⟨(Nat.le_of_ble_eq_true rfl), (Nat.le_of_ble_eq_true rfl)⟩ ⟨Nat.zero_le _, Nat.zero_le _⟩ (Nat.le_of_ble_eq_true rfl) ?_
              have eqr : op_copy (d, k, hk, fo, tape, tp, bits, sz, num) s f u to n = ((-1000000001), (d, k, hk, fnd fo 0, tape, tp, bits, sz, num)) := by unfold op_copy; dsimp only; rw [if_pos ⟨c1, c2⟩, qjs, qju, if_neg (fun z => z.elim c3 c4), if_neg (fun z => z c5), if_pos (Classical.byContradiction fun z => c6 ((row_iff ez hz0).mpr ⟨fun y => z (Or.inr (Or.inl y)), fun y => z (Or.inl y), fun y => z (Or.inr (Or.inr (Or.inr (Or.inl y))))⟩))]
              have hCR : CR g (hU h (B 41) (ai g 7 (fnd fo 0))) B (d, k, hk, fnd fo 0, tape, tp, bits, sz, num) := ⟨hB, gX_e (hU_n (hB 0 41 (by omega) (by omega) (by omega))) cX, ⟨gW_e (hU_n (hB 1 41 (by omega) (by omega) (by omega))) ⟨rfl, rfl, rfl, rfl, rfl, rfl⟩ cW, gP_e (fun j hj => (hU_n (hB j 41 (by omega) (by omega) (by omega)))) rfl (fun _ _ _ => rfl) cP, gY_e (hU_n (hB 3 41 (by omega) (by omega) (by omega))) (fun x c hx hk => (hU_n (kd_ne hx x41 hk rfl))) rfl (fun _ _ _ => rfl) cY, gT_e (hU_n (hB 4 41 (by omega) (by omega) (by omega))) (fun _ _ _ => rfl) cT, gM_e (fun j h1 h2 => (hU_n (hB j 41 (by omega) (by omega) (by omega)))) (fun _ _ _ => rfl) cM⟩, ⟨k2, gWd_e (fun j h1 h2 => (hU_n (hB (j + 16) 41 (by omega) (by omega) (by omega)))) (fun x c hx hk => (hU_n (kd_ne hx x41 hk rfl))) cK, hk2⟩, gO_e (fun j h1 h2 => (hU_n (hB j 41 (by omega) (by omega) (by omega)))) cO, gR_e (hU_n (hB 37 41 (by omega) (by omega) (by omega))) cR, gA_e (fun j h1 h2 => (hU_n (hB j 41 (by omega) (by omega) (by omega)))) cA, gS_e (fun j h1 h2 => (hU_n (hB j 41 (by omega) (by omega) (by omega)))) cS, (hU_s : _)⟩
              exact v_iret X r dX7_copy_118 (Nat.le_refl _) (Nat.le_refl _) ⟨by rw [eqr], by rw [eqr]; exact hCR⟩
            · refine v_aload_n X dX7_copy_96 0 rfl ?_
              refine v_get X fX7_56 x0 rfl dX7_copy_97 ?_
              refine v_iload_n X dX7_copy_100 3 rfl ?_
              refine v_aaldK X 3 rfl ju (v := .ref (B (42 + 2 * ju))) x40 eju (by omega) (by decide) (by rw [hsf ju (by omega)]; rfl) dX7_copy_101 ?_
              refine v_iload X dX7_copy_102 4 rfl ?_
              refine v_iload X dX7_copy_104 5 rfl ?_
              refine v_cVi X [.int to, .int n] sX7_281 (ct_X2_hasRow ll g to n (hsh ju (by omega))) (hsh ju (by omega)) rfl dX7_copy_106 rfl rfl ⟨rfl, rfl⟩ ⟨(Nat.le_of_ble_eq_true rfl), (Nat.le_of_ble_eq_true rfl)⟩ ⟨Nat.zero_le _, Nat.zero_le _⟩ (Nat.le_of_ble_eq_true rfl) ?_
              refine v_ifb_ne X dX7_copy_109 (tgt := 119) (by decide) (fun c7 => ?_) (fun c7 => ?_)
              · obtain ⟨ff, nn, ef, en, hfn⟩ := rowOk_n ez hz0 c6.2.1 c6.1 c6.2.2.2
                obtain ⟨t0, n2, et, en2, htn2⟩ := rowOk_n ez1 hz1 c7.2.1 c7.1 c7.2.2.2
                have enn : n2 = nn := nI_inj (by omega) (by omega) (en2.symm.trans en)
                subst enn
                have qf : pr f = ff := ix_cl ef (by omega)
                have qt : pr to = t0 := ix_cl et (by omega)
                have qnn : pr n = n2 := ix_cl en (by omega)
                refine v_aload_n X dX7_copy_119 0 rfl ?_
                refine v_get X fX7_56 x0 rfl dX7_copy_120 ?_
                refine v_iload_n X dX7_copy_123 1 rfl ?_
                refine v_aaldK X 3 rfl js (v := .ref (B (42 + 2 * js))) x40 ejs (by omega) (by decide) (by rw [hsf js (by omega)]; rfl) dX7_copy_124 ?_
                refine v_get X fX7_270 (hsh js (by omega)) rfl dX7_copy_125 ?_
                refine v_iload_n X dX7_copy_128 2 rfl ?_
                refine v_aload_n X dX7_copy_129 0 rfl ?_
                refine v_get X fX7_56 x0 rfl dX7_copy_130 ?_
                refine v_iload_n X dX7_copy_133 3 rfl ?_
                refine v_aaldK X 3 rfl ju (v := .ref (B (42 + 2 * ju))) x40 eju (by omega) (by decide) (by rw [hsf ju (by omega)]; rfl) dX7_copy_134 ?_
                refine v_get X fX7_270 (hsh ju (by omega)) rfl dX7_copy_135 ?_
                refine v_iload X dX7_copy_138 4 rfl ?_
                refine v_iload X dX7_copy_140 5 rfl ?_
                refine v_acp X ff t0 n2 (hnm js (by omega)) (hnm ju (by omega)) ef et en (by omega) (by omega) (Nat.le_of_ble_eq_true rfl) (by decide) dX7_copy_142 ?_
                refine v_iload X dX7_copy_145 5 rfl ?_
                have eqr : op_copy (d, k, hk, fo, tape, tp, bits, sz, num) s f u to n = (n, (d, k, hk, fo, tape, tp, bits, sz, va_cpy num num (40 * js + ff) (40 * ju + t0) n2)) := by unfold op_copy; dsimp only; rw [if_pos ⟨c1, c2⟩, qjs, qju, if_neg (fun z => z.elim c3 c4), if_neg (fun z => z c5), if_neg (fun z => z.elim c6.2.1 (fun z => z.elim c6.1 (fun z => z.elim c7.1 (fun z => z.elim c6.2.2.2 c7.2.2.2)))), qf, qt, qnn]
                have hCR : CR g (hU h (B (43 + 2 * ju)) (al g 40 (va_cpy (nf js) (nf ju) ff t0 n2))) B (d, k, hk, fo, tape, tp, bits, sz, va_cpy num num (40 * js + ff) (40 * ju + t0) n2) := ⟨hB, gX_e (hU_n (hB 0 (43 + 2 * ju) (by omega) (by omega) (by omega))) cX, ⟨gW_e (hU_n (hB 1 (43 + 2 * ju) (by omega) (by omega) (by omega))) ⟨rfl, rfl, rfl, rfl, rfl, rfl⟩ cW, gP_e (fun j hj => (hU_n (hB j (43 + 2 * ju) (by omega) (by omega) (by omega)))) rfl (fun _ _ _ => rfl) cP, gY_e (hU_n (hB 3 (43 + 2 * ju) (by omega) (by omega) (by omega))) (fun x c hx hk => (hU_n (kd_ne hx (hnm ju (by omega)) hk rfl))) rfl (fun _ _ _ => rfl) cY, gT_e (hU_n (hB 4 (43 + 2 * ju) (by omega) (by omega) (by omega))) (fun _ _ _ => rfl) cT, gM_e (fun j h1 h2 => (hU_n (hB j (43 + 2 * ju) (by omega) (by omega) (by omega)))) (fun _ _ _ => rfl) cM⟩, ⟨k2, gWd_e (fun j h1 h2 => (hU_n (hB (j + 16) (43 + 2 * ju) (by omega) (by omega) (by omega)))) (fun x c hx hk => (hU_n (kd_ne hx (hnm ju (by omega)) hk rfl))) cK, hk2⟩, gO_e (fun j h1 h2 => (hU_n (hB j (43 + 2 * ju) (by omega) (by omega) (by omega)))) cO, gR_e (hU_n (hB 37 (43 + 2 * ju) (by omega) (by omega) (by omega))) cR, gA_e (fun j h1 h2 => (hU_n (hB j (43 + 2 * ju) (by omega) (by omega) (by omega)))) cA, gS_one (by omega) cS (hU_n (hB 40 (43 + 2 * ju) (by omega) (by omega) (by omega))) (fun s hs => (hU_n (hB (42 + 2 * s) (43 + 2 * ju) (by omega) (by omega) (by omega)))) hU_s (fun s hs hne => (hU_n (hB (43 + 2 * s) (43 + 2 * ju) (by omega) (by omega) (by omega)))) (cp_in (by omega) (by omega) (by omega) (by omega) hnv) (cp_out (by omega)), gF_e (hU_n (hB 41 (43 + 2 * ju) (by omega) (by omega) (by omega))) cF⟩
                exact v_iret X r dX7_copy_147 (Nat.le_refl _) (Nat.le_refl _) ⟨by rw [eqr], by rw [eqr]; exact hCR⟩
              · refine v_aload_n X dX7_copy_112 0 rfl ?_
                refine v_ldc X dX7_copy_113 kX7_72 ?_
                refine v_cVi X [.int (-1000000001)] sX7_73 (ct_X7_finding (pe := 0) (wy := 0) (pt := 0) (mt := 0) (np := 0) (nw := 0) (oc := 0) (fi := 0) (se := 0) (lo := 0) (q := 0) (v := (-1000000001)) ll g x0 x41 (by decide) (by decide)) x0 rfl dX7_copy_115 rfl rfl ⟨rfl, rfl⟩ ⟨(Nat.le_of_ble_eq_true rfl), (Nat.le_of_ble_eq_true rfl)⟩ ⟨Nat.zero_le _, Nat.zero_le _⟩ (Nat.le_of_ble_eq_true rfl) ?_
                have eqr : op_copy (d, k, hk, fo, tape, tp, bits, sz, num) s f u to n = ((-1000000001), (d, k, hk, fnd fo 0, tape, tp, bits, sz, num)) := by unfold op_copy; dsimp only; rw [if_pos ⟨c1, c2⟩, qjs, qju, if_neg (fun z => z.elim c3 c4), if_neg (fun z => z c5), if_pos (Classical.byContradiction fun z => c7 ((row_iff ez1 hz1).mpr ⟨fun y => z (Or.inr (Or.inr (Or.inl y))), fun y => z (Or.inl y), fun y => z (Or.inr (Or.inr (Or.inr (Or.inr y))))⟩))]
                have hCR : CR g (hU h (B 41) (ai g 7 (fnd fo 0))) B (d, k, hk, fnd fo 0, tape, tp, bits, sz, num) := ⟨hB, gX_e (hU_n (hB 0 41 (by omega) (by omega) (by omega))) cX, ⟨gW_e (hU_n (hB 1 41 (by omega) (by omega) (by omega))) ⟨rfl, rfl, rfl, rfl, rfl, rfl⟩ cW, gP_e (fun j hj => (hU_n (hB j 41 (by omega) (by omega) (by omega)))) rfl (fun _ _ _ => rfl) cP, gY_e (hU_n (hB 3 41 (by omega) (by omega) (by omega))) (fun x c hx hk => (hU_n (kd_ne hx x41 hk rfl))) rfl (fun _ _ _ => rfl) cY, gT_e (hU_n (hB 4 41 (by omega) (by omega) (by omega))) (fun _ _ _ => rfl) cT, gM_e (fun j h1 h2 => (hU_n (hB j 41 (by omega) (by omega) (by omega)))) (fun _ _ _ => rfl) cM⟩, ⟨k2, gWd_e (fun j h1 h2 => (hU_n (hB (j + 16) 41 (by omega) (by omega) (by omega)))) (fun x c hx hk => (hU_n (kd_ne hx x41 hk rfl))) cK, hk2⟩, gO_e (fun j h1 h2 => (hU_n (hB j 41 (by omega) (by omega) (by omega)))) cO, gR_e (hU_n (hB 37 41 (by omega) (by omega) (by omega))) cR, gA_e (fun j h1 h2 => (hU_n (hB j 41 (by omega) (by omega) (by omega)))) cA, gS_e (fun j h1 h2 => (hU_n (hB j 41 (by omega) (by omega) (by omega)))) cS, (hU_s : _)⟩
                exact v_iret X r dX7_copy_118 (Nat.le_refl _) (Nat.le_refl _) ⟨by rw [eqr], by rw [eqr]; exact hCR⟩
          · refine v_aload_n X dX7_copy_74 0 rfl ?_
            refine v_ldc X dX7_copy_75 kX7_113 ?_
            refine v_cVi X [.int (-1000000003)] sX7_73 (ct_X7_finding (pe := 0) (wy := 0) (pt := 0) (mt := 0) (np := 0) (nw := 0) (oc := 0) (fi := 0) (se := 0) (lo := 0) (q := 2) (v := (-1000000003)) ll g x0 x41 (by decide) (by decide)) x0 rfl dX7_copy_77 rfl rfl ⟨rfl, rfl⟩ ⟨(Nat.le_of_ble_eq_true rfl), (Nat.le_of_ble_eq_true rfl)⟩ ⟨Nat.zero_le _, Nat.zero_le _⟩ (Nat.le_of_ble_eq_true rfl) ?_
            have eqr : op_copy (d, k, hk, fo, tape, tp, bits, sz, num) s f u to n = ((-1000000003), (d, k, hk, fnd fo 2, tape, tp, bits, sz, num)) := by unfold op_copy; dsimp only; rw [if_pos ⟨c1, c2⟩, qjs, qju, if_neg (fun z => z.elim c3 c4), if_pos c5]
            have hCR : CR g (hU h (B 41) (ai g 7 (fnd fo 2))) B (d, k, hk, fnd fo 2, tape, tp, bits, sz, num) := ⟨hB, gX_e (hU_n (hB 0 41 (by omega) (by omega) (by omega))) cX, ⟨gW_e (hU_n (hB 1 41 (by omega) (by omega) (by omega))) ⟨rfl, rfl, rfl, rfl, rfl, rfl⟩ cW, gP_e (fun j hj => (hU_n (hB j 41 (by omega) (by omega) (by omega)))) rfl (fun _ _ _ => rfl) cP, gY_e (hU_n (hB 3 41 (by omega) (by omega) (by omega))) (fun x c hx hk => (hU_n (kd_ne hx x41 hk rfl))) rfl (fun _ _ _ => rfl) cY, gT_e (hU_n (hB 4 41 (by omega) (by omega) (by omega))) (fun _ _ _ => rfl) cT, gM_e (fun j h1 h2 => (hU_n (hB j 41 (by omega) (by omega) (by omega)))) (fun _ _ _ => rfl) cM⟩, ⟨k2, gWd_e (fun j h1 h2 => (hU_n (hB (j + 16) 41 (by omega) (by omega) (by omega)))) (fun x c hx hk => (hU_n (kd_ne hx x41 hk rfl))) cK, hk2⟩, gO_e (fun j h1 h2 => (hU_n (hB j 41 (by omega) (by omega) (by omega)))) cO, gR_e (hU_n (hB 37 41 (by omega) (by omega) (by omega))) cR, gA_e (fun j h1 h2 => (hU_n (hB j 41 (by omega) (by omega) (by omega)))) cA, gS_e (fun j h1 h2 => (hU_n (hB j 41 (by omega) (by omega) (by omega)))) cS, (hU_s : _)⟩
            exact v_iret X r dX7_copy_80 (Nat.le_refl _) (Nat.le_refl _) ⟨by rw [eqr], by rw [eqr]; exact hCR⟩
        · refine v_aload_n X dX7_copy_45 0 rfl ?_
          refine v_ldcw X dX7_copy_46 kX7_269 ?_
          refine v_cVi X [.int (-1000000006)] sX7_73 (ct_X7_finding (pe := 0) (wy := 0) (pt := 0) (mt := 0) (np := 0) (nw := 0) (oc := 0) (fi := 0) (se := 0) (lo := 0) (q := 5) (v := (-1000000006)) ll g x0 x41 (by decide) (by decide)) x0 rfl dX7_copy_49 rfl rfl ⟨rfl, rfl⟩ ⟨(Nat.le_of_ble_eq_true rfl), (Nat.le_of_ble_eq_true rfl)⟩ ⟨Nat.zero_le _, Nat.zero_le _⟩ (Nat.le_of_ble_eq_true rfl) ?_
          have eqr : op_copy (d, k, hk, fo, tape, tp, bits, sz, num) s f u to n = ((-1000000006), (d, k, hk, fnd fo 5, tape, tp, bits, sz, num)) := by unfold op_copy; dsimp only; rw [if_pos ⟨c1, c2⟩, qjs, qju, if_pos (Or.inr c4)]
          have hCR : CR g (hU h (B 41) (ai g 7 (fnd fo 5))) B (d, k, hk, fnd fo 5, tape, tp, bits, sz, num) := ⟨hB, gX_e (hU_n (hB 0 41 (by omega) (by omega) (by omega))) cX, ⟨gW_e (hU_n (hB 1 41 (by omega) (by omega) (by omega))) ⟨rfl, rfl, rfl, rfl, rfl, rfl⟩ cW, gP_e (fun j hj => (hU_n (hB j 41 (by omega) (by omega) (by omega)))) rfl (fun _ _ _ => rfl) cP, gY_e (hU_n (hB 3 41 (by omega) (by omega) (by omega))) (fun x c hx hk => (hU_n (kd_ne hx x41 hk rfl))) rfl (fun _ _ _ => rfl) cY, gT_e (hU_n (hB 4 41 (by omega) (by omega) (by omega))) (fun _ _ _ => rfl) cT, gM_e (fun j h1 h2 => (hU_n (hB j 41 (by omega) (by omega) (by omega)))) (fun _ _ _ => rfl) cM⟩, ⟨k2, gWd_e (fun j h1 h2 => (hU_n (hB (j + 16) 41 (by omega) (by omega) (by omega)))) (fun x c hx hk => (hU_n (kd_ne hx x41 hk rfl))) cK, hk2⟩, gO_e (fun j h1 h2 => (hU_n (hB j 41 (by omega) (by omega) (by omega)))) cO, gR_e (hU_n (hB 37 41 (by omega) (by omega) (by omega))) cR, gA_e (fun j h1 h2 => (hU_n (hB j 41 (by omega) (by omega) (by omega)))) cA, gS_e (fun j h1 h2 => (hU_n (hB j 41 (by omega) (by omega) (by omega)))) cS, (hU_s : _)⟩
          exact v_iret X r dX7_copy_52 (Nat.le_refl _) (Nat.le_refl _) ⟨by rw [eqr], by rw [eqr]; exact hCR⟩
    · refine v_aload_n X dX7_copy_14 0 rfl ?_
      refine v_ldc X dX7_copy_15 kX7_72 ?_
      refine v_cVi X [.int (-1000000001)] sX7_73 (ct_X7_finding (pe := 0) (wy := 0) (pt := 0) (mt := 0) (np := 0) (nw := 0) (oc := 0) (fi := 0) (se := 0) (lo := 0) (q := 0) (v := (-1000000001)) ll g x0 x41 (by decide) (by decide)) x0 rfl dX7_copy_17 rfl rfl ⟨rfl, rfl⟩ ⟨(Nat.le_of_ble_eq_true rfl), (Nat.le_of_ble_eq_true rfl)⟩ ⟨Nat.zero_le _, Nat.zero_le _⟩ (Nat.le_of_ble_eq_true rfl) ?_
      have eqr : op_copy (d, k, hk, fo, tape, tp, bits, sz, num) s f u to n = ((-1000000001), (d, k, hk, fnd fo 0, tape, tp, bits, sz, num)) := by unfold op_copy; dsimp only; rw [if_neg (fun z => c2 z.2)]
      have hCR : CR g (hU h (B 41) (ai g 7 (fnd fo 0))) B (d, k, hk, fnd fo 0, tape, tp, bits, sz, num) := ⟨hB, gX_e (hU_n (hB 0 41 (by omega) (by omega) (by omega))) cX, ⟨gW_e (hU_n (hB 1 41 (by omega) (by omega) (by omega))) ⟨rfl, rfl, rfl, rfl, rfl, rfl⟩ cW, gP_e (fun j hj => (hU_n (hB j 41 (by omega) (by omega) (by omega)))) rfl (fun _ _ _ => rfl) cP, gY_e (hU_n (hB 3 41 (by omega) (by omega) (by omega))) (fun x c hx hk => (hU_n (kd_ne hx x41 hk rfl))) rfl (fun _ _ _ => rfl) cY, gT_e (hU_n (hB 4 41 (by omega) (by omega) (by omega))) (fun _ _ _ => rfl) cT, gM_e (fun j h1 h2 => (hU_n (hB j 41 (by omega) (by omega) (by omega)))) (fun _ _ _ => rfl) cM⟩, ⟨k2, gWd_e (fun j h1 h2 => (hU_n (hB (j + 16) 41 (by omega) (by omega) (by omega)))) (fun x c hx hk => (hU_n (kd_ne hx x41 hk rfl))) cK, hk2⟩, gO_e (fun j h1 h2 => (hU_n (hB j 41 (by omega) (by omega) (by omega)))) cO, gR_e (hU_n (hB 37 41 (by omega) (by omega) (by omega))) cR, gA_e (fun j h1 h2 => (hU_n (hB j 41 (by omega) (by omega) (by omega)))) cA, gS_e (fun j h1 h2 => (hU_n (hB j 41 (by omega) (by omega) (by omega)))) cS, (hU_s : _)⟩
      exact v_iret X r dX7_copy_20 (Nat.le_refl _) (Nat.le_refl _) ⟨by rw [eqr], by rw [eqr]; exact hCR⟩
