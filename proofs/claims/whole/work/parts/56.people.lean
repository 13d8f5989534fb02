/-! ===== the class: people, the log, who gets on ===== -/
theorem gW_i {h2 : Hp} {C : Nat → Nat} {d2 : Nat → Int32} {y0 y1 y2 y3 y4 y7 : Int32} (p : h2 (C 1) = some (ob 6 [.ref (C 2), .int y0, .ref (C 3), .int y1, .ref (C 4), .ref (C 5), .int y2, .int y3, .int y4, .int y7])) (q0 : d2 0 = y0) (q1 : d2 1 = y1) (q2 : bI (d2 2 = 1) = y2) (q3 : d2 3 = y3) (q4 : d2 4 = y4) (q7 : d2 7 = y7) : gW h2 C d2 := by
  unfold gW; rw [q0, q1, q2, q3, q4, q7]; exact p
theorem gM_i {g : GT} {h2 : Hp} {C : Nat → Nat} {d2 tr : Nat → Int32} {T : Nat} {y5 y6 y8 y16 y18 y20 y17 y19 y21 s0 v0 s1 v1 : Int32} (p5 : h2 (C 5) = some (ob 0 [.ref (C 4), .ref (C 3), .ref (C 6), .ref (C 7), .ref (C 8), .int y5, .int y6, .int y8])) (p6 : h2 (C 6) = some (ai g 10 tr)) (p7 : h2 (C 7) = some (ob 3 [.int y16, .int y18, .int y20, .int s0, .int v0])) (p8 : h2 (C 8) = some (ob 3 [.int y17, .int y19, .int y21, .int s1, .int v1])) (q5 : d2 5 = y5) (q6 : d2 6 = y6) (q8 : d2 8 = y8) (q16 : d2 16 = y16) (q18 : d2 18 = y18) (q20 : d2 20 = y20) (q17 : d2 17 = y17) (q19 : d2 19 = y19) (q21 : d2 21 = y21) (eT : d2 6 = nI T) (hT : T < 2 ^ 30) (hR : RingOk d2 T tr) (hB : RB T tr) : gM g h2 C d2 := by
  refine ⟨tr, T, s0, v0, s1, v1, ?_, p6, ?_, ?_, eT, hT, hR, hB⟩
  · rw [q5, q6, q8]; exact p5
  · rw [q16, q18, q20]; exact p7
  · rw [q17, q19, q21]; exact p8
theorem gP_set {g : GT} {h h2 : Hp} {C : Nat → Nat} {d : Nat → Int32} {p w : Nat} {v : Int32} (hp : p < 8) (hw : w < 7) (H : gP g h C d) (e2 : h2 (C 2) = h (C 2)) (ep : h2 (C (9 + p)) = some (ob 1 [.int ((upd (told d p) w v) 0), .int ((upd (told d p) w v) 1), .int ((upd (told d p) w v) 2), .int ((upd (told d p) w v) 3), .int ((upd (told d p) w v) 4), .int ((upd (told d p) w v) 5), .int ((upd (told d p) w v) 6)])) (eo : ∀ q, q < 8 → q ≠ p → h2 (C (9 + q)) = h (C (9 + q))) : gP g h2 C (upd d (40 + 8 * p + w) v) := by
  obtain ⟨pf, F, a1, a2, a3, a4⟩ := H
  refine ⟨pf, fun q => if q = p then upd (told d p) w v else F q, e2.trans a1, a2, fun q hq => ?_, fun q hq hn y hy => ?_⟩
  · by_cases z : q = p
    · subst z; simp only [if_pos]; exact ep
    · simp only [if_neg z]; exact (eo q hq z).trans (a3 q hq)
  · rw [pk_un (show 0 ≠ 40 + 8 * p + w by omega)] at hn
    by_cases z : q = p
    · subst z
      simp only [if_pos]
      show _ = upd d (40 + 8 * q + w) v (40 + 8 * q + y)
      by_cases x : y = w
      · subst x; rw [pk_us, pk_us]
      · rw [pk_un x, pk_un (by omega)]; rfl
    · simp only [if_neg z]
      rw [a4 q hq hn y hy]
      exact (pk_un (show 40 + 8 * q + y ≠ 40 + 8 * p + w by omega)).symm
theorem newP_0 {d : Nat → Int32} {n : Nat} {k w : Int32} : told (newP d n k w) n 0 = k := by
  unfold told newP
  rw [pk_un (by omega), pk_un (by omega), pk_un (by omega), pk_un (by omega), pk_un (by omega), pk_un (by omega), pk_un (by omega), pk_us]
theorem newP_1 {d : Nat → Int32} {n : Nat} {k w : Int32} : told (newP d n k w) n 1 = w := by
  unfold told newP
  rw [pk_un (by omega), pk_un (by omega), pk_un (by omega), pk_un (by omega), pk_un (by omega), pk_un (by omega), pk_us]
theorem newP_2 {d : Nat → Int32} {n : Nat} {k w : Int32} : told (newP d n k w) n 2 = 2 := by
  unfold told newP
  rw [pk_un (by omega), pk_un (by omega), pk_un (by omega), pk_un (by omega), pk_un (by omega), pk_us]
theorem newP_3 {d : Nat → Int32} {n : Nat} {k w : Int32} : told (newP d n k w) n 3 = 20 := by
  unfold told newP
  rw [pk_un (by omega), pk_un (by omega), pk_un (by omega), pk_un (by omega), pk_us]
theorem newP_4 {d : Nat → Int32} {n : Nat} {k w : Int32} : told (newP d n k w) n 4 = 300 := by
  unfold told newP
  rw [pk_un (by omega), pk_un (by omega), pk_un (by omega), pk_us]
theorem newP_5 {d : Nat → Int32} {n : Nat} {k w : Int32} : told (newP d n k w) n 5 = 0 := by
  unfold told newP
  rw [pk_un (by omega), pk_un (by omega), pk_us]
theorem newP_6 {d : Nat → Int32} {n : Nat} {k w : Int32} : told (newP d n k w) n 6 = -1 := by
  unfold told newP
  rw [pk_un (by omega), pk_us]
theorem newP_n {d : Nat → Int32} {n j : Nat} {k w : Int32} (h0 : j ≠ 0) (h : j < 40 + 8 * n ∨ 40 + 8 * n + 7 ≤ j) : newP d n k w j = d j := by
  unfold newP
  rw [pk_un (by omega), pk_un (by omega), pk_un (by omega), pk_un (by omega), pk_un (by omega), pk_un (by omega), pk_un (by omega), pk_un (by omega)]
theorem gP_new {g : GT} {h h2 : Hp} {C : Nat → Nat} {d : Nat → Int32} {n : Nat} {kind weight : Int32} (hn8 : n < 8) (e0 : d 0 = nI n) (H : gP g h C d) (e2 : h2 (C 2) = h (C 2)) (ep : h2 (C (9 + n)) = some (ob 1 [.int kind, .int weight, .int 2, .int 20, .int 300, .int 0, .int (-1)])) (eo : ∀ q, q < 8 → q ≠ n → h2 (C (9 + q)) = h (C (9 + q))) : gP g h2 C (newP d n kind weight) := by
  obtain ⟨pf, F, a1, a2, a3, a4⟩ := H
  refine ⟨pf, fun q => if q = n then told (newP d n kind weight) n else F q, e2.trans a1, a2, fun q hq => ?_, fun q hq hn y hy => ?_⟩
  · by_cases z : q = n
    · subst z; simp only [if_pos, newP_0, newP_1, newP_2, newP_3, newP_4, newP_5, newP_6]; exact ep
    · simp only [if_neg z]; exact (eo q hq z).trans (a3 q hq)
  · have e1 : newP d n kind weight 0 = nI (n + 1) := by
      show upd _ 0 (d 0 + 1) 0 = _
      rw [pk_us, e0, nI_1]
    rw [e1, nI_clamp (by omega)] at hn
    by_cases z : q = n
    · subst z; simp only [if_pos]
    · simp only [if_neg z]
      rw [a4 q hq (by rw [e0, nI_clamp (by omega)]; omega) y hy]
      exact (newP_n (d := d) (j := 40 + 8 * q + y) (by omega) (by omega)).symm
theorem gA_21 {d : Nat → Int32} {a b : Nat} : getsA d a b 21 = told d b 4 := by
  unfold getsA
  rw [pk_us]
theorem gA_19 {d : Nat → Int32} {a b : Nat} : getsA d a b 19 = 0 := by
  unfold getsA
  rw [pk_un (by decide), pk_us]
theorem gA_17 {d : Nat → Int32} {a b : Nat} : getsA d a b 17 = 0 := by
  unfold getsA
  rw [pk_un (by decide), pk_un (by decide), pk_us]
theorem gA_20 {d : Nat → Int32} {a b : Nat} : getsA d a b 20 = told d a 4 := by
  unfold getsA
  rw [pk_un (by decide), pk_un (by decide), pk_un (by decide), pk_us]
theorem gA_18 {d : Nat → Int32} {a b : Nat} : getsA d a b 18 = 0 := by
  unfold getsA
  rw [pk_un (by decide), pk_un (by decide), pk_un (by decide), pk_un (by decide), pk_us]
theorem gA_16 {d : Nat → Int32} {a b : Nat} : getsA d a b 16 = 0 := by
  unfold getsA
  rw [pk_un (by decide), pk_un (by decide), pk_un (by decide), pk_un (by decide), pk_un (by decide), pk_us]
theorem gA_6 {d : Nat → Int32} {a b : Nat} : getsA d a b 6 = 0 := by
  unfold getsA
  rw [pk_un (by decide), pk_un (by decide), pk_un (by decide), pk_un (by decide), pk_un (by decide), pk_un (by decide), pk_us]
theorem gA_5 {d : Nat → Int32} {a b : Nat} : getsA d a b 5 = 0 := by
  unfold getsA
  rw [pk_un (by decide), pk_un (by decide), pk_un (by decide), pk_un (by decide), pk_un (by decide), pk_un (by decide), pk_un (by decide), pk_us]
theorem gA_4 {d : Nat → Int32} {a b : Nat} : getsA d a b 4 = nI b := by
  unfold getsA
  rw [pk_un (by decide), pk_un (by decide), pk_un (by decide), pk_un (by decide), pk_un (by decide), pk_un (by decide), pk_un (by decide), pk_un (by decide), pk_us]
theorem gA_3 {d : Nat → Int32} {a b : Nat} : getsA d a b 3 = nI a := by
  unfold getsA
  rw [pk_un (by decide), pk_un (by decide), pk_un (by decide), pk_un (by decide), pk_un (by decide), pk_un (by decide), pk_un (by decide), pk_un (by decide), pk_un (by decide), pk_us]
theorem gA_2 {d : Nat → Int32} {a b : Nat} : getsA d a b 2 = 1 := by
  unfold getsA
  rw [pk_un (by decide), pk_un (by decide), pk_un (by decide), pk_un (by decide), pk_un (by decide), pk_un (by decide), pk_un (by decide), pk_un (by decide), pk_un (by decide), pk_un (by decide), pk_us]
theorem gA_n {d : Nat → Int32} {a b j : Nat} (h : j < 2 ∨ j = 7 ∨ (8 ≤ j ∧ j < 16) ∨ 22 ≤ j) : getsA d a b j = d j := by
  unfold getsA
  rw [pk_un (by omega), pk_un (by omega), pk_un (by omega), pk_un (by omega), pk_un (by omega), pk_un (by omega), pk_un (by omega), pk_un (by omega), pk_un (by omega), pk_un (by omega), pk_un (by omega)]
theorem gA_told {d : Nat → Int32} {a b p : Nat} : told (getsA d a b) p = told d p := by
  funext w; unfold told; exact gA_n (by omega)
theorem ptF_at {d : Nat → Int32} {j : Nat} (h : j < 5) : ptF d j = d (10 + j) := if_pos h
theorem ptF_u {d : Nat → Int32} {j : Nat} {v : Int32} (h : j < 5) : upd (ptF d) j v = ptF (upd d (10 + j) v) := by
  funext x
  by_cases z : x = j
  · subst z; rw [pk_us, ptF_at h, pk_us]
  · rw [pk_un z]
    by_cases y : x < 5
    · rw [ptF_at y, ptF_at y, pk_un (by omega)]
    · unfold ptF; rw [if_neg y, if_neg y]
theorem least_t {j : Nat} (h : j ≤ 4) : tb2.getD j 0 = leastS (nI j) ∧ tb3.getD j 0 = mostS (nI j) := by
  have hc : j = 0 ∨ j = 1 ∨ j = 2 ∨ j = 3 ∨ j = 4 := by omega
  rcases hc with rfl | rfl | rfl | rfl | rfl <;> decide
theorem ol_iff {O : Prop} {p a b : Int32} : (O ∧ (p = a ∨ p = b)) ↔ (O ∧ (a = p ∨ b = p)) := ⟨fun q => ⟨q.1, q.2.elim (fun z => Or.inl z.symm) (fun z => Or.inr z.symm)⟩, fun q => ⟨q.1, q.2.elim (fun z => Or.inl z.symm) (fun z => Or.inr z.symm)⟩⟩
theorem ring0 {d tr : Nat → Int32} {a b : Nat} : RingOk (getsA d a b) 0 (upd tr 0 0) := ⟨by rw [gA_5]; exact pk_us, fun j hj => absurd hj (Nat.not_lt_zero j)⟩
theorem RB0 {tr : Nat → Int32} : RB 0 (upd tr 0 0) := fun j hj _ => by
  have : j = 0 := by omega
  subst this
  show iB (upd tr 0 0 0) _
  rw [pk_us]; exact zB (by decide)
set_option maxHeartbeats 4000000 in
set_option maxRecDepth 100000 in
theorem ct_X7_maySet (ll : Launch) (g : GT) {h : Hp} {x w kp ot tl tp sh fo pe wy pt mt : Nat} {ik np oc fi se lo : Int32} {d : Nat → Int32} (what v : Int32) (hx : h x = some (ob 7 [.ref w, .ref kp, .int ik, .ref ot, .ref tl, .ref tp, .ref sh, .ref fo])) (hw : h w = some (ob 6 [.ref pe, .int np, .ref wy, .int (d 1), .ref pt, .ref mt, .int oc, .int fi, .int se, .int lo])) : MF ll g yX7_maySet cX7_maySet 3 (some .boolean) (k2_rm 1 30) [.ref x, .int what, .int v] h (some (.int (bI (okSet d what v)))) h := by
  refine mc_of (by decide) (Nat.le_of_ble_eq_true rfl) ?_
  intro K X r
  refine v_eqv (lv2 := [(0, .ref x), (1, .int what), (2, .int v)]) rfl ?_
  refine v_iload_n X dX7_maySet_0 1 rfl ?_
  by_cases c1_1 : what = 1
  · refine v_tabIn X dX7_maySet_1 (off := 39) (tgt := 40) 1 c1_1 (by decide) (by decide) (by decide) (by decide) ?_
    refine v_iload_n X dX7_maySet_40 2 rfl ?_
    refine v_iconst X dX7_maySet_41 (v := 1) (by decide) ?_
    refine v_sipush X dX7_maySet_42 (v := 299) (by decide) ?_
    refine v_cSi X [.int v, .int 1, .int 299] sX7_68 (ct_X7_within ll g v 1 299) dX7_maySet_45 rfl rfl ⟨rfl, rfl⟩ ⟨(Nat.le_of_ble_eq_true rfl), (Nat.le_of_ble_eq_true rfl)⟩ ⟨Nat.zero_le _, Nat.zero_le _⟩ (Nat.le_of_ble_eq_true rfl) ?_
    exact v_zret X r dX7_maySet_48 (bI_nar _) (Nat.le_refl _) (Nat.le_refl _) ⟨ri (bI_congr (by simp [okSet, c1_1])), rfl⟩
  by_cases c1_2 : what = 2
  · refine v_tabIn X dX7_maySet_1 (off := 48) (tgt := 49) 2 c1_2 (by decide) (by decide) (by decide) (by decide) ?_
    refine v_iload_n X dX7_maySet_49 2 rfl ?_
    refine v_iconst X dX7_maySet_50 (v := 0) (by decide) ?_
    refine v_bipush X dX7_maySet_51 (v := 9) (by decide) ?_
    refine v_cSi X [.int v, .int 0, .int 9] sX7_68 (ct_X7_within ll g v 0 9) dX7_maySet_53 rfl rfl ⟨rfl, rfl⟩ ⟨(Nat.le_of_ble_eq_true rfl), (Nat.le_of_ble_eq_true rfl)⟩ ⟨Nat.zero_le _, Nat.zero_le _⟩ (Nat.le_of_ble_eq_true rfl) ?_
    exact v_zret X r dX7_maySet_56 (bI_nar _) (Nat.le_refl _) (Nat.le_refl _) ⟨ri (bI_congr (by simp [okSet, c1_2])), rfl⟩
  by_cases c1_3 : what = 3
  · refine v_tabIn X dX7_maySet_1 (off := 56) (tgt := 57) 3 c1_3 (by decide) (by decide) (by decide) (by decide) ?_
    refine v_iload_n X dX7_maySet_57 2 rfl ?_
    refine v_iconst X dX7_maySet_58 (v := 1) (by decide) ?_
    refine v_bipush X dX7_maySet_59 (v := 99) (by decide) ?_
    refine v_cSi X [.int v, .int 1, .int 99] sX7_68 (ct_X7_within ll g v 1 99) dX7_maySet_61 rfl rfl ⟨rfl, rfl⟩ ⟨(Nat.le_of_ble_eq_true rfl), (Nat.le_of_ble_eq_true rfl)⟩ ⟨Nat.zero_le _, Nat.zero_le _⟩ (Nat.le_of_ble_eq_true rfl) ?_
    exact v_zret X r dX7_maySet_64 (bI_nar _) (Nat.le_refl _) (Nat.le_refl _) ⟨ri (bI_congr (by simp [okSet, c1_3])), rfl⟩
  by_cases c1_4 : what = 4
  · refine v_tabIn X dX7_maySet_1 (off := 64) (tgt := 65) 4 c1_4 (by decide) (by decide) (by decide) (by decide) ?_
    refine v_iload_n X dX7_maySet_65 2 rfl ?_
    refine v_iconst X dX7_maySet_66 (v := 0) (by decide) ?_
    refine v_sipush X dX7_maySet_67 (v := 999) (by decide) ?_
    refine v_cSi X [.int v, .int 0, .int 999] sX7_68 (ct_X7_within ll g v 0 999) dX7_maySet_70 rfl rfl ⟨rfl, rfl⟩ ⟨(Nat.le_of_ble_eq_true rfl), (Nat.le_of_ble_eq_true rfl)⟩ ⟨Nat.zero_le _, Nat.zero_le _⟩ (Nat.le_of_ble_eq_true rfl) ?_
    exact v_zret X r dX7_maySet_73 (bI_nar _) (Nat.le_refl _) (Nat.le_refl _) ⟨ri (bI_congr (by simp [okSet, c1_4])), rfl⟩
  by_cases c1_5 : what = 5
  · refine v_tabIn X dX7_maySet_1 (off := 88) (tgt := 89) 5 c1_5 (by decide) (by decide) (by decide) (by decide) ?_
    refine v_iconst X dX7_maySet_89 (v := 0) (by decide) ?_
    exact v_zret X r dX7_maySet_90 rfl (Nat.le_refl _) (Nat.le_refl _) ⟨ri (bI_f (by simp [okSet, c1_1, c1_2, c1_3, c1_4, c1_5])).symm, rfl⟩
  by_cases c1_6 : what = 6
  · refine v_tabIn X dX7_maySet_1 (off := 73) (tgt := 74) 6 c1_6 (by decide) (by decide) (by decide) (by decide) ?_
    refine v_iload_n X dX7_maySet_74 2 rfl ?_
    refine v_iconst X dX7_maySet_75 (v := (-1)) (by decide) ?_
    refine v_aload_n X dX7_maySet_76 0 rfl ?_
    refine v_get X fX7_10 hx rfl dX7_maySet_77 ?_
    refine v_get X fX7_242 hw rfl dX7_maySet_80 ?_
    refine v_iconst X dX7_maySet_83 (v := 1) (by decide) ?_
    refine v_isub X dX7_maySet_84 ?_
    refine v_cSi X [.int v, .int (-1), .int ((d 1) - 1)] sX7_68 (ct_X7_within ll g v (-1) ((d 1) - 1)) dX7_maySet_85 rfl rfl ⟨rfl, rfl⟩ ⟨(Nat.le_of_ble_eq_true rfl), (Nat.le_of_ble_eq_true rfl)⟩ ⟨Nat.zero_le _, Nat.zero_le _⟩ (Nat.le_of_ble_eq_true rfl) ?_
    exact v_zret X r dX7_maySet_88 (bI_nar _) (Nat.le_refl _) (Nat.le_refl _) ⟨ri (bI_congr (by simp [okSet, c1_6])), rfl⟩
  refine v_tabOut X dX7_maySet_1 (tgt := 89) (by have e1 := lv_neT (k := 1) (a := 1) c1_1 (by decide); have e2 := lv_neT (k := 2) (a := 2) c1_2 (by decide); have e3 := lv_neT (k := 3) (a := 3) c1_3 (by decide); have e4 := lv_neT (k := 4) (a := 4) c1_4 (by decide); have e5 := lv_neT (k := 5) (a := 5) c1_5 (by decide); have e6 := lv_neT (k := 6) (a := 6) c1_6 (by decide); omega) (by decide) ?_
  refine v_iconst X dX7_maySet_89 (v := 0) (by decide) ?_
  exact v_zret X r dX7_maySet_90 rfl (Nat.le_refl _) (Nat.le_refl _) ⟨ri (bI_f (by simp [okSet, c1_1, c1_2, c1_3, c1_4, c1_5, c1_6])).symm, rfl⟩
set_option maxHeartbeats 4000000 in
set_option maxRecDepth 100000 in
theorem ct_X7_roller (ll : Launch) (g : GT) {h : Hp} {B : Nat → Nat} {d k fo tape bits sz : Nat → Int32} {num : Nat → Int64} {hk tp : Int32} {N : Nat}  (kind : Int32) (weight : Int32) (hC : CR g h B (d, k, hk, fo, tape, tp, bits, sz, num)) (hI : SOk (d, k, hk, fo, tape, tp, bits, sz, num) N) (hN : N + 400 ≤ 204800) : MC ll g yX7_roller cX7_roller 4 (some .int) { frames := 10, cells := 0, slots := 0, locals := 380 } [.ref (B 0), .int kind, .int weight] h (fun r h2 => r = some (.int (op_roller (d, k, hk, fo, tape, tp, bits, sz, num) kind weight).1) ∧ CR g h2 B (op_roller (d, k, hk, fo, tape, tp, bits, sz, num) kind weight).2) 0 0 := by
  have hC0 := hC
  have hI0 := hI
  obtain ⟨hB, cX, ⟨cW, cP, cY, cT, cM⟩, ⟨k2, cK, hk2⟩, cO, cR, cA, cS, cF⟩ := hC
  obtain ⟨⟨np, nw, T, p0, p1, e0, hnp, e1, hnw, e6, hT, hon, e3, hp0, e4, hp1, honp, hper, h10, h11, h12, hwc⟩, hkd, hkb, ⟨tn, htn, etp⟩, hsz⟩ := hI
  have x0 : h (B 0) = some (ob 7 [.ref (B 1), .ref (B 17), .int hk, .ref (B 33), .ref (B 37), .ref (B 38), .ref (B 40), .ref (B 41)]) := cX
  have x1 : h (B 1) = some (ob 6 [.ref (B 2), .int (d 0), .ref (B 3), .int (d 1), .ref (B 4), .ref (B 5), .int (bI (d 2 = 1)), .int (d 3), .int (d 4), .int (d 7)]) := cW
  have cP0 := cP
  obtain ⟨pf, F, x2, hpf, hF, hFd⟩ := cP0
  have cY0 := cY
  obtain ⟨wf, x3, hwo, hwy⟩ := cY0
  have x4 : h (B 4) = some (ai g 5 (ptF d)) := cT
  have cM0 := cM
  obtain ⟨tr, T9, s0, v0, s1, v1, x5, x6, x7, x8, e69, hT30, hR, hRB⟩ := cM0
  have eT9 : T9 = T := nI_inj (by omega) (by omega) (e69.symm.trans e6)
  subst eT9
  have cO0 := cO
  obtain ⟨otr, u5, u6, u8, a0, a1, a2, a3, a4, b0, b1, b2, b3, b4, x33, x34, x35, x36⟩ := cO0
  have cR0 := cR
  obtain ⟨rf, x37⟩ := cR0
  have cA0 := cA
  obtain ⟨ts, te, tt, tv, x38, x39⟩ := cA0
  have cS0 := cS
  obtain ⟨sf, nf, x40, hsf, hsh, hnm, hnv⟩ := cS0
  have x41 : h (B 41) = some (ai g 7 fo) := cF
  have qn : (d 0).toNatClampNeg = np := ix_cl e0 (by omega)
  have qw : (d 1).toNatClampNeg = nw := ix_cl e1 (by omega)
  have pC : ∀ p, p < np → h (B (9 + p)) = some (ob 1 [.int ((told d p) 0), .int ((told d p) 1), .int ((told d p) 2), .int ((told d p) 3), .int ((told d p) 4), .int ((told d p) 5), .int ((told d p) 6)]) := fun p hp => gP_at (by omega) (by rw [qn]; exact hp) cP
  refine mc_of (by decide) (Nat.le_of_ble_eq_true rfl) ?_
  intro K X r
  refine v_eqv (lv2 := [(0, .ref (B 0)), (1, .int kind), (2, .int weight)]) rfl ?_
  refine v_iload_n X dX7_roller_0 1 rfl ?_
  refine v_cSi X [.int kind] sX7_64 (ct_X7_isKind ll g kind) dX7_roller_1 rfl rfl ⟨rfl, rfl⟩ ⟨(Nat.le_of_ble_eq_true rfl), (Nat.le_of_ble_eq_true rfl)⟩ ⟨Nat.zero_le _, Nat.zero_le _⟩ (Nat.le_of_ble_eq_true rfl) ?_
  refine v_ifb_eq X dX7_roller_4 (tgt := 18) (by decide) (fun c1 => ?_) (fun c1 => ?_)
  · refine v_aload_n X dX7_roller_18 0 rfl ?_
    refine v_ldc X dX7_roller_19 kX7_72 ?_
    refine v_cVi X [.int (-1000000001)] sX7_73 (ct_X7_finding (pe := 0) (wy := 0) (pt := 0) (mt := 0) (np := 0) (nw := 0) (oc := 0) (fi := 0) (se := 0) (lo := 0) (q := 0) (v := (-1000000001)) ll g x0 x41 (by decide) (by decide)) x0 rfl dX7_roller_21 rfl rfl ⟨rfl, rfl⟩ ⟨(Nat.le_of_ble_eq_true rfl), (Nat.le_of_ble_eq_true rfl)⟩ ⟨Nat.zero_le _, Nat.zero_le _⟩ (Nat.le_of_ble_eq_true rfl) ?_
    have eqr : op_roller (d, k, hk, fo, tape, tp, bits, sz, num) kind weight = ((-1000000001), (d, k, hk, fnd fo 0, tape, tp, bits, sz, num)) := by unfold op_roller; dsimp only; rw [if_neg (fun q : _ ∧ _ => c1 (And.left q))]
    have hCR : CR g (hU h (B 41) (ai g 7 (fnd fo 0))) B (d, k, hk, fnd fo 0, tape, tp, bits, sz, num) := ⟨hB, gX_e (hU_n (hB 0 41 (by omega) (by omega) (by omega))) cX, ⟨gW_e (hU_n (hB 1 41 (by omega) (by omega) (by omega))) ⟨rfl, rfl, rfl, rfl, rfl, rfl⟩ cW, gP_e (fun j hj => (hU_n (hB j 41 (by omega) (by omega) (by omega)))) rfl (fun _ _ _ => rfl) cP, gY_e (hU_n (hB 3 41 (by omega) (by omega) (by omega))) (fun x c hx hk => (hU_n (kd_ne hx x41 hk rfl))) rfl (fun _ _ _ => rfl) cY, gT_e (hU_n (hB 4 41 (by omega) (by omega) (by omega))) (fun _ _ _ => rfl) cT, gM_e (fun j h1 h2 => (hU_n (hB j 41 (by omega) (by omega) (by omega)))) (fun _ _ _ => rfl) cM⟩, ⟨k2, gWd_e (fun j h1 h2 => (hU_n (hB (j + 16) 41 (by omega) (by omega) (by omega)))) (fun x c hx hk => (hU_n (kd_ne hx x41 hk rfl))) cK, hk2⟩, gO_e (fun j h1 h2 => (hU_n (hB j 41 (by omega) (by omega) (by omega)))) cO, gR_e (hU_n (hB 37 41 (by omega) (by omega) (by omega))) cR, gA_e (fun j h1 h2 => (hU_n (hB j 41 (by omega) (by omega) (by omega)))) cA, gS_e (fun j h1 h2 => (hU_n (hB j 41 (by omega) (by omega) (by omega)))) cS, (hU_s : _)⟩
    exact v_iret X r dX7_roller_24 (Nat.le_refl _) (Nat.le_refl _) ⟨by rw [eqr], by rw [eqr]; exact hCR⟩
  · refine v_iload_n X dX7_roller_7 2 rfl ?_
    refine v_iconst X dX7_roller_8 (v := 1) (by decide) ?_
    refine v_sipush X dX7_roller_9 (v := 299) (by decide) ?_
    refine v_cSi X [.int weight, .int 1, .int 299] sX7_68 (ct_X7_within ll g weight 1 299) dX7_roller_12 rfl rfl ⟨rfl, rfl⟩ ⟨(Nat.le_of_ble_eq_true rfl), (Nat.le_of_ble_eq_true rfl)⟩ ⟨Nat.zero_le _, Nat.zero_le _⟩ (Nat.le_of_ble_eq_true rfl) ?_
    refine v_ifb_ne X dX7_roller_15 (tgt := 25) (by decide) (fun c2 => ?_) (fun c2 => ?_)
    · refine v_aload_n X dX7_roller_25 0 rfl ?_
      refine v_get X fX7_10 x0 rfl dX7_roller_26 ?_
      refine v_get X fX7_77 x1 rfl dX7_roller_29 ?_
      refine v_bipush X dX7_roller_32 (v := 8) (by decide) ?_
      refine v_icmp_lt X dX7_roller_34 (tgt := 44) (by decide) (fun c3 => ?_) (fun c3 => ?_)
      · have hlt : np < 8 := (nI_ltI (by omega) (by decide)).mp (by have z := c3; rw [e0] at z; exact z)
        refine v_aload_n X dX7_roller_44 0 rfl ?_
        refine v_get X fX7_10 x0 rfl dX7_roller_45 ?_
        refine v_get X fX7_77 x1 rfl dX7_roller_48 ?_
        refine v_istore_n (lv1 := [(3, .int (d 0)), (0, .ref (B 0)), (1, .int kind), (2, .int weight)]) X dX7_roller_51 (by decide) rfl ?_
        refine v_aload_n X dX7_roller_52 1 rfl ?_
        refine v_get X fX7_10 x0 rfl dX7_roller_53 ?_
        refine v_get X fX7_82 x1 rfl dX7_roller_56 ?_
        refine v_iload_n X dX7_roller_59 0 rfl ?_
        refine v_aaldK X 2 rfl np (v := .ref (B (9 + np))) x2 e0 (by omega) (by decide) (by rw [hpf np (by omega)]; rfl) dX7_roller_60 ?_
        refine v_iload_n X dX7_roller_61 2 rfl ?_
        refine v_iload_n X dX7_roller_62 3 rfl ?_
        refine v_cVv X [.int kind, .int weight] sX7_86 (ct_X1_begin ll g kind weight (hF np (by omega))) (hF np (by omega)) rfl dX7_roller_63 rfl rfl ⟨rfl, rfl⟩ ⟨(Nat.le_of_ble_eq_true rfl), (Nat.le_of_ble_eq_true rfl)⟩ ⟨Nat.zero_le _, Nat.zero_le _⟩ (Nat.le_of_ble_eq_true rfl) ?_
        refine v_aload_n X dX7_roller_66 1 rfl ?_
        refine v_get X fX7_10 ((hU_n (hB 0 (9 + np) (by omega) (by omega) (by omega))).trans x0) rfl dX7_roller_67 ?_
        refine v_dup X dX7_roller_70 rfl ?_
        refine v_get X fX7_77 ((hU_n (hB 1 (9 + np) (by omega) (by omega) (by omega))).trans x1) rfl dX7_roller_71 ?_
        refine v_iconst X dX7_roller_74 (v := 1) (by decide) ?_
        refine v_iadd X dX7_roller_75 ?_
        refine v_putE (h2 := (hU (hU h (B (9 + np)) (ob 1 [.int kind, .int weight, .int 2, .int 20, .int 300, .int 0, .int (-1)])) (B 1) (ob 6 [.ref (B 2), .int ((d 0) + 1), .ref (B 3), .int (d 1), .ref (B 4), .ref (B 5), .int (bI (d 2 = 1)), .int (d 3), .int (d 4), .int (d 7)]))) X fX7_77 tyX6_ok nmX6 rfl pd_I ((hU_n (hB 1 (9 + np) (by omega) (by omega) (by omega))).trans x1) rfl rfl (ltb rfl) dX7_roller_76 rfl ?_
        refine v_iload_n X dX7_roller_79 0 rfl ?_
        have eqr : op_roller (d, k, hk, fo, tape, tp, bits, sz, num) kind weight = (d 0, (newP d np kind weight, k, hk, fo, tape, tp, bits, sz, num)) := by have z8 : ¬ d 0 = 8 := (fun z => by rw [e0] at z; have := nI_inj (a := np) (b := 8) (by omega) (by decide) z; omega); unfold op_roller; dsimp only; rw [if_pos (And.intro c1 c2), if_neg z8, show pr (d 0) = np from qn]
        have hCR : CR g (hU (hU h (B (9 + np)) (ob 1 [.int kind, .int weight, .int 2, .int 20, .int 300, .int 0, .int (-1)])) (B 1) (ob 6 [.ref (B 2), .int ((d 0) + 1), .ref (B 3), .int (d 1), .ref (B 4), .ref (B 5), .int (bI (d 2 = 1)), .int (d 3), .int (d 4), .int (d 7)])) B (newP d np kind weight, k, hk, fo, tape, tp, bits, sz, num) := ⟨hB, gX_e ((hU_n (hB 0 1 (by omega) (by omega) (by omega))).trans (hU_n (hB 0 (9 + np) (by omega) (by omega) (by omega)))) cX, ⟨gW_i hU_s (show upd _ 0 (d 0 + 1) 0 = d 0 + 1 from pk_us) (newP_n (by omega) (by omega)) (by rw [newP_n (by omega) (by omega)]) (newP_n (by omega) (by omega)) (newP_n (by omega) (by omega)) (newP_n (by omega) (by omega)), gP_new (by omega) e0 cP ((hU_n (hB 2 1 (by omega) (by omega) (by omega))).trans (hU_n (hB 2 (9 + np) (by omega) (by omega) (by omega)))) ((hU_n (hB (9 + np) 1 (by omega) (by omega) (by omega))).trans hU_s) (fun q hq hne => ((hU_n (hB (9 + q) 1 (by omega) (by omega) (by omega))).trans (hU_n (hB (9 + q) (9 + np) (by omega) (by omega) (by omega))))), gY_e ((hU_n (hB 3 1 (by omega) (by omega) (by omega))).trans (hU_n (hB 3 (9 + np) (by omega) (by omega) (by omega)))) (fun x c hx hk => ((hU_n (kd_ne hx x1 hk rfl)).trans (hU_n (kd_ne hx (hF np (by omega)) hk rfl)))) (newP_n (by omega) (by omega)) (fun j h1 h2 => newP_n (by omega) (by omega)) cY, gT_e ((hU_n (hB 4 1 (by omega) (by omega) (by omega))).trans (hU_n (hB 4 (9 + np) (by omega) (by omega) (by omega)))) (fun j h1 h2 => newP_n (by omega) (by omega)) cT, gM_e (fun j h1 h2 => ((hU_n (hB j 1 (by omega) (by omega) (by omega))).trans (hU_n (hB j (9 + np) (by omega) (by omega) (by omega))))) (fun j h1 h2 => newP_n (by omega) (by omega)) cM⟩, ⟨k2, gWd_e (fun j h1 h2 => ((hU_n (hB (j + 16) 1 (by omega) (by omega) (by omega))).trans (hU_n (hB (j + 16) (9 + np) (by omega) (by omega) (by omega))))) (fun x c hx hk => ((hU_n (kd_ne hx x1 hk rfl)).trans (hU_n (kd_ne hx (hF np (by omega)) hk rfl)))) cK, hk2⟩, gO_e (fun j h1 h2 => ((hU_n (hB j 1 (by omega) (by omega) (by omega))).trans (hU_n (hB j (9 + np) (by omega) (by omega) (by omega))))) cO, gR_e ((hU_n (hB 37 1 (by omega) (by omega) (by omega))).trans (hU_n (hB 37 (9 + np) (by omega) (by omega) (by omega)))) cR, gA_e (fun j h1 h2 => ((hU_n (hB j 1 (by omega) (by omega) (by omega))).trans (hU_n (hB j (9 + np) (by omega) (by omega) (by omega))))) cA, gS_e (fun j h1 h2 => ((hU_n (hB j 1 (by omega) (by omega) (by omega))).trans (hU_n (hB j (9 + np) (by omega) (by omega) (by omega))))) cS, gF_e ((hU_n (hB 41 1 (by omega) (by omega) (by omega))).trans (hU_n (hB 41 (9 + np) (by omega) (by omega) (by omega)))) cF⟩
        exact v_iret X r dX7_roller_80 (Nat.le_refl _) (Nat.le_refl _) ⟨by rw [eqr], by rw [eqr]; exact hCR⟩
      · refine v_aload_n X dX7_roller_37 0 rfl ?_
        refine v_ldc X dX7_roller_38 kX7_81 ?_
        refine v_cVi X [.int (-1000000002)] sX7_73 (ct_X7_finding (pe := 0) (wy := 0) (pt := 0) (mt := 0) (np := 0) (nw := 0) (oc := 0) (fi := 0) (se := 0) (lo := 0) (q := 1) (v := (-1000000002)) ll g x0 x41 (by decide) (by decide)) x0 rfl dX7_roller_40 rfl rfl ⟨rfl, rfl⟩ ⟨(Nat.le_of_ble_eq_true rfl), (Nat.le_of_ble_eq_true rfl)⟩ ⟨Nat.zero_le _, Nat.zero_le _⟩ (Nat.le_of_ble_eq_true rfl) ?_
        have eqr : op_roller (d, k, hk, fo, tape, tp, bits, sz, num) kind weight = ((-1000000002), (d, k, hk, fnd fo 1, tape, tp, bits, sz, num)) := by have z8 : d 0 = 8 := (by rw [e0, show np = 8 from (by have z := Int32.not_lt.mp c3; rw [e0] at z; have := (nI_leI (a := 8) (b := np) (by decide) (by omega)).mp z; omega)]; rfl); unfold op_roller; dsimp only; rw [if_pos (And.intro c1 c2), if_pos z8]
        have hCR : CR g (hU h (B 41) (ai g 7 (fnd fo 1))) B (d, k, hk, fnd fo 1, tape, tp, bits, sz, num) := ⟨hB, gX_e (hU_n (hB 0 41 (by omega) (by omega) (by omega))) cX, ⟨gW_e (hU_n (hB 1 41 (by omega) (by omega) (by omega))) ⟨rfl, rfl, rfl, rfl, rfl, rfl⟩ cW, gP_e (fun j hj => (hU_n (hB j 41 (by omega) (by omega) (by omega)))) rfl (fun _ _ _ => rfl) cP, gY_e (hU_n (hB 3 41 (by omega) (by omega) (by omega))) (fun x c hx hk => (hU_n (kd_ne hx x41 hk rfl))) rfl (fun _ _ _ => rfl) cY, gT_e (hU_n (hB 4 41 (by omega) (by omega) (by omega))) (fun _ _ _ => rfl) cT, gM_e (fun j h1 h2 => (hU_n (hB j 41 (by omega) (by omega) (by omega)))) (fun _ _ _ => rfl) cM⟩, ⟨k2, gWd_e (fun j h1 h2 => (hU_n (hB (j + 16) 41 (by omega) (by omega) (by omega)))) (fun x c hx hk => (hU_n (kd_ne hx x41 hk rfl))) cK, hk2⟩, gO_e (fun j h1 h2 => (hU_n (hB j 41 (by omega) (by omega) (by omega)))) cO, gR_e (hU_n (hB 37 41 (by omega) (by omega) (by omega))) cR, gA_e (fun j h1 h2 => (hU_n (hB j 41 (by omega) (by omega) (by omega)))) cA, gS_e (fun j h1 h2 => (hU_n (hB j 41 (by omega) (by omega) (by omega)))) cS, (hU_s : _)⟩
        exact v_iret X r dX7_roller_43 (Nat.le_refl _) (Nat.le_refl _) ⟨by rw [eqr], by rw [eqr]; exact hCR⟩
    · refine v_aload_n X dX7_roller_18 0 rfl ?_
      refine v_ldc X dX7_roller_19 kX7_72 ?_
      refine v_cVi X [.int (-1000000001)] sX7_73 (ct_X7_finding (pe := 0) (wy := 0) (pt := 0) (mt := 0) (np := 0) (nw := 0) (oc := 0) (fi := 0) (se := 0) (lo := 0) (q := 0) (v := (-1000000001)) ll g x0 x41 (by decide) (by decide)) x0 rfl dX7_roller_21 rfl rfl ⟨rfl, rfl⟩ ⟨(Nat.le_of_ble_eq_true rfl), (Nat.le_of_ble_eq_true rfl)⟩ ⟨Nat.zero_le _, Nat.zero_le _⟩ (Nat.le_of_ble_eq_true rfl) ?_
      have eqr : op_roller (d, k, hk, fo, tape, tp, bits, sz, num) kind weight = ((-1000000001), (d, k, hk, fnd fo 0, tape, tp, bits, sz, num)) := by unfold op_roller; dsimp only; rw [if_neg (fun q : _ ∧ _ => c2 (And.right q))]
      have hCR : CR g (hU h (B 41) (ai g 7 (fnd fo 0))) B (d, k, hk, fnd fo 0, tape, tp, bits, sz, num) := ⟨hB, gX_e (hU_n (hB 0 41 (by omega) (by omega) (by omega))) cX, ⟨gW_e (hU_n (hB 1 41 (by omega) (by omega) (by omega))) ⟨rfl, rfl, rfl, rfl, rfl, rfl⟩ cW, gP_e (fun j hj => (hU_n (hB j 41 (by omega) (by omega) (by omega)))) rfl (fun _ _ _ => rfl) cP, gY_e (hU_n (hB 3 41 (by omega) (by omega) (by omega))) (fun x c hx hk => (hU_n (kd_ne hx x41 hk rfl))) rfl (fun _ _ _ => rfl) cY, gT_e (hU_n (hB 4 41 (by omega) (by omega) (by omega))) (fun _ _ _ => rfl) cT, gM_e (fun j h1 h2 => (hU_n (hB j 41 (by omega) (by omega) (by omega)))) (fun _ _ _ => rfl) cM⟩, ⟨k2, gWd_e (fun j h1 h2 => (hU_n (hB (j + 16) 41 (by omega) (by omega) (by omega)))) (fun x c hx hk => (hU_n (kd_ne hx x41 hk rfl))) cK, hk2⟩, gO_e (fun j h1 h2 => (hU_n (hB j 41 (by omega) (by omega) (by omega)))) cO, gR_e (hU_n (hB 37 41 (by omega) (by omega) (by omega))) cR, gA_e (fun j h1 h2 => (hU_n (hB j 41 (by omega) (by omega) (by omega)))) cA, gS_e (fun j h1 h2 => (hU_n (hB j 41 (by omega) (by omega) (by omega)))) cS, (hU_s : _)⟩
      exact v_iret X r dX7_roller_24 (Nat.le_refl _) (Nat.le_refl _) ⟨by rw [eqr], by rw [eqr]; exact hCR⟩
set_option maxHeartbeats 4000000 in
set_option maxRecDepth 100000 in
theorem ct_X7_set (ll : Launch) (g : GT) {h : Hp} {B : Nat → Nat} {d k fo tape bits sz : Nat → Int32} {num : Nat → Int64} {hk tp : Int32} {N : Nat}  (p : Int32) (what : Int32) (v : Int32) (hC : CR g h B (d, k, hk, fo, tape, tp, bits, sz, num)) (hI : SOk (d, k, hk, fo, tape, tp, bits, sz, num) N) (hN : N + 400 ≤ 204800) : MC ll g yX7_set cX7_set 5 (some .int) { frames := 10, cells := 0, slots := 0, locals := 380 } [.ref (B 0), .int p, .int what, .int v] h (fun r h2 => r = some (.int (op_set (d, k, hk, fo, tape, tp, bits, sz, num) p what v).1) ∧ CR g h2 B (op_set (d, k, hk, fo, tape, tp, bits, sz, num) p what v).2) 0 0 := by
  have hC0 := hC
  have hI0 := hI
  obtain ⟨hB, cX, ⟨cW, cP, cY, cT, cM⟩, ⟨k2, cK, hk2⟩, cO, cR, cA, cS, cF⟩ := hC
  obtain ⟨⟨np, nw, T, p0, p1, e0, hnp, e1, hnw, e6, hT, hon, e3, hp0, e4, hp1, honp, hper, h10, h11, h12, hwc⟩, hkd, hkb, ⟨tn, htn, etp⟩, hsz⟩ := hI
  have x0 : h (B 0) = some (ob 7 [.ref (B 1), .ref (B 17), .int hk, .ref (B 33), .ref (B 37), .ref (B 38), .ref (B 40), .ref (B 41)]) := cX
  have x1 : h (B 1) = some (ob 6 [.ref (B 2), .int (d 0), .ref (B 3), .int (d 1), .ref (B 4), .ref (B 5), .int (bI (d 2 = 1)), .int (d 3), .int (d 4), .int (d 7)]) := cW
  have cP0 := cP
  obtain ⟨pf, F, x2, hpf, hF, hFd⟩ := cP0
  have cY0 := cY
  obtain ⟨wf, x3, hwo, hwy⟩ := cY0
  have x4 : h (B 4) = some (ai g 5 (ptF d)) := cT
  have cM0 := cM
  obtain ⟨tr, T9, s0, v0, s1, v1, x5, x6, x7, x8, e69, hT30, hR, hRB⟩ := cM0
  have eT9 : T9 = T := nI_inj (by omega) (by omega) (e69.symm.trans e6)
  subst eT9
  have cO0 := cO
  obtain ⟨otr, u5, u6, u8, a0, a1, a2, a3, a4, b0, b1, b2, b3, b4, x33, x34, x35, x36⟩ := cO0
  have cR0 := cR
  obtain ⟨rf, x37⟩ := cR0
  have cA0 := cA
  obtain ⟨ts, te, tt, tv, x38, x39⟩ := cA0
  have cS0 := cS
  obtain ⟨sf, nf, x40, hsf, hsh, hnm, hnv⟩ := cS0
  have x41 : h (B 41) = some (ai g 7 fo) := cF
  have qn : (d 0).toNatClampNeg = np := ix_cl e0 (by omega)
  have qw : (d 1).toNatClampNeg = nw := ix_cl e1 (by omega)
  have pC : ∀ p, p < np → h (B (9 + p)) = some (ob 1 [.int ((told d p) 0), .int ((told d p) 1), .int ((told d p) 2), .int ((told d p) 3), .int ((told d p) 4), .int ((told d p) 5), .int ((told d p) 6)]) := fun p hp => gP_at (by omega) (by rw [qn]; exact hp) cP
  refine mc_of (by decide) (Nat.le_of_ble_eq_true rfl) ?_
  intro K X r
  refine v_eqv (lv2 := [(0, .ref (B 0)), (1, .int p), (2, .int what), (3, .int v)]) rfl ?_
  refine v_aload_n X dX7_set_0 0 rfl ?_
  refine v_iload_n X dX7_set_1 1 rfl ?_
  refine v_cVi X [.int p] sX7_90 (ct_X7_isPerson ll g p x0 x1) x0 rfl dX7_set_2 rfl rfl ⟨rfl, rfl⟩ ⟨(Nat.le_of_ble_eq_true rfl), (Nat.le_of_ble_eq_true rfl)⟩ ⟨Nat.zero_le _, Nat.zero_le _⟩ (Nat.le_of_ble_eq_true rfl) ?_
  refine v_ifb_eq X dX7_set_5 (tgt := 17) (by decide) (fun c1 => ?_) (fun c1 => ?_)
  · refine v_aload_n X dX7_set_17 0 rfl ?_
    refine v_ldc X dX7_set_18 kX7_72 ?_
    refine v_cVi X [.int (-1000000001)] sX7_73 (ct_X7_finding (pe := 0) (wy := 0) (pt := 0) (mt := 0) (np := 0) (nw := 0) (oc := 0) (fi := 0) (se := 0) (lo := 0) (q := 0) (v := (-1000000001)) ll g x0 x41 (by decide) (by decide)) x0 rfl dX7_set_20 rfl rfl ⟨rfl, rfl⟩ ⟨(Nat.le_of_ble_eq_true rfl), (Nat.le_of_ble_eq_true rfl)⟩ ⟨Nat.zero_le _, Nat.zero_le _⟩ (Nat.le_of_ble_eq_true rfl) ?_
    have eqr : op_set (d, k, hk, fo, tape, tp, bits, sz, num) p what v = ((-1000000001), (d, k, hk, fnd fo 0, tape, tp, bits, sz, num)) := by unfold op_set; dsimp only; rw [if_neg (fun q : _ ∧ _ => c1 (And.left q))]
    have hCR : CR g (hU h (B 41) (ai g 7 (fnd fo 0))) B (d, k, hk, fnd fo 0, tape, tp, bits, sz, num) := ⟨hB, gX_e (hU_n (hB 0 41 (by omega) (by omega) (by omega))) cX, ⟨gW_e (hU_n (hB 1 41 (by omega) (by omega) (by omega))) ⟨rfl, rfl, rfl, rfl, rfl, rfl⟩ cW, gP_e (fun j hj => (hU_n (hB j 41 (by omega) (by omega) (by omega)))) rfl (fun _ _ _ => rfl) cP, gY_e (hU_n (hB 3 41 (by omega) (by omega) (by omega))) (fun x c hx hk => (hU_n (kd_ne hx x41 hk rfl))) rfl (fun _ _ _ => rfl) cY, gT_e (hU_n (hB 4 41 (by omega) (by omega) (by omega))) (fun _ _ _ => rfl) cT, gM_e (fun j h1 h2 => (hU_n (hB j 41 (by omega) (by omega) (by omega)))) (fun _ _ _ => rfl) cM⟩, ⟨k2, gWd_e (fun j h1 h2 => (hU_n (hB (j + 16) 41 (by omega) (by omega) (by omega)))) (fun x c hx hk => (hU_n (kd_ne hx x41 hk rfl))) cK, hk2⟩, gO_e (fun j h1 h2 => (hU_n (hB j 41 (by omega) (by omega) (by omega)))) cO, gR_e (hU_n (hB 37 41 (by omega) (by omega) (by omega))) cR, gA_e (fun j h1 h2 => (hU_n (hB j 41 (by omega) (by omega) (by omega)))) cA, gS_e (fun j h1 h2 => (hU_n (hB j 41 (by omega) (by omega) (by omega)))) cS, (hU_s : _)⟩
    exact v_iret X r dX7_set_23 (Nat.le_refl _) (Nat.le_refl _) ⟨by rw [eqr], by rw [eqr]; exact hCR⟩
  · refine v_aload_n X dX7_set_8 0 rfl ?_
    refine v_iload_n X dX7_set_9 2 rfl ?_
    refine v_iload_n X dX7_set_10 3 rfl ?_
    refine v_cVi X [.int what, .int v] sX7_96 (ct_X7_maySet ll g what v x0 x1) x0 rfl dX7_set_11 rfl rfl ⟨rfl, rfl⟩ ⟨(Nat.le_of_ble_eq_true rfl), (Nat.le_of_ble_eq_true rfl)⟩ ⟨Nat.zero_le _, Nat.zero_le _⟩ (Nat.le_of_ble_eq_true rfl) ?_
    refine v_ifb_ne X dX7_set_14 (tgt := 24) (by decide) (fun c2 => ?_) (fun c2 => ?_)
    · refine v_aload_n X dX7_set_24 0 rfl ?_
      refine v_get X fX7_10 x0 rfl dX7_set_25 ?_
      refine v_iload_n X dX7_set_28 1 rfl ?_
      refine v_cVi X [.int p] sX7_100 (ct_X6_isOnLog ll g p x1) x1 rfl dX7_set_29 rfl rfl ⟨rfl, rfl⟩ ⟨(Nat.le_of_ble_eq_true rfl), (Nat.le_of_ble_eq_true rfl)⟩ ⟨Nat.zero_le _, Nat.zero_le _⟩ (Nat.le_of_ble_eq_true rfl) ?_
      refine v_ifb_eq X dX7_set_32 (tgt := 42) (by decide) (fun c3 => ?_) (fun c3 => ?_)
      · have hwn : ∃ jw, (jw = 1 ∨ jw = 2 ∨ jw = 3 ∨ jw = 4 ∨ jw = 6) ∧ what = nI jw := by
          rcases c2 with q | q | q | q | q
          · exact ⟨1, by decide, q.1⟩
          · exact ⟨2, by decide, q.1⟩
          · exact ⟨3, by decide, q.1⟩
          · exact ⟨4, by decide, q.1⟩
          · exact ⟨6, by decide, q.1⟩
        obtain ⟨jw, hjk, ejw⟩ := hwn
        have hjw : jw < 7 := by omega
        have qjw : pr what = jw := ix_cl ejw (by omega)
        obtain ⟨jp, hjp, ejp⟩ := wi_n e0 (by omega) c1
        have qjp : pr p = jp := ix_cl ejp (by omega)
        refine v_aload_n X dX7_set_42 0 rfl ?_
        refine v_get X fX7_10 x0 rfl dX7_set_43 ?_
        refine v_get X fX7_82 x1 rfl dX7_set_46 ?_
        refine v_iload_n X dX7_set_49 1 rfl ?_
        refine v_aaldK X 2 rfl jp (v := .ref (B (9 + jp))) x2 ejp (by omega) (by decide) (by rw [hpf jp (by omega)]; rfl) dX7_set_50 ?_
        refine v_iload_n X dX7_set_51 2 rfl ?_
        refine v_cVi X [.int what] sX7_93 (ct_X1_trait (w := jw) ll g  (pC jp (by omega)) ejw hjw) (pC jp (by omega)) rfl dX7_set_52 rfl rfl ⟨rfl, rfl⟩ ⟨(Nat.le_of_ble_eq_true rfl), (Nat.le_of_ble_eq_true rfl)⟩ ⟨Nat.zero_le _, Nat.zero_le _⟩ (Nat.le_of_ble_eq_true rfl) ?_
        refine v_istore (lv1 := [(4, .int ((told d jp) jw)), (0, .ref (B 0)), (1, .int p), (2, .int what), (3, .int v)]) X dX7_set_55 (by decide) rfl ?_
        refine v_aload_n X dX7_set_57 1 rfl ?_
        refine v_get X fX7_10 x0 rfl dX7_set_58 ?_
        refine v_get X fX7_82 x1 rfl dX7_set_61 ?_
        refine v_iload_n X dX7_set_64 2 rfl ?_
        refine v_aaldK X 2 rfl jp (v := .ref (B (9 + jp))) x2 ejp (by omega) (by decide) (by rw [hpf jp (by omega)]; rfl) dX7_set_65 ?_
        refine v_iload_n X dX7_set_66 3 rfl ?_
        refine v_iload_n X dX7_set_67 4 rfl ?_
        refine v_cVv X [.int what, .int v] sX7_104 (ct_X1_change (k := jw) ll g v (pC jp (by omega)) ejw hjk) (pC jp (by omega)) rfl dX7_set_68 rfl rfl ⟨rfl, rfl⟩ ⟨(Nat.le_of_ble_eq_true rfl), (Nat.le_of_ble_eq_true rfl)⟩ ⟨Nat.zero_le _, Nat.zero_le _⟩ (Nat.le_of_ble_eq_true rfl) ?_
        refine v_iload X dX7_set_71 0 rfl ?_
        have eqr : op_set (d, k, hk, fo, tape, tp, bits, sz, num) p what v = ((told d jp) jw, (upd d (40 + 8 * jp + jw) v, k, hk, fo, tape, tp, bits, sz, num)) := by unfold op_set; dsimp only; rw [if_pos (And.intro c1 c2), if_neg (fun z => c3 (ol_iff.mpr z)), qjp, qjw]
        have hCR : CR g (hU h (B (9 + jp)) (ob 1 [.int ((upd (told d jp) jw v) 0), .int ((upd (told d jp) jw v) 1), .int ((upd (told d jp) jw v) 2), .int ((upd (told d jp) jw v) 3), .int ((upd (told d jp) jw v) 4), .int ((upd (told d jp) jw v) 5), .int ((upd (told d jp) jw v) 6)])) B (upd d (40 + 8 * jp + jw) v, k, hk, fo, tape, tp, bits, sz, num) := ⟨hB, gX_e (hU_n (hB 0 (9 + jp) (by omega) (by omega) (by omega))) cX, ⟨gW_e (hU_n (hB 1 (9 + jp) (by omega) (by omega) (by omega))) ⟨pk_un (by omega), pk_un (by omega), pk_un (by omega), pk_un (by omega), pk_un (by omega), pk_un (by omega)⟩ cW, gP_set (by omega) hjw cP (hU_n (hB 2 (9 + jp) (by omega) (by omega) (by omega))) hU_s (fun q hq hne => (hU_n (hB (9 + q) (9 + jp) (by omega) (by omega) (by omega)))), gY_e (hU_n (hB 3 (9 + jp) (by omega) (by omega) (by omega))) (fun x c hx hk => (hU_n (kd_ne hx (pC jp (by omega)) hk rfl))) (pk_un (by omega)) (fun j h1 h2 => pk_un (by omega)) cY, gT_e (hU_n (hB 4 (9 + jp) (by omega) (by omega) (by omega))) (fun j h1 h2 => pk_un (by omega)) cT, gM_e (fun j h1 h2 => (hU_n (hB j (9 + jp) (by omega) (by omega) (by omega)))) (fun j h1 h2 => pk_un (by omega)) cM⟩, ⟨k2, gWd_e (fun j h1 h2 => (hU_n (hB (j + 16) (9 + jp) (by omega) (by omega) (by omega)))) (fun x c hx hk => (hU_n (kd_ne hx (pC jp (by omega)) hk rfl))) cK, hk2⟩, gO_e (fun j h1 h2 => (hU_n (hB j (9 + jp) (by omega) (by omega) (by omega)))) cO, gR_e (hU_n (hB 37 (9 + jp) (by omega) (by omega) (by omega))) cR, gA_e (fun j h1 h2 => (hU_n (hB j (9 + jp) (by omega) (by omega) (by omega)))) cA, gS_e (fun j h1 h2 => (hU_n (hB j (9 + jp) (by omega) (by omega) (by omega)))) cS, gF_e (hU_n (hB 41 (9 + jp) (by omega) (by omega) (by omega))) cF⟩
        exact v_iret X r dX7_set_73 (Nat.le_refl _) (Nat.le_refl _) ⟨by rw [eqr], by rw [eqr]; exact hCR⟩
      · refine v_aload_n X dX7_set_35 0 rfl ?_
        refine v_ldc X dX7_set_36 kX7_103 ?_
        refine v_cVi X [.int (-1000000005)] sX7_73 (ct_X7_finding (pe := 0) (wy := 0) (pt := 0) (mt := 0) (np := 0) (nw := 0) (oc := 0) (fi := 0) (se := 0) (lo := 0) (q := 4) (v := (-1000000005)) ll g x0 x41 (by decide) (by decide)) x0 rfl dX7_set_38 rfl rfl ⟨rfl, rfl⟩ ⟨(Nat.le_of_ble_eq_true rfl), (Nat.le_of_ble_eq_true rfl)⟩ ⟨Nat.zero_le _, Nat.zero_le _⟩ (Nat.le_of_ble_eq_true rfl) ?_
        have eqr : op_set (d, k, hk, fo, tape, tp, bits, sz, num) p what v = ((-1000000005), (d, k, hk, fnd fo 4, tape, tp, bits, sz, num)) := by unfold op_set; dsimp only; rw [if_pos (And.intro c1 c2), if_pos (ol_iff.mp c3)]
        have hCR : CR g (hU h (B 41) (ai g 7 (fnd fo 4))) B (d, k, hk, fnd fo 4, tape, tp, bits, sz, num) := ⟨hB, gX_e (hU_n (hB 0 41 (by omega) (by omega) (by omega))) cX, ⟨gW_e (hU_n (hB 1 41 (by omega) (by omega) (by omega))) ⟨rfl, rfl, rfl, rfl, rfl, rfl⟩ cW, gP_e (fun j hj => (hU_n (hB j 41 (by omega) (by omega) (by omega)))) rfl (fun _ _ _ => rfl) cP, gY_e (hU_n (hB 3 41 (by omega) (by omega) (by omega))) (fun x c hx hk => (hU_n (kd_ne hx x41 hk rfl))) rfl (fun _ _ _ => rfl) cY, gT_e (hU_n (hB 4 41 (by omega) (by omega) (by omega))) (fun _ _ _ => rfl) cT, gM_e (fun j h1 h2 => (hU_n (hB j 41 (by omega) (by omega) (by omega)))) (fun _ _ _ => rfl) cM⟩, ⟨k2, gWd_e (fun j h1 h2 => (hU_n (hB (j + 16) 41 (by omega) (by omega) (by omega)))) (fun x c hx hk => (hU_n (kd_ne hx x41 hk rfl))) cK, hk2⟩, gO_e (fun j h1 h2 => (hU_n (hB j 41 (by omega) (by omega) (by omega)))) cO, gR_e (hU_n (hB 37 41 (by omega) (by omega) (by omega))) cR, gA_e (fun j h1 h2 => (hU_n (hB j 41 (by omega) (by omega) (by omega)))) cA, gS_e (fun j h1 h2 => (hU_n (hB j 41 (by omega) (by omega) (by omega)))) cS, (hU_s : _)⟩
        exact v_iret X r dX7_set_41 (Nat.le_refl _) (Nat.le_refl _) ⟨by rw [eqr], by rw [eqr]; exact hCR⟩
    · refine v_aload_n X dX7_set_17 0 rfl ?_
      refine v_ldc X dX7_set_18 kX7_72 ?_
      refine v_cVi X [.int (-1000000001)] sX7_73 (ct_X7_finding (pe := 0) (wy := 0) (pt := 0) (mt := 0) (np := 0) (nw := 0) (oc := 0) (fi := 0) (se := 0) (lo := 0) (q := 0) (v := (-1000000001)) ll g x0 x41 (by decide) (by decide)) x0 rfl dX7_set_20 rfl rfl ⟨rfl, rfl⟩ ⟨(Nat.le_of_ble_eq_true rfl), (Nat.le_of_ble_eq_true rfl)⟩ ⟨Nat.zero_le _, Nat.zero_le _⟩ (Nat.le_of_ble_eq_true rfl) ?_
      have eqr : op_set (d, k, hk, fo, tape, tp, bits, sz, num) p what v = ((-1000000001), (d, k, hk, fnd fo 0, tape, tp, bits, sz, num)) := by unfold op_set; dsimp only; rw [if_neg (fun q : _ ∧ _ => c2 (And.right q))]
      have hCR : CR g (hU h (B 41) (ai g 7 (fnd fo 0))) B (d, k, hk, fnd fo 0, tape, tp, bits, sz, num) := ⟨hB, gX_e (hU_n (hB 0 41 (by omega) (by omega) (by omega))) cX, ⟨gW_e (hU_n (hB 1 41 (by omega) (by omega) (by omega))) ⟨rfl, rfl, rfl, rfl, rfl, rfl⟩ cW, gP_e (fun j hj => (hU_n (hB j 41 (by omega) (by omega) (by omega)))) rfl (fun _ _ _ => rfl) cP, gY_e (hU_n (hB 3 41 (by omega) (by omega) (by omega))) (fun x c hx hk => (hU_n (kd_ne hx x41 hk rfl))) rfl (fun _ _ _ => rfl) cY, gT_e (hU_n (hB 4 41 (by omega) (by omega) (by omega))) (fun _ _ _ => rfl) cT, gM_e (fun j h1 h2 => (hU_n (hB j 41 (by omega) (by omega) (by omega)))) (fun _ _ _ => rfl) cM⟩, ⟨k2, gWd_e (fun j h1 h2 => (hU_n (hB (j + 16) 41 (by omega) (by omega) (by omega)))) (fun x c hx hk => (hU_n (kd_ne hx x41 hk rfl))) cK, hk2⟩, gO_e (fun j h1 h2 => (hU_n (hB j 41 (by omega) (by omega) (by omega)))) cO, gR_e (hU_n (hB 37 41 (by omega) (by omega) (by omega))) cR, gA_e (fun j h1 h2 => (hU_n (hB j 41 (by omega) (by omega) (by omega)))) cA, gS_e (fun j h1 h2 => (hU_n (hB j 41 (by omega) (by omega) (by omega)))) cS, (hU_s : _)⟩
      exact v_iret X r dX7_set_23 (Nat.le_refl _) (Nat.le_refl _) ⟨by rw [eqr], by rw [eqr]; exact hCR⟩
set_option maxHeartbeats 4000000 in
set_option maxRecDepth 100000 in
theorem ct_X7_as (ll : Launch) (g : GT) {h : Hp} {B : Nat → Nat} {d k fo tape bits sz : Nat → Int32} {num : Nat → Int64} {hk tp : Int32} {N : Nat}  (p : Int32) (kind : Int32) (hC : CR g h B (d, k, hk, fo, tape, tp, bits, sz, num)) (hI : SOk (d, k, hk, fo, tape, tp, bits, sz, num) N) (hN : N + 400 ≤ 204800) : MC ll g yX7_as cX7_as 3 (some .int) { frames := 10, cells := 0, slots := 0, locals := 380 } [.ref (B 0), .int p, .int kind] h (fun r h2 => r = some (.int (op_as (d, k, hk, fo, tape, tp, bits, sz, num) p kind).1) ∧ CR g h2 B (op_as (d, k, hk, fo, tape, tp, bits, sz, num) p kind).2) 0 0 := by
  have hC0 := hC
  have hI0 := hI
  obtain ⟨hB, cX, ⟨cW, cP, cY, cT, cM⟩, ⟨k2, cK, hk2⟩, cO, cR, cA, cS, cF⟩ := hC
  obtain ⟨⟨np, nw, T, p0, p1, e0, hnp, e1, hnw, e6, hT, hon, e3, hp0, e4, hp1, honp, hper, h10, h11, h12, hwc⟩, hkd, hkb, ⟨tn, htn, etp⟩, hsz⟩ := hI
  have x0 : h (B 0) = some (ob 7 [.ref (B 1), .ref (B 17), .int hk, .ref (B 33), .ref (B 37), .ref (B 38), .ref (B 40), .ref (B 41)]) := cX
  have x1 : h (B 1) = some (ob 6 [.ref (B 2), .int (d 0), .ref (B 3), .int (d 1), .ref (B 4), .ref (B 5), .int (bI (d 2 = 1)), .int (d 3), .int (d 4), .int (d 7)]) := cW
  have cP0 := cP
  obtain ⟨pf, F, x2, hpf, hF, hFd⟩ := cP0
  have cY0 := cY
  obtain ⟨wf, x3, hwo, hwy⟩ := cY0
  have x4 : h (B 4) = some (ai g 5 (ptF d)) := cT
  have cM0 := cM
  obtain ⟨tr, T9, s0, v0, s1, v1, x5, x6, x7, x8, e69, hT30, hR, hRB⟩ := cM0
  have eT9 : T9 = T := nI_inj (by omega) (by omega) (e69.symm.trans e6)
  subst eT9
  have cO0 := cO
  obtain ⟨otr, u5, u6, u8, a0, a1, a2, a3, a4, b0, b1, b2, b3, b4, x33, x34, x35, x36⟩ := cO0
  have cR0 := cR
  obtain ⟨rf, x37⟩ := cR0
  have cA0 := cA
  obtain ⟨ts, te, tt, tv, x38, x39⟩ := cA0
  have cS0 := cS
  obtain ⟨sf, nf, x40, hsf, hsh, hnm, hnv⟩ := cS0
  have x41 : h (B 41) = some (ai g 7 fo) := cF
  have qn : (d 0).toNatClampNeg = np := ix_cl e0 (by omega)
  have qw : (d 1).toNatClampNeg = nw := ix_cl e1 (by omega)
  have pC : ∀ p, p < np → h (B (9 + p)) = some (ob 1 [.int ((told d p) 0), .int ((told d p) 1), .int ((told d p) 2), .int ((told d p) 3), .int ((told d p) 4), .int ((told d p) 5), .int ((told d p) 6)]) := fun p hp => gP_at (by omega) (by rw [qn]; exact hp) cP
  refine mc_of (by decide) (Nat.le_of_ble_eq_true rfl) ?_
  intro K X r
  refine v_eqv (lv2 := [(0, .ref (B 0)), (1, .int p), (2, .int kind)]) rfl ?_
  refine v_aload_n X dX7_as_0 0 rfl ?_
  refine v_iload_n X dX7_as_1 1 rfl ?_
  refine v_cVi X [.int p] sX7_90 (ct_X7_isPerson ll g p x0 x1) x0 rfl dX7_as_2 rfl rfl ⟨rfl, rfl⟩ ⟨(Nat.le_of_ble_eq_true rfl), (Nat.le_of_ble_eq_true rfl)⟩ ⟨Nat.zero_le _, Nat.zero_le _⟩ (Nat.le_of_ble_eq_true rfl) ?_
  refine v_ifb_eq X dX7_as_5 (tgt := 15) (by decide) (fun c1 => ?_) (fun c1 => ?_)
  · refine v_aload_n X dX7_as_15 0 rfl ?_
    refine v_ldc X dX7_as_16 kX7_72 ?_
    refine v_cVi X [.int (-1000000001)] sX7_73 (ct_X7_finding (pe := 0) (wy := 0) (pt := 0) (mt := 0) (np := 0) (nw := 0) (oc := 0) (fi := 0) (se := 0) (lo := 0) (q := 0) (v := (-1000000001)) ll g x0 x41 (by decide) (by decide)) x0 rfl dX7_as_18 rfl rfl ⟨rfl, rfl⟩ ⟨(Nat.le_of_ble_eq_true rfl), (Nat.le_of_ble_eq_true rfl)⟩ ⟨Nat.zero_le _, Nat.zero_le _⟩ (Nat.le_of_ble_eq_true rfl) ?_
    have eqr : op_as (d, k, hk, fo, tape, tp, bits, sz, num) p kind = ((-1000000001), (d, k, hk, fnd fo 0, tape, tp, bits, sz, num)) := by unfold op_as; dsimp only; rw [if_neg (fun q : _ ∧ _ => c1 (And.left q))]
    have hCR : CR g (hU h (B 41) (ai g 7 (fnd fo 0))) B (d, k, hk, fnd fo 0, tape, tp, bits, sz, num) := ⟨hB, gX_e (hU_n (hB 0 41 (by omega) (by omega) (by omega))) cX, ⟨gW_e (hU_n (hB 1 41 (by omega) (by omega) (by omega))) ⟨rfl, rfl, rfl, rfl, rfl, rfl⟩ cW, gP_e (fun j hj => (hU_n (hB j 41 (by omega) (by omega) (by omega)))) rfl (fun _ _ _ => rfl) cP, gY_e (hU_n (hB 3 41 (by omega) (by omega) (by omega))) (fun x c hx hk => (hU_n (kd_ne hx x41 hk rfl))) rfl (fun _ _ _ => rfl) cY, gT_e (hU_n (hB 4 41 (by omega) (by omega) (by omega))) (fun _ _ _ => rfl) cT, gM_e (fun j h1 h2 => (hU_n (hB j 41 (by omega) (by omega) (by omega)))) (fun _ _ _ => rfl) cM⟩, ⟨k2, gWd_e (fun j h1 h2 => (hU_n (hB (j + 16) 41 (by omega) (by omega) (by omega)))) (fun x c hx hk => (hU_n (kd_ne hx x41 hk rfl))) cK, hk2⟩, gO_e (fun j h1 h2 => (hU_n (hB j 41 (by omega) (by omega) (by omega)))) cO, gR_e (hU_n (hB 37 41 (by omega) (by omega) (by omega))) cR, gA_e (fun j h1 h2 => (hU_n (hB j 41 (by omega) (by omega) (by omega)))) cA, gS_e (fun j h1 h2 => (hU_n (hB j 41 (by omega) (by omega) (by omega)))) cS, (hU_s : _)⟩
    exact v_iret X r dX7_as_21 (Nat.le_refl _) (Nat.le_refl _) ⟨by rw [eqr], by rw [eqr]; exact hCR⟩
  · refine v_iload_n X dX7_as_8 2 rfl ?_
    refine v_cSi X [.int kind] sX7_64 (ct_X7_isKind ll g kind) dX7_as_9 rfl rfl ⟨rfl, rfl⟩ ⟨(Nat.le_of_ble_eq_true rfl), (Nat.le_of_ble_eq_true rfl)⟩ ⟨Nat.zero_le _, Nat.zero_le _⟩ (Nat.le_of_ble_eq_true rfl) ?_
    refine v_ifb_ne X dX7_as_12 (tgt := 22) (by decide) (fun c2 => ?_) (fun c2 => ?_)
    · obtain ⟨jp, hjp, ejp⟩ := wi_n e0 (by omega) c1
      have qjp : pr p = jp := ix_cl ejp (by omega)
      refine v_aload_n X dX7_as_22 0 rfl ?_
      refine v_get X fX7_10 x0 rfl dX7_as_23 ?_
      refine v_get X fX7_82 x1 rfl dX7_as_26 ?_
      refine v_iload_n X dX7_as_29 1 rfl ?_
      refine v_aaldK X 2 rfl jp (v := .ref (B (9 + jp))) x2 ejp (by omega) (by decide) (by rw [hpf jp (by omega)]; rfl) dX7_as_30 ?_
      refine v_get X fX7_107 (pC jp (by omega)) rfl dX7_as_31 ?_
      refine v_iload_n X dX7_as_34 2 rfl ?_
      refine v_cSi X [.int ((told d jp) 0), .int kind] sX7_110 (ct_X7_isUnder (a := (told d jp) 0) ll g kind (hper jp hjp).1) dX7_as_35 rfl rfl ⟨rfl, rfl⟩ ⟨(Nat.le_of_ble_eq_true rfl), (Nat.le_of_ble_eq_true rfl)⟩ ⟨Nat.zero_le _, Nat.zero_le _⟩ (Nat.le_of_ble_eq_true rfl) ?_
      refine v_ifb_ne X dX7_as_38 (tgt := 48) (by decide) (fun c3 => ?_) (fun c3 => ?_)
      · refine v_aload_n X dX7_as_48 0 rfl ?_
        refine v_get X fX7_10 x0 rfl dX7_as_49 ?_
        refine v_get X fX7_82 x1 rfl dX7_as_52 ?_
        refine v_iload_n X dX7_as_55 1 rfl ?_
        refine v_aaldK X 2 rfl jp (v := .ref (B (9 + jp))) x2 ejp (by omega) (by decide) (by rw [hpf jp (by omega)]; rfl) dX7_as_56 ?_
        refine v_get X fX7_114 (pC jp (by omega)) rfl dX7_as_57 ?_
        have eqr : op_as (d, k, hk, fo, tape, tp, bits, sz, num) p kind = ((told d jp) 5, (d, k, hk, fo, tape, tp, bits, sz, num)) := by unfold op_as; dsimp only; rw [if_pos (And.intro c1 c2), qjp, if_pos c3]
        have hCR : CR g h B (d, k, hk, fo, tape, tp, bits, sz, num) := ⟨hB, gX_e rfl cX, ⟨gW_e rfl ⟨rfl, rfl, rfl, rfl, rfl, rfl⟩ cW, gP_e (fun j hj => rfl) rfl (fun _ _ _ => rfl) cP, gY_e rfl (fun x c hx hk => rfl) rfl (fun _ _ _ => rfl) cY, gT_e rfl (fun _ _ _ => rfl) cT, gM_e (fun j h1 h2 => rfl) (fun _ _ _ => rfl) cM⟩, ⟨k2, gWd_e (fun j h1 h2 => rfl) (fun x c hx hk => rfl) cK, hk2⟩, gO_e (fun j h1 h2 => rfl) cO, gR_e rfl cR, gA_e (fun j h1 h2 => rfl) cA, gS_e (fun j h1 h2 => rfl) cS, gF_e rfl cF⟩
        exact v_iret X r dX7_as_60 (Nat.le_refl _) (Nat.le_refl _) ⟨by rw [eqr], by rw [eqr]; exact hCR⟩
      · refine v_aload_n X dX7_as_41 0 rfl ?_
        refine v_ldc X dX7_as_42 kX7_113 ?_
        refine v_cVi X [.int (-1000000003)] sX7_73 (ct_X7_finding (pe := 0) (wy := 0) (pt := 0) (mt := 0) (np := 0) (nw := 0) (oc := 0) (fi := 0) (se := 0) (lo := 0) (q := 2) (v := (-1000000003)) ll g x0 x41 (by decide) (by decide)) x0 rfl dX7_as_44 rfl rfl ⟨rfl, rfl⟩ ⟨(Nat.le_of_ble_eq_true rfl), (Nat.le_of_ble_eq_true rfl)⟩ ⟨Nat.zero_le _, Nat.zero_le _⟩ (Nat.le_of_ble_eq_true rfl) ?_
        have eqr : op_as (d, k, hk, fo, tape, tp, bits, sz, num) p kind = ((-1000000003), (d, k, hk, fnd fo 2, tape, tp, bits, sz, num)) := by unfold op_as; dsimp only; rw [if_pos (And.intro c1 c2), qjp, if_neg c3]
        have hCR : CR g (hU h (B 41) (ai g 7 (fnd fo 2))) B (d, k, hk, fnd fo 2, tape, tp, bits, sz, num) := ⟨hB, gX_e (hU_n (hB 0 41 (by omega) (by omega) (by omega))) cX, ⟨gW_e (hU_n (hB 1 41 (by omega) (by omega) (by omega))) ⟨rfl, rfl, rfl, rfl, rfl, rfl⟩ cW, gP_e (fun j hj => (hU_n (hB j 41 (by omega) (by omega) (by omega)))) rfl (fun _ _ _ => rfl) cP, gY_e (hU_n (hB 3 41 (by omega) (by omega) (by omega))) (fun x c hx hk => (hU_n (kd_ne hx x41 hk rfl))) rfl (fun _ _ _ => rfl) cY, gT_e (hU_n (hB 4 41 (by omega) (by omega) (by omega))) (fun _ _ _ => rfl) cT, gM_e (fun j h1 h2 => (hU_n (hB j 41 (by omega) (by omega) (by omega)))) (fun _ _ _ => rfl) cM⟩, ⟨k2, gWd_e (fun j h1 h2 => (hU_n (hB (j + 16) 41 (by omega) (by omega) (by omega)))) (fun x c hx hk => (hU_n (kd_ne hx x41 hk rfl))) cK, hk2⟩, gO_e (fun j h1 h2 => (hU_n (hB j 41 (by omega) (by omega) (by omega)))) cO, gR_e (hU_n (hB 37 41 (by omega) (by omega) (by omega))) cR, gA_e (fun j h1 h2 => (hU_n (hB j 41 (by omega) (by omega) (by omega)))) cA, gS_e (fun j h1 h2 => (hU_n (hB j 41 (by omega) (by omega) (by omega)))) cS, (hU_s : _)⟩
        exact v_iret X r dX7_as_47 (Nat.le_refl _) (Nat.le_refl _) ⟨by rw [eqr], by rw [eqr]; exact hCR⟩
    · refine v_aload_n X dX7_as_15 0 rfl ?_
      refine v_ldc X dX7_as_16 kX7_72 ?_
      refine v_cVi X [.int (-1000000001)] sX7_73 (ct_X7_finding (pe := 0) (wy := 0) (pt := 0) (mt := 0) (np := 0) (nw := 0) (oc := 0) (fi := 0) (se := 0) (lo := 0) (q := 0) (v := (-1000000001)) ll g x0 x41 (by decide) (by decide)) x0 rfl dX7_as_18 rfl rfl ⟨rfl, rfl⟩ ⟨(Nat.le_of_ble_eq_true rfl), (Nat.le_of_ble_eq_true rfl)⟩ ⟨Nat.zero_le _, Nat.zero_le _⟩ (Nat.le_of_ble_eq_true rfl) ?_
      have eqr : op_as (d, k, hk, fo, tape, tp, bits, sz, num) p kind = ((-1000000001), (d, k, hk, fnd fo 0, tape, tp, bits, sz, num)) := by unfold op_as; dsimp only; rw [if_neg (fun q : _ ∧ _ => c2 (And.right q))]
      have hCR : CR g (hU h (B 41) (ai g 7 (fnd fo 0))) B (d, k, hk, fnd fo 0, tape, tp, bits, sz, num) := ⟨hB, gX_e (hU_n (hB 0 41 (by omega) (by omega) (by omega))) cX, ⟨gW_e (hU_n (hB 1 41 (by omega) (by omega) (by omega))) ⟨rfl, rfl, rfl, rfl, rfl, rfl⟩ cW, gP_e (fun j hj => (hU_n (hB j 41 (by omega) (by omega) (by omega)))) rfl (fun _ _ _ => rfl) cP, gY_e (hU_n (hB 3 41 (by omega) (by omega) (by omega))) (fun x c hx hk => (hU_n (kd_ne hx x41 hk rfl))) rfl (fun _ _ _ => rfl) cY, gT_e (hU_n (hB 4 41 (by omega) (by omega) (by omega))) (fun _ _ _ => rfl) cT, gM_e (fun j h1 h2 => (hU_n (hB j 41 (by omega) (by omega) (by omega)))) (fun _ _ _ => rfl) cM⟩, ⟨k2, gWd_e (fun j h1 h2 => (hU_n (hB (j + 16) 41 (by omega) (by omega) (by omega)))) (fun x c hx hk => (hU_n (kd_ne hx x41 hk rfl))) cK, hk2⟩, gO_e (fun j h1 h2 => (hU_n (hB j 41 (by omega) (by omega) (by omega)))) cO, gR_e (hU_n (hB 37 41 (by omega) (by omega) (by omega))) cR, gA_e (fun j h1 h2 => (hU_n (hB j 41 (by omega) (by omega) (by omega)))) cA, gS_e (fun j h1 h2 => (hU_n (hB j 41 (by omega) (by omega) (by omega)))) cS, (hU_s : _)⟩
      exact v_iret X r dX7_as_21 (Nat.le_refl _) (Nat.le_refl _) ⟨by rw [eqr], by rw [eqr]; exact hCR⟩
set_option maxHeartbeats 4000000 in
set_option maxRecDepth 100000 in
theorem ct_X7_log (ll : Launch) (g : GT) {h : Hp} {B : Nat → Nat} {d k fo tape bits sz : Nat → Int32} {num : Nat → Int64} {hk tp : Int32} {N : Nat}  (what : Int32) (v : Int32) (hC : CR g h B (d, k, hk, fo, tape, tp, bits, sz, num)) (hI : SOk (d, k, hk, fo, tape, tp, bits, sz, num) N) (hN : N + 400 ≤ 204800) : MC ll g yX7_log cX7_log 4 (some .int) { frames := 10, cells := 0, slots := 0, locals := 380 } [.ref (B 0), .int what, .int v] h (fun r h2 => r = some (.int (op_log (d, k, hk, fo, tape, tp, bits, sz, num) what v).1) ∧ CR g h2 B (op_log (d, k, hk, fo, tape, tp, bits, sz, num) what v).2) 0 0 := by
  have hC0 := hC
  have hI0 := hI
  obtain ⟨hB, cX, ⟨cW, cP, cY, cT, cM⟩, ⟨k2, cK, hk2⟩, cO, cR, cA, cS, cF⟩ := hC
  obtain ⟨⟨np, nw, T, p0, p1, e0, hnp, e1, hnw, e6, hT, hon, e3, hp0, e4, hp1, honp, hper, h10, h11, h12, hwc⟩, hkd, hkb, ⟨tn, htn, etp⟩, hsz⟩ := hI
  have x0 : h (B 0) = some (ob 7 [.ref (B 1), .ref (B 17), .int hk, .ref (B 33), .ref (B 37), .ref (B 38), .ref (B 40), .ref (B 41)]) := cX
  have x1 : h (B 1) = some (ob 6 [.ref (B 2), .int (d 0), .ref (B 3), .int (d 1), .ref (B 4), .ref (B 5), .int (bI (d 2 = 1)), .int (d 3), .int (d 4), .int (d 7)]) := cW
  have cP0 := cP
  obtain ⟨pf, F, x2, hpf, hF, hFd⟩ := cP0
  have cY0 := cY
  obtain ⟨wf, x3, hwo, hwy⟩ := cY0
  have x4 : h (B 4) = some (ai g 5 (ptF d)) := cT
  have cM0 := cM
  obtain ⟨tr, T9, s0, v0, s1, v1, x5, x6, x7, x8, e69, hT30, hR, hRB⟩ := cM0
  have eT9 : T9 = T := nI_inj (by omega) (by omega) (e69.symm.trans e6)
  subst eT9
  have cO0 := cO
  obtain ⟨otr, u5, u6, u8, a0, a1, a2, a3, a4, b0, b1, b2, b3, b4, x33, x34, x35, x36⟩ := cO0
  have cR0 := cR
  obtain ⟨rf, x37⟩ := cR0
  have cA0 := cA
  obtain ⟨ts, te, tt, tv, x38, x39⟩ := cA0
  have cS0 := cS
  obtain ⟨sf, nf, x40, hsf, hsh, hnm, hnv⟩ := cS0
  have x41 : h (B 41) = some (ai g 7 fo) := cF
  have qn : (d 0).toNatClampNeg = np := ix_cl e0 (by omega)
  have qw : (d 1).toNatClampNeg = nw := ix_cl e1 (by omega)
  have pC : ∀ p, p < np → h (B (9 + p)) = some (ob 1 [.int ((told d p) 0), .int ((told d p) 1), .int ((told d p) 2), .int ((told d p) 3), .int ((told d p) 4), .int ((told d p) 5), .int ((told d p) 6)]) := fun p hp => gP_at (by omega) (by rw [qn]; exact hp) cP
  refine mc_of (by decide) (Nat.le_of_ble_eq_true rfl) ?_
  intro K X r
  refine v_eqv (lv2 := [(0, .ref (B 0)), (1, .int what), (2, .int v)]) rfl ?_
  refine v_iload_n X dX7_log_0 1 rfl ?_
  refine v_iconst X dX7_log_1 (v := 0) (by decide) ?_
  refine v_iconst X dX7_log_2 (v := 4) (by decide) ?_
  refine v_cSi X [.int what, .int 0, .int 4] sX7_68 (ct_X7_within ll g what 0 4) dX7_log_3 rfl rfl ⟨rfl, rfl⟩ ⟨(Nat.le_of_ble_eq_true rfl), (Nat.le_of_ble_eq_true rfl)⟩ ⟨Nat.zero_le _, Nat.zero_le _⟩ (Nat.le_of_ble_eq_true rfl) ?_
  refine v_ifb_eq X dX7_log_6 (tgt := 26) (by decide) (fun c1 => ?_) (fun c1 => ?_)
  · refine v_aload_n X dX7_log_26 0 rfl ?_
    refine v_ldc X dX7_log_27 kX7_72 ?_
    refine v_cVi X [.int (-1000000001)] sX7_73 (ct_X7_finding (pe := 0) (wy := 0) (pt := 0) (mt := 0) (np := 0) (nw := 0) (oc := 0) (fi := 0) (se := 0) (lo := 0) (q := 0) (v := (-1000000001)) ll g x0 x41 (by decide) (by decide)) x0 rfl dX7_log_29 rfl rfl ⟨rfl, rfl⟩ ⟨(Nat.le_of_ble_eq_true rfl), (Nat.le_of_ble_eq_true rfl)⟩ ⟨Nat.zero_le _, Nat.zero_le _⟩ (Nat.le_of_ble_eq_true rfl) ?_
    have eqr : op_log (d, k, hk, fo, tape, tp, bits, sz, num) what v = ((-1000000001), (d, k, hk, fnd fo 0, tape, tp, bits, sz, num)) := by unfold op_log; dsimp only; rw [if_neg c1]
    have hCR : CR g (hU h (B 41) (ai g 7 (fnd fo 0))) B (d, k, hk, fnd fo 0, tape, tp, bits, sz, num) := ⟨hB, gX_e (hU_n (hB 0 41 (by omega) (by omega) (by omega))) cX, ⟨gW_e (hU_n (hB 1 41 (by omega) (by omega) (by omega))) ⟨rfl, rfl, rfl, rfl, rfl, rfl⟩ cW, gP_e (fun j hj => (hU_n (hB j 41 (by omega) (by omega) (by omega)))) rfl (fun _ _ _ => rfl) cP, gY_e (hU_n (hB 3 41 (by omega) (by omega) (by omega))) (fun x c hx hk => (hU_n (kd_ne hx x41 hk rfl))) rfl (fun _ _ _ => rfl) cY, gT_e (hU_n (hB 4 41 (by omega) (by omega) (by omega))) (fun _ _ _ => rfl) cT, gM_e (fun j h1 h2 => (hU_n (hB j 41 (by omega) (by omega) (by omega)))) (fun _ _ _ => rfl) cM⟩, ⟨k2, gWd_e (fun j h1 h2 => (hU_n (hB (j + 16) 41 (by omega) (by omega) (by omega)))) (fun x c hx hk => (hU_n (kd_ne hx x41 hk rfl))) cK, hk2⟩, gO_e (fun j h1 h2 => (hU_n (hB j 41 (by omega) (by omega) (by omega)))) cO, gR_e (hU_n (hB 37 41 (by omega) (by omega) (by omega))) cR, gA_e (fun j h1 h2 => (hU_n (hB j 41 (by omega) (by omega) (by omega)))) cA, gS_e (fun j h1 h2 => (hU_n (hB j 41 (by omega) (by omega) (by omega)))) cS, (hU_s : _)⟩
    exact v_iret X r dX7_log_32 (Nat.le_refl _) (Nat.le_refl _) ⟨by rw [eqr], by rw [eqr]; exact hCR⟩
  · obtain ⟨jw, hjw, ejw⟩ := wi_c 4 rfl (by decide) c1
    have qjw : pr what = jw := ix_cl ejw (by omega)
    have hls := least_t hjw
    refine v_iload_n X dX7_log_9 2 rfl ?_
    refine v_gs2 X gX7_117 dX7_log_10 ?_
    refine v_iload_n X dX7_log_13 1 rfl ?_
    refine v_ta2 X jw ejw (by omega) dX7_log_14 ?_
    refine v_gs3 X gX7_120 dX7_log_15 ?_
    refine v_iload_n X dX7_log_18 1 rfl ?_
    refine v_ta3 X jw ejw (by omega) dX7_log_19 ?_
    refine v_cSi X [.int v, .int (tb2.getD jw 0), .int (tb3.getD jw 0)] sX7_68 (ct_X7_within ll g v (tb2.getD jw 0) (tb3.getD jw 0)) dX7_log_20 rfl rfl ⟨rfl, rfl⟩ ⟨(Nat.le_of_ble_eq_true rfl), (Nat.le_of_ble_eq_true rfl)⟩ ⟨Nat.zero_le _, Nat.zero_le _⟩ (Nat.le_of_ble_eq_true rfl) ?_
    refine v_ifb_ne X dX7_log_23 (tgt := 33) (by decide) (fun c2 => ?_) (fun c2 => ?_)
    · refine v_aload_n X dX7_log_33 0 rfl ?_
      refine v_get X fX7_10 x0 rfl dX7_log_34 ?_
      refine v_get X fX7_25 x1 rfl dX7_log_37 ?_
      refine v_iload_n X dX7_log_40 1 rfl ?_
      refine v_ialdK X jw x4 ejw (by omega) (by decide) dX7_log_41 ?_
      refine v_istore_n (lv1 := [(3, .int ((ptF d) jw)), (0, .ref (B 0)), (1, .int what), (2, .int v)]) X dX7_log_42 (by decide) rfl ?_
      refine v_aload_n X dX7_log_43 1 rfl ?_
      refine v_get X fX7_10 x0 rfl dX7_log_44 ?_
      refine v_get X fX7_25 x1 rfl dX7_log_47 ?_
      refine v_iload_n X dX7_log_50 2 rfl ?_
      refine v_iload_n X dX7_log_51 3 rfl ?_
      refine v_iastK (h2 := (hU h (B 4) (ai g 5 (upd (ptF d) jw v)))) X jw x4 ejw (by omega) (by decide) dX7_log_52 rfl ?_
      refine v_iload_n X dX7_log_53 0 rfl ?_
      have eqr : op_log (d, k, hk, fo, tape, tp, bits, sz, num) what v = ((ptF d) jw, (upd d (10 + jw) v, k, hk, fo, tape, tp, bits, sz, num)) := by have hls2 := hls; rw [← ejw] at hls2; unfold op_log; dsimp only; rw [if_pos c1, if_pos (by rw [← hls2.1, ← hls2.2]; exact c2), qjw, ptF_at (by omega)]
      have hCR : CR g (hU h (B 4) (ai g 5 (upd (ptF d) jw v))) B (upd d (10 + jw) v, k, hk, fo, tape, tp, bits, sz, num) := ⟨hB, gX_e (hU_n (hB 0 4 (by omega) (by omega) (by omega))) cX, ⟨gW_e (hU_n (hB 1 4 (by omega) (by omega) (by omega))) ⟨pk_un (by omega), pk_un (by omega), pk_un (by omega), pk_un (by omega), pk_un (by omega), pk_un (by omega)⟩ cW, gP_e (fun j hj => (hU_n (hB j 4 (by omega) (by omega) (by omega)))) (pk_un (by omega)) (fun j h1 h2 => pk_un (by omega)) cP, gY_e (hU_n (hB 3 4 (by omega) (by omega) (by omega))) (fun x c hx hk => (hU_n (kd_ne hx x4 hk rfl))) (pk_un (by omega)) (fun j h1 h2 => pk_un (by omega)) cY, (by unfold gT; rw [← ptF_u (by omega)]; exact hU_s), gM_e (fun j h1 h2 => (hU_n (hB j 4 (by omega) (by omega) (by omega)))) (fun j h1 h2 => pk_un (by omega)) cM⟩, ⟨k2, gWd_e (fun j h1 h2 => (hU_n (hB (j + 16) 4 (by omega) (by omega) (by omega)))) (fun x c hx hk => (hU_n (kd_ne hx x4 hk rfl))) cK, hk2⟩, gO_e (fun j h1 h2 => (hU_n (hB j 4 (by omega) (by omega) (by omega)))) cO, gR_e (hU_n (hB 37 4 (by omega) (by omega) (by omega))) cR, gA_e (fun j h1 h2 => (hU_n (hB j 4 (by omega) (by omega) (by omega)))) cA, gS_e (fun j h1 h2 => (hU_n (hB j 4 (by omega) (by omega) (by omega)))) cS, gF_e (hU_n (hB 41 4 (by omega) (by omega) (by omega))) cF⟩
      exact v_iret X r dX7_log_54 (Nat.le_refl _) (Nat.le_refl _) ⟨by rw [eqr], by rw [eqr]; exact hCR⟩
    · refine v_aload_n X dX7_log_26 0 rfl ?_
      refine v_ldc X dX7_log_27 kX7_72 ?_
      refine v_cVi X [.int (-1000000001)] sX7_73 (ct_X7_finding (pe := 0) (wy := 0) (pt := 0) (mt := 0) (np := 0) (nw := 0) (oc := 0) (fi := 0) (se := 0) (lo := 0) (q := 0) (v := (-1000000001)) ll g x0 x41 (by decide) (by decide)) x0 rfl dX7_log_29 rfl rfl ⟨rfl, rfl⟩ ⟨(Nat.le_of_ble_eq_true rfl), (Nat.le_of_ble_eq_true rfl)⟩ ⟨Nat.zero_le _, Nat.zero_le _⟩ (Nat.le_of_ble_eq_true rfl) ?_
      have eqr : op_log (d, k, hk, fo, tape, tp, bits, sz, num) what v = ((-1000000001), (d, k, hk, fnd fo 0, tape, tp, bits, sz, num)) := by have hls2 := hls; rw [← ejw] at hls2; unfold op_log; dsimp only; rw [if_pos c1, if_neg (by rw [← hls2.1, ← hls2.2]; exact c2)]
      have hCR : CR g (hU h (B 41) (ai g 7 (fnd fo 0))) B (d, k, hk, fnd fo 0, tape, tp, bits, sz, num) := ⟨hB, gX_e (hU_n (hB 0 41 (by omega) (by omega) (by omega))) cX, ⟨gW_e (hU_n (hB 1 41 (by omega) (by omega) (by omega))) ⟨rfl, rfl, rfl, rfl, rfl, rfl⟩ cW, gP_e (fun j hj => (hU_n (hB j 41 (by omega) (by omega) (by omega)))) rfl (fun _ _ _ => rfl) cP, gY_e (hU_n (hB 3 41 (by omega) (by omega) (by omega))) (fun x c hx hk => (hU_n (kd_ne hx x41 hk rfl))) rfl (fun _ _ _ => rfl) cY, gT_e (hU_n (hB 4 41 (by omega) (by omega) (by omega))) (fun _ _ _ => rfl) cT, gM_e (fun j h1 h2 => (hU_n (hB j 41 (by omega) (by omega) (by omega)))) (fun _ _ _ => rfl) cM⟩, ⟨k2, gWd_e (fun j h1 h2 => (hU_n (hB (j + 16) 41 (by omega) (by omega) (by omega)))) (fun x c hx hk => (hU_n (kd_ne hx x41 hk rfl))) cK, hk2⟩, gO_e (fun j h1 h2 => (hU_n (hB j 41 (by omega) (by omega) (by omega)))) cO, gR_e (hU_n (hB 37 41 (by omega) (by omega) (by omega))) cR, gA_e (fun j h1 h2 => (hU_n (hB j 41 (by omega) (by omega) (by omega)))) cA, gS_e (fun j h1 h2 => (hU_n (hB j 41 (by omega) (by omega) (by omega)))) cS, (hU_s : _)⟩
      exact v_iret X r dX7_log_32 (Nat.le_refl _) (Nat.le_refl _) ⟨by rw [eqr], by rw [eqr]; exact hCR⟩
set_option maxHeartbeats 4000000 in
set_option maxRecDepth 100000 in
theorem ct_X7_off (ll : Launch) (g : GT) {h : Hp} {B : Nat → Nat} {d k fo tape bits sz : Nat → Int32} {num : Nat → Int64} {hk tp : Int32} {N : Nat}  (hC : CR g h B (d, k, hk, fo, tape, tp, bits, sz, num)) (hI : SOk (d, k, hk, fo, tape, tp, bits, sz, num) N) (hN : N + 400 ≤ 204800) : MC ll g yX7_off cX7_off 1 (some .int) { frames := 10, cells := 0, slots := 0, locals := 380 } [.ref (B 0)] h (fun r h2 => r = some (.int (op_off (d, k, hk, fo, tape, tp, bits, sz, num)).1) ∧ CR g h2 B (op_off (d, k, hk, fo, tape, tp, bits, sz, num)).2) 0 0 := by
  have hC0 := hC
  have hI0 := hI
  obtain ⟨hB, cX, ⟨cW, cP, cY, cT, cM⟩, ⟨k2, cK, hk2⟩, cO, cR, cA, cS, cF⟩ := hC
  obtain ⟨⟨np, nw, T, p0, p1, e0, hnp, e1, hnw, e6, hT, hon, e3, hp0, e4, hp1, honp, hper, h10, h11, h12, hwc⟩, hkd, hkb, ⟨tn, htn, etp⟩, hsz⟩ := hI
  have x0 : h (B 0) = some (ob 7 [.ref (B 1), .ref (B 17), .int hk, .ref (B 33), .ref (B 37), .ref (B 38), .ref (B 40), .ref (B 41)]) := cX
  have x1 : h (B 1) = some (ob 6 [.ref (B 2), .int (d 0), .ref (B 3), .int (d 1), .ref (B 4), .ref (B 5), .int (bI (d 2 = 1)), .int (d 3), .int (d 4), .int (d 7)]) := cW
  have cP0 := cP
  obtain ⟨pf, F, x2, hpf, hF, hFd⟩ := cP0
  have cY0 := cY
  obtain ⟨wf, x3, hwo, hwy⟩ := cY0
  have x4 : h (B 4) = some (ai g 5 (ptF d)) := cT
  have cM0 := cM
  obtain ⟨tr, T9, s0, v0, s1, v1, x5, x6, x7, x8, e69, hT30, hR, hRB⟩ := cM0
  have eT9 : T9 = T := nI_inj (by omega) (by omega) (e69.symm.trans e6)
  subst eT9
  have cO0 := cO
  obtain ⟨otr, u5, u6, u8, a0, a1, a2, a3, a4, b0, b1, b2, b3, b4, x33, x34, x35, x36⟩ := cO0
  have cR0 := cR
  obtain ⟨rf, x37⟩ := cR0
  have cA0 := cA
  obtain ⟨ts, te, tt, tv, x38, x39⟩ := cA0
  have cS0 := cS
  obtain ⟨sf, nf, x40, hsf, hsh, hnm, hnv⟩ := cS0
  have x41 : h (B 41) = some (ai g 7 fo) := cF
  have qn : (d 0).toNatClampNeg = np := ix_cl e0 (by omega)
  have qw : (d 1).toNatClampNeg = nw := ix_cl e1 (by omega)
  have pC : ∀ p, p < np → h (B (9 + p)) = some (ob 1 [.int ((told d p) 0), .int ((told d p) 1), .int ((told d p) 2), .int ((told d p) 3), .int ((told d p) 4), .int ((told d p) 5), .int ((told d p) 6)]) := fun p hp => gP_at (by omega) (by rw [qn]; exact hp) cP
  refine mc_of (by decide) (Nat.le_of_ble_eq_true rfl) ?_
  intro K X r
  refine v_eqv (lv2 := [(0, .ref (B 0))]) rfl ?_
  refine v_aload_n X dX7_off_0 0 rfl ?_
  refine v_get X fX7_10 x0 rfl dX7_off_1 ?_
  refine v_get X fX7_141 x1 rfl dX7_off_4 ?_
  refine v_ifb_ne X dX7_off_7 (tgt := 17) (by decide) (fun c1 => ?_) (fun c1 => ?_)
  · refine v_aload_n X dX7_off_17 0 rfl ?_
    refine v_get X fX7_10 x0 rfl dX7_off_18 ?_
    refine v_iconst X dX7_off_21 (v := 0) (by decide) ?_
    refine v_putE (h2 := (hU h (B 1) (ob 6 [.ref (B 2), .int (d 0), .ref (B 3), .int (d 1), .ref (B 4), .ref (B 5), .int 0, .int (d 3), .int (d 4), .int (d 7)]))) X fX7_141 tyX6_ok nmX6 rfl pd_Z x1 rfl rfl (ltb rfl) dX7_off_22 rfl ?_
    refine v_aload_n X dX7_off_25 0 rfl ?_
    refine v_get X fX7_10 ((hU_n (hB 0 1 (by omega) (by omega) (by omega))).trans x0) rfl dX7_off_26 ?_
    refine v_get X fX7_150 hU_s rfl dX7_off_29 ?_
    refine v_get X fX7_156 ((hU_n (hB 5 1 (by omega) (by omega) (by omega))).trans x5) rfl dX7_off_32 ?_
    have eqr : op_off (d, k, hk, fo, tape, tp, bits, sz, num) = (d 6, (upd d 2 0, k, hk, fo, tape, tp, bits, sz, num)) := by unfold op_off; dsimp only; rw [if_neg (fun z => by have y := c1; rw [z] at y; exact absurd y (by decide))]
    have hCR : CR g (hU h (B 1) (ob 6 [.ref (B 2), .int (d 0), .ref (B 3), .int (d 1), .ref (B 4), .ref (B 5), .int 0, .int (d 3), .int (d 4), .int (d 7)])) B (upd d 2 0, k, hk, fo, tape, tp, bits, sz, num) := ⟨hB, gX_e (hU_n (hB 0 1 (by omega) (by omega) (by omega))) cX, ⟨gW_i hU_s (pk_un (by omega)) (pk_un (by omega)) (bI_f (by rw [pk_us]; decide)) (pk_un (by omega)) (pk_un (by omega)) (pk_un (by omega)), gP_e (fun j hj => (hU_n (hB j 1 (by omega) (by omega) (by omega)))) (pk_un (by omega)) (fun j h1 h2 => pk_un (by omega)) cP, gY_e (hU_n (hB 3 1 (by omega) (by omega) (by omega))) (fun x c hx hk => (hU_n (kd_ne hx x1 hk rfl))) (pk_un (by omega)) (fun j h1 h2 => pk_un (by omega)) cY, gT_e (hU_n (hB 4 1 (by omega) (by omega) (by omega))) (fun j h1 h2 => pk_un (by omega)) cT, gM_e (fun j h1 h2 => (hU_n (hB j 1 (by omega) (by omega) (by omega)))) (fun j h1 h2 => pk_un (by omega)) cM⟩, ⟨k2, gWd_e (fun j h1 h2 => (hU_n (hB (j + 16) 1 (by omega) (by omega) (by omega)))) (fun x c hx hk => (hU_n (kd_ne hx x1 hk rfl))) cK, hk2⟩, gO_e (fun j h1 h2 => (hU_n (hB j 1 (by omega) (by omega) (by omega)))) cO, gR_e (hU_n (hB 37 1 (by omega) (by omega) (by omega))) cR, gA_e (fun j h1 h2 => (hU_n (hB j 1 (by omega) (by omega) (by omega)))) cA, gS_e (fun j h1 h2 => (hU_n (hB j 1 (by omega) (by omega) (by omega)))) cS, gF_e (hU_n (hB 41 1 (by omega) (by omega) (by omega))) cF⟩
    exact v_iret X r dX7_off_35 (Nat.le_refl _) (Nat.le_refl _) ⟨by rw [eqr], by rw [eqr]; exact hCR⟩
  · refine v_aload_n X dX7_off_10 0 rfl ?_
    refine v_ldc X dX7_off_11 kX7_103 ?_
    refine v_cVi X [.int (-1000000005)] sX7_73 (ct_X7_finding (pe := 0) (wy := 0) (pt := 0) (mt := 0) (np := 0) (nw := 0) (oc := 0) (fi := 0) (se := 0) (lo := 0) (q := 4) (v := (-1000000005)) ll g x0 x41 (by decide) (by decide)) x0 rfl dX7_off_13 rfl rfl ⟨rfl, rfl⟩ ⟨(Nat.le_of_ble_eq_true rfl), (Nat.le_of_ble_eq_true rfl)⟩ ⟨Nat.zero_le _, Nat.zero_le _⟩ (Nat.le_of_ble_eq_true rfl) ?_
    have eqr : op_off (d, k, hk, fo, tape, tp, bits, sz, num) = ((-1000000005), (d, k, hk, fnd fo 4, tape, tp, bits, sz, num)) := by unfold op_off; dsimp only; rw [if_pos (hon.elim id (fun z => absurd z c1))]
    have hCR : CR g (hU h (B 41) (ai g 7 (fnd fo 4))) B (d, k, hk, fnd fo 4, tape, tp, bits, sz, num) := ⟨hB, gX_e (hU_n (hB 0 41 (by omega) (by omega) (by omega))) cX, ⟨gW_e (hU_n (hB 1 41 (by omega) (by omega) (by omega))) ⟨rfl, rfl, rfl, rfl, rfl, rfl⟩ cW, gP_e (fun j hj => (hU_n (hB j 41 (by omega) (by omega) (by omega)))) rfl (fun _ _ _ => rfl) cP, gY_e (hU_n (hB 3 41 (by omega) (by omega) (by omega))) (fun x c hx hk => (hU_n (kd_ne hx x41 hk rfl))) rfl (fun _ _ _ => rfl) cY, gT_e (hU_n (hB 4 41 (by omega) (by omega) (by omega))) (fun _ _ _ => rfl) cT, gM_e (fun j h1 h2 => (hU_n (hB j 41 (by omega) (by omega) (by omega)))) (fun _ _ _ => rfl) cM⟩, ⟨k2, gWd_e (fun j h1 h2 => (hU_n (hB (j + 16) 41 (by omega) (by omega) (by omega)))) (fun x c hx hk => (hU_n (kd_ne hx x41 hk rfl))) cK, hk2⟩, gO_e (fun j h1 h2 => (hU_n (hB j 41 (by omega) (by omega) (by omega)))) cO, gR_e (hU_n (hB 37 41 (by omega) (by omega) (by omega))) cR, gA_e (fun j h1 h2 => (hU_n (hB j 41 (by omega) (by omega) (by omega)))) cA, gS_e (fun j h1 h2 => (hU_n (hB j 41 (by omega) (by omega) (by omega)))) cS, (hU_s : _)⟩
    exact v_iret X r dX7_off_16 (Nat.le_refl _) (Nat.le_refl _) ⟨by rw [eqr], by rw [eqr]; exact hCR⟩
set_option maxHeartbeats 4000000 in
set_option maxRecDepth 100000 in
theorem ct_X7_now (ll : Launch) (g : GT) {h : Hp} {B : Nat → Nat} {d k fo tape bits sz : Nat → Int32} {num : Nat → Int64} {hk tp : Int32} {N : Nat}  (what : Int32) (hC : CR g h B (d, k, hk, fo, tape, tp, bits, sz, num)) (hI : SOk (d, k, hk, fo, tape, tp, bits, sz, num) N) (hN : N + 400 ≤ 204800) : MC ll g yX7_now cX7_now 2 (some .int) { frames := 10, cells := 0, slots := 0, locals := 380 } [.ref (B 0), .int what] h (fun r h2 => r = some (.int (op_now (d, k, hk, fo, tape, tp, bits, sz, num) what).1) ∧ CR g h2 B (op_now (d, k, hk, fo, tape, tp, bits, sz, num) what).2) 0 0 := by
  have hC0 := hC
  have hI0 := hI
  obtain ⟨hB, cX, ⟨cW, cP, cY, cT, cM⟩, ⟨k2, cK, hk2⟩, cO, cR, cA, cS, cF⟩ := hC
  obtain ⟨⟨np, nw, T, p0, p1, e0, hnp, e1, hnw, e6, hT, hon, e3, hp0, e4, hp1, honp, hper, h10, h11, h12, hwc⟩, hkd, hkb, ⟨tn, htn, etp⟩, hsz⟩ := hI
  have x0 : h (B 0) = some (ob 7 [.ref (B 1), .ref (B 17), .int hk, .ref (B 33), .ref (B 37), .ref (B 38), .ref (B 40), .ref (B 41)]) := cX
  have x1 : h (B 1) = some (ob 6 [.ref (B 2), .int (d 0), .ref (B 3), .int (d 1), .ref (B 4), .ref (B 5), .int (bI (d 2 = 1)), .int (d 3), .int (d 4), .int (d 7)]) := cW
  have cP0 := cP
  obtain ⟨pf, F, x2, hpf, hF, hFd⟩ := cP0
  have cY0 := cY
  obtain ⟨wf, x3, hwo, hwy⟩ := cY0
  have x4 : h (B 4) = some (ai g 5 (ptF d)) := cT
  have cM0 := cM
  obtain ⟨tr, T9, s0, v0, s1, v1, x5, x6, x7, x8, e69, hT30, hR, hRB⟩ := cM0
  have eT9 : T9 = T := nI_inj (by omega) (by omega) (e69.symm.trans e6)
  subst eT9
  have cO0 := cO
  obtain ⟨otr, u5, u6, u8, a0, a1, a2, a3, a4, b0, b1, b2, b3, b4, x33, x34, x35, x36⟩ := cO0
  have cR0 := cR
  obtain ⟨rf, x37⟩ := cR0
  have cA0 := cA
  obtain ⟨ts, te, tt, tv, x38, x39⟩ := cA0
  have cS0 := cS
  obtain ⟨sf, nf, x40, hsf, hsh, hnm, hnv⟩ := cS0
  have x41 : h (B 41) = some (ai g 7 fo) := cF
  have qn : (d 0).toNatClampNeg = np := ix_cl e0 (by omega)
  have qw : (d 1).toNatClampNeg = nw := ix_cl e1 (by omega)
  have pC : ∀ p, p < np → h (B (9 + p)) = some (ob 1 [.int ((told d p) 0), .int ((told d p) 1), .int ((told d p) 2), .int ((told d p) 3), .int ((told d p) 4), .int ((told d p) 5), .int ((told d p) 6)]) := fun p hp => gP_at (by omega) (by rw [qn]; exact hp) cP
  refine mc_of (by decide) (Nat.le_of_ble_eq_true rfl) ?_
  intro K X r
  refine v_eqv (lv2 := [(0, .ref (B 0)), (1, .int what)]) rfl ?_
  refine v_iload_n X dX7_now_0 1 rfl ?_
  by_cases c1_0 : what = 0
  · refine v_tabIn X dX7_now_1 (off := 27) (tgt := 28) 0 c1_0 (by decide) (by decide) (by decide) (by decide) ?_
    refine v_aload_n X dX7_now_28 0 rfl ?_
    refine v_get X fX7_10 x0 rfl dX7_now_29 ?_
    refine v_get X fX7_150 x1 rfl dX7_now_32 ?_
    refine v_get X fX7_191 x5 rfl dX7_now_35 ?_
    have eqr : op_now (d, k, hk, fo, tape, tp, bits, sz, num) what = (d 5, (d, k, hk, fo, tape, tp, bits, sz, num)) := by unfold op_now; dsimp only; rw [if_pos (by rw [c1_0]; decide), c1_0]; rfl
    have hCR : CR g h B (d, k, hk, fo, tape, tp, bits, sz, num) := ⟨hB, gX_e rfl cX, ⟨gW_e rfl ⟨rfl, rfl, rfl, rfl, rfl, rfl⟩ cW, gP_e (fun j hj => rfl) rfl (fun _ _ _ => rfl) cP, gY_e rfl (fun x c hx hk => rfl) rfl (fun _ _ _ => rfl) cY, gT_e rfl (fun _ _ _ => rfl) cT, gM_e (fun j h1 h2 => rfl) (fun _ _ _ => rfl) cM⟩, ⟨k2, gWd_e (fun j h1 h2 => rfl) (fun x c hx hk => rfl) cK, hk2⟩, gO_e (fun j h1 h2 => rfl) cO, gR_e rfl cR, gA_e (fun j h1 h2 => rfl) cA, gS_e (fun j h1 h2 => rfl) cS, gF_e rfl cF⟩
    exact v_iret X r dX7_now_38 (Nat.le_refl _) (Nat.le_refl _) ⟨by rw [eqr], by rw [eqr]; exact hCR⟩
  by_cases c1_1 : what = 1
  · refine v_tabIn X dX7_now_1 (off := 38) (tgt := 39) 1 c1_1 (by decide) (by decide) (by decide) (by decide) ?_
    refine v_aload_n X dX7_now_39 0 rfl ?_
    refine v_get X fX7_10 x0 rfl dX7_now_40 ?_
    refine v_get X fX7_150 x1 rfl dX7_now_43 ?_
    refine v_get X fX7_156 x5 rfl dX7_now_46 ?_
    have eqr : op_now (d, k, hk, fo, tape, tp, bits, sz, num) what = (d 6, (d, k, hk, fo, tape, tp, bits, sz, num)) := by unfold op_now; dsimp only; rw [if_pos (by rw [c1_1]; decide), c1_1]; rfl
    have hCR : CR g h B (d, k, hk, fo, tape, tp, bits, sz, num) := ⟨hB, gX_e rfl cX, ⟨gW_e rfl ⟨rfl, rfl, rfl, rfl, rfl, rfl⟩ cW, gP_e (fun j hj => rfl) rfl (fun _ _ _ => rfl) cP, gY_e rfl (fun x c hx hk => rfl) rfl (fun _ _ _ => rfl) cY, gT_e rfl (fun _ _ _ => rfl) cT, gM_e (fun j h1 h2 => rfl) (fun _ _ _ => rfl) cM⟩, ⟨k2, gWd_e (fun j h1 h2 => rfl) (fun x c hx hk => rfl) cK, hk2⟩, gO_e (fun j h1 h2 => rfl) cO, gR_e rfl cR, gA_e (fun j h1 h2 => rfl) cA, gS_e (fun j h1 h2 => rfl) cS, gF_e rfl cF⟩
    exact v_iret X r dX7_now_49 (Nat.le_refl _) (Nat.le_refl _) ⟨by rw [eqr], by rw [eqr]; exact hCR⟩
  by_cases c1_2 : what = 2
  · refine v_tabIn X dX7_now_1 (off := 49) (tgt := 50) 2 c1_2 (by decide) (by decide) (by decide) (by decide) ?_
    refine v_aload_n X dX7_now_50 0 rfl ?_
    refine v_get X fX7_10 x0 rfl dX7_now_51 ?_
    refine v_get X fX7_194 x1 rfl dX7_now_54 ?_
    have eqr : op_now (d, k, hk, fo, tape, tp, bits, sz, num) what = (d 7, (d, k, hk, fo, tape, tp, bits, sz, num)) := by unfold op_now; dsimp only; rw [if_pos (by rw [c1_2]; decide), c1_2]; rfl
    have hCR : CR g h B (d, k, hk, fo, tape, tp, bits, sz, num) := ⟨hB, gX_e rfl cX, ⟨gW_e rfl ⟨rfl, rfl, rfl, rfl, rfl, rfl⟩ cW, gP_e (fun j hj => rfl) rfl (fun _ _ _ => rfl) cP, gY_e rfl (fun x c hx hk => rfl) rfl (fun _ _ _ => rfl) cY, gT_e rfl (fun _ _ _ => rfl) cT, gM_e (fun j h1 h2 => rfl) (fun _ _ _ => rfl) cM⟩, ⟨k2, gWd_e (fun j h1 h2 => rfl) (fun x c hx hk => rfl) cK, hk2⟩, gO_e (fun j h1 h2 => rfl) cO, gR_e rfl cR, gA_e (fun j h1 h2 => rfl) cA, gS_e (fun j h1 h2 => rfl) cS, gF_e rfl cF⟩
    exact v_iret X r dX7_now_57 (Nat.le_refl _) (Nat.le_refl _) ⟨by rw [eqr], by rw [eqr]; exact hCR⟩
  refine v_tabOut X dX7_now_1 (tgt := 58) (by have e0 := lv_neT (k := 0) (a := 0) c1_0 (by decide); have e1 := lv_neT (k := 1) (a := 1) c1_1 (by decide); have e2 := lv_neT (k := 2) (a := 2) c1_2 (by decide); omega) (by decide) ?_
  refine v_aload_n X dX7_now_58 0 rfl ?_
  refine v_ldc X dX7_now_59 kX7_72 ?_
  refine v_cVi X [.int (-1000000001)] sX7_73 (ct_X7_finding (pe := 0) (wy := 0) (pt := 0) (mt := 0) (np := 0) (nw := 0) (oc := 0) (fi := 0) (se := 0) (lo := 0) (q := 0) (v := (-1000000001)) ll g x0 x41 (by decide) (by decide)) x0 rfl dX7_now_61 rfl rfl ⟨rfl, rfl⟩ ⟨(Nat.le_of_ble_eq_true rfl), (Nat.le_of_ble_eq_true rfl)⟩ ⟨Nat.zero_le _, Nat.zero_le _⟩ (Nat.le_of_ble_eq_true rfl) ?_
  have eqr : op_now (d, k, hk, fo, tape, tp, bits, sz, num) what = ((-1000000001), (d, k, hk, fnd fo 0, tape, tp, bits, sz, num)) := by unfold op_now; dsimp only; rw [if_neg (fun z => by obtain ⟨j, hj, e⟩ := wi_c 2 rfl (by decide) z; have hc : j = 0 ∨ j = 1 ∨ j = 2 := (by omega); rcases hc with y | y | y <;> rw [y] at e <;> first | exact c1_0 e | exact c1_1 e | exact c1_2 e)]
  have hCR : CR g (hU h (B 41) (ai g 7 (fnd fo 0))) B (d, k, hk, fnd fo 0, tape, tp, bits, sz, num) := ⟨hB, gX_e (hU_n (hB 0 41 (by omega) (by omega) (by omega))) cX, ⟨gW_e (hU_n (hB 1 41 (by omega) (by omega) (by omega))) ⟨rfl, rfl, rfl, rfl, rfl, rfl⟩ cW, gP_e (fun j hj => (hU_n (hB j 41 (by omega) (by omega) (by omega)))) rfl (fun _ _ _ => rfl) cP, gY_e (hU_n (hB 3 41 (by omega) (by omega) (by omega))) (fun x c hx hk => (hU_n (kd_ne hx x41 hk rfl))) rfl (fun _ _ _ => rfl) cY, gT_e (hU_n (hB 4 41 (by omega) (by omega) (by omega))) (fun _ _ _ => rfl) cT, gM_e (fun j h1 h2 => (hU_n (hB j 41 (by omega) (by omega) (by omega)))) (fun _ _ _ => rfl) cM⟩, ⟨k2, gWd_e (fun j h1 h2 => (hU_n (hB (j + 16) 41 (by omega) (by omega) (by omega)))) (fun x c hx hk => (hU_n (kd_ne hx x41 hk rfl))) cK, hk2⟩, gO_e (fun j h1 h2 => (hU_n (hB j 41 (by omega) (by omega) (by omega)))) cO, gR_e (hU_n (hB 37 41 (by omega) (by omega) (by omega))) cR, gA_e (fun j h1 h2 => (hU_n (hB j 41 (by omega) (by omega) (by omega)))) cA, gS_e (fun j h1 h2 => (hU_n (hB j 41 (by omega) (by omega) (by omega)))) cS, (hU_s : _)⟩
  exact v_iret X r dX7_now_64 (Nat.le_refl _) (Nat.le_refl _) ⟨by rw [eqr], by rw [eqr]; exact hCR⟩
set_option maxHeartbeats 4000000 in
set_option maxRecDepth 100000 in
theorem ct_X7_seed (ll : Launch) (g : GT) {h : Hp} {B : Nat → Nat} {d k fo tape bits sz : Nat → Int32} {num : Nat → Int64} {hk tp : Int32} {N : Nat}  (v : Int32) (hC : CR g h B (d, k, hk, fo, tape, tp, bits, sz, num)) (hI : SOk (d, k, hk, fo, tape, tp, bits, sz, num) N) (hN : N + 400 ≤ 204800) : MC ll g yX7_seed cX7_seed 3 (some .int) { frames := 10, cells := 0, slots := 0, locals := 380 } [.ref (B 0), .int v] h (fun r h2 => r = some (.int (op_seed (d, k, hk, fo, tape, tp, bits, sz, num) v).1) ∧ CR g h2 B (op_seed (d, k, hk, fo, tape, tp, bits, sz, num) v).2) 0 0 := by
  have hC0 := hC
  have hI0 := hI
  obtain ⟨hB, cX, ⟨cW, cP, cY, cT, cM⟩, ⟨k2, cK, hk2⟩, cO, cR, cA, cS, cF⟩ := hC
  obtain ⟨⟨np, nw, T, p0, p1, e0, hnp, e1, hnw, e6, hT, hon, e3, hp0, e4, hp1, honp, hper, h10, h11, h12, hwc⟩, hkd, hkb, ⟨tn, htn, etp⟩, hsz⟩ := hI
  have x0 : h (B 0) = some (ob 7 [.ref (B 1), .ref (B 17), .int hk, .ref (B 33), .ref (B 37), .ref (B 38), .ref (B 40), .ref (B 41)]) := cX
  have x1 : h (B 1) = some (ob 6 [.ref (B 2), .int (d 0), .ref (B 3), .int (d 1), .ref (B 4), .ref (B 5), .int (bI (d 2 = 1)), .int (d 3), .int (d 4), .int (d 7)]) := cW
  have cP0 := cP
  obtain ⟨pf, F, x2, hpf, hF, hFd⟩ := cP0
  have cY0 := cY
  obtain ⟨wf, x3, hwo, hwy⟩ := cY0
  have x4 : h (B 4) = some (ai g 5 (ptF d)) := cT
  have cM0 := cM
  obtain ⟨tr, T9, s0, v0, s1, v1, x5, x6, x7, x8, e69, hT30, hR, hRB⟩ := cM0
  have eT9 : T9 = T := nI_inj (by omega) (by omega) (e69.symm.trans e6)
  subst eT9
  have cO0 := cO
  obtain ⟨otr, u5, u6, u8, a0, a1, a2, a3, a4, b0, b1, b2, b3, b4, x33, x34, x35, x36⟩ := cO0
  have cR0 := cR
  obtain ⟨rf, x37⟩ := cR0
  have cA0 := cA
  obtain ⟨ts, te, tt, tv, x38, x39⟩ := cA0
  have cS0 := cS
  obtain ⟨sf, nf, x40, hsf, hsh, hnm, hnv⟩ := cS0
  have x41 : h (B 41) = some (ai g 7 fo) := cF
  have qn : (d 0).toNatClampNeg = np := ix_cl e0 (by omega)
  have qw : (d 1).toNatClampNeg = nw := ix_cl e1 (by omega)
  have pC : ∀ p, p < np → h (B (9 + p)) = some (ob 1 [.int ((told d p) 0), .int ((told d p) 1), .int ((told d p) 2), .int ((told d p) 3), .int ((told d p) 4), .int ((told d p) 5), .int ((told d p) 6)]) := fun p hp => gP_at (by omega) (by rw [qn]; exact hp) cP
  refine mc_of (by decide) (Nat.le_of_ble_eq_true rfl) ?_
  intro K X r
  refine v_eqv (lv2 := [(0, .ref (B 0)), (1, .int v)]) rfl ?_
  refine v_aload_n X dX7_seed_0 0 rfl ?_
  refine v_get X fX7_10 x0 rfl dX7_seed_1 ?_
  refine v_get X fX7_150 x1 rfl dX7_seed_4 ?_
  refine v_get X fX7_197 x5 rfl dX7_seed_7 ?_
  refine v_istore_n (lv1 := [(2, .int (d 8)), (0, .ref (B 0)), (1, .int v)]) X dX7_seed_10 (by decide) rfl ?_
  refine v_aload_n X dX7_seed_11 1 rfl ?_
  refine v_get X fX7_10 x0 rfl dX7_seed_12 ?_
  refine v_get X fX7_150 x1 rfl dX7_seed_15 ?_
  refine v_iload_n X dX7_seed_18 2 rfl ?_
  refine v_putE (h2 := (hU h (B 5) (ob 0 [.ref (B 4), .ref (B 3), .ref (B 6), .ref (B 7), .ref (B 8), .int (d 5), .int (d 6), .int v]))) X fX7_197 tyX0_ok nmX0 rfl pd_I x5 rfl rfl (ltb rfl) dX7_seed_19 rfl ?_
  refine v_iload_n X dX7_seed_22 0 rfl ?_
  have eqr : op_seed (d, k, hk, fo, tape, tp, bits, sz, num) v = (d 8, (upd d 8 v, k, hk, fo, tape, tp, bits, sz, num)) := by rfl
  have hCR : CR g (hU h (B 5) (ob 0 [.ref (B 4), .ref (B 3), .ref (B 6), .ref (B 7), .ref (B 8), .int (d 5), .int (d 6), .int v])) B (upd d 8 v, k, hk, fo, tape, tp, bits, sz, num) := ⟨hB, gX_e (hU_n (hB 0 5 (by omega) (by omega) (by omega))) cX, ⟨gW_e (hU_n (hB 1 5 (by omega) (by omega) (by omega))) ⟨pk_un (by omega), pk_un (by omega), pk_un (by omega), pk_un (by omega), pk_un (by omega), pk_un (by omega)⟩ cW, gP_e (fun j hj => (hU_n (hB j 5 (by omega) (by omega) (by omega)))) (pk_un (by omega)) (fun j h1 h2 => pk_un (by omega)) cP, gY_e (hU_n (hB 3 5 (by omega) (by omega) (by omega))) (fun x c hx hk => (hU_n (kd_ne hx x5 hk rfl))) (pk_un (by omega)) (fun j h1 h2 => pk_un (by omega)) cY, gT_e (hU_n (hB 4 5 (by omega) (by omega) (by omega))) (fun j h1 h2 => pk_un (by omega)) cT, gM_i hU_s ((hU_n (hB 6 5 (by omega) (by omega) (by omega))).trans x6) ((hU_n (hB 7 5 (by omega) (by omega) (by omega))).trans x7) ((hU_n (hB 8 5 (by omega) (by omega) (by omega))).trans x8) (pk_un (by omega)) (pk_un (by omega)) pk_us (pk_un (by omega)) (pk_un (by omega)) (pk_un (by omega)) (pk_un (by omega)) (pk_un (by omega)) (pk_un (by omega)) ((pk_un (by omega)).trans e6) (by omega) (RingOk_c (pk_un (by omega)) (fun j h1 h2 => pk_un (by omega)) hR) hRB⟩, ⟨k2, gWd_e (fun j h1 h2 => (hU_n (hB (j + 16) 5 (by omega) (by omega) (by omega)))) (fun x c hx hk => (hU_n (kd_ne hx x5 hk rfl))) cK, hk2⟩, gO_e (fun j h1 h2 => (hU_n (hB j 5 (by omega) (by omega) (by omega)))) cO, gR_e (hU_n (hB 37 5 (by omega) (by omega) (by omega))) cR, gA_e (fun j h1 h2 => (hU_n (hB j 5 (by omega) (by omega) (by omega)))) cA, gS_e (fun j h1 h2 => (hU_n (hB j 5 (by omega) (by omega) (by omega)))) cS, gF_e (hU_n (hB 41 5 (by omega) (by omega) (by omega))) cF⟩
  exact v_iret X r dX7_seed_23 (Nat.le_refl _) (Nat.le_refl _) ⟨by rw [eqr], by rw [eqr]; exact hCR⟩
set_option maxHeartbeats 4000000 in
set_option maxRecDepth 100000 in
theorem ct_X7_mount (ll : Launch) (g : GT) {h : Hp} {B : Nat → Nat} {d k fo tape bits sz : Nat → Int32} {num : Nat → Int64} {hk tp : Int32} {N : Nat}  (a : Int32) (b : Int32) (hC : CR g h B (d, k, hk, fo, tape, tp, bits, sz, num)) (hI : SOk (d, k, hk, fo, tape, tp, bits, sz, num) N) (hN : N + 400 ≤ 204800) : MC ll g yX7_mount cX7_mount 3 (some .int) { frames := 10, cells := 0, slots := 0, locals := 380 } [.ref (B 0), .int a, .int b] h (fun r h2 => r = some (.int (op_mount (d, k, hk, fo, tape, tp, bits, sz, num) a b).1) ∧ CR g h2 B (op_mount (d, k, hk, fo, tape, tp, bits, sz, num) a b).2) 0 0 := by
  have hC0 := hC
  have hI0 := hI
  obtain ⟨hB, cX, ⟨cW, cP, cY, cT, cM⟩, ⟨k2, cK, hk2⟩, cO, cR, cA, cS, cF⟩ := hC
  obtain ⟨⟨np, nw, T, p0, p1, e0, hnp, e1, hnw, e6, hT, hon, e3, hp0, e4, hp1, honp, hper, h10, h11, h12, hwc⟩, hkd, hkb, ⟨tn, htn, etp⟩, hsz⟩ := hI
  have x0 : h (B 0) = some (ob 7 [.ref (B 1), .ref (B 17), .int hk, .ref (B 33), .ref (B 37), .ref (B 38), .ref (B 40), .ref (B 41)]) := cX
  have x1 : h (B 1) = some (ob 6 [.ref (B 2), .int (d 0), .ref (B 3), .int (d 1), .ref (B 4), .ref (B 5), .int (bI (d 2 = 1)), .int (d 3), .int (d 4), .int (d 7)]) := cW
  have cP0 := cP
  obtain ⟨pf, F, x2, hpf, hF, hFd⟩ := cP0
  have cY0 := cY
  obtain ⟨wf, x3, hwo, hwy⟩ := cY0
  have x4 : h (B 4) = some (ai g 5 (ptF d)) := cT
  have cM0 := cM
  obtain ⟨tr, T9, s0, v0, s1, v1, x5, x6, x7, x8, e69, hT30, hR, hRB⟩ := cM0
  have eT9 : T9 = T := nI_inj (by omega) (by omega) (e69.symm.trans e6)
  subst eT9
  have cO0 := cO
  obtain ⟨otr, u5, u6, u8, a0, a1, a2, a3, a4, b0, b1, b2, b3, b4, x33, x34, x35, x36⟩ := cO0
  have cR0 := cR
  obtain ⟨rf, x37⟩ := cR0
  have cA0 := cA
  obtain ⟨ts, te, tt, tv, x38, x39⟩ := cA0
  have cS0 := cS
  obtain ⟨sf, nf, x40, hsf, hsh, hnm, hnv⟩ := cS0
  have x41 : h (B 41) = some (ai g 7 fo) := cF
  have qn : (d 0).toNatClampNeg = np := ix_cl e0 (by omega)
  have qw : (d 1).toNatClampNeg = nw := ix_cl e1 (by omega)
  have pC : ∀ p, p < np → h (B (9 + p)) = some (ob 1 [.int ((told d p) 0), .int ((told d p) 1), .int ((told d p) 2), .int ((told d p) 3), .int ((told d p) 4), .int ((told d p) 5), .int ((told d p) 6)]) := fun p hp => gP_at (by omega) (by rw [qn]; exact hp) cP
  refine mc_of (by decide) (Nat.le_of_ble_eq_true rfl) ?_
  intro K X r
  refine v_eqv (lv2 := [(0, .ref (B 0)), (1, .int a), (2, .int b)]) rfl ?_
  refine v_aload_n X dX7_mount_0 0 rfl ?_
  refine v_iload_n X dX7_mount_1 1 rfl ?_
  refine v_iload_n X dX7_mount_2 2 rfl ?_
  refine v_cVi X [.int a, .int b] sX7_138 (ct_X7_isPair ll g a b x0 x1) x0 rfl dX7_mount_3 rfl rfl ⟨rfl, rfl⟩ ⟨(Nat.le_of_ble_eq_true rfl), (Nat.le_of_ble_eq_true rfl)⟩ ⟨Nat.zero_le _, Nat.zero_le _⟩ (Nat.le_of_ble_eq_true rfl) ?_
  refine v_ifb_ne X dX7_mount_6 (tgt := 16) (by decide) (fun c1 => ?_) (fun c1 => ?_)
  · refine v_aload_n X dX7_mount_16 0 rfl ?_
    refine v_get X fX7_10 x0 rfl dX7_mount_17 ?_
    refine v_get X fX7_141 x1 rfl dX7_mount_20 ?_
    refine v_ifb_eq X dX7_mount_23 (tgt := 33) (by decide) (fun c2 => ?_) (fun c2 => ?_)
    · obtain ⟨ja, hja, eja⟩ := wi_n e0 (by omega) c1.1
      obtain ⟨jb, hjb, ejb⟩ := wi_n e0 (by omega) c1.2.1
      have hab : ja ≠ jb := fun z => c1.2.2 (by rw [eja, ejb, z])
      have qja : pr a = ja := ix_cl eja (by omega)
      have qjb : pr b = jb := ix_cl ejb (by omega)
      refine v_aload_n X dX7_mount_33 0 rfl ?_
      refine v_get X fX7_10 x0 rfl dX7_mount_34 ?_
      refine v_iload_n X dX7_mount_37 1 rfl ?_
      refine v_putE (h2 := (hU h (B 1) (ob 6 [.ref (B 2), .int (d 0), .ref (B 3), .int (d 1), .ref (B 4), .ref (B 5), .int (bI (d 2 = 1)), .int a, .int (d 4), .int (d 7)]))) X fX7_144 tyX6_ok nmX6 rfl pd_I x1 rfl rfl (ltb rfl) dX7_mount_38 rfl ?_
      refine v_aload_n X dX7_mount_41 0 rfl ?_
      refine v_get X fX7_10 ((hU_n (hB 0 1 (by omega) (by omega) (by omega))).trans x0) rfl dX7_mount_42 ?_
      refine v_iload_n X dX7_mount_45 2 rfl ?_
      refine v_putE (h2 := (hU h (B 1) (ob 6 [.ref (B 2), .int (d 0), .ref (B 3), .int (d 1), .ref (B 4), .ref (B 5), .int (bI (d 2 = 1)), .int a, .int b, .int (d 7)]))) X fX7_147 tyX6_ok nmX6 rfl pd_I hU_s rfl rfl (ltb rfl) dX7_mount_46 hU_u ?_
      refine v_aload_n X dX7_mount_49 0 rfl ?_
      refine v_get X fX7_10 ((hU_n (hB 0 1 (by omega) (by omega) (by omega))).trans x0) rfl dX7_mount_50 ?_
      refine v_iconst X dX7_mount_53 (v := 1) (by decide) ?_
      refine v_putE (h2 := (hU h (B 1) (ob 6 [.ref (B 2), .int (d 0), .ref (B 3), .int (d 1), .ref (B 4), .ref (B 5), .int 1, .int a, .int b, .int (d 7)]))) X fX7_141 tyX6_ok nmX6 rfl pd_Z hU_s rfl rfl (ltb rfl) dX7_mount_54 hU_u ?_
      refine v_aload_n X dX7_mount_57 0 rfl ?_
      refine v_get X fX7_10 ((hU_n (hB 0 1 (by omega) (by omega) (by omega))).trans x0) rfl dX7_mount_58 ?_
      refine v_get X fX7_150 hU_s rfl dX7_mount_61 ?_
      refine v_aload_n X dX7_mount_64 0 rfl ?_
      refine v_get X fX7_10 ((hU_n (hB 0 1 (by omega) (by omega) (by omega))).trans x0) rfl dX7_mount_65 ?_
      refine v_get X fX7_82 hU_s rfl dX7_mount_68 ?_
      refine v_iload_n X dX7_mount_71 1 rfl ?_
      refine v_aaldK X 2 rfl ja (v := .ref (B (9 + ja))) ((hU_n (hB 2 1 (by omega) (by omega) (by omega))).trans x2) eja (by omega) (by decide) (by rw [hpf ja (by omega)]; rfl) dX7_mount_72 ?_
      refine v_aload_n X dX7_mount_73 0 rfl ?_
      refine v_get X fX7_10 ((hU_n (hB 0 1 (by omega) (by omega) (by omega))).trans x0) rfl dX7_mount_74 ?_
      refine v_get X fX7_82 hU_s rfl dX7_mount_77 ?_
      refine v_iload_n X dX7_mount_80 2 rfl ?_
      refine v_aaldK X 2 rfl jb (v := .ref (B (9 + jb))) ((hU_n (hB 2 1 (by omega) (by omega) (by omega))).trans x2) ejb (by omega) (by decide) (by rw [hpf jb (by omega)]; rfl) dX7_mount_81 ?_
      refine v_cVv X [.ref (B (9 + ja)), .ref (B (9 + jb))] sX7_153 (ct_X0_begin (m := d) ll g ((hU_n (hB 5 1 (by omega) (by omega) (by omega))).trans x5) ((hU_n (hB (9 + ja) 1 (by omega) (by omega) (by omega))).trans (pC ja (by omega))) ((hU_n (hB (9 + jb) 1 (by omega) (by omega) (by omega))).trans (pC jb (by omega))) ((hU_n (hB 7 1 (by omega) (by omega) (by omega))).trans x7) ((hU_n (hB 8 1 (by omega) (by omega) (by omega))).trans x8) ((hU_n (hB 6 1 (by omega) (by omega) (by omega))).trans x6) (hB 7 8 (by omega) (by omega) (by omega))) ((hU_n (hB 5 1 (by omega) (by omega) (by omega))).trans x5) rfl dX7_mount_82 rfl rfl ⟨rfl, rfl⟩ ⟨(Nat.le_of_ble_eq_true rfl), (Nat.le_of_ble_eq_true rfl)⟩ ⟨Nat.zero_le _, Nat.zero_le _⟩ (Nat.le_of_ble_eq_true rfl) ?_
      refine v_iconst X dX7_mount_85 (v := 1) (by decide) ?_
      have eqr : op_mount (d, k, hk, fo, tape, tp, bits, sz, num) a b = (1, (getsA d ja jb, k, hk, fo, tape, tp, bits, sz, num)) := by unfold op_mount; dsimp only; rw [if_pos c1, if_neg c2, qja, qjb]
      have hCR : CR g (hU (hU (hU (hU (hU h (B 1) (ob 6 [.ref (B 2), .int (d 0), .ref (B 3), .int (d 1), .ref (B 4), .ref (B 5), .int 1, .int a, .int b, .int (d 7)])) (B 7) (ob 3 [.int 0, .int 0, .int ((told d ja) 4), .int s0, .int v0])) (B 8) (ob 3 [.int 0, .int 0, .int ((told d jb) 4), .int s1, .int v1])) (B 5) (ob 0 [.ref (B 4), .ref (B 3), .ref (B 6), .ref (B 7), .ref (B 8), .int 0, .int 0, .int (d 8)])) (B 6) (ai g 10 (upd tr 0 0))) B (getsA d ja jb, k, hk, fo, tape, tp, bits, sz, num) := ⟨hB, gX_e ((hU_n (hB 0 6 (by omega) (by omega) (by omega))).trans ((hU_n (hB 0 5 (by omega) (by omega) (by omega))).trans ((hU_n (hB 0 8 (by omega) (by omega) (by omega))).trans ((hU_n (hB 0 7 (by omega) (by omega) (by omega))).trans (hU_n (hB 0 1 (by omega) (by omega) (by omega))))))) cX, ⟨gW_i ((hU_n (hB 1 6 (by omega) (by omega) (by omega))).trans ((hU_n (hB 1 5 (by omega) (by omega) (by omega))).trans ((hU_n (hB 1 8 (by omega) (by omega) (by omega))).trans ((hU_n (hB 1 7 (by omega) (by omega) (by omega))).trans hU_s)))) (gA_n (by omega)) (gA_n (by omega)) (bI_t gA_2) (gA_3.trans eja.symm) (gA_4.trans ejb.symm) (gA_n (by omega)), gP_e (fun j hj => ((hU_n (hB j 6 (by omega) (by omega) (by omega))).trans ((hU_n (hB j 5 (by omega) (by omega) (by omega))).trans ((hU_n (hB j 8 (by omega) (by omega) (by omega))).trans ((hU_n (hB j 7 (by omega) (by omega) (by omega))).trans (hU_n (hB j 1 (by omega) (by omega) (by omega)))))))) (gA_n (by omega)) (fun j h1 h2 => gA_n (by omega)) cP, gY_e ((hU_n (hB 3 6 (by omega) (by omega) (by omega))).trans ((hU_n (hB 3 5 (by omega) (by omega) (by omega))).trans ((hU_n (hB 3 8 (by omega) (by omega) (by omega))).trans ((hU_n (hB 3 7 (by omega) (by omega) (by omega))).trans (hU_n (hB 3 1 (by omega) (by omega) (by omega))))))) (fun x c hx hk => ((hU_n (kd_ne hx x6 hk rfl)).trans ((hU_n (kd_ne hx x5 hk rfl)).trans ((hU_n (kd_ne hx x8 hk rfl)).trans ((hU_n (kd_ne hx x7 hk rfl)).trans (hU_n (kd_ne hx x1 hk rfl))))))) (gA_n (by omega)) (fun j h1 h2 => gA_n (by omega)) cY, gT_e ((hU_n (hB 4 6 (by omega) (by omega) (by omega))).trans ((hU_n (hB 4 5 (by omega) (by omega) (by omega))).trans ((hU_n (hB 4 8 (by omega) (by omega) (by omega))).trans ((hU_n (hB 4 7 (by omega) (by omega) (by omega))).trans (hU_n (hB 4 1 (by omega) (by omega) (by omega))))))) (fun j h1 h2 => gA_n (by omega)) cT, gM_i ((hU_n (hB 5 6 (by omega) (by omega) (by omega))).trans hU_s) hU_s ((hU_n (hB 7 6 (by omega) (by omega) (by omega))).trans ((hU_n (hB 7 5 (by omega) (by omega) (by omega))).trans ((hU_n (hB 7 8 (by omega) (by omega) (by omega))).trans hU_s))) ((hU_n (hB 8 6 (by omega) (by omega) (by omega))).trans ((hU_n (hB 8 5 (by omega) (by omega) (by omega))).trans hU_s)) gA_5 gA_6 (gA_n (by omega)) gA_16 gA_18 gA_20 gA_17 gA_19 gA_21 gA_6 (by decide) ring0 RB0⟩, ⟨k2, gWd_e (fun j h1 h2 => ((hU_n (hB (j + 16) 6 (by omega) (by omega) (by omega))).trans ((hU_n (hB (j + 16) 5 (by omega) (by omega) (by omega))).trans ((hU_n (hB (j + 16) 8 (by omega) (by omega) (by omega))).trans ((hU_n (hB (j + 16) 7 (by omega) (by omega) (by omega))).trans (hU_n (hB (j + 16) 1 (by omega) (by omega) (by omega)))))))) (fun x c hx hk => ((hU_n (kd_ne hx x6 hk rfl)).trans ((hU_n (kd_ne hx x5 hk rfl)).trans ((hU_n (kd_ne hx x8 hk rfl)).trans ((hU_n (kd_ne hx x7 hk rfl)).trans (hU_n (kd_ne hx x1 hk rfl))))))) cK, hk2⟩, gO_e (fun j h1 h2 => ((hU_n (hB j 6 (by omega) (by omega) (by omega))).trans ((hU_n (hB j 5 (by omega) (by omega) (by omega))).trans ((hU_n (hB j 8 (by omega) (by omega) (by omega))).trans ((hU_n (hB j 7 (by omega) (by omega) (by omega))).trans (hU_n (hB j 1 (by omega) (by omega) (by omega)))))))) cO, gR_e ((hU_n (hB 37 6 (by omega) (by omega) (by omega))).trans ((hU_n (hB 37 5 (by omega) (by omega) (by omega))).trans ((hU_n (hB 37 8 (by omega) (by omega) (by omega))).trans ((hU_n (hB 37 7 (by omega) (by omega) (by omega))).trans (hU_n (hB 37 1 (by omega) (by omega) (by omega))))))) cR, gA_e (fun j h1 h2 => ((hU_n (hB j 6 (by omega) (by omega) (by omega))).trans ((hU_n (hB j 5 (by omega) (by omega) (by omega))).trans ((hU_n (hB j 8 (by omega) (by omega) (by omega))).trans ((hU_n (hB j 7 (by omega) (by omega) (by omega))).trans (hU_n (hB j 1 (by omega) (by omega) (by omega)))))))) cA, gS_e (fun j h1 h2 => ((hU_n (hB j 6 (by omega) (by omega) (by omega))).trans ((hU_n (hB j 5 (by omega) (by omega) (by omega))).trans ((hU_n (hB j 8 (by omega) (by omega) (by omega))).trans ((hU_n (hB j 7 (by omega) (by omega) (by omega))).trans (hU_n (hB j 1 (by omega) (by omega) (by omega)))))))) cS, gF_e ((hU_n (hB 41 6 (by omega) (by omega) (by omega))).trans ((hU_n (hB 41 5 (by omega) (by omega) (by omega))).trans ((hU_n (hB 41 8 (by omega) (by omega) (by omega))).trans ((hU_n (hB 41 7 (by omega) (by omega) (by omega))).trans (hU_n (hB 41 1 (by omega) (by omega) (by omega))))))) cF⟩
      exact v_iret X r dX7_mount_86 (Nat.le_refl _) (Nat.le_refl _) ⟨by rw [eqr], by rw [eqr]; exact hCR⟩
    · refine v_aload_n X dX7_mount_26 0 rfl ?_
      refine v_ldc X dX7_mount_27 kX7_103 ?_
      refine v_cVi X [.int (-1000000005)] sX7_73 (ct_X7_finding (pe := 0) (wy := 0) (pt := 0) (mt := 0) (np := 0) (nw := 0) (oc := 0) (fi := 0) (se := 0) (lo := 0) (q := 4) (v := (-1000000005)) ll g x0 x41 (by decide) (by decide)) x0 rfl dX7_mount_29 rfl rfl ⟨rfl, rfl⟩ ⟨(Nat.le_of_ble_eq_true rfl), (Nat.le_of_ble_eq_true rfl)⟩ ⟨Nat.zero_le _, Nat.zero_le _⟩ (Nat.le_of_ble_eq_true rfl) ?_
      have eqr : op_mount (d, k, hk, fo, tape, tp, bits, sz, num) a b = ((-1000000005), (d, k, hk, fnd fo 4, tape, tp, bits, sz, num)) := by unfold op_mount; dsimp only; rw [if_pos c1, if_pos c2]
      have hCR : CR g (hU h (B 41) (ai g 7 (fnd fo 4))) B (d, k, hk, fnd fo 4, tape, tp, bits, sz, num) := ⟨hB, gX_e (hU_n (hB 0 41 (by omega) (by omega) (by omega))) cX, ⟨gW_e (hU_n (hB 1 41 (by omega) (by omega) (by omega))) ⟨rfl, rfl, rfl, rfl, rfl, rfl⟩ cW, gP_e (fun j hj => (hU_n (hB j 41 (by omega) (by omega) (by omega)))) rfl (fun _ _ _ => rfl) cP, gY_e (hU_n (hB 3 41 (by omega) (by omega) (by omega))) (fun x c hx hk => (hU_n (kd_ne hx x41 hk rfl))) rfl (fun _ _ _ => rfl) cY, gT_e (hU_n (hB 4 41 (by omega) (by omega) (by omega))) (fun _ _ _ => rfl) cT, gM_e (fun j h1 h2 => (hU_n (hB j 41 (by omega) (by omega) (by omega)))) (fun _ _ _ => rfl) cM⟩, ⟨k2, gWd_e (fun j h1 h2 => (hU_n (hB (j + 16) 41 (by omega) (by omega) (by omega)))) (fun x c hx hk => (hU_n (kd_ne hx x41 hk rfl))) cK, hk2⟩, gO_e (fun j h1 h2 => (hU_n (hB j 41 (by omega) (by omega) (by omega)))) cO, gR_e (hU_n (hB 37 41 (by omega) (by omega) (by omega))) cR, gA_e (fun j h1 h2 => (hU_n (hB j 41 (by omega) (by omega) (by omega)))) cA, gS_e (fun j h1 h2 => (hU_n (hB j 41 (by omega) (by omega) (by omega)))) cS, (hU_s : _)⟩
      exact v_iret X r dX7_mount_32 (Nat.le_refl _) (Nat.le_refl _) ⟨by rw [eqr], by rw [eqr]; exact hCR⟩
  · refine v_aload_n X dX7_mount_9 0 rfl ?_
    refine v_ldc X dX7_mount_10 kX7_72 ?_
    refine v_cVi X [.int (-1000000001)] sX7_73 (ct_X7_finding (pe := 0) (wy := 0) (pt := 0) (mt := 0) (np := 0) (nw := 0) (oc := 0) (fi := 0) (se := 0) (lo := 0) (q := 0) (v := (-1000000001)) ll g x0 x41 (by decide) (by decide)) x0 rfl dX7_mount_12 rfl rfl ⟨rfl, rfl⟩ ⟨(Nat.le_of_ble_eq_true rfl), (Nat.le_of_ble_eq_true rfl)⟩ ⟨Nat.zero_le _, Nat.zero_le _⟩ (Nat.le_of_ble_eq_true rfl) ?_
    have eqr : op_mount (d, k, hk, fo, tape, tp, bits, sz, num) a b = ((-1000000001), (d, k, hk, fnd fo 0, tape, tp, bits, sz, num)) := by unfold op_mount; dsimp only; rw [if_neg c1]
    have hCR : CR g (hU h (B 41) (ai g 7 (fnd fo 0))) B (d, k, hk, fnd fo 0, tape, tp, bits, sz, num) := ⟨hB, gX_e (hU_n (hB 0 41 (by omega) (by omega) (by omega))) cX, ⟨gW_e (hU_n (hB 1 41 (by omega) (by omega) (by omega))) ⟨rfl, rfl, rfl, rfl, rfl, rfl⟩ cW, gP_e (fun j hj => (hU_n (hB j 41 (by omega) (by omega) (by omega)))) rfl (fun _ _ _ => rfl) cP, gY_e (hU_n (hB 3 41 (by omega) (by omega) (by omega))) (fun x c hx hk => (hU_n (kd_ne hx x41 hk rfl))) rfl (fun _ _ _ => rfl) cY, gT_e (hU_n (hB 4 41 (by omega) (by omega) (by omega))) (fun _ _ _ => rfl) cT, gM_e (fun j h1 h2 => (hU_n (hB j 41 (by omega) (by omega) (by omega)))) (fun _ _ _ => rfl) cM⟩, ⟨k2, gWd_e (fun j h1 h2 => (hU_n (hB (j + 16) 41 (by omega) (by omega) (by omega)))) (fun x c hx hk => (hU_n (kd_ne hx x41 hk rfl))) cK, hk2⟩, gO_e (fun j h1 h2 => (hU_n (hB j 41 (by omega) (by omega) (by omega)))) cO, gR_e (hU_n (hB 37 41 (by omega) (by omega) (by omega))) cR, gA_e (fun j h1 h2 => (hU_n (hB j 41 (by omega) (by omega) (by omega)))) cA, gS_e (fun j h1 h2 => (hU_n (hB j 41 (by omega) (by omega) (by omega)))) cS, (hU_s : _)⟩
    exact v_iret X r dX7_mount_15 (Nat.le_refl _) (Nat.le_refl _) ⟨by rw [eqr], by rw [eqr]; exact hCR⟩
