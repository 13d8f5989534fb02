/-! ===== the law: its loop, its start ===== -/
theorem lw_gt {L j : Nat} (hL : L ≤ 3072) (hj : j ≤ 3072) : nI L - 6 < nI j ↔ L < j + 6 := by
  have e : (nI L - nI 6).toInt = (L : Int) - (6 : Nat) := pk_sub_toInt (by omega) (by decide)
  have e2 : nI L - 6 = nI L - nI 6 := rfl
  rw [e2, Int32.lt_iff_toInt_lt, e, nI_toInt (by omega)]
  omega
theorem SOk_up {S : OS} {N : Nat} (H : SOk S N) : SOk S (N + 400) := by
  obtain ⟨d, k1, hk1, fo, tape, tp, bits, sz, num⟩ := S
  exact SOk_m H
theorem law_loop {K : KT} {ll : Launch} {g : GT} {L b t : Nat} {xs : Nat → Int32} {B A : Nat → Nat} (X : Cx K ll g cL_law RL 4 room_1) (sx : SX K b L xs) (hL : L ≤ 3072) (hE : ∀ (k n : Nat) (h : Hp) (lv : List (Nat × Value)), k ≤ 667156 → n ≤ 7100779 → VJ K k n h 1411 lv [.int 1]) : ∀ (f c : Nat) (S : OS) (hC hR : Hp), L ≤ 6 * c + 6 * f + 5 → 6 * c ≤ L → CR g hC B S → MW g hR t A S → SOk S (400 * c) → hX hC hR → VJ K (60 + 5 * c) (1672 + 29 * c) (hS hC hR) 18 [(3, .int (nI (6 * c))), (2, .ref t), (1, .ref (B 0)), (0, .ref b)] [] := by
  have hL31 : L < 2 ^ 31 := by omega
  intro f
  induction f with
  | zero =>
    intro c S hC hR h1 h2 cC mR hI hx
    refine v_iload_n X dL_law_18 0 rfl ?_
    refine v_aload_n X dL_law_19 3 rfl ?_
    refine v_scl X sx dL_law_20 ?_
    refine v_bipush X dL_law_21 (v := 6) (by decide) ?_
    refine v_isub X dL_law_23 ?_
    refine v_icmp_gt X dL_law_24 (tgt := 1410) (by decide) (fun _ => ?_) (fun z => absurd ((lw_gt hL (by omega)).mpr (by omega)) z)
    refine v_iconst X dL_law_1410 (v := 1) (by decide) ?_
    exact hE _ _ _ _ (by omega) (by omega)
  | succ f ih =>
    intro c S hC hR h1 h2 cC mR hI hx
    refine v_iload_n X dL_law_18 0 rfl ?_
    refine v_aload_n X dL_law_19 3 rfl ?_
    refine v_scl X sx dL_law_20 ?_
    refine v_bipush X dL_law_21 (v := 6) (by decide) ?_
    refine v_isub X dL_law_23 ?_
    refine v_icmp_gt X dL_law_24 (tgt := 1410) (by decide) (fun _ => ?_) (fun z => ?_)
    · refine v_iconst X dL_law_1410 (v := 1) (by decide) ?_
      exact hE _ _ _ _ (by omega) (by omega)
    have hc : 6 * c + 6 ≤ L := by
      have := (not_congr (lw_gt hL (show 6 * c ≤ 3072 by omega))).mp z
      omega
    have hk : 60 + 5 * c + 5 ≤ 667156 := by omega
    have hn : 1672 + 29 * c + 29 ≤ 7100779 := by omega
    have hN : 400 * c + 400 ≤ 204800 := by omega
    have kk : ∀ (S2 : OS) (hC2 hR2 : Hp), CR g hC2 B S2 → MW g hR2 t A S2 → SOk S2 (400 * c + 400) → hX hC2 hR2 → VJ K (60 + 5 * c + 5) (1672 + 29 * c + 29) (hS hC2 hR2) 1404 [(3, .int (nI (6 * c))), (2, .ref t), (1, .ref (B 0)), (0, .ref b)] [] := by
      intro S2 hC2 hR2 c2 m2 i2 x2
      have e6 : nI (6 * c) + Int32.ofInt 6 = nI (6 * (c + 1)) := (ix_add rfl (show Int32.ofInt 6 = nI 6 by decide)).trans (congrArg nI (by omega))
      refine v_iinc X dL_law_1404 (v := nI (6 * (c + 1))) 0 rfl e6 (by decide) rfl ?_
      refine v_goto X dL_law_1407 (tgt := 18) (by decide) ?_
      have i3 : SOk S2 (400 * (c + 1)) := by rw [show 400 * (c + 1) = 400 * c + 400 by omega]; exact i2
      exact v_widen (by omega) (by omega) (ih (c + 1) S2 hC2 hR2 (by omega) (by omega) c2 m2 i3 x2)
    refine v_aload_n X dL_law_27 3 rfl ?_
    refine v_iload_n X dL_law_28 0 rfl ?_
    refine v_sld X sx (6 * c) rfl (by omega) hL31 dL_law_29 ?_
    refine v_bipush X dL_law_30 (v := 63) (by decide) ?_
    refine v_iand X dL_law_32 ?_
    by_cases c0 : xs (6 * c) &&& 63 = 0
    · exact v_tabIn X dL_law_33 (off := 155) (tgt := 188) 0 c0 (by decide) (by decide) (by decide) (by decide) (lc_0 X sx hc hL cC mR hI hN hx hk hn kk)
    by_cases c1 : xs (6 * c) &&& 63 = 1
    · exact v_tabIn X dL_law_33 (off := 188) (tgt := 221) 1 c1 (by decide) (by decide) (by decide) (by decide) (lc_1 X sx hc hL cC mR hI hN hx hk hn kk)
    by_cases c2 : xs (6 * c) &&& 63 = 2
    · exact v_tabIn X dL_law_33 (off := 221) (tgt := 254) 2 c2 (by decide) (by decide) (by decide) (by decide) (lc_2 X sx hc hL cC mR hI hN hx hk hn kk)
    by_cases c3 : xs (6 * c) &&& 63 = 3
    · exact v_tabIn X dL_law_33 (off := 264) (tgt := 297) 3 c3 (by decide) (by decide) (by decide) (by decide) (lc_3 X sx hc hL cC mR hI hN hx hk hn kk)
    by_cases c4 : xs (6 * c) &&& 63 = 4
    · exact v_tabIn X dL_law_33 (off := 297) (tgt := 330) 4 c4 (by decide) (by decide) (by decide) (by decide) (lc_4 X sx hc hL cC mR hI hN hx hk hn kk)
    by_cases c5 : xs (6 * c) &&& 63 = 5
    · exact v_tabIn X dL_law_33 (off := 330) (tgt := 363) 5 c5 (by decide) (by decide) (by decide) (by decide) (lc_5 X sx hc hL cC mR hI hN hx hk hn kk)
    by_cases c6 : xs (6 * c) &&& 63 = 6
    · exact v_tabIn X dL_law_33 (off := 393) (tgt := 426) 6 c6 (by decide) (by decide) (by decide) (by decide) (lc_6 X sx hc hL cC mR hI hN hx hk hn kk)
    by_cases c7 : xs (6 * c) &&& 63 = 7
    · exact v_tabIn X dL_law_33 (off := 426) (tgt := 459) 7 c7 (by decide) (by decide) (by decide) (by decide) (lc_7 X sx hc hL cC mR hI hN hx hk hn kk)
    by_cases c8 : xs (6 * c) &&& 63 = 8
    · exact v_tabIn X dL_law_33 (off := 439) (tgt := 472) 8 c8 (by decide) (by decide) (by decide) (by decide) (lc_8 X sx hc hL cC mR hI hN hx hk hn kk)
    by_cases c9 : xs (6 * c) &&& 63 = 9
    · exact v_tabIn X dL_law_33 (off := 462) (tgt := 495) 9 c9 (by decide) (by decide) (by decide) (by decide) (lc_9 X sx hc hL cC mR hI hN hx hk hn kk)
    by_cases c10 : xs (6 * c) &&& 63 = 10
    · exact v_tabIn X dL_law_33 (off := 495) (tgt := 528) 10 c10 (by decide) (by decide) (by decide) (by decide) (lc_10 X sx hc hL cC mR hI hN hx hk hn kk)
    by_cases c11 : xs (6 * c) &&& 63 = 11
    · exact v_tabIn X dL_law_33 (off := 518) (tgt := 551) 11 c11 (by decide) (by decide) (by decide) (by decide) (lc_11 X sx hc hL cC mR hI hN hx hk hn kk)
    by_cases c12 : xs (6 * c) &&& 63 = 12
    · exact v_tabIn X dL_law_33 (off := 541) (tgt := 574) 12 c12 (by decide) (by decide) (by decide) (by decide) (lc_12 X sx hc hL cC mR hI hN hx hk hn kk)
    by_cases c13 : xs (6 * c) &&& 63 = 13
    · exact v_tabIn X dL_law_33 (off := 594) (tgt := 627) 13 c13 (by decide) (by decide) (by decide) (by decide) (lc_13 X sx hc hL cC mR hI hN hx hk hn kk)
    by_cases c14 : xs (6 * c) &&& 63 = 14
    · exact v_tabIn X dL_law_33 (off := 637) (tgt := 670) 14 c14 (by decide) (by decide) (by decide) (by decide) (lc_14 X sx hc hL cC mR hI hN hx hk hn kk)
    by_cases c15 : xs (6 * c) &&& 63 = 15
    · exact v_tabIn X dL_law_33 (off := 680) (tgt := 713) 15 c15 (by decide) (by decide) (by decide) (by decide) (lc_15 X sx hc hL cC mR hI hN hx hk hn kk)
    by_cases c16 : xs (6 * c) &&& 63 = 16
    · exact v_tabIn X dL_law_33 (off := 723) (tgt := 756) 16 c16 (by decide) (by decide) (by decide) (by decide) (lc_16 X sx hc hL cC mR hI hN hx hk hn kk)
    by_cases c17 : xs (6 * c) &&& 63 = 17
    · exact v_tabIn X dL_law_33 (off := 776) (tgt := 809) 17 c17 (by decide) (by decide) (by decide) (by decide) (lc_17 X sx hc hL cC mR hI hN hx hk hn kk)
    by_cases c18 : xs (6 * c) &&& 63 = 18
    · exact v_tabIn X dL_law_33 (off := 809) (tgt := 842) 18 c18 (by decide) (by decide) (by decide) (by decide) (lc_18 X sx hc hL cC mR hI hN hx hk hn kk)
    by_cases c19 : xs (6 * c) &&& 63 = 19
    · exact v_tabIn X dL_law_33 (off := 852) (tgt := 885) 19 c19 (by decide) (by decide) (by decide) (by decide) (lc_19 X sx hc hL cC mR hI hN hx hk hn kk)
    by_cases c20 : xs (6 * c) &&& 63 = 20
    · exact v_tabIn X dL_law_33 (off := 875) (tgt := 908) 20 c20 (by decide) (by decide) (by decide) (by decide) (lc_20 X sx hc hL cC mR hI hN hx hk hn kk)
    by_cases c21 : xs (6 * c) &&& 63 = 21
    · exact v_tabIn X dL_law_33 (off := 908) (tgt := 941) 21 c21 (by decide) (by decide) (by decide) (by decide) (lc_21 X sx hc hL cC mR hI hN hx hk hn kk)
    by_cases c22 : xs (6 * c) &&& 63 = 22
    · exact v_tabIn X dL_law_33 (off := 921) (tgt := 954) 22 c22 (by decide) (by decide) (by decide) (by decide) (lc_22 X sx hc hL cC mR hI hN hx hk hn kk)
    by_cases c23 : xs (6 * c) &&& 63 = 23
    · exact v_tabIn X dL_law_33 (off := 934) (tgt := 967) 23 c23 (by decide) (by decide) (by decide) (by decide) (lc_23 X sx hc hL cC mR hI hN hx hk hn kk)
    by_cases c24 : xs (6 * c) &&& 63 = 24
    · exact v_tabIn X dL_law_33 (off := 957) (tgt := 990) 24 c24 (by decide) (by decide) (by decide) (by decide) (lc_24 X sx hc hL cC mR hI hN hx hk hn kk)
    by_cases c25 : xs (6 * c) &&& 63 = 25
    · exact v_tabIn X dL_law_33 (off := 1020) (tgt := 1053) 25 c25 (by decide) (by decide) (by decide) (by decide) (lc_25 X sx hc hL cC mR hI hN hx hk hn kk)
    by_cases c26 : xs (6 * c) &&& 63 = 26
    · exact v_tabIn X dL_law_33 (off := 1063) (tgt := 1096) 26 c26 (by decide) (by decide) (by decide) (by decide) (lc_26 X sx hc hL cC mR hI hN hx hk hn kk)
    by_cases c27 : xs (6 * c) &&& 63 = 27
    · exact v_tabIn X dL_law_33 (off := 1137) (tgt := 1170) 27 c27 (by decide) (by decide) (by decide) (by decide) (lc_27 X sx hc hL cC mR hI hN hx hk hn kk)
    by_cases c28 : xs (6 * c) &&& 63 = 28
    · exact v_tabIn X dL_law_33 (off := 1200) (tgt := 1233) 28 c28 (by decide) (by decide) (by decide) (by decide) (lc_28 X sx hc hL cC mR hI hN hx hk hn kk)
    by_cases c29 : xs (6 * c) &&& 63 = 29
    · exact v_tabIn X dL_law_33 (off := 1243) (tgt := 1276) 29 c29 (by decide) (by decide) (by decide) (by decide) (lc_29 X sx hc hL cC mR hI hN hx hk hn kk)
    by_cases c30 : xs (6 * c) &&& 63 = 30
    · exact v_tabIn X dL_law_33 (off := 1286) (tgt := 1319) 30 c30 (by decide) (by decide) (by decide) (by decide) (lc_30 X sx hc hL cC mR hI hN hx hk hn kk)
    by_cases c31 : xs (6 * c) &&& 63 = 31
    · exact v_tabIn X dL_law_33 (off := 1299) (tgt := 1332) 31 c31 (by decide) (by decide) (by decide) (by decide) (lc_31 X sx hc hL cC mR hI hN hx hk hn kk)
    by_cases c32 : xs (6 * c) &&& 63 = 32
    · exact v_tabIn X dL_law_33 (off := 1312) (tgt := 1345) 32 c32 (by decide) (by decide) (by decide) (by decide) (lc_32 X sx hc hL cC mR hI hN hx hk hn kk)
    by_cases c33 : xs (6 * c) &&& 63 = 33
    · exact v_tabIn X dL_law_33 (off := 1325) (tgt := 1358) 33 c33 (by decide) (by decide) (by decide) (by decide) (lc_33 X sx hc hL cC mR hI hN hx hk hn kk)
    by_cases c34 : xs (6 * c) &&& 63 = 34
    · exact v_tabIn X dL_law_33 (off := 1348) (tgt := 1381) 34 c34 (by decide) (by decide) (by decide) (by decide) (lc_34 X sx hc hL cC mR hI hN hx hk hn kk)
    refine v_tabOut X dL_law_33 (tgt := 1404) (by have e0 := lv_neT (k := 0) (a := 0) c0 (by decide); have e1 := lv_neT (k := 1) (a := 1) c1 (by decide); have e2 := lv_neT (k := 2) (a := 2) c2 (by decide); have e3 := lv_neT (k := 3) (a := 3) c3 (by decide); have e4 := lv_neT (k := 4) (a := 4) c4 (by decide); have e5 := lv_neT (k := 5) (a := 5) c5 (by decide); have e6 := lv_neT (k := 6) (a := 6) c6 (by decide); have e7 := lv_neT (k := 7) (a := 7) c7 (by decide); have e8 := lv_neT (k := 8) (a := 8) c8 (by decide); have e9 := lv_neT (k := 9) (a := 9) c9 (by decide); have e10 := lv_neT (k := 10) (a := 10) c10 (by decide); have e11 := lv_neT (k := 11) (a := 11) c11 (by decide); have e12 := lv_neT (k := 12) (a := 12) c12 (by decide); have e13 := lv_neT (k := 13) (a := 13) c13 (by decide); have e14 := lv_neT (k := 14) (a := 14) c14 (by decide); have e15 := lv_neT (k := 15) (a := 15) c15 (by decide); have e16 := lv_neT (k := 16) (a := 16) c16 (by decide); have e17 := lv_neT (k := 17) (a := 17) c17 (by decide); have e18 := lv_neT (k := 18) (a := 18) c18 (by decide); have e19 := lv_neT (k := 19) (a := 19) c19 (by decide); have e20 := lv_neT (k := 20) (a := 20) c20 (by decide); have e21 := lv_neT (k := 21) (a := 21) c21 (by decide); have e22 := lv_neT (k := 22) (a := 22) c22 (by decide); have e23 := lv_neT (k := 23) (a := 23) c23 (by decide); have e24 := lv_neT (k := 24) (a := 24) c24 (by decide); have e25 := lv_neT (k := 25) (a := 25) c25 (by decide); have e26 := lv_neT (k := 26) (a := 26) c26 (by decide); have e27 := lv_neT (k := 27) (a := 27) c27 (by decide); have e28 := lv_neT (k := 28) (a := 28) c28 (by decide); have e29 := lv_neT (k := 29) (a := 29) c29 (by decide); have e30 := lv_neT (k := 30) (a := 30) c30 (by decide); have e31 := lv_neT (k := 31) (a := 31) c31 (by decide); have e32 := lv_neT (k := 32) (a := 32) c32 (by decide); have e33 := lv_neT (k := 33) (a := 33) c33 (by decide); have e34 := lv_neT (k := 34) (a := 34) c34 (by decide); omega) (by decide) ?_
    exact v_widen (by omega) (by omega) (kk S hC hR cC mR (SOk_up hI) hx)
theorem SOk_sI : SOk sI 0 := by
  refine ⟨⟨0, 0, 0, 0, 0, rfl, by decide, rfl, by decide, rfl, Nat.le_refl 0, Or.inl rfl, rfl, by decide, rfl, by decide, fun z => absurd z (by decide), fun p hp => absurd hp (Nat.not_lt_zero p), by decide, by decide, by decide, fun w hw => absurd hw (Nat.not_lt_zero w)⟩, fun z => absurd z (by decide), Or.inl rfl, ⟨0, by decide, rfl⟩, fun s _ => ⟨0, by decide, rfl⟩⟩
theorem hU_hS {h : Hp} {a : Nat} {c : va_E} : hU h a c = hS (hU (fun _ => none) a c) h := by
  funext x
  by_cases z : x = a
  · subst z
    rw [hU_s, hS_l hU_s]
  · rw [hU_n z, hS_r (by rw [hU_n z])]
theorem law_start {K : KT} {ll : Launch} {g : GT} {L b : Nat} {xs : Nat → Int32} (X : Cx K ll g cL_law RL 4 room_1) (sx : SX K b L xs) (hL : L ≤ 3072) (hE : ∀ (k n : Nat) (h : Hp) (lv : List (Nat × Value)), k ≤ 667156 → n ≤ 7100779 → VJ K k n h 1411 lv [.int 1]) : VJ K 0 0 (fun _ => none) 0 [(0, .ref b)] [] := by
  refine v_newO (ci := 7) X [.null, .null, .int 0, .null, .null, .null, .null, .null] cL_7_l qx_X7 qi_X7 rfl u_X7 tyX7_ok df_X7 (Nat.le_of_ble_eq_true rfl) (Nat.le_of_ble_eq_true rfl) dL_law_0 (fun a ha => ?_)
  refine v_dup X dL_law_3 rfl ?_
  refine v_cI X (av := []) sL_9 (ct_X7_init ll g hU_s) dL_law_4 rfl rfl ⟨rfl, rfl⟩ ⟨(Nat.le_of_ble_eq_true rfl), (Nat.le_of_ble_eq_true rfl)⟩ ⟨(Nat.le_of_ble_eq_true rfl), (Nat.le_of_ble_eq_true rfl)⟩ (Nat.le_of_ble_eq_true rfl) (fun r hC q => ?_)
  obtain ⟨rfl, B, eB, cC⟩ := q
  refine v_eqs (st2 := [.ref a]) rfl ?_
  refine v_astore_n X dL_law_7 (by decide) (lv1 := [(1, .ref a), (0, .ref b)]) rfl ?_
  refine v_newO (ci := 8) X [.null, .null, .null, .int 0, .null, .int 0, .int 0, .null, .int 0, .int 0, .int 0, .int 0, .int 0, .int 0, .int 0, .null, .null, .null, .null] cL_10_l qx_X8 qi_X8 rfl u_X8 tyX8_ok df_X8 (Nat.le_of_ble_eq_true rfl) (Nat.le_of_ble_eq_true rfl) dL_law_8 (fun t ht => ?_)
  refine v_dup X dL_law_11 rfl ?_
  refine v_eqh hU_hS ?_
  refine v_cIF X (av := []) (st := [.ref t]) (fun x hx => ?_) sL_12 (ct_X8_init ll g hU_s) dL_law_12 rfl rfl ⟨rfl, rfl⟩ ⟨(Nat.le_of_ble_eq_true rfl), (Nat.le_of_ble_eq_true rfl)⟩ ⟨(Nat.le_of_ble_eq_true rfl), (Nat.le_of_ble_eq_true rfl)⟩ (Nat.le_of_ble_eq_true rfl) (fun r hR q hq => ?_)
  · by_cases z : x = t
    · subst z; exact ht
    · exact absurd (hU_n z) hx
  obtain ⟨rfl, A, mR⟩ := q
  refine v_eqs (st2 := [.ref t]) rfl (v_eqh (hS_c hq) ?_)
  refine v_astore_n X dL_law_15 (by decide) (lv1 := [(2, .ref t), (1, .ref a), (0, .ref b)]) rfl ?_
  refine v_iconst X dL_law_16 (v := 0) (by decide) ?_
  subst eB
  refine v_istore_n X dL_law_17 (by decide) (lv1 := [(3, .int (nI (6 * 0))), (2, .ref t), (1, .ref (B 0)), (0, .ref b)]) rfl ?_
  exact v_widen (by omega) (by omega) (law_loop X sx hL hE L 0 sI hC hR (by omega) (by omega) cC mR SOk_sI (hX_s hq))
