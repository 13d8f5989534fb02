/-! ===== the reference's helpers ===== -/
theorem wi_n {x c : Int32} {n : Nat} (hc : c = nI n) (hn : n < 2 ^ 30) (h : wi x 0 (c - 1)) : ∃ j, j < n ∧ x = nI j := by
  obtain ⟨h1, h2⟩ := h
  obtain ⟨j, hj, rfl⟩ := nI_of (Int32.not_lt.mpr h1)
  refine ⟨j, ?_, rfl⟩
  rw [hc, Int32.le_iff_toInt_le, nI_toInt hj, show (1 : Int32) = nI 1 from rfl, pk_sub_toInt hn (by decide)] at h2
  omega
theorem wi_c {x b : Int32} (n : Nat) (hb : b = nI n) (hn : n < 2 ^ 31) (h : wi x 0 b) : ∃ j, j ≤ n ∧ x = nI j := by
  obtain ⟨h1, h2⟩ := h
  obtain ⟨j, hj, rfl⟩ := nI_of (Int32.not_lt.mpr h1)
  refine ⟨j, ?_, rfl⟩
  rw [hb] at h2
  exact (nI_leI hj hn).mp h2
def cpf (f e : Nat → Int32) (q : Nat) : Nat → Int32 := fun j => if j < q then f j else e j
theorem cpf_s {f e : Nat → Int32} {q : Nat} : upd (cpf f e q) q (f q) = cpf f e (q + 1) := by
  funext j; unfold upd cpf
  by_cases h : j = q
  · subst h; rw [if_pos rfl, if_pos (by omega)]
  · rw [if_neg h]
    by_cases h2 : j < q
    · rw [if_pos h2, if_pos (by omega)]
    · rw [if_neg h2, if_neg (by omega)]
theorem cpf_0 {f e : Nat → Int32} : cpf f e 0 = e := by funext j; simp [cpf]
set_option maxHeartbeats 4000000 in
set_option maxRecDepth 100000 in
theorem ct_X8_in (ll : Launch) (g : GT) {h : Hp} {v lo hi : Int32} {x a b : Int64} (hx : x = v.toInt64) (ha : a = lo.toInt64) (hb : b = hi.toInt64) : MF ll g yX8_in cX8_in 6 (some .boolean) (k2_rm 0 0) [.long x, .long a, .long b] h (some (.int (bI (wi v lo hi)))) h := by
  refine mc_of (by decide) (Nat.le_of_ble_eq_true rfl) ?_
  intro K X r
  refine v_eqv (lv2 := [(0, .long x), (2, .long a), (4, .long b)]) rfl ?_
  refine v_lload_n X dX8_in_0 0 rfl ?_
  refine v_lload_n X dX8_in_1 1 rfl ?_
  refine v_lcmp X dX8_in_2 ?_
  refine v_if_lt X dX8_in_3 (tgt := 17) (by decide) (fun c1 => ?_) (fun c1 => ?_)
  · refine v_iconst X dX8_in_17 (v := 0) (by decide) ?_
    exact v_zret X r dX8_in_18 rfl (Nat.le_refl _) (Nat.le_refl _) ⟨ri (bI_f (fun q => absurd (lcmp_lt c1) (Int64.not_lt.mpr (by rw [hx, ha]; exact l64.mpr q.1)))).symm, rfl⟩
  · refine v_lload_n X dX8_in_6 0 rfl ?_
    refine v_lload X dX8_in_7 2 rfl ?_
    refine v_lcmp X dX8_in_9 ?_
    refine v_if_gt X dX8_in_10 (tgt := 17) (by decide) (fun c2 => ?_) (fun c2 => ?_)
    · refine v_iconst X dX8_in_17 (v := 0) (by decide) ?_
      exact v_zret X r dX8_in_18 rfl (Nat.le_refl _) (Nat.le_refl _) ⟨ri (bI_f (fun q => absurd (lcmp_gt c2) (Int64.not_lt.mpr (by rw [hx, hb]; exact l64.mpr q.2)))).symm, rfl⟩
    · refine v_iconst X dX8_in_13 (v := 1) (by decide) ?_
      refine v_goto X dX8_in_14 (tgt := 18) (by decide) ?_
      exact v_zret X r dX8_in_18 rfl (Nat.le_refl _) (Nat.le_refl _) ⟨ri (bI_t ⟨l64.mp (by rw [← hx, ← ha]; exact Int64.not_lt.mp (lcmp_nlt c1)), l64.mp (by rw [← hx, ← hb]; exact Int64.not_lt.mp (lcmp_ngt c2))⟩).symm, rfl⟩
set_option maxHeartbeats 4000000 in
set_option maxRecDepth 100000 in
theorem ct_X8_finds (ll : Launch) (g : GT) {h : Hp} {t dA eA kA fA tA bA zA nA lA : Nat} {hk sw0 sw1 tp pp fr tk wd vl wr : Int32} {fo : Nat → Int32} {x : Int32} {j : Nat} (ht : h t = some (ob 8 [.ref dA, .ref eA, .ref kA, .int hk, .ref fA, .int sw0, .int sw1, .ref tA, .int tp, .int pp, .int fr, .int tk, .int wd, .int vl, .int wr, .ref bA, .ref zA, .ref nA, .ref lA])) (hf : h fA = some (ai g 7 fo)) (hj : -1000000001 - x = nI j) (hj7 : j < 7) : MF ll g yX8_finds cX8_finds 2 (some .int) (k2_rm 0 0) [.ref t, .int x] h (some (.int x)) (hU h fA (ai g 7 (fnd fo j))) := by
  refine mc_of (by decide) (Nat.le_of_ble_eq_true rfl) ?_
  intro K X r
  refine v_eqv (lv2 := [(0, .ref t), (1, .int x)]) rfl ?_
  refine v_aload_n X dX8_finds_0 0 rfl ?_
  refine v_get X fX8_19 ht rfl dX8_finds_1 ?_
  refine v_ldc X dX8_finds_4 kX8_38 ?_
  refine v_iload_n X dX8_finds_6 1 rfl ?_
  refine v_isub X dX8_finds_7 ?_
  refine v_dup2 X dX8_finds_8 rfl rfl ?_
  refine v_ialdK X j hf hj hj7 (by decide) dX8_finds_9 ?_
  refine v_iconst X dX8_finds_10 (v := 1) (by decide) ?_
  refine v_iadd X dX8_finds_11 ?_
  refine v_iastK (h2 := (hU h fA (ai g 7 (upd fo j ((fo j) + 1))))) X j hf hj hj7 (by decide) dX8_finds_12 rfl ?_
  refine v_iload_n X dX8_finds_13 1 rfl ?_
  exact v_iret X r dX8_finds_14 (Nat.le_refl _) (Nat.le_refl _) ⟨ri rfl, rfl⟩
set_option maxHeartbeats 4000000 in
set_option maxRecDepth 100000 in
theorem ct_X8_isPerson (ll : Launch) (g : GT) {h : Hp} {t dA eA kA fA tA bA zA nA lA : Nat} {hk sw0 sw1 tp pp fr tk wd vl wr : Int32} {d : Nat → Int32} (p : Int32) (ht : h t = some (ob 8 [.ref dA, .ref eA, .ref kA, .int hk, .ref fA, .int sw0, .int sw1, .ref tA, .int tp, .int pp, .int fr, .int tk, .int wd, .int vl, .int wr, .ref bA, .ref zA, .ref nA, .ref lA])) (hd : h dA = some (ai g 260 d)) : MF ll g yX8_isPerson cX8_isPerson 2 (some .boolean) (k2_rm 1 40) [.ref t, .int p] h (some (.int (bI (wi p 0 (d 0 - 1))))) h := by
  refine mc_of (by decide) (Nat.le_of_ble_eq_true rfl) ?_
  intro K X r
  refine v_eqv (lv2 := [(0, .ref t), (1, .int p)]) rfl ?_
  refine v_iload_n X dX8_isPerson_0 1 rfl ?_
  refine v_i2l X dX8_isPerson_1 ?_
  refine v_lconst X dX8_isPerson_2 (v := 0) (by decide) ?_
  refine v_aload_n X dX8_isPerson_3 0 rfl ?_
  refine v_get X fX8_9 ht rfl dX8_isPerson_4 ?_
  refine v_iconst X dX8_isPerson_7 (v := 0) (by decide) ?_
  refine v_ialdK X 0 hd (rfl : (0 : Int32) = nI 0) (by decide) (by decide) dX8_isPerson_8 ?_
  refine v_iconst X dX8_isPerson_9 (v := 1) (by decide) ?_
  refine v_isub X dX8_isPerson_10 ?_
  refine v_i2l X dX8_isPerson_11 ?_
  refine v_cSi X [.long p.toInt64, .long (0 : Int64), .long (((d 0) - 1).toInt64)] sX8_39 (ct_X8_in (v := p) (lo := 0) (hi := (d 0) - 1) ll g rfl (by decide) rfl) dX8_isPerson_12 rfl rfl ⟨rfl, rfl⟩ ⟨(Nat.le_of_ble_eq_true rfl), (Nat.le_of_ble_eq_true rfl)⟩ ⟨Nat.zero_le _, Nat.zero_le _⟩ (Nat.le_of_ble_eq_true rfl) ?_
  exact v_zret X r dX8_isPerson_15 (bI_nar _) (Nat.le_refl _) (Nat.le_refl _) ⟨ri rfl, rfl⟩
set_option maxHeartbeats 4000000 in
set_option maxRecDepth 100000 in
theorem ct_X8_areTwo (ll : Launch) (g : GT) {h : Hp} {t dA eA kA fA tA bA zA nA lA : Nat} {hk sw0 sw1 tp pp fr tk wd vl wr : Int32} {d : Nat → Int32} (a b : Int32) (ht : h t = some (ob 8 [.ref dA, .ref eA, .ref kA, .int hk, .ref fA, .int sw0, .int sw1, .ref tA, .int tp, .int pp, .int fr, .int tk, .int wd, .int vl, .int wr, .ref bA, .ref zA, .ref nA, .ref lA])) (hd : h dA = some (ai g 260 d)) : MF ll g yX8_areTwo cX8_areTwo 3 (some .boolean) (k2_rm 2 80) [.ref t, .int a, .int b] h (some (.int (bI (wi a 0 (d 0 - 1) ∧ wi b 0 (d 0 - 1) ∧ ¬ a = b)))) h := by
  refine mc_of (by decide) (Nat.le_of_ble_eq_true rfl) ?_
  intro K X r
  refine v_eqv (lv2 := [(0, .ref t), (1, .int a), (2, .int b)]) rfl ?_
  refine v_aload_n X dX8_areTwo_0 0 rfl ?_
  refine v_iload_n X dX8_areTwo_1 1 rfl ?_
  refine v_cVi X [.int a] sX8_43 (ct_X8_isPerson ll g a ht hd) ht rfl dX8_areTwo_2 rfl rfl ⟨rfl, rfl⟩ ⟨(Nat.le_of_ble_eq_true rfl), (Nat.le_of_ble_eq_true rfl)⟩ ⟨Nat.zero_le _, Nat.zero_le _⟩ (Nat.le_of_ble_eq_true rfl) ?_
  refine v_ifb_eq X dX8_areTwo_5 (tgt := 25) (by decide) (fun c1 => ?_) (fun c1 => ?_)
  · refine v_iconst X dX8_areTwo_25 (v := 0) (by decide) ?_
    exact v_zret X r dX8_areTwo_26 rfl (Nat.le_refl _) (Nat.le_refl _) ⟨ri (bI_f (fun q => c1 q.1)).symm, rfl⟩
  · refine v_aload_n X dX8_areTwo_8 0 rfl ?_
    refine v_iload_n X dX8_areTwo_9 2 rfl ?_
    refine v_cVi X [.int b] sX8_43 (ct_X8_isPerson ll g b ht hd) ht rfl dX8_areTwo_10 rfl rfl ⟨rfl, rfl⟩ ⟨(Nat.le_of_ble_eq_true rfl), (Nat.le_of_ble_eq_true rfl)⟩ ⟨Nat.zero_le _, Nat.zero_le _⟩ (Nat.le_of_ble_eq_true rfl) ?_
    refine v_ifb_eq X dX8_areTwo_13 (tgt := 25) (by decide) (fun c2 => ?_) (fun c2 => ?_)
    · refine v_iconst X dX8_areTwo_25 (v := 0) (by decide) ?_
      exact v_zret X r dX8_areTwo_26 rfl (Nat.le_refl _) (Nat.le_refl _) ⟨ri (bI_f (fun q => c2 q.2.1)).symm, rfl⟩
    · refine v_iload_n X dX8_areTwo_16 1 rfl ?_
      refine v_iload_n X dX8_areTwo_17 2 rfl ?_
      refine v_icmp_eq X dX8_areTwo_18 (tgt := 25) (by decide) (fun c3 => ?_) (fun c3 => ?_)
      · refine v_iconst X dX8_areTwo_25 (v := 0) (by decide) ?_
        exact v_zret X r dX8_areTwo_26 rfl (Nat.le_refl _) (Nat.le_refl _) ⟨ri (bI_f (fun q => q.2.2 c3)).symm, rfl⟩
      · refine v_iconst X dX8_areTwo_21 (v := 1) (by decide) ?_
        refine v_goto X dX8_areTwo_22 (tgt := 26) (by decide) ?_
        exact v_zret X r dX8_areTwo_26 rfl (Nat.le_refl _) (Nat.le_refl _) ⟨ri (bI_t ⟨c1, c2, c3⟩).symm, rfl⟩
set_option maxHeartbeats 4000000 in
set_option maxRecDepth 100000 in
theorem ct_X8_isOnLog (ll : Launch) (g : GT) {h : Hp} {t dA eA kA fA tA bA zA nA lA : Nat} {hk sw0 sw1 tp pp fr tk wd vl wr : Int32} {d : Nat → Int32} (p : Int32) (ht : h t = some (ob 8 [.ref dA, .ref eA, .ref kA, .int hk, .ref fA, .int sw0, .int sw1, .ref tA, .int tp, .int pp, .int fr, .int tk, .int wd, .int vl, .int wr, .ref bA, .ref zA, .ref nA, .ref lA])) (hd : h dA = some (ai g 260 d)) : MF ll g yX8_isOnLog cX8_isOnLog 2 (some .boolean) (k2_rm 0 0) [.ref t, .int p] h (some (.int (bI (d 2 = 1 ∧ (d 3 = p ∨ d 4 = p))))) h := by
  refine mc_of (by decide) (Nat.le_of_ble_eq_true rfl) ?_
  intro K X r
  refine v_eqv (lv2 := [(0, .ref t), (1, .int p)]) rfl ?_
  refine v_aload_n X dX8_isOnLog_0 0 rfl ?_
  refine v_get X fX8_9 ht rfl dX8_isOnLog_1 ?_
  refine v_iconst X dX8_isOnLog_4 (v := 2) (by decide) ?_
  refine v_ialdK X 2 hd (rfl : (2 : Int32) = nI 2) (by decide) (by decide) dX8_isOnLog_5 ?_
  refine v_iconst X dX8_isOnLog_6 (v := 1) (by decide) ?_
  refine v_icmp_ne X dX8_isOnLog_7 (tgt := 34) (by decide) (fun c1 => ?_) (fun c1 => ?_)
  · refine v_iconst X dX8_isOnLog_34 (v := 0) (by decide) ?_
    exact v_zret X r dX8_isOnLog_35 rfl (Nat.le_refl _) (Nat.le_refl _) ⟨ri (by simp [bI, c1]), rfl⟩
  · refine v_aload_n X dX8_isOnLog_10 0 rfl ?_
    refine v_get X fX8_9 ht rfl dX8_isOnLog_11 ?_
    refine v_iconst X dX8_isOnLog_14 (v := 3) (by decide) ?_
    refine v_ialdK X 3 hd (rfl : (3 : Int32) = nI 3) (by decide) (by decide) dX8_isOnLog_15 ?_
    refine v_iload_n X dX8_isOnLog_16 1 rfl ?_
    refine v_icmp_eq X dX8_isOnLog_17 (tgt := 30) (by decide) (fun c2 => ?_) (fun c2 => ?_)
    · refine v_iconst X dX8_isOnLog_30 (v := 1) (by decide) ?_
      refine v_goto X dX8_isOnLog_31 (tgt := 35) (by decide) ?_
      exact v_zret X r dX8_isOnLog_35 rfl (Nat.le_refl _) (Nat.le_refl _) ⟨ri (by simp [bI, c1, c2]), rfl⟩
    · refine v_aload_n X dX8_isOnLog_20 0 rfl ?_
      refine v_get X fX8_9 ht rfl dX8_isOnLog_21 ?_
      refine v_iconst X dX8_isOnLog_24 (v := 4) (by decide) ?_
      refine v_ialdK X 4 hd (rfl : (4 : Int32) = nI 4) (by decide) (by decide) dX8_isOnLog_25 ?_
      refine v_iload_n X dX8_isOnLog_26 1 rfl ?_
      refine v_icmp_ne X dX8_isOnLog_27 (tgt := 34) (by decide) (fun c3 => ?_) (fun c3 => ?_)
      · refine v_iconst X dX8_isOnLog_34 (v := 0) (by decide) ?_
        exact v_zret X r dX8_isOnLog_35 rfl (Nat.le_refl _) (Nat.le_refl _) ⟨ri (by simp [bI, c1, c2, c3]), rfl⟩
      · refine v_iconst X dX8_isOnLog_30 (v := 1) (by decide) ?_
        refine v_goto X dX8_isOnLog_31 (tgt := 35) (by decide) ?_
        exact v_zret X r dX8_isOnLog_35 rfl (Nat.le_refl _) (Nat.le_refl _) ⟨ri (by simp [bI, c1, c2, c3]), rfl⟩
set_option maxHeartbeats 4000000 in
set_option maxRecDepth 100000 in
theorem ct_X8_mayBe (ll : Launch) (g : GT) {h : Hp} {t dA eA kA fA tA bA zA nA lA : Nat} {hk sw0 sw1 tp pp fr tk wd vl wr : Int32} {d : Nat → Int32} (what v : Int32) (ht : h t = some (ob 8 [.ref dA, .ref eA, .ref kA, .int hk, .ref fA, .int sw0, .int sw1, .ref tA, .int tp, .int pp, .int fr, .int tk, .int wd, .int vl, .int wr, .ref bA, .ref zA, .ref nA, .ref lA])) (hd : h dA = some (ai g 260 d)) : MF ll g yX8_mayBe cX8_mayBe 3 (some .boolean) (k2_rm 1 40) [.ref t, .int what, .int v] h (some (.int (bI ((what = 1 ∧ wi v 1 299) ∨ (what = 2 ∧ wi v 0 9) ∨ (what = 3 ∧ wi v 1 99) ∨ (what = 4 ∧ wi v 0 999) ∨ (what = 6 ∧ wi v (-1) (d 1 - 1)))))) h := by
  refine mc_of (by decide) (Nat.le_of_ble_eq_true rfl) ?_
  intro K X r
  refine v_eqv (lv2 := [(0, .ref t), (1, .int what), (2, .int v)]) rfl ?_
  refine v_iload_n X dX8_mayBe_0 1 rfl ?_
  by_cases c1_1 : what = 1
  · refine v_tabIn X dX8_mayBe_1 (off := 39) (tgt := 40) 1 c1_1 (by decide) (by decide) (by decide) (by decide) ?_
    refine v_iload_n X dX8_mayBe_40 2 rfl ?_
    refine v_i2l X dX8_mayBe_41 ?_
    refine v_lconst X dX8_mayBe_42 (v := 1) (by decide) ?_
    refine v_ldc2 X dX8_mayBe_43 kX8_49 ?_
    refine v_cSi X [.long v.toInt64, .long (1 : Int64), .long (299 : Int64)] sX8_39 (ct_X8_in (v := v) (lo := 1) (hi := 299) ll g rfl (by decide) (by decide)) dX8_mayBe_46 rfl rfl ⟨rfl, rfl⟩ ⟨(Nat.le_of_ble_eq_true rfl), (Nat.le_of_ble_eq_true rfl)⟩ ⟨Nat.zero_le _, Nat.zero_le _⟩ (Nat.le_of_ble_eq_true rfl) ?_
    exact v_zret X r dX8_mayBe_49 (bI_nar _) (Nat.le_refl _) (Nat.le_refl _) ⟨ri (by simp [bI, c1_1]), rfl⟩
  by_cases c1_2 : what = 2
  · refine v_tabIn X dX8_mayBe_1 (off := 49) (tgt := 50) 2 c1_2 (by decide) (by decide) (by decide) (by decide) ?_
    refine v_iload_n X dX8_mayBe_50 2 rfl ?_
    refine v_i2l X dX8_mayBe_51 ?_
    refine v_lconst X dX8_mayBe_52 (v := 0) (by decide) ?_
    refine v_ldc2 X dX8_mayBe_53 kX8_58 ?_
    refine v_cSi X [.long v.toInt64, .long (0 : Int64), .long (9 : Int64)] sX8_39 (ct_X8_in (v := v) (lo := 0) (hi := 9) ll g rfl (by decide) (by decide)) dX8_mayBe_56 rfl rfl ⟨rfl, rfl⟩ ⟨(Nat.le_of_ble_eq_true rfl), (Nat.le_of_ble_eq_true rfl)⟩ ⟨Nat.zero_le _, Nat.zero_le _⟩ (Nat.le_of_ble_eq_true rfl) ?_
    exact v_zret X r dX8_mayBe_59 (bI_nar _) (Nat.le_refl _) (Nat.le_refl _) ⟨ri (by simp [bI, c1_1, c1_2]), rfl⟩
  by_cases c1_3 : what = 3
  · refine v_tabIn X dX8_mayBe_1 (off := 59) (tgt := 60) 3 c1_3 (by decide) (by decide) (by decide) (by decide) ?_
    refine v_iload_n X dX8_mayBe_60 2 rfl ?_
    refine v_i2l X dX8_mayBe_61 ?_
    refine v_lconst X dX8_mayBe_62 (v := 1) (by decide) ?_
    refine v_ldc2 X dX8_mayBe_63 kX8_60 ?_
    refine v_cSi X [.long v.toInt64, .long (1 : Int64), .long (99 : Int64)] sX8_39 (ct_X8_in (v := v) (lo := 1) (hi := 99) ll g rfl (by decide) (by decide)) dX8_mayBe_66 rfl rfl ⟨rfl, rfl⟩ ⟨(Nat.le_of_ble_eq_true rfl), (Nat.le_of_ble_eq_true rfl)⟩ ⟨Nat.zero_le _, Nat.zero_le _⟩ (Nat.le_of_ble_eq_true rfl) ?_
    exact v_zret X r dX8_mayBe_69 (bI_nar _) (Nat.le_refl _) (Nat.le_refl _) ⟨ri (by simp [bI, c1_1, c1_2, c1_3]), rfl⟩
  by_cases c1_4 : what = 4
  · refine v_tabIn X dX8_mayBe_1 (off := 69) (tgt := 70) 4 c1_4 (by decide) (by decide) (by decide) (by decide) ?_
    refine v_iload_n X dX8_mayBe_70 2 rfl ?_
    refine v_i2l X dX8_mayBe_71 ?_
    refine v_lconst X dX8_mayBe_72 (v := 0) (by decide) ?_
    refine v_ldc2 X dX8_mayBe_73 kX8_62 ?_
    refine v_cSi X [.long v.toInt64, .long (0 : Int64), .long (999 : Int64)] sX8_39 (ct_X8_in (v := v) (lo := 0) (hi := 999) ll g rfl (by decide) (by decide)) dX8_mayBe_76 rfl rfl ⟨rfl, rfl⟩ ⟨(Nat.le_of_ble_eq_true rfl), (Nat.le_of_ble_eq_true rfl)⟩ ⟨Nat.zero_le _, Nat.zero_le _⟩ (Nat.le_of_ble_eq_true rfl) ?_
    exact v_zret X r dX8_mayBe_79 (bI_nar _) (Nat.le_refl _) (Nat.le_refl _) ⟨ri (by simp [bI, c1_1, c1_2, c1_3, c1_4]), rfl⟩
  by_cases c1_5 : what = 5
  · refine v_tabIn X dX8_mayBe_1 (off := 97) (tgt := 98) 5 c1_5 (by decide) (by decide) (by decide) (by decide) ?_
    refine v_iconst X dX8_mayBe_98 (v := 0) (by decide) ?_
    exact v_zret X r dX8_mayBe_99 rfl (Nat.le_refl _) (Nat.le_refl _) ⟨ri (by simp [bI, c1_1, c1_2, c1_3, c1_4, c1_5]), rfl⟩
  by_cases c1_6 : what = 6
  · refine v_tabIn X dX8_mayBe_1 (off := 79) (tgt := 80) 6 c1_6 (by decide) (by decide) (by decide) (by decide) ?_
    refine v_iload_n X dX8_mayBe_80 2 rfl ?_
    refine v_i2l X dX8_mayBe_81 ?_
    refine v_ldc2 X dX8_mayBe_82 kX8_64 ?_
    refine v_aload_n X dX8_mayBe_85 0 rfl ?_
    refine v_get X fX8_9 ht rfl dX8_mayBe_86 ?_
    refine v_iconst X dX8_mayBe_89 (v := 1) (by decide) ?_
    refine v_ialdK X 1 hd (rfl : (1 : Int32) = nI 1) (by decide) (by decide) dX8_mayBe_90 ?_
    refine v_iconst X dX8_mayBe_91 (v := 1) (by decide) ?_
    refine v_isub X dX8_mayBe_92 ?_
    refine v_i2l X dX8_mayBe_93 ?_
    refine v_cSi X [.long v.toInt64, .long (-1 : Int64), .long (((d 1) - 1).toInt64)] sX8_39 (ct_X8_in (v := v) (lo := (-1)) (hi := (d 1) - 1) ll g rfl (by decide) rfl) dX8_mayBe_94 rfl rfl ⟨rfl, rfl⟩ ⟨(Nat.le_of_ble_eq_true rfl), (Nat.le_of_ble_eq_true rfl)⟩ ⟨Nat.zero_le _, Nat.zero_le _⟩ (Nat.le_of_ble_eq_true rfl) ?_
    exact v_zret X r dX8_mayBe_97 (bI_nar _) (Nat.le_refl _) (Nat.le_refl _) ⟨ri (by simp [bI, c1_1, c1_2, c1_3, c1_4, c1_5, c1_6]), rfl⟩
  refine v_tabOut X dX8_mayBe_1 (tgt := 98) (by have e1 := lv_neT (k := 1) (a := 1) c1_1 (by decide); have e2 := lv_neT (k := 2) (a := 2) c1_2 (by decide); have e3 := lv_neT (k := 3) (a := 3) c1_3 (by decide); have e4 := lv_neT (k := 4) (a := 4) c1_4 (by decide); have e5 := lv_neT (k := 5) (a := 5) c1_5 (by decide); have e6 := lv_neT (k := 6) (a := 6) c1_6 (by decide); omega) (by decide) ?_
  refine v_iconst X dX8_mayBe_98 (v := 0) (by decide) ?_
  exact v_zret X r dX8_mayBe_99 rfl (Nat.le_refl _) (Nat.le_refl _) ⟨ri (by simp [bI, c1_1, c1_2, c1_3, c1_4, c1_5, c1_6]), rfl⟩
set_option maxHeartbeats 4000000 in
set_option maxRecDepth 100000 in
theorem ct_X8_isOf (ll : Launch) (g : GT) {h : Hp} (own kind : Int32)  : MF ll g yX8_isOf cX8_isOf 2 (some .boolean) (k2_rm 0 0) [.int own, .int kind] h (some (.int (bI (kind = 0 ∨ kind = own ∨ (kind = 2 ∧ own = 3) ∨ (kind = 4 ∧ own = 5))))) h := by
  refine mc_of (by decide) (Nat.le_of_ble_eq_true rfl) ?_
  intro K X r
  refine v_eqv (lv2 := [(0, .int own), (1, .int kind)]) rfl ?_
  refine v_iload_n X dX8_isOf_0 1 rfl ?_
  refine v_if_eq X dX8_isOf_1 (tgt := 29) (by decide) (fun c1 => ?_) (fun c1 => ?_)
  · refine v_iconst X dX8_isOf_29 (v := 1) (by decide) ?_
    refine v_goto X dX8_isOf_30 (tgt := 34) (by decide) ?_
    exact v_zret X r dX8_isOf_34 rfl (Nat.le_refl _) (Nat.le_refl _) ⟨ri (by clear X r; simp_all [bI]), rfl⟩
  · refine v_iload_n X dX8_isOf_4 1 rfl ?_
    refine v_iload_n X dX8_isOf_5 0 rfl ?_
    refine v_icmp_eq X dX8_isOf_6 (tgt := 29) (by decide) (fun c2 => ?_) (fun c2 => ?_)
    · refine v_iconst X dX8_isOf_29 (v := 1) (by decide) ?_
      refine v_goto X dX8_isOf_30 (tgt := 34) (by decide) ?_
      exact v_zret X r dX8_isOf_34 rfl (Nat.le_refl _) (Nat.le_refl _) ⟨ri (by clear X r; simp_all [bI]), rfl⟩
    · refine v_iload_n X dX8_isOf_9 1 rfl ?_
      refine v_iconst X dX8_isOf_10 (v := 2) (by decide) ?_
      refine v_icmp_ne X dX8_isOf_11 (tgt := 19) (by decide) (fun c3 => ?_) (fun c3 => ?_)
      · refine v_iload_n X dX8_isOf_19 1 rfl ?_
        refine v_iconst X dX8_isOf_20 (v := 4) (by decide) ?_
        refine v_icmp_ne X dX8_isOf_21 (tgt := 33) (by decide) (fun c4 => ?_) (fun c4 => ?_)
        · refine v_iconst X dX8_isOf_33 (v := 0) (by decide) ?_
          exact v_zret X r dX8_isOf_34 rfl (Nat.le_refl _) (Nat.le_refl _) ⟨ri (by clear X r; simp_all [bI]), rfl⟩
        · refine v_iload_n X dX8_isOf_24 0 rfl ?_
          refine v_iconst X dX8_isOf_25 (v := 5) (by decide) ?_
          refine v_icmp_ne X dX8_isOf_26 (tgt := 33) (by decide) (fun c5 => ?_) (fun c5 => ?_)
          · refine v_iconst X dX8_isOf_33 (v := 0) (by decide) ?_
            exact v_zret X r dX8_isOf_34 rfl (Nat.le_refl _) (Nat.le_refl _) ⟨ri (by clear X r; simp_all [bI]), rfl⟩
          · refine v_iconst X dX8_isOf_29 (v := 1) (by decide) ?_
            refine v_goto X dX8_isOf_30 (tgt := 34) (by decide) ?_
            exact v_zret X r dX8_isOf_34 rfl (Nat.le_refl _) (Nat.le_refl _) ⟨ri (by clear X r; simp_all [bI]), rfl⟩
      · refine v_iload_n X dX8_isOf_14 0 rfl ?_
        refine v_iconst X dX8_isOf_15 (v := 3) (by decide) ?_
        refine v_icmp_eq X dX8_isOf_16 (tgt := 29) (by decide) (fun c6 => ?_) (fun c6 => ?_)
        · refine v_iconst X dX8_isOf_29 (v := 1) (by decide) ?_
          refine v_goto X dX8_isOf_30 (tgt := 34) (by decide) ?_
          exact v_zret X r dX8_isOf_34 rfl (Nat.le_refl _) (Nat.le_refl _) ⟨ri (by clear X r; simp_all [bI]), rfl⟩
        · refine v_iload_n X dX8_isOf_19 1 rfl ?_
          refine v_iconst X dX8_isOf_20 (v := 4) (by decide) ?_
          refine v_icmp_ne X dX8_isOf_21 (tgt := 33) (by decide) (fun c7 => ?_) (fun c7 => ?_)
          · refine v_iconst X dX8_isOf_33 (v := 0) (by decide) ?_
            exact v_zret X r dX8_isOf_34 rfl (Nat.le_refl _) (Nat.le_refl _) ⟨ri (by clear X r; simp_all [bI]), rfl⟩
          · refine v_iload_n X dX8_isOf_24 0 rfl ?_
            refine v_iconst X dX8_isOf_25 (v := 5) (by decide) ?_
            refine v_icmp_ne X dX8_isOf_26 (tgt := 33) (by decide) (fun c8 => ?_) (fun c8 => ?_)
            · refine v_iconst X dX8_isOf_33 (v := 0) (by decide) ?_
              exact v_zret X r dX8_isOf_34 rfl (Nat.le_refl _) (Nat.le_refl _) ⟨ri (by clear X r; simp_all [bI]), rfl⟩
            · refine v_iconst X dX8_isOf_29 (v := 1) (by decide) ?_
              refine v_goto X dX8_isOf_30 (tgt := 34) (by decide) ?_
              exact v_zret X r dX8_isOf_34 rfl (Nat.le_refl _) (Nat.le_refl _) ⟨ri (by clear X r; simp_all [bI]), rfl⟩
set_option maxHeartbeats 4000000 in
set_option maxRecDepth 100000 in
theorem ct_X8_isWay (ll : Launch) (g : GT) {h : Hp} {t dA eA kA fA tA bA zA nA lA : Nat} {hk sw0 sw1 tp pp fr tk wd vl wr : Int32} {d : Nat → Int32} (w : Int32) (ht : h t = some (ob 8 [.ref dA, .ref eA, .ref kA, .int hk, .ref fA, .int sw0, .int sw1, .ref tA, .int tp, .int pp, .int fr, .int tk, .int wd, .int vl, .int wr, .ref bA, .ref zA, .ref nA, .ref lA])) (hd : h dA = some (ai g 260 d)) : MF ll g yX8_isWay cX8_isWay 2 (some .boolean) (k2_rm 1 40) [.ref t, .int w] h (some (.int (bI (wi w 0 (d 1 - 1))))) h := by
  refine mc_of (by decide) (Nat.le_of_ble_eq_true rfl) ?_
  intro K X r
  refine v_eqv (lv2 := [(0, .ref t), (1, .int w)]) rfl ?_
  refine v_iload_n X dX8_isWay_0 1 rfl ?_
  refine v_i2l X dX8_isWay_1 ?_
  refine v_lconst X dX8_isWay_2 (v := 0) (by decide) ?_
  refine v_aload_n X dX8_isWay_3 0 rfl ?_
  refine v_get X fX8_9 ht rfl dX8_isWay_4 ?_
  refine v_iconst X dX8_isWay_7 (v := 1) (by decide) ?_
  refine v_ialdK X 1 hd (rfl : (1 : Int32) = nI 1) (by decide) (by decide) dX8_isWay_8 ?_
  refine v_iconst X dX8_isWay_9 (v := 1) (by decide) ?_
  refine v_isub X dX8_isWay_10 ?_
  refine v_i2l X dX8_isWay_11 ?_
  refine v_cSi X [.long w.toInt64, .long (0 : Int64), .long (((d 1) - 1).toInt64)] sX8_39 (ct_X8_in (v := w) (lo := 0) (hi := (d 1) - 1) ll g rfl (by decide) rfl) dX8_isWay_12 rfl rfl ⟨rfl, rfl⟩ ⟨(Nat.le_of_ble_eq_true rfl), (Nat.le_of_ble_eq_true rfl)⟩ ⟨Nat.zero_le _, Nat.zero_le _⟩ (Nat.le_of_ble_eq_true rfl) ?_
  exact v_zret X r dX8_isWay_15 (bI_nar _) (Nat.le_refl _) (Nat.le_refl _) ⟨ri rfl, rfl⟩
set_option maxHeartbeats 4000000 in
set_option maxRecDepth 100000 in
theorem ct_X8_isSheet (ll : Launch) (g : GT) {h : Hp} (s : Int32)  : MF ll g yX8_isSheet cX8_isSheet 1 (some .boolean) (k2_rm 1 40) [.int s] h (some (.int (bI (wi s 0 3)))) h := by
  refine mc_of (by decide) (Nat.le_of_ble_eq_true rfl) ?_
  intro K X r
  refine v_eqv (lv2 := [(0, .int s)]) rfl ?_
  refine v_iload_n X dX8_isSheet_0 0 rfl ?_
  refine v_i2l X dX8_isSheet_1 ?_
  refine v_lconst X dX8_isSheet_2 (v := 0) (by decide) ?_
  refine v_ldc2 X dX8_isSheet_3 kX8_254 ?_
  refine v_cSi X [.long s.toInt64, .long (0 : Int64), .long (3 : Int64)] sX8_39 (ct_X8_in (v := s) (lo := 0) (hi := 3) ll g rfl (by decide) (by decide)) dX8_isSheet_6 rfl rfl ⟨rfl, rfl⟩ ⟨(Nat.le_of_ble_eq_true rfl), (Nat.le_of_ble_eq_true rfl)⟩ ⟨Nat.zero_le _, Nat.zero_le _⟩ (Nat.le_of_ble_eq_true rfl) ?_
  exact v_zret X r dX8_isSheet_9 (bI_nar _) (Nat.le_refl _) (Nat.le_refl _) ⟨ri rfl, rfl⟩
set_option maxHeartbeats 4000000 in
set_option maxRecDepth 100000 in
theorem ct_X8_isLetter (ll : Launch) (g : GT) {h : Hp} (b : Int32)  : MF ll g yX8_isLetter cX8_isLetter 1 (some .boolean) (k2_rm 0 0) [.int b] h (some (.int (bI (wi b 97 122)))) h := by
  refine mc_of (by decide) (Nat.le_of_ble_eq_true rfl) ?_
  intro K X r
  refine v_eqv (lv2 := [(0, .int b)]) rfl ?_
  refine v_iload_n X dX8_isLetter_0 0 rfl ?_
  refine v_bipush X dX8_isLetter_1 (v := 97) (by decide) ?_
  refine v_icmp_lt X dX8_isLetter_3 (tgt := 16) (by decide) (fun c1 => ?_) (fun c1 => ?_)
  · refine v_iconst X dX8_isLetter_16 (v := 0) (by decide) ?_
    exact v_zret X r dX8_isLetter_17 rfl (Nat.le_refl _) (Nat.le_refl _) ⟨ri (by simp [bI, c1, Int32.not_le.mpr c1]), rfl⟩
  · refine v_iload_n X dX8_isLetter_6 0 rfl ?_
    refine v_bipush X dX8_isLetter_7 (v := 122) (by decide) ?_
    refine v_icmp_gt X dX8_isLetter_9 (tgt := 16) (by decide) (fun c2 => ?_) (fun c2 => ?_)
    · refine v_iconst X dX8_isLetter_16 (v := 0) (by decide) ?_
      exact v_zret X r dX8_isLetter_17 rfl (Nat.le_refl _) (Nat.le_refl _) ⟨ri (by simp [bI, c1, Int32.not_lt.mp c1, c2, Int32.not_le.mpr c2]), rfl⟩
    · refine v_iconst X dX8_isLetter_12 (v := 1) (by decide) ?_
      refine v_goto X dX8_isLetter_13 (tgt := 17) (by decide) ?_
      exact v_zret X r dX8_isLetter_17 rfl (Nat.le_refl _) (Nat.le_refl _) ⟨ri (by simp [bI, c1, Int32.not_lt.mp c1, c2, Int32.not_lt.mp c2]), rfl⟩
set_option maxHeartbeats 4000000 in
set_option maxRecDepth 100000 in
theorem ct_X8_isDigit (ll : Launch) (g : GT) {h : Hp} (b : Int32)  : MF ll g yX8_isDigit cX8_isDigit 1 (some .boolean) (k2_rm 0 0) [.int b] h (some (.int (bI (wi b 48 57)))) h := by
  refine mc_of (by decide) (Nat.le_of_ble_eq_true rfl) ?_
  intro K X r
  refine v_eqv (lv2 := [(0, .int b)]) rfl ?_
  refine v_iload_n X dX8_isDigit_0 0 rfl ?_
  refine v_bipush X dX8_isDigit_1 (v := 48) (by decide) ?_
  refine v_icmp_lt X dX8_isDigit_3 (tgt := 16) (by decide) (fun c1 => ?_) (fun c1 => ?_)
  · refine v_iconst X dX8_isDigit_16 (v := 0) (by decide) ?_
    exact v_zret X r dX8_isDigit_17 rfl (Nat.le_refl _) (Nat.le_refl _) ⟨ri (by simp [bI, c1, Int32.not_le.mpr c1]), rfl⟩
  · refine v_iload_n X dX8_isDigit_6 0 rfl ?_
    refine v_bipush X dX8_isDigit_7 (v := 57) (by decide) ?_
    refine v_icmp_gt X dX8_isDigit_9 (tgt := 16) (by decide) (fun c2 => ?_) (fun c2 => ?_)
    · refine v_iconst X dX8_isDigit_16 (v := 0) (by decide) ?_
      exact v_zret X r dX8_isDigit_17 rfl (Nat.le_refl _) (Nat.le_refl _) ⟨ri (by simp [bI, c1, Int32.not_lt.mp c1, c2, Int32.not_le.mpr c2]), rfl⟩
    · refine v_iconst X dX8_isDigit_12 (v := 1) (by decide) ?_
      refine v_goto X dX8_isDigit_13 (tgt := 17) (by decide) ?_
      exact v_zret X r dX8_isDigit_17 rfl (Nat.le_refl _) (Nat.le_refl _) ⟨ri (by simp [bI, c1, Int32.not_lt.mp c1, c2, Int32.not_lt.mp c2]), rfl⟩
set_option maxHeartbeats 4000000 in
set_option maxRecDepth 100000 in
theorem ct_X8_isSign (ll : Launch) (g : GT) {h : Hp} {t dA eA kA fA tA bA zA nA lA : Nat} {hk sw0 sw1 tp pp fr tk wd vl wr : Int32} (c : Int32) (ht : h t = some (ob 8 [.ref dA, .ref eA, .ref kA, .int hk, .ref fA, .int sw0, .int sw1, .ref tA, .int tp, .int pp, .int fr, .int tk, .int wd, .int vl, .int wr, .ref bA, .ref zA, .ref nA, .ref lA])) : MF ll g yX8_isSign cX8_isSign 2 (some .boolean) (k2_rm 0 0) [.ref t, .int c] h (some (.int (bI (tk = 3 ∧ vl = c)))) h := by
  refine mc_of (by decide) (Nat.le_of_ble_eq_true rfl) ?_
  intro K X r
  refine v_eqv (lv2 := [(0, .ref t), (1, .int c)]) rfl ?_
  refine v_aload_n X dX8_isSign_0 0 rfl ?_
  refine v_get X fX8_181 ht rfl dX8_isSign_1 ?_
  refine v_iconst X dX8_isSign_4 (v := 3) (by decide) ?_
  refine v_icmp_ne X dX8_isSign_5 (tgt := 20) (by decide) (fun c1 => ?_) (fun c1 => ?_)
  · refine v_iconst X dX8_isSign_20 (v := 0) (by decide) ?_
    exact v_zret X r dX8_isSign_21 rfl (Nat.le_refl _) (Nat.le_refl _) ⟨ri (by simp [bI, c1]), rfl⟩
  · refine v_aload_n X dX8_isSign_8 0 rfl ?_
    refine v_get X fX8_178 ht rfl dX8_isSign_9 ?_
    refine v_iload_n X dX8_isSign_12 1 rfl ?_
    refine v_icmp_ne X dX8_isSign_13 (tgt := 20) (by decide) (fun c2 => ?_) (fun c2 => ?_)
    · refine v_iconst X dX8_isSign_20 (v := 0) (by decide) ?_
      exact v_zret X r dX8_isSign_21 rfl (Nat.le_refl _) (Nat.le_refl _) ⟨ri (by simp [bI, c1, c2]), rfl⟩
    · refine v_iconst X dX8_isSign_16 (v := 1) (by decide) ?_
      refine v_goto X dX8_isSign_17 (tgt := 21) (by decide) ?_
      exact v_zret X r dX8_isSign_21 rfl (Nat.le_refl _) (Nat.le_refl _) ⟨ri (by simp [bI, c1, c2]), rfl⟩
set_option maxHeartbeats 4000000 in
set_option maxRecDepth 100000 in
theorem ct_X8_copies (ll : Launch) (g : GT) {h : Hp} {a b : Nat} {f e : Nat → Int32} (ha : h a = some (ai g 260 f)) (hb : h b = some (ai g 260 e)) (hab : a ≠ b) : MF ll g yX8_copies cX8_copies 3 none (k2_rm 0 0) [.ref a, .ref b] h none (hU h b (ai g 260 f)) := by
  refine mc_of (by decide) (Nat.le_of_ble_eq_true rfl) ?_
  intro K X r
  refine v_eqv (lv2 := [(0, .ref a), (1, .ref b)]) rfl ?_
  refine v_iconst X dX8_copies_0 (v := 0) (by decide) ?_
  refine v_istore_n (lv1 := [(2, .int 0), (0, .ref a), (1, .ref b)]) X dX8_copies_1 (by decide) rfl ?_
  have L2 : ∀ (N : Nat) (q : Nat), (q ≤ 260) → 260 - q < N → VJ K 0 0 (hU h b (ai g 260 (cpf f e q))) 2 [(0, .ref a), (1, .ref b), (2, .int (nI q))] [] := by
    intro N
    induction N with
    | zero => intro q _ hm; exact absurd hm (Nat.not_lt_zero _)
    | succ N ih2 =>
      intro q hq0 hm
      refine v_iload_n X dX8_copies_2 2 rfl ?_
      refine v_sipush X dX8_copies_3 (v := 260) (by decide) ?_
      refine v_icmp_ge X dX8_copies_6 (tgt := 21) (by decide) (fun c1 => ?_) (fun c1 => ?_)
      · refine v_extU (x := (260, .inl (cpf f e q))) (y := (260, .inl f)) (ai_ext (g := g) (fun j hj => by
          have hq : ¬ q < 260 := fun z => absurd (nI_lt z (by omega)) (Int32.not_lt.mpr c1)
          unfold cpf; rw [if_pos (by omega)]) _) ?_
        exact v_vret X r dX8_copies_21 (Nat.le_refl _) (Nat.le_refl _) ⟨rfl, rfl⟩
      · have hq : q < 260 := by
          rcases Nat.lt_or_ge q 260 with z | z
          · exact z
          · exact absurd (show (260 : Int32) ≤ nI q from nI_le z (by omega)) c1
        refine v_aload_n X dX8_copies_9 1 rfl ?_
        refine v_iload_n X dX8_copies_10 2 rfl ?_
        refine v_aload_n X dX8_copies_11 0 rfl ?_
        refine v_iload_n X dX8_copies_12 2 rfl ?_
        refine v_ialdK X q ((hU_n hab).trans ha) rfl hq (by decide) dX8_copies_13 ?_
        refine v_iastK (h2 := (hU h b (ai g 260 (upd (cpf f e q) q (f q))))) X q hU_s rfl hq (by decide) dX8_copies_14 hU_u ?_
        refine v_iinc (v := (nI q) + 1) (lv1 := [(2, .int ((nI q) + 1)), (0, .ref a), (1, .ref b)]) X dX8_copies_15 2 rfl rfl (by decide) rfl ?_
        refine v_goto X dX8_copies_18 (tgt := 2) (by decide) ?_
        refine v_lv (lv2 := [(0, .ref a), (1, .ref b), (2, .int ((nI q) + 1))]) [1, 2, 0] rfl ?_
        refine v_eqv (lv2 := [(0, .ref a), (1, .ref b), (2, .int (nI (q + 1)))]) (by rw [nI_1]) ?_
        refine v_eqh (h2 := hU h b (ai g 260 (cpf f e (q + 1)))) (by rw [cpf_s]) ?_
        exact ih2 (q + 1) (by omega) (by omega)
  refine v_lv (lv2 := [(0, .ref a), (1, .ref b), (2, .int 0)]) [1, 2, 0] rfl ?_
  refine v_eqv (lv2 := [(0, .ref a), (1, .ref b), (2, .int (nI 0))]) rfl ?_
  refine v_eqh (h2 := hU h b (ai g 260 (cpf f e 0))) (by rw [cpf_0, hU_id hb]) ?_
  exact L2 _ 0 (Nat.zero_le _) (Nat.lt_succ_self _)
