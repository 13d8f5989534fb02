/-! ===== the class: small tests, sheets, a match taken over ===== -/
abbrev rowC (z f n : Int32) : Prop := ¬ f < 0 ∧ ¬ n < 0 ∧ ¬ z < f ∧ ¬ z - f < n
set_option maxHeartbeats 4000000 in
set_option maxRecDepth 100000 in
theorem ct_X7_isKind (ll : Launch) (g : GT) {h : Hp} (v : Int32)  : MF ll g yX7_isKind cX7_isKind 1 (some .boolean) (k2_rm 1 30) [.int v] h (some (.int (bI (wi v 0 5)))) h := by
  refine mc_of (by decide) (Nat.le_of_ble_eq_true rfl) ?_
  intro K X r
  refine v_eqv (lv2 := [(0, .int v)]) rfl ?_
  refine v_iload_n X dX7_isKind_0 0 rfl ?_
  refine v_iconst X dX7_isKind_1 (v := 0) (by decide) ?_
  refine v_iconst X dX7_isKind_2 (v := 5) (by decide) ?_
  refine v_cSi X [.int v, .int 0, .int 5] sX7_68 (ct_X7_within ll g v 0 5) dX7_isKind_3 rfl rfl ⟨rfl, rfl⟩ ⟨(Nat.le_of_ble_eq_true rfl), (Nat.le_of_ble_eq_true rfl)⟩ ⟨Nat.zero_le _, Nat.zero_le _⟩ (Nat.le_of_ble_eq_true rfl) ?_
  exact v_zret X r dX7_isKind_6 (bI_nar _) (Nat.le_refl _) (Nat.le_refl _) ⟨ri rfl, rfl⟩
set_option maxHeartbeats 4000000 in
set_option maxRecDepth 100000 in
theorem ct_X7_isSheet (ll : Launch) (g : GT) {h : Hp} (v : Int32)  : MF ll g yX7_isSheet cX7_isSheet 1 (some .boolean) (k2_rm 1 30) [.int v] h (some (.int (bI (wi v 0 3)))) h := by
  refine mc_of (by decide) (Nat.le_of_ble_eq_true rfl) ?_
  intro K X r
  refine v_eqv (lv2 := [(0, .int v)]) rfl ?_
  refine v_iload_n X dX7_isSheet_0 0 rfl ?_
  refine v_iconst X dX7_isSheet_1 (v := 0) (by decide) ?_
  refine v_iconst X dX7_isSheet_2 (v := 3) (by decide) ?_
  refine v_cSi X [.int v, .int 0, .int 3] sX7_68 (ct_X7_within ll g v 0 3) dX7_isSheet_3 rfl rfl ⟨rfl, rfl⟩ ⟨(Nat.le_of_ble_eq_true rfl), (Nat.le_of_ble_eq_true rfl)⟩ ⟨Nat.zero_le _, Nat.zero_le _⟩ (Nat.le_of_ble_eq_true rfl) ?_
  exact v_zret X r dX7_isSheet_6 (bI_nar _) (Nat.le_refl _) (Nat.le_refl _) ⟨ri rfl, rfl⟩
set_option maxHeartbeats 4000000 in
set_option maxRecDepth 100000 in
theorem ct_X7_isSituation (ll : Launch) (g : GT) {h : Hp} (s l e t : Int32)  : MF ll g yX7_isSituation cX7_isSituation 4 (some .boolean) (k2_rm 1 30) [.int s, .int l, .int e, .int t] h (some (.int (bI (okSit s l e t)))) h := by
  refine mc_of (by decide) (Nat.le_of_ble_eq_true rfl) ?_
  intro K X r
  refine v_eqv (lv2 := [(0, .int s), (1, .int l), (2, .int e), (3, .int t)]) rfl ?_
  refine v_iload_n X dX7_isSituation_0 0 rfl ?_
  refine v_sipush X dX7_isSituation_1 (v := (-9999)) (by decide) ?_
  refine v_sipush X dX7_isSituation_4 (v := 9999) (by decide) ?_
  refine v_cSi X [.int s, .int (-9999), .int 9999] sX7_68 (ct_X7_within ll g s (-9999) 9999) dX7_isSituation_7 rfl rfl ⟨rfl, rfl⟩ ⟨(Nat.le_of_ble_eq_true rfl), (Nat.le_of_ble_eq_true rfl)⟩ ⟨Nat.zero_le _, Nat.zero_le _⟩ (Nat.le_of_ble_eq_true rfl) ?_
  refine v_ifb_eq X dX7_isSituation_10 (tgt := 52) (by decide) (fun c1 => ?_) (fun c1 => ?_)
  · refine v_iconst X dX7_isSituation_52 (v := 0) (by decide) ?_
    exact v_zret X r dX7_isSituation_53 rfl (Nat.le_refl _) (Nat.le_refl _) ⟨ri (bI_f (fun z => c1 z.1)).symm, rfl⟩
  · refine v_iload_n X dX7_isSituation_13 1 rfl ?_
    refine v_sipush X dX7_isSituation_14 (v := (-999)) (by decide) ?_
    refine v_sipush X dX7_isSituation_17 (v := 999) (by decide) ?_
    refine v_cSi X [.int l, .int (-999), .int 999] sX7_68 (ct_X7_within ll g l (-999) 999) dX7_isSituation_20 rfl rfl ⟨rfl, rfl⟩ ⟨(Nat.le_of_ble_eq_true rfl), (Nat.le_of_ble_eq_true rfl)⟩ ⟨Nat.zero_le _, Nat.zero_le _⟩ (Nat.le_of_ble_eq_true rfl) ?_
    refine v_ifb_eq X dX7_isSituation_23 (tgt := 52) (by decide) (fun c2 => ?_) (fun c2 => ?_)
    · refine v_iconst X dX7_isSituation_52 (v := 0) (by decide) ?_
      exact v_zret X r dX7_isSituation_53 rfl (Nat.le_refl _) (Nat.le_refl _) ⟨ri (bI_f (fun z => c2 z.2.1)).symm, rfl⟩
    · refine v_iload_n X dX7_isSituation_26 2 rfl ?_
      refine v_iconst X dX7_isSituation_27 (v := 0) (by decide) ?_
      refine v_sipush X dX7_isSituation_28 (v := 999) (by decide) ?_
      refine v_cSi X [.int e, .int 0, .int 999] sX7_68 (ct_X7_within ll g e 0 999) dX7_isSituation_31 rfl rfl ⟨rfl, rfl⟩ ⟨(Nat.le_of_ble_eq_true rfl), (Nat.le_of_ble_eq_true rfl)⟩ ⟨Nat.zero_le _, Nat.zero_le _⟩ (Nat.le_of_ble_eq_true rfl) ?_
      refine v_ifb_eq X dX7_isSituation_34 (tgt := 52) (by decide) (fun c3 => ?_) (fun c3 => ?_)
      · refine v_iconst X dX7_isSituation_52 (v := 0) (by decide) ?_
        exact v_zret X r dX7_isSituation_53 rfl (Nat.le_refl _) (Nat.le_refl _) ⟨ri (bI_f (fun z => c3 z.2.2.1)).symm, rfl⟩
      · refine v_iload_n X dX7_isSituation_37 3 rfl ?_
        refine v_iconst X dX7_isSituation_38 (v := 0) (by decide) ?_
        refine v_sipush X dX7_isSituation_39 (v := 999) (by decide) ?_
        refine v_cSi X [.int t, .int 0, .int 999] sX7_68 (ct_X7_within ll g t 0 999) dX7_isSituation_42 rfl rfl ⟨rfl, rfl⟩ ⟨(Nat.le_of_ble_eq_true rfl), (Nat.le_of_ble_eq_true rfl)⟩ ⟨Nat.zero_le _, Nat.zero_le _⟩ (Nat.le_of_ble_eq_true rfl) ?_
        refine v_ifb_eq X dX7_isSituation_45 (tgt := 52) (by decide) (fun c4 => ?_) (fun c4 => ?_)
        · refine v_iconst X dX7_isSituation_52 (v := 0) (by decide) ?_
          exact v_zret X r dX7_isSituation_53 rfl (Nat.le_refl _) (Nat.le_refl _) ⟨ri (bI_f (fun z => c4 z.2.2.2)).symm, rfl⟩
        · refine v_iconst X dX7_isSituation_48 (v := 1) (by decide) ?_
          refine v_goto X dX7_isSituation_49 (tgt := 53) (by decide) ?_
          exact v_zret X r dX7_isSituation_53 rfl (Nat.le_refl _) (Nat.le_refl _) ⟨ri (bI_t ⟨c1, c2, c3, c4⟩).symm, rfl⟩
set_option maxHeartbeats 4000000 in
set_option maxRecDepth 100000 in
theorem ct_X7_isPerson (ll : Launch) (g : GT) {h : Hp} {x w kp ot tl tp sh fo pe wy pt mt : Nat} {ik np nw oc fi se lo : Int32} (v : Int32) (hx : h x = some (ob 7 [.ref w, .ref kp, .int ik, .ref ot, .ref tl, .ref tp, .ref sh, .ref fo])) (hw : h w = some (ob 6 [.ref pe, .int np, .ref wy, .int nw, .ref pt, .ref mt, .int oc, .int fi, .int se, .int lo])) : MF ll g yX7_isPerson cX7_isPerson 2 (some .boolean) (k2_rm 1 30) [.ref x, .int v] h (some (.int (bI (wi v 0 (np - 1))))) h := by
  refine mc_of (by decide) (Nat.le_of_ble_eq_true rfl) ?_
  intro K X r
  refine v_eqv (lv2 := [(0, .ref x), (1, .int v)]) rfl ?_
  refine v_iload_n X dX7_isPerson_0 1 rfl ?_
  refine v_iconst X dX7_isPerson_1 (v := 0) (by decide) ?_
  refine v_aload_n X dX7_isPerson_2 0 rfl ?_
  refine v_get X fX7_10 hx rfl dX7_isPerson_3 ?_
  refine v_get X fX7_77 hw rfl dX7_isPerson_6 ?_
  refine v_iconst X dX7_isPerson_9 (v := 1) (by decide) ?_
  refine v_isub X dX7_isPerson_10 ?_
  refine v_cSi X [.int v, .int 0, .int (np - 1)] sX7_68 (ct_X7_within ll g v 0 (np - 1)) dX7_isPerson_11 rfl rfl ⟨rfl, rfl⟩ ⟨(Nat.le_of_ble_eq_true rfl), (Nat.le_of_ble_eq_true rfl)⟩ ⟨Nat.zero_le _, Nat.zero_le _⟩ (Nat.le_of_ble_eq_true rfl) ?_
  exact v_zret X r dX7_isPerson_14 (bI_nar _) (Nat.le_refl _) (Nat.le_refl _) ⟨ri rfl, rfl⟩
set_option maxHeartbeats 4000000 in
set_option maxRecDepth 100000 in
theorem ct_X7_isPair (ll : Launch) (g : GT) {h : Hp} {x w kp ot tl tp sh fo pe wy pt mt : Nat} {ik np nw oc fi se lo : Int32} (a b : Int32) (hx : h x = some (ob 7 [.ref w, .ref kp, .int ik, .ref ot, .ref tl, .ref tp, .ref sh, .ref fo])) (hw : h w = some (ob 6 [.ref pe, .int np, .ref wy, .int nw, .ref pt, .ref mt, .int oc, .int fi, .int se, .int lo])) : MF ll g yX7_isPair cX7_isPair 3 (some .boolean) (k2_rm 2 60) [.ref x, .int a, .int b] h (some (.int (bI (wi a 0 (np - 1) ∧ wi b 0 (np - 1) ∧ ¬ a = b)))) h := by
  refine mc_of (by decide) (Nat.le_of_ble_eq_true rfl) ?_
  intro K X r
  refine v_eqv (lv2 := [(0, .ref x), (1, .int a), (2, .int b)]) rfl ?_
  refine v_aload_n X dX7_isPair_0 0 rfl ?_
  refine v_iload_n X dX7_isPair_1 1 rfl ?_
  refine v_cVi X [.int a] sX7_90 (ct_X7_isPerson ll g a hx hw) hx rfl dX7_isPair_2 rfl rfl ⟨rfl, rfl⟩ ⟨(Nat.le_of_ble_eq_true rfl), (Nat.le_of_ble_eq_true rfl)⟩ ⟨Nat.zero_le _, Nat.zero_le _⟩ (Nat.le_of_ble_eq_true rfl) ?_
  refine v_ifb_eq X dX7_isPair_5 (tgt := 25) (by decide) (fun c1 => ?_) (fun c1 => ?_)
  · refine v_iconst X dX7_isPair_25 (v := 0) (by decide) ?_
    exact v_zret X r dX7_isPair_26 rfl (Nat.le_refl _) (Nat.le_refl _) ⟨ri (bI_f (fun z => c1 z.1)).symm, rfl⟩
  · refine v_aload_n X dX7_isPair_8 0 rfl ?_
    refine v_iload_n X dX7_isPair_9 2 rfl ?_
    refine v_cVi X [.int b] sX7_90 (ct_X7_isPerson ll g b hx hw) hx rfl dX7_isPair_10 rfl rfl ⟨rfl, rfl⟩ ⟨(Nat.le_of_ble_eq_true rfl), (Nat.le_of_ble_eq_true rfl)⟩ ⟨Nat.zero_le _, Nat.zero_le _⟩ (Nat.le_of_ble_eq_true rfl) ?_
    refine v_ifb_eq X dX7_isPair_13 (tgt := 25) (by decide) (fun c2 => ?_) (fun c2 => ?_)
    · refine v_iconst X dX7_isPair_25 (v := 0) (by decide) ?_
      exact v_zret X r dX7_isPair_26 rfl (Nat.le_refl _) (Nat.le_refl _) ⟨ri (bI_f (fun z => c2 z.2.1)).symm, rfl⟩
    · refine v_iload_n X dX7_isPair_16 1 rfl ?_
      refine v_iload_n X dX7_isPair_17 2 rfl ?_
      refine v_icmp_eq X dX7_isPair_18 (tgt := 25) (by decide) (fun c3 => ?_) (fun c3 => ?_)
      · refine v_iconst X dX7_isPair_25 (v := 0) (by decide) ?_
        exact v_zret X r dX7_isPair_26 rfl (Nat.le_refl _) (Nat.le_refl _) ⟨ri (bI_f (fun z => z.2.2 c3)).symm, rfl⟩
      · refine v_iconst X dX7_isPair_21 (v := 1) (by decide) ?_
        refine v_goto X dX7_isPair_22 (tgt := 26) (by decide) ?_
        exact v_zret X r dX7_isPair_26 rfl (Nat.le_refl _) (Nat.le_refl _) ⟨ri (bI_t ⟨c1, c2, c3⟩).symm, rfl⟩
set_option maxHeartbeats 4000000 in
set_option maxRecDepth 100000 in
theorem ct_X2_isMissing (ll : Launch) (g : GT) {h : Hp} {a nu : Nat} {bits size : Int32}  (ha : h a = some (ob 2 [.int bits, .int size, .ref nu])) : MF ll g yX2_isMissing cX2_isMissing 1 (some .boolean) (k2_rm 0 0) [.ref a] h (some (.int (bI (bits = 0)))) h := by
  refine mc_of (by decide) (Nat.le_of_ble_eq_true rfl) ?_
  intro K X r
  refine v_eqv (lv2 := [(0, .ref a)]) rfl ?_
  refine v_aload_n X dX2_isMissing_0 0 rfl ?_
  refine v_get X fX2_9 ha rfl dX2_isMissing_1 ?_
  refine v_if_ne X dX2_isMissing_4 (tgt := 11) (by decide) (fun c1 => ?_) (fun c1 => ?_)
  · refine v_iconst X dX2_isMissing_11 (v := 0) (by decide) ?_
    exact v_zret X r dX2_isMissing_12 rfl (Nat.le_refl _) (Nat.le_refl _) ⟨ri (bI_f c1).symm, rfl⟩
  · refine v_iconst X dX2_isMissing_7 (v := 1) (by decide) ?_
    refine v_goto X dX2_isMissing_8 (tgt := 12) (by decide) ?_
    exact v_zret X r dX2_isMissing_12 rfl (Nat.le_refl _) (Nat.le_refl _) ⟨ri (bI_t c1).symm, rfl⟩
set_option maxHeartbeats 4000000 in
set_option maxRecDepth 100000 in
theorem ct_X2_hasRow (ll : Launch) (g : GT) {h : Hp} {a nu : Nat} {bits size : Int32} (f n : Int32) (ha : h a = some (ob 2 [.int bits, .int size, .ref nu])) : MF ll g yX2_hasRow cX2_hasRow 3 (some .boolean) (k2_rm 0 0) [.ref a, .int f, .int n] h (some (.int (bI (rowC size f n)))) h := by
  refine mc_of (by decide) (Nat.le_of_ble_eq_true rfl) ?_
  intro K X r
  refine v_eqv (lv2 := [(0, .ref a), (1, .int f), (2, .int n)]) rfl ?_
  refine v_iload_n X dX2_hasRow_0 1 rfl ?_
  refine v_if_lt X dX2_hasRow_1 (tgt := 30) (by decide) (fun c1 => ?_) (fun c1 => ?_)
  · refine v_iconst X dX2_hasRow_30 (v := 0) (by decide) ?_
    exact v_zret X r dX2_hasRow_31 rfl (Nat.le_refl _) (Nat.le_refl _) ⟨ri (bI_f (fun z => z.1 c1)).symm, rfl⟩
  · refine v_iload_n X dX2_hasRow_4 2 rfl ?_
    refine v_if_lt X dX2_hasRow_5 (tgt := 30) (by decide) (fun c2 => ?_) (fun c2 => ?_)
    · refine v_iconst X dX2_hasRow_30 (v := 0) (by decide) ?_
      exact v_zret X r dX2_hasRow_31 rfl (Nat.le_refl _) (Nat.le_refl _) ⟨ri (bI_f (fun z => z.2.1 c2)).symm, rfl⟩
    · refine v_iload_n X dX2_hasRow_8 1 rfl ?_
      refine v_aload_n X dX2_hasRow_9 0 rfl ?_
      refine v_get X fX2_15 ha rfl dX2_hasRow_10 ?_
      refine v_icmp_gt X dX2_hasRow_13 (tgt := 30) (by decide) (fun c3 => ?_) (fun c3 => ?_)
      · refine v_iconst X dX2_hasRow_30 (v := 0) (by decide) ?_
        exact v_zret X r dX2_hasRow_31 rfl (Nat.le_refl _) (Nat.le_refl _) ⟨ri (bI_f (fun z => z.2.2.1 c3)).symm, rfl⟩
      · refine v_iload_n X dX2_hasRow_16 2 rfl ?_
        refine v_aload_n X dX2_hasRow_17 0 rfl ?_
        refine v_get X fX2_15 ha rfl dX2_hasRow_18 ?_
        refine v_iload_n X dX2_hasRow_21 1 rfl ?_
        refine v_isub X dX2_hasRow_22 ?_
        refine v_icmp_gt X dX2_hasRow_23 (tgt := 30) (by decide) (fun c4 => ?_) (fun c4 => ?_)
        · refine v_iconst X dX2_hasRow_30 (v := 0) (by decide) ?_
          exact v_zret X r dX2_hasRow_31 rfl (Nat.le_refl _) (Nat.le_refl _) ⟨ri (bI_f (fun z => z.2.2.2 c4)).symm, rfl⟩
        · refine v_iconst X dX2_hasRow_26 (v := 1) (by decide) ?_
          refine v_goto X dX2_hasRow_27 (tgt := 31) (by decide) ?_
          exact v_zret X r dX2_hasRow_31 rfl (Nat.le_refl _) (Nat.le_refl _) ⟨ri (bI_t ⟨c1, c2, c3, c4⟩).symm, rfl⟩
set_option maxHeartbeats 4000000 in
set_option maxRecDepth 100000 in
theorem ct_X2_put (ll : Launch) (g : GT) {h : Hp} {a nu : Nat} {bits size : Int32} {num : Nat → Int64} {x : Int32} {j : Nat} (v : Int64) (ha : h a = some (ob 2 [.int bits, .int size, .ref nu])) (hn : h nu = some (al g 40 num)) (hx : x = nI j) (hj : j < 40) (hin : wi x 0 (size - 1)) : MF ll g yX2_put cX2_put 4 none (k2_rm 1 40) [.ref a, .int x, .long v] h none (hU h nu (al g 40 (vp_updL num j (lowS bits v)))) := by
  refine mc_of (by decide) (Nat.le_of_ble_eq_true rfl) ?_
  intro K X r
  refine v_eqv (lv2 := [(0, .ref a), (1, .int x), (2, .long v)]) rfl ?_
  refine v_iload_n X dX2_put_0 1 rfl ?_
  refine v_iconst X dX2_put_1 (v := 0) (by decide) ?_
  refine v_aload_n X dX2_put_2 0 rfl ?_
  refine v_get X fX2_15 ha rfl dX2_put_3 ?_
  refine v_iconst X dX2_put_6 (v := 1) (by decide) ?_
  refine v_isub X dX2_put_7 ?_
  refine v_cSni X [.int x, .int 0, .int (size - 1)] sX2_22 (ct_X7_within ll g x 0 (size - 1)) dX2_put_8 rfl rfl ⟨rfl, rfl⟩ ⟨(Nat.le_of_ble_eq_true rfl), (Nat.le_of_ble_eq_true rfl)⟩ ⟨Nat.zero_le _, Nat.zero_le _⟩ (Nat.le_of_ble_eq_true rfl) ?_
  refine v_ifb_eq X dX2_put_11 (tgt := 53) (by decide) (fun c1 => ?_) (fun c1 => ?_)
  · exact absurd hin c1
  · refine v_aload_n X dX2_put_14 0 rfl ?_
    refine v_get X fX2_18 ha rfl dX2_put_15 ?_
    refine v_iload_n X dX2_put_18 1 rfl ?_
    refine v_aload_n X dX2_put_19 0 rfl ?_
    refine v_get X fX2_9 ha rfl dX2_put_20 ?_
    refine v_bipush X dX2_put_23 (v := 8) (by decide) ?_
    refine v_icmp_ne X dX2_put_25 (tgt := 35) (by decide) (fun c2 => ?_) (fun c2 => ?_)
    · refine v_aload_n X dX2_put_35 0 rfl ?_
      refine v_get X fX2_9 ha rfl dX2_put_36 ?_
      refine v_bipush X dX2_put_39 (v := 16) (by decide) ?_
      refine v_icmp_ne X dX2_put_41 (tgt := 51) (by decide) (fun c3 => ?_) (fun c3 => ?_)
      · refine v_lload_n X dX2_put_51 2 rfl ?_
        refine v_lastK (h2 := (hU h nu (al g 40 (vp_updL num j v)))) X j hn hx hj (by decide) dX2_put_52 rfl ?_
        exact v_vret X r dX2_put_53 (Nat.le_refl _) (Nat.le_refl _) ⟨rfl, (by rw [lowS, if_neg c2, if_neg c3])⟩
      · refine v_lload_n X dX2_put_44 2 rfl ?_
        refine v_l2i X dX2_put_45 ?_
        refine v_i2s X dX2_put_46 ?_
        refine v_i2l X dX2_put_47 ?_
        refine v_goto X dX2_put_48 (tgt := 52) (by decide) ?_
        refine v_lastK (h2 := (hU h nu (al g 40 (vp_updL num j v.toInt32.toInt16.toInt32.toInt64)))) X j hn hx hj (by decide) dX2_put_52 rfl ?_
        exact v_vret X r dX2_put_53 (Nat.le_refl _) (Nat.le_refl _) ⟨rfl, (by rw [lowS, if_neg c2, if_pos c3])⟩
    · refine v_lload_n X dX2_put_28 2 rfl ?_
      refine v_l2i X dX2_put_29 ?_
      refine v_i2b X dX2_put_30 ?_
      refine v_i2l X dX2_put_31 ?_
      refine v_goto X dX2_put_32 (tgt := 52) (by decide) ?_
      refine v_lastK (h2 := (hU h nu (al g 40 (vp_updL num j v.toInt32.toInt8.toInt32.toInt64)))) X j hn hx hj (by decide) dX2_put_52 rfl ?_
      exact v_vret X r dX2_put_53 (Nat.le_refl _) (Nat.le_refl _) ⟨rfl, (by rw [lowS, if_pos c2])⟩
set_option maxHeartbeats 4000000 in
set_option maxRecDepth 100000 in
theorem ct_X4_isDigit (ll : Launch) (g : GT) {h : Hp} (b : Int32)  : MF ll g yX4_isDigit cX4_isDigit 1 (some .boolean) (k2_rm 0 0) [.int b] h (some (.int (bI (wi b 48 57)))) h := by
  refine mc_of (by decide) (Nat.le_of_ble_eq_true rfl) ?_
  intro K X r
  refine v_eqv (lv2 := [(0, .int b)]) rfl ?_
  refine v_iload_n X dX4_isDigit_0 0 rfl ?_
  refine v_bipush X dX4_isDigit_1 (v := 48) (by decide) ?_
  refine v_icmp_lt X dX4_isDigit_3 (tgt := 16) (by decide) (fun c1 => ?_) (fun c1 => ?_)
  · refine v_iconst X dX4_isDigit_16 (v := 0) (by decide) ?_
    exact v_zret X r dX4_isDigit_17 rfl (Nat.le_refl _) (Nat.le_refl _) ⟨ri (by simp [bI, wi, c1, Int32.not_le.mpr c1]), rfl⟩
  · refine v_iload_n X dX4_isDigit_6 0 rfl ?_
    refine v_bipush X dX4_isDigit_7 (v := 57) (by decide) ?_
    refine v_icmp_gt X dX4_isDigit_9 (tgt := 16) (by decide) (fun c2 => ?_) (fun c2 => ?_)
    · refine v_iconst X dX4_isDigit_16 (v := 0) (by decide) ?_
      exact v_zret X r dX4_isDigit_17 rfl (Nat.le_refl _) (Nat.le_refl _) ⟨ri (by simp [bI, wi, c1, Int32.not_lt.mp c1, c2, Int32.not_le.mpr c2]), rfl⟩
    · refine v_iconst X dX4_isDigit_12 (v := 1) (by decide) ?_
      refine v_goto X dX4_isDigit_13 (tgt := 17) (by decide) ?_
      exact v_zret X r dX4_isDigit_17 rfl (Nat.le_refl _) (Nat.le_refl _) ⟨ri (by simp [bI, wi, c1, Int32.not_lt.mp c1, c2, Int32.not_lt.mp c2]), rfl⟩
set_option maxHeartbeats 4000000 in
set_option maxRecDepth 100000 in
theorem ct_X4_isLetter (ll : Launch) (g : GT) {h : Hp} (b : Int32)  : MF ll g yX4_isLetter cX4_isLetter 1 (some .boolean) (k2_rm 0 0) [.int b] h (some (.int (bI (wi b 97 122)))) h := by
  refine mc_of (by decide) (Nat.le_of_ble_eq_true rfl) ?_
  intro K X r
  refine v_eqv (lv2 := [(0, .int b)]) rfl ?_
  refine v_iload_n X dX4_isLetter_0 0 rfl ?_
  refine v_bipush X dX4_isLetter_1 (v := 97) (by decide) ?_
  refine v_icmp_lt X dX4_isLetter_3 (tgt := 16) (by decide) (fun c1 => ?_) (fun c1 => ?_)
  · refine v_iconst X dX4_isLetter_16 (v := 0) (by decide) ?_
    exact v_zret X r dX4_isLetter_17 rfl (Nat.le_refl _) (Nat.le_refl _) ⟨ri (by simp [bI, wi, c1, Int32.not_le.mpr c1]), rfl⟩
  · refine v_iload_n X dX4_isLetter_6 0 rfl ?_
    refine v_bipush X dX4_isLetter_7 (v := 122) (by decide) ?_
    refine v_icmp_gt X dX4_isLetter_9 (tgt := 16) (by decide) (fun c2 => ?_) (fun c2 => ?_)
    · refine v_iconst X dX4_isLetter_16 (v := 0) (by decide) ?_
      exact v_zret X r dX4_isLetter_17 rfl (Nat.le_refl _) (Nat.le_refl _) ⟨ri (by simp [bI, wi, c1, Int32.not_lt.mp c1, c2, Int32.not_le.mpr c2]), rfl⟩
    · refine v_iconst X dX4_isLetter_12 (v := 1) (by decide) ?_
      refine v_goto X dX4_isLetter_13 (tgt := 17) (by decide) ?_
      exact v_zret X r dX4_isLetter_17 rfl (Nat.le_refl _) (Nat.le_refl _) ⟨ri (by simp [bI, wi, c1, Int32.not_lt.mp c1, c2, Int32.not_lt.mp c2]), rfl⟩
set_option maxHeartbeats 4000000 in
set_option maxRecDepth 100000 in
theorem ct_X4_isSign (ll : Launch) (g : GT) {h : Hp} (b : Int32)  : MF ll g yX4_isSign cX4_isSign 1 (some .boolean) (k2_rm 0 0) [.int b] h (some (.int (bI (isSg b)))) h := by
  refine mc_of (by decide) (Nat.le_of_ble_eq_true rfl) ?_
  intro K X r
  refine v_eqv (lv2 := [(0, .int b)]) rfl ?_
  refine v_iload_n X dX4_isSign_0 0 rfl ?_
  refine v_bipush X dX4_isSign_1 (v := 60) (by decide) ?_
  refine v_icmp_eq X dX4_isSign_3 (tgt := 30) (by decide) (fun c1 => ?_) (fun c1 => ?_)
  · refine v_iconst X dX4_isSign_30 (v := 1) (by decide) ?_
    refine v_goto X dX4_isSign_31 (tgt := 35) (by decide) ?_
    exact v_zret X r dX4_isSign_35 rfl (Nat.le_refl _) (Nat.le_refl _) ⟨ri (by simp [bI, isSg, c1]), rfl⟩
  · refine v_iload_n X dX4_isSign_6 0 rfl ?_
    refine v_bipush X dX4_isSign_7 (v := 62) (by decide) ?_
    refine v_icmp_eq X dX4_isSign_9 (tgt := 30) (by decide) (fun c2 => ?_) (fun c2 => ?_)
    · refine v_iconst X dX4_isSign_30 (v := 1) (by decide) ?_
      refine v_goto X dX4_isSign_31 (tgt := 35) (by decide) ?_
      exact v_zret X r dX4_isSign_35 rfl (Nat.le_refl _) (Nat.le_refl _) ⟨ri (by simp [bI, isSg, c1, c2]), rfl⟩
    · refine v_iload_n X dX4_isSign_12 0 rfl ?_
      refine v_bipush X dX4_isSign_13 (v := 45) (by decide) ?_
      refine v_icmp_eq X dX4_isSign_15 (tgt := 30) (by decide) (fun c3 => ?_) (fun c3 => ?_)
      · refine v_iconst X dX4_isSign_30 (v := 1) (by decide) ?_
        refine v_goto X dX4_isSign_31 (tgt := 35) (by decide) ?_
        exact v_zret X r dX4_isSign_35 rfl (Nat.le_refl _) (Nat.le_refl _) ⟨ri (by simp [bI, isSg, c1, c2, c3]), rfl⟩
      · refine v_iload_n X dX4_isSign_18 0 rfl ?_
        refine v_bipush X dX4_isSign_19 (v := 58) (by decide) ?_
        refine v_icmp_eq X dX4_isSign_21 (tgt := 30) (by decide) (fun c4 => ?_) (fun c4 => ?_)
        · refine v_iconst X dX4_isSign_30 (v := 1) (by decide) ?_
          refine v_goto X dX4_isSign_31 (tgt := 35) (by decide) ?_
          exact v_zret X r dX4_isSign_35 rfl (Nat.le_refl _) (Nat.le_refl _) ⟨ri (by simp [bI, isSg, c1, c2, c3, c4]), rfl⟩
        · refine v_iload_n X dX4_isSign_24 0 rfl ?_
          refine v_bipush X dX4_isSign_25 (v := 59) (by decide) ?_
          refine v_icmp_ne X dX4_isSign_27 (tgt := 34) (by decide) (fun c5 => ?_) (fun c5 => ?_)
          · refine v_iconst X dX4_isSign_34 (v := 0) (by decide) ?_
            exact v_zret X r dX4_isSign_35 rfl (Nat.le_refl _) (Nat.le_refl _) ⟨ri (by simp [bI, isSg, c1, c2, c3, c4, c5]), rfl⟩
          · refine v_iconst X dX4_isSign_30 (v := 1) (by decide) ?_
            refine v_goto X dX4_isSign_31 (tgt := 35) (by decide) ?_
            exact v_zret X r dX4_isSign_35 rfl (Nat.le_refl _) (Nat.le_refl _) ⟨ri (by simp [bI, isSg, c1, c2, c3, c4, c5]), rfl⟩
set_option maxHeartbeats 4000000 in
set_option maxRecDepth 100000 in
theorem ct_X4_addByte (ll : Launch) (g : GT) {h : Hp} {a by_ n : Nat} {f : Nat → Int32} {st en tk vl : Int32} (b : Int32) (ha : h a = some (ob 4 [.ref by_, .int (nI n), .int st, .int en, .int tk, .int vl])) (hb : h by_ = some (ai g 100 f)) (hn : n < 100) : MF ll g yX4_addByte cX4_addByte 2 none (k2_rm 0 0) [.ref a, .int b] h none (hU (hU h by_ (ai g 100 (upd f n b))) a (ob 4 [.ref by_, .int (nI (n + 1)), .int st, .int en, .int tk, .int vl])) := by
  have ne_1 : a ≠ by_ := hneb ha hb rfl
  refine mc_of (by decide) (Nat.le_of_ble_eq_true rfl) ?_
  intro K X r
  refine v_eqv (lv2 := [(0, .ref a), (1, .int b)]) rfl ?_
  refine v_aload_n X dX4_addByte_0 0 rfl ?_
  refine v_get X fX4_15 ha rfl dX4_addByte_1 ?_
  refine v_bipush X dX4_addByte_4 (v := 100) (by decide) ?_
  refine v_icmp_ge X dX4_addByte_6 (tgt := 29) (by decide) (fun c1 => ?_) (fun c1 => ?_)
  · exact absurd (nI_lt hn (by decide)) (Int32.not_lt.mpr c1)
  · refine v_aload_n X dX4_addByte_9 0 rfl ?_
    refine v_get X fX4_9 ha rfl dX4_addByte_10 ?_
    refine v_aload_n X dX4_addByte_13 0 rfl ?_
    refine v_get X fX4_15 ha rfl dX4_addByte_14 ?_
    refine v_iload_n X dX4_addByte_17 1 rfl ?_
    refine v_iastK (h2 := (hU h by_ (ai g 100 (upd f n b)))) X n hb rfl hn (by decide) dX4_addByte_18 rfl ?_
    refine v_aload_n X dX4_addByte_19 0 rfl ?_
    refine v_dup X dX4_addByte_20 rfl ?_
    refine v_get X fX4_15 ((hU_n ne_1).trans ha) rfl dX4_addByte_21 ?_
    refine v_iconst X dX4_addByte_24 (v := 1) (by decide) ?_
    refine v_iadd X dX4_addByte_25 ?_
    refine v_putE (h2 := (hU (hU h by_ (ai g 100 (upd f n b))) a (ob 4 [.ref by_, .int ((nI n) + 1), .int st, .int en, .int tk, .int vl]))) X fX4_15 tyX4_ok nmX4 rfl pd_I ((hU_n ne_1).trans ha) rfl rfl (ltb rfl) dX4_addByte_26 rfl ?_
    exact v_vret X r dX4_addByte_29 (Nat.le_refl _) (Nat.le_refl _) ⟨rfl, (by rw [nI_1])⟩
