set_option maxHeartbeats 4000000 in
set_option maxRecDepth 100000 in
theorem ct_X4_isWord (ll : Launch) (g : GT) {h : Hp} {a by_ n e b v w : Nat} {f : Nat → Int32} {vl : Int32} (ha : h a = some (ob 4 [.ref by_, .int (nI n), .int (nI (lkJ f n e)), .int (nI (lkE f n e)), .int (tkC f n e), .int vl])) (hb : h by_ = some (ai g 100 f)) (hen : e ≤ n) (hn : n ≤ 100) (hs : sV g b v w) : MF ll g yX4_isWord cX4_isWord 3 (some .boolean) (k2_rm 4 160) [.ref a, .ref b] h (some (.int (bI (wdAt f n e w)))) h := by
  have hw5 := slN_5 w hs.1
  have hEn := lkE_le (f := f) hen
  have hJn := (lkJ_le (f := f) hen).2
  have hJE : lkJ f n e ≤ lkE f n e := by
    unfold lkE
    by_cases z1 : lkJ f n e = n
    · rw [if_pos z1]; omega
    · rw [if_neg z1]
      by_cases z2 : isL (f (lkJ f n e))
      · rw [if_pos z2]; exact (wordE_le _ _).1
      · rw [if_neg z2]
        by_cases z3 : isDg (f (lkJ f n e))
        · rw [if_pos z3]; exact (digE_le _ _).1
        · rw [if_neg z3]; omega
  refine mc_of (by decide) (Nat.le_of_ble_eq_true rfl) ?_
  intro K X r
  refine v_eqv (lv2 := [(0, .ref a), (1, .ref b)]) rfl ?_
  refine v_aload_n X dX4_isWord_0 0 rfl ?_
  refine v_get X fX4_25 ha rfl dX4_isWord_1 ?_
  refine v_bipush X dX4_isWord_4 (v := (-2)) (by decide) ?_
  refine v_icmp_ne X dX4_isWord_6 (tgt := 25) (by decide) (fun c1 => ?_) (fun c1 => ?_)
  · refine v_iconst X dX4_isWord_25 (v := 0) (by decide) ?_
    exact v_zret X r dX4_isWord_26 rfl (Nat.le_refl _) (Nat.le_refl _) ⟨ri (bI_f (fun z => c1 (tk2.mpr (lk1.mp z.1)))).symm, rfl⟩
  · have hJL := tk2.mp c1
    have hiff := wd_iff (f := f) (n := n) (e := e) hs.1 hen hn hJL.1 hJL.2
    refine v_aload_n X dX4_isWord_9 0 rfl ?_
    refine v_get X fX4_22 ha rfl dX4_isWord_10 ?_
    refine v_aload_n X dX4_isWord_13 0 rfl ?_
    refine v_get X fX4_19 ha rfl dX4_isWord_14 ?_
    refine v_isub X dX4_isWord_17 ?_
    refine v_aload_n X dX4_isWord_18 1 rfl ?_
    refine v_cVsi X [] rfl sX4_102 (ct_J0_length_8abf5 ll g hs) hs dX4_isWord_19 rfl rfl ⟨rfl, rfl⟩ ⟨(Nat.le_of_ble_eq_true rfl), (Nat.le_of_ble_eq_true rfl)⟩ ⟨Nat.zero_le _, Nat.zero_le _⟩ (Nat.le_of_ble_eq_true rfl) ?_
    refine v_icmp_eq X dX4_isWord_22 (tgt := 27) (by decide) (fun c2 => ?_) (fun c2 => ?_)
    · have hLn : lkE f n e - lkJ f n e = slN w := (nI_eq (by omega) (by omega)).mp (by rw [← pk_sub hJE]; exact c2)
      refine v_iconst X dX4_isWord_27 (v := 0) (by decide) ?_
      refine v_istore_n (lv1 := [(2, .int 0), (0, .ref a), (1, .ref b)]) X dX4_isWord_28 (by decide) rfl ?_
      have L29 : ∀ (N : Nat) (q : Nat), (q ≤ slN w) → (∀ k, k < q → f (lkJ f n e + k) = chS w k) → slN w - q < N → VJ K 0 0 h 29 [(0, .ref a), (1, .ref b), (2, .int (nI q))] [] := by
        intro N
        induction N with
        | zero => intro q _ _ hm; exact absurd hm (Nat.not_lt_zero _)
        | succ N ih29 =>
          intro q hqq hq hm
          refine v_iload_n X dX4_isWord_29 2 rfl ?_
          refine v_aload_n X dX4_isWord_30 1 rfl ?_
          refine v_cVsi X [] rfl sX4_102 (ct_J0_length_8abf5 ll g hs) hs dX4_isWord_31 rfl rfl ⟨rfl, rfl⟩ ⟨(Nat.le_of_ble_eq_true rfl), (Nat.le_of_ble_eq_true rfl)⟩ ⟨Nat.zero_le _, Nat.zero_le _⟩ (Nat.le_of_ble_eq_true rfl) ?_
          refine v_icmp_ge X dX4_isWord_34 (tgt := 64) (by decide) (fun c3 => ?_) (fun c3 => ?_)
          · refine v_iconst X dX4_isWord_64 (v := 1) (by decide) ?_
            exact v_zret X r dX4_isWord_65 rfl (Nat.le_refl _) (Nat.le_refl _) ⟨ri (bI_t ⟨lk1.mpr hJL, hiff.mpr ⟨hLn, fun k hk => hq k (Nat.lt_of_lt_of_le hk (Nat.not_lt.mp (fun z => absurd (nI_lt z (by omega)) (Int32.not_lt.mpr c3))))⟩⟩).symm, rfl⟩
          · have hqn : q < slN w := by
              rcases Nat.lt_or_ge q (slN w) with z | z
              · exact z
              · exact absurd (nI_le z (by omega)) c3
            refine v_aload_n X dX4_isWord_37 0 rfl ?_
            refine v_get X fX4_9 ha rfl dX4_isWord_38 ?_
            refine v_aload_n X dX4_isWord_41 0 rfl ?_
            refine v_get X fX4_19 ha rfl dX4_isWord_42 ?_
            refine v_iload_n X dX4_isWord_45 2 rfl ?_
            refine v_iadd X dX4_isWord_46 ?_
            refine v_ialdK X ((lkJ f n e) + q) hb (ix_add rfl rfl) (by omega) (by decide) dX4_isWord_47 ?_
            refine v_aload_n X dX4_isWord_48 1 rfl ?_
            refine v_iload_n X dX4_isWord_49 2 rfl ?_
            refine v_cVsi X [.int (nI q)] rfl sX4_107 (ct_J0_charAt_5068e (j := q) ll g hs rfl hqn) hs dX4_isWord_50 rfl rfl ⟨rfl, rfl⟩ ⟨(Nat.le_of_ble_eq_true rfl), (Nat.le_of_ble_eq_true rfl)⟩ ⟨Nat.zero_le _, Nat.zero_le _⟩ (Nat.le_of_ble_eq_true rfl) ?_
            refine v_icmp_eq X dX4_isWord_53 (tgt := 58) (by decide) (fun c4 => ?_) (fun c4 => ?_)
            · refine v_iinc (v := (nI q) + 1) (lv1 := [(2, .int ((nI q) + 1)), (0, .ref a), (1, .ref b)]) X dX4_isWord_58 2 rfl rfl (by decide) rfl ?_
              refine v_goto X dX4_isWord_61 (tgt := 29) (by decide) ?_
              refine v_lv (lv2 := [(0, .ref a), (1, .ref b), (2, .int ((nI q) + 1))]) [1, 2, 0] rfl ?_
              refine v_eqv (lv2 := [(0, .ref a), (1, .ref b), (2, .int (nI (q + 1)))]) (by rw [nI_1]) ?_
              exact ih29 (q + 1) (by omega) (fun k hk => (Nat.lt_succ_iff_lt_or_eq.mp hk).elim (hq k) (fun z => z ▸ c4)) (by omega)
            · refine v_iconst X dX4_isWord_56 (v := 0) (by decide) ?_
              exact v_zret X r dX4_isWord_57 rfl (Nat.le_refl _) (Nat.le_refl _) ⟨ri (bI_f (fun z => c4 ((hiff.mp z.2).2 q hqn))).symm, rfl⟩
      refine v_lv (lv2 := [(0, .ref a), (1, .ref b), (2, .int 0)]) [1, 2, 0] rfl ?_
      refine v_eqv (lv2 := [(0, .ref a), (1, .ref b), (2, .int (nI 0))]) rfl ?_
      exact L29 _ 0 (Nat.zero_le _) (fun k hk => absurd hk (Nat.not_lt_zero k)) (Nat.lt_succ_self _)
    · refine v_iconst X dX4_isWord_25 (v := 0) (by decide) ?_
      exact v_zret X r dX4_isWord_26 rfl (Nat.le_refl _) (Nat.le_refl _) ⟨ri (bI_f (fun z => c2 (by rw [pk_sub hJE, (hiff.mp z.2).1]))).symm, rfl⟩
