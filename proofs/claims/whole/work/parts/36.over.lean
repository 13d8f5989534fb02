/-! ===== the class: a match taken over, a sheet begun ===== -/
def zfL (num : Nat → Int64) (q : Nat) : Nat → Int64 := fun j => if j < q then 0 else num j
theorem zfL_s {num : Nat → Int64} {q : Nat} : vp_updL (zfL num q) q 0 = zfL num (q + 1) := by
  funext j; unfold vp_updL zfL
  by_cases h : j = q
  · subst h; simp
  · by_cases h2 : j < q
    · simp [h, h2, Nat.lt_succ_of_lt h2]
    · simp [h, h2, show ¬ j < q + 1 by omega]
theorem zfL_0 {num : Nat → Int64} : zfL num 0 = num := by funext j; simp [zfL]
set_option maxHeartbeats 4000000 in
set_option maxRecDepth 100000 in
theorem ct_X0_takeFrom (ll : Launch) (g : GT) {h : Hp} {M Mb pa wa ra fa sa pb wb rb fb sb : Nat} {tr tr2 : Nat → Int32} {t5 t6 t8 y5 y6 y8 u1 u2 u3 u4 u5 v1 v2 v3 v4 v5 j1 j2 j3 j4 j5 k1 k2 k3 k4 k5 : Int32} (hM : h M = some (ob 0 [.ref pa, .ref wa, .ref ra, .ref fa, .ref sa, .int t5, .int t6, .int t8])) (hMb : h Mb = some (ob 0 [.ref pb, .ref wb, .ref rb, .ref fb, .ref sb, .int y5, .int y6, .int y8])) (hra : h ra = some (ai g 10 tr)) (hrb : h rb = some (ai g 10 tr2)) (hfa : h fa = some (ob 3 [.int u1, .int u2, .int u3, .int u4, .int u5])) (hsa : h sa = some (ob 3 [.int v1, .int v2, .int v3, .int v4, .int v5])) (hfb : h fb = some (ob 3 [.int j1, .int j2, .int j3, .int j4, .int j5])) (hsb : h sb = some (ob 3 [.int k1, .int k2, .int k3, .int k4, .int k5])) (n1 : ra ≠ rb) (n2 : fa ≠ fb) (n3 : sa ≠ sb) (n4 : fa ≠ sa) (n5 : fa ≠ sb) (n6 : sa ≠ fb) (n7 : M ≠ Mb) : MF ll g yX0_takeFrom cX0_takeFrom 3 none (k2_rm 1 30) [.ref M, .ref Mb] h none (hU (hU (hU (hU h ra (ai g 10 (cpf tr2 tr 10))) fa (ob 3 [.int j1, .int j2, .int j3, .int u4, .int u5])) sa (ob 3 [.int k1, .int k2, .int k3, .int v4, .int v5])) M (ob 0 [.ref pa, .ref wa, .ref ra, .ref fa, .ref sa, .int y5, .int y6, .int y8])) := by
  have ne_1 : M ≠ ra := hneb hM hra rfl
  have ne_2 : Mb ≠ ra := hneb hMb hra rfl
  have ne_3 : fa ≠ ra := hneb hfa hra rfl
  have ne_4 : fb ≠ ra := hneb hfb hra rfl
  have ne_5 : M ≠ fa := hneb hM hfa rfl
  have ne_6 : Mb ≠ fa := hneb hMb hfa rfl
  have ne_7 : sa ≠ ra := hneb hsa hra rfl
  have ne_8 : sb ≠ ra := hneb hsb hra rfl
  have ne_9 : Mb ≠ sa := hneb hMb hsa rfl
  have ne_10 : M ≠ sa := hneb hM hsa rfl
  refine mc_of (by decide) (Nat.le_of_ble_eq_true rfl) ?_
  intro K X r
  refine v_eqv (lv2 := [(0, .ref M), (1, .ref Mb)]) rfl ?_
  refine v_iconst X dX0_takeFrom_0 (v := 0) (by decide) ?_
  refine v_istore_n (lv1 := [(2, .int 0), (0, .ref M), (1, .ref Mb)]) X dX0_takeFrom_1 (by decide) rfl ?_
  have L2 : ∀ (N : Nat) (q : Nat), (q ≤ 10) → 10 - q < N → VJ K 0 0 (hU h ra (ai g 10 (cpf tr2 tr q))) 2 [(0, .ref M), (1, .ref Mb), (2, .int (nI q))] [] := by
    intro N
    induction N with
    | zero => intro q _ hm; exact absurd hm (Nat.not_lt_zero _)
    | succ N ih2 =>
      intro q hq0 hm
      refine v_iload_n X dX0_takeFrom_2 2 rfl ?_
      refine v_bipush X dX0_takeFrom_3 (v := 10) (by decide) ?_
      refine v_icmp_ge X dX0_takeFrom_5 (tgt := 26) (by decide) (fun c1 => ?_) (fun c1 => ?_)
      · have hqe : q = 10 := by
          rcases Nat.lt_or_ge q 10 with z | z
          · exact absurd (nI_lt z (by decide)) (Int32.not_lt.mpr c1)
          · omega
        refine v_eqh (h2 := (hU h ra (ai g 10 (cpf tr2 tr 10)))) (by rw [hqe]) ?_
        refine v_aload_n X dX0_takeFrom_26 0 rfl ?_
        refine v_get X fX0_18 ((hU_n ne_1).trans hM) rfl dX0_takeFrom_27 ?_
        refine v_aload_n X dX0_takeFrom_30 1 rfl ?_
        refine v_get X fX0_18 ((hU_n ne_2).trans hMb) rfl dX0_takeFrom_31 ?_
        refine v_cVv X [.ref fb] sX0_42 (ct_X3_takeFrom ll g  ((hU_n ne_3).trans hfa) ((hU_n ne_4).trans hfb) n2) ((hU_n ne_3).trans hfa) rfl dX0_takeFrom_34 rfl rfl ⟨rfl, rfl⟩ ⟨(Nat.le_of_ble_eq_true rfl), (Nat.le_of_ble_eq_true rfl)⟩ ⟨Nat.zero_le _, Nat.zero_le _⟩ (Nat.le_of_ble_eq_true rfl) ?_
        refine v_aload_n X dX0_takeFrom_37 0 rfl ?_
        refine v_get X fX0_22 ((hU_n ne_5).trans ((hU_n ne_1).trans hM)) rfl dX0_takeFrom_38 ?_
        refine v_aload_n X dX0_takeFrom_41 1 rfl ?_
        refine v_get X fX0_22 ((hU_n ne_6).trans ((hU_n ne_2).trans hMb)) rfl dX0_takeFrom_42 ?_
        refine v_cVv X [.ref sb] sX0_42 (ct_X3_takeFrom ll g  ((hU_n (Ne.symm n4)).trans ((hU_n ne_7).trans hsa)) ((hU_n (Ne.symm n5)).trans ((hU_n ne_8).trans hsb)) n3) ((hU_n (Ne.symm n4)).trans ((hU_n ne_7).trans hsa)) rfl dX0_takeFrom_45 rfl rfl ⟨rfl, rfl⟩ ⟨(Nat.le_of_ble_eq_true rfl), (Nat.le_of_ble_eq_true rfl)⟩ ⟨Nat.zero_le _, Nat.zero_le _⟩ (Nat.le_of_ble_eq_true rfl) ?_
        refine v_aload_n X dX0_takeFrom_48 0 rfl ?_
        refine v_aload_n X dX0_takeFrom_49 1 rfl ?_
        refine v_get X fX0_25 ((hU_n ne_9).trans ((hU_n ne_6).trans ((hU_n ne_2).trans hMb))) rfl dX0_takeFrom_50 ?_
        refine v_putE (h2 := (hU (hU (hU (hU h ra (ai g 10 (cpf tr2 tr 10))) fa (ob 3 [.int j1, .int j2, .int j3, .int u4, .int u5])) sa (ob 3 [.int k1, .int k2, .int k3, .int v4, .int v5])) M (ob 0 [.ref pa, .ref wa, .ref ra, .ref fa, .ref sa, .int y5, .int t6, .int t8]))) X fX0_25 tyX0_ok nmX0 rfl pd_I ((hU_n ne_10).trans ((hU_n ne_5).trans ((hU_n ne_1).trans hM))) rfl rfl (ltb rfl) dX0_takeFrom_53 rfl ?_
        refine v_aload_n X dX0_takeFrom_56 0 rfl ?_
        refine v_aload_n X dX0_takeFrom_57 1 rfl ?_
        refine v_get X fX0_29 ((hU_n (Ne.symm n7)).trans ((hU_n ne_9).trans ((hU_n ne_6).trans ((hU_n ne_2).trans hMb)))) rfl dX0_takeFrom_58 ?_
        refine v_putE (h2 := (hU (hU (hU (hU h ra (ai g 10 (cpf tr2 tr 10))) fa (ob 3 [.int j1, .int j2, .int j3, .int u4, .int u5])) sa (ob 3 [.int k1, .int k2, .int k3, .int v4, .int v5])) M (ob 0 [.ref pa, .ref wa, .ref ra, .ref fa, .ref sa, .int y5, .int y6, .int t8]))) X fX0_29 tyX0_ok nmX0 rfl pd_I hU_s rfl rfl (ltb rfl) dX0_takeFrom_61 hU_u ?_
        refine v_aload_n X dX0_takeFrom_64 0 rfl ?_
        refine v_aload_n X dX0_takeFrom_65 1 rfl ?_
        refine v_get X fX0_32 ((hU_n (Ne.symm n7)).trans ((hU_n ne_9).trans ((hU_n ne_6).trans ((hU_n ne_2).trans hMb)))) rfl dX0_takeFrom_66 ?_
        refine v_putE (h2 := (hU (hU (hU (hU h ra (ai g 10 (cpf tr2 tr 10))) fa (ob 3 [.int j1, .int j2, .int j3, .int u4, .int u5])) sa (ob 3 [.int k1, .int k2, .int k3, .int v4, .int v5])) M (ob 0 [.ref pa, .ref wa, .ref ra, .ref fa, .ref sa, .int y5, .int y6, .int y8]))) X fX0_32 tyX0_ok nmX0 rfl pd_I hU_s rfl rfl (ltb rfl) dX0_takeFrom_69 hU_u ?_
        exact v_vret X r dX0_takeFrom_72 (Nat.le_refl _) (Nat.le_refl _) ⟨rfl, rfl⟩
      · have hqn : q < 10 := by
          rcases Nat.lt_or_ge q 10 with z | z
          · exact z
          · exact absurd (show (10 : Int32) ≤ nI q from nI_le z (by omega)) c1
        refine v_aload_n X dX0_takeFrom_8 0 rfl ?_
        refine v_get X fX0_11 ((hU_n ne_1).trans hM) rfl dX0_takeFrom_9 ?_
        refine v_iload_n X dX0_takeFrom_12 2 rfl ?_
        refine v_aload_n X dX0_takeFrom_13 1 rfl ?_
        refine v_get X fX0_11 ((hU_n ne_2).trans hMb) rfl dX0_takeFrom_14 ?_
        refine v_iload_n X dX0_takeFrom_17 2 rfl ?_
        refine v_ialdK X q ((hU_n (Ne.symm n1)).trans hrb) rfl hqn (by decide) dX0_takeFrom_18 ?_
        refine v_iastK (h2 := (hU h ra (ai g 10 (upd (cpf tr2 tr q) q (tr2 q))))) X q hU_s rfl hqn (by decide) dX0_takeFrom_19 hU_u ?_
        refine v_iinc (v := (nI q) + 1) (lv1 := [(2, .int ((nI q) + 1)), (0, .ref M), (1, .ref Mb)]) X dX0_takeFrom_20 2 rfl rfl (by decide) rfl ?_
        refine v_goto X dX0_takeFrom_23 (tgt := 2) (by decide) ?_
        refine v_lv (lv2 := [(0, .ref M), (1, .ref Mb), (2, .int ((nI q) + 1))]) [1, 2, 0] rfl ?_
        refine v_eqv (lv2 := [(0, .ref M), (1, .ref Mb), (2, .int (nI (q + 1)))]) (by rw [nI_1]) ?_
        refine v_eqh (h2 := hU h ra (ai g 10 (cpf tr2 tr (q + 1)))) (by rw [cpf_s]) ?_
        exact ih2 (q + 1) (by omega) (by omega)
  refine v_lv (lv2 := [(0, .ref M), (1, .ref Mb), (2, .int 0)]) [1, 2, 0] rfl ?_
  refine v_eqv (lv2 := [(0, .ref M), (1, .ref Mb), (2, .int (nI 0))]) rfl ?_
  refine v_eqh (h2 := hU h ra (ai g 10 (cpf tr2 tr 0))) (by rw [cpf_0, hU_id hra]) ?_
  exact L2 _ 0 (Nat.zero_le _) (Nat.lt_succ_self _)
set_option maxHeartbeats 4000000 in
set_option maxRecDepth 100000 in
theorem ct_X2_begin (ll : Launch) (g : GT) {h : Hp} {a nu : Nat} {bits size : Int32} {num : Nat → Int64} (b z : Int32) (ha : h a = some (ob 2 [.int bits, .int size, .ref nu])) (hn : h nu = some (al g 40 num)) : MF ll g yX2_begin cX2_begin 4 none (k2_rm 0 0) [.ref a, .int b, .int z] h none (hU (hU h a (ob 2 [.int b, .int z, .ref nu])) nu (al g 40 (fun _ => 0))) := by
  have ne_1 : a ≠ nu := hneb ha hn rfl
  refine mc_of (by decide) (Nat.le_of_ble_eq_true rfl) ?_
  intro K X r
  refine v_eqv (lv2 := [(0, .ref a), (1, .int b), (2, .int z)]) rfl ?_
  refine v_aload_n X dX2_begin_0 0 rfl ?_
  refine v_iload_n X dX2_begin_1 1 rfl ?_
  refine v_putE (h2 := (hU h a (ob 2 [.int b, .int size, .ref nu]))) X fX2_9 tyX2_ok nmX2 rfl pd_I ha rfl rfl (ltb rfl) dX2_begin_2 rfl ?_
  refine v_aload_n X dX2_begin_5 0 rfl ?_
  refine v_iload_n X dX2_begin_6 2 rfl ?_
  refine v_putE (h2 := (hU h a (ob 2 [.int b, .int z, .ref nu]))) X fX2_15 tyX2_ok nmX2 rfl pd_I hU_s rfl rfl (ltb rfl) dX2_begin_7 hU_u ?_
  refine v_iconst X dX2_begin_10 (v := 0) (by decide) ?_
  refine v_istore_n (lv1 := [(3, .int 0), (0, .ref a), (1, .int b), (2, .int z)]) X dX2_begin_11 (by decide) rfl ?_
  have L12 : ∀ (N : Nat) (q : Nat), (q ≤ 40) → 40 - q < N → VJ K 0 0 (hU (hU h a (ob 2 [.int b, .int z, .ref nu])) nu (al g 40 (zfL num q))) 12 [(0, .ref a), (1, .int b), (2, .int z), (3, .int (nI q))] [] := by
    intro N
    induction N with
    | zero => intro q _ hm; exact absurd hm (Nat.not_lt_zero _)
    | succ N ih12 =>
      intro q hq0 hm
      refine v_iload_n X dX2_begin_12 3 rfl ?_
      refine v_bipush X dX2_begin_13 (v := 40) (by decide) ?_
      refine v_icmp_ge X dX2_begin_15 (tgt := 31) (by decide) (fun c1 => ?_) (fun c1 => ?_)
      · refine v_extU (x := (40, .inr (.inl (zfL num q)))) (y := (40, .inr (.inl (fun _ => 0)))) (al_ext (fun j hj => by
          have hq : ¬ q < 40 := fun z => absurd (nI_lt z (by omega)) (Int32.not_lt.mpr c1)
          unfold zfL; rw [if_pos (by omega)]) _) ?_
        exact v_vret X r dX2_begin_31 (Nat.le_refl _) (Nat.le_refl _) ⟨rfl, rfl⟩
      · have hqn : q < 40 := by
          rcases Nat.lt_or_ge q 40 with z | z
          · exact z
          · exact absurd (show (40 : Int32) ≤ nI q from nI_le z (by omega)) c1
        refine v_aload_n X dX2_begin_18 0 rfl ?_
        refine v_get X fX2_18 ((hU_n ne_1).trans hU_s) rfl dX2_begin_19 ?_
        refine v_iload_n X dX2_begin_22 3 rfl ?_
        refine v_lconst X dX2_begin_23 (v := 0) (by decide) ?_
        refine v_lastK (h2 := (hU (hU h a (ob 2 [.int b, .int z, .ref nu])) nu (al g 40 (vp_updL (zfL num q) q (0 : Int64))))) X q hU_s rfl hqn (by decide) dX2_begin_24 hU_u ?_
        refine v_iinc (v := (nI q) + 1) (lv1 := [(3, .int ((nI q) + 1)), (0, .ref a), (1, .int b), (2, .int z)]) X dX2_begin_25 3 rfl rfl (by decide) rfl ?_
        refine v_goto X dX2_begin_28 (tgt := 12) (by decide) ?_
        refine v_lv (lv2 := [(0, .ref a), (1, .int b), (2, .int z), (3, .int ((nI q) + 1))]) [1, 2, 3, 0] rfl ?_
        refine v_eqv (lv2 := [(0, .ref a), (1, .int b), (2, .int z), (3, .int (nI (q + 1)))]) (by rw [nI_1]) ?_
        refine v_eqh (h2 := (hU (hU h a (ob 2 [.int b, .int z, .ref nu])) nu (al g 40 (zfL num (q + 1))))) (by rw [zfL_s]) ?_
        exact ih12 (q + 1) (by omega) (by omega)
  refine v_lv (lv2 := [(0, .ref a), (1, .int b), (2, .int z), (3, .int 0)]) [1, 2, 3, 0] rfl ?_
  refine v_eqv (lv2 := [(0, .ref a), (1, .int b), (2, .int z), (3, .int (nI 0))]) rfl ?_
  refine v_eqh (h2 := (hU (hU h a (ob 2 [.int b, .int z, .ref nu])) nu (al g 40 (zfL num 0)))) (by rw [zfL_0, hU_id ((hU_n (Ne.symm ne_1)).trans hn)]) ?_
  exact L12 _ 0 (Nat.zero_le _) (Nat.lt_succ_self _)
