/-! ===== the class: go ===== -/
theorem gbA_19 {m : Nat → Int32} {p0 p1 T : Nat} : gbA m p0 p1 T 19 = lean1 m p0 p1 := by
  have hm := Nat.mod_lt T (show 0 < 10 by decide)
  unfold gbA
  rw [pk_un (by omega), pk_us]
theorem gbA_18 {m : Nat → Int32} {p0 p1 T : Nat} : gbA m p0 p1 T 18 = lean0 m p0 p1 := by
  have hm := Nat.mod_lt T (show 0 < 10 by decide)
  unfold gbA
  rw [pk_un (by omega), pk_un (by omega), pk_us]
theorem gbA_17 {m : Nat → Int32} {p0 p1 T : Nat} : gbA m p0 p1 T 17 = feet1 m p1 := by
  have hm := Nat.mod_lt T (show 0 < 10 by decide)
  unfold gbA
  rw [pk_un (by omega), pk_un (by omega), pk_un (by omega), pk_us]
theorem gbA_8 {m : Nat → Int32} {p0 p1 T : Nat} : gbA m p0 p1 T 8 = zN (zN (m 8)) := by
  have hm := Nat.mod_lt T (show 0 < 10 by decide)
  unfold gbA
  rw [pk_un (by omega), pk_un (by omega), pk_un (by omega), pk_un (by omega), pk_us]
theorem gbA_16 {m : Nat → Int32} {p0 p1 T : Nat} : gbA m p0 p1 T 16 = feet0 m p0 := by
  have hm := Nat.mod_lt T (show 0 < 10 by decide)
  unfold gbA
  rw [pk_un (by omega), pk_un (by omega), pk_un (by omega), pk_un (by omega), pk_un (by omega), pk_us]
theorem gbA_21 {m : Nat → Int32} {p0 p1 T : Nat} : gbA m p0 p1 T 21 = m 21 - costM (pushesM m p1 1) := by
  have hm := Nat.mod_lt T (show 0 < 10 by decide)
  unfold gbA
  rw [pk_un (by omega), pk_un (by omega), pk_un (by omega), pk_un (by omega), pk_un (by omega), pk_un (by omega), pk_un (by omega), pk_un (by omega), pk_un (by omega), pk_us]
theorem gbA_20 {m : Nat → Int32} {p0 p1 T : Nat} : gbA m p0 p1 T 20 = m 20 - costM (pushesM m p0 0) := by
  have hm := Nat.mod_lt T (show 0 < 10 by decide)
  unfold gbA
  rw [pk_un (by omega), pk_un (by omega), pk_un (by omega), pk_un (by omega), pk_un (by omega), pk_un (by omega), pk_un (by omega), pk_un (by omega), pk_un (by omega), pk_un (by omega), pk_us]
theorem gbA_pt {m : Nat → Int32} {p0 p1 T : Nat} : ptF (gbA m p0 p1 T) = ptF m := by
  funext j
  unfold ptF
  by_cases h : j < 5
  · rw [if_pos h, if_pos h, gbA_keep (by omega)]
  · rw [if_neg h, if_neg h]
def GoP (g : GT) (h : Hp) (M pa wa ra fa sa T n : Nat) (R : (Nat → Int32) × Int32) (r : Option Value) (h2 : Hp) : Prop := ∃ (sg0 sv0 sg1 sv1 : Int32) (tr : Nat → Int32) (T2 : Nat), r = some (.int R.2) ∧ h2 = hU (hU (hU (hU h fa (ob 3 [.int (R.1 16), .int (R.1 18), .int (R.1 20), .int sg0, .int sv0])) sa (ob 3 [.int (R.1 17), .int (R.1 19), .int (R.1 21), .int sg1, .int sv1])) M (ob 0 [.ref pa, .ref wa, .ref ra, .ref fa, .ref sa, .int (R.1 5), .int (R.1 6), .int (R.1 8)])) ra (ai g 10 tr) ∧ R.1 6 = nI T2 ∧ T2 ≤ T + n ∧ RingOk R.1 T2 tr ∧ RB T2 tr
set_option maxHeartbeats 4000000 in
set_option maxRecDepth 100000 in
theorem ct_X0_go (ll : Launch) (g : GT) {h : Hp} {M pa wa ra fa sa : Nat} {m : Nat → Int32} {a b p0 p1 T n : Nat} {tr : Nat → Int32} {wf : Nat → Option Nat} {sg0 sv0 sg1 sv1 x : Int32} (hM : h M = some (ob 0 [.ref pa, .ref wa, .ref ra, .ref fa, .ref sa, .int (m 5), .int (m 6), .int (m 8)])) (ha : h a = some (ob 1 [.int ((told m p0) 0), .int ((told m p0) 1), .int ((told m p0) 2), .int ((told m p0) 3), .int ((told m p0) 4), .int ((told m p0) 5), .int ((told m p0) 6)])) (hb : h b = some (ob 1 [.int ((told m p1) 0), .int ((told m p1) 1), .int ((told m p1) 2), .int ((told m p1) 3), .int ((told m p1) 4), .int ((told m p1) 5), .int ((told m p1) 6)])) (hra : h ra = some (ai g 10 tr)) (hwa : h wa = some (ar g 4 6 wf)) (hpa : h pa = some (ai g 5 (ptF m))) (hfa : h fa = some (ob 3 [.int (m 16), .int (m 18), .int (m 20), .int sg0, .int sv0])) (hsa : h sa = some (ob 3 [.int (m 17), .int (m 19), .int (m 21), .int sg1, .int sv1])) (hfs : fa ≠ sa) (hk : TOk g h wf m p0 p1 T tr) (hx : x = nI n) (hTn : T + n ≤ 204800) : MC ll g yX0_go cX0_go 6 (some .int) { frames := 6, cells := 0, slots := 0, locals := 220 } [.ref M, .ref a, .ref b, .int x] h (fun r h2 => GoP g h M pa wa ra fa sa T n (runA m p0 p1 T n) r h2) 0 0 := by
  have n_a_fa : a ≠ fa := hneb ha hfa rfl
  have n_a_sa : a ≠ sa := hneb ha hsa rfl
  have n_a_M : a ≠ M := hneb ha hM rfl
  have n_a_ra : a ≠ ra := hneb ha hra rfl
  have n_b_fa : b ≠ fa := hneb hb hfa rfl
  have n_b_sa : b ≠ sa := hneb hb hsa rfl
  have n_b_M : b ≠ M := hneb hb hM rfl
  have n_b_ra : b ≠ ra := hneb hb hra rfl
  have n_pa_fa : pa ≠ fa := hneb hpa hfa rfl
  have n_pa_sa : pa ≠ sa := hneb hpa hsa rfl
  have n_pa_M : pa ≠ M := hneb hpa hM rfl
  have n_pa_ra : pa ≠ ra := hneb hpa hra rfl
  have n_wa_fa : wa ≠ fa := hneb hwa hfa rfl
  have n_wa_sa : wa ≠ sa := hneb hwa hsa rfl
  have n_wa_M : wa ≠ M := hneb hwa hM rfl
  have n_wa_ra : wa ≠ ra := hneb hwa hra rfl
  have n_fa_M : fa ≠ M := hneb hfa hM rfl
  have n_fa_ra : fa ≠ ra := hneb hfa hra rfl
  have n_sa_M : sa ≠ M := hneb hsa hM rfl
  have n_sa_ra : sa ≠ ra := hneb hsa hra rfl
  have n_M_ra : M ≠ ra := hneb hM hra rfl
  refine mc_of (by decide) (Nat.le_of_ble_eq_true rfl) ?_
  intro K X r
  refine v_eqv (lv2 := [(0, .ref M), (1, .ref a), (2, .ref b), (3, .int x)]) rfl ?_
  refine v_iconst X dX0_go_0 (v := 0) (by decide) ?_
  refine v_istore (lv1 := [(4, .int 0), (0, .ref M), (1, .ref a), (2, .ref b), (3, .int x)]) X dX0_go_1 (by decide) rfl ?_
  refine v_iconst X dX0_go_3 (v := 0) (by decide) ?_
  refine v_istore (lv1 := [(5, .int 0), (4, .int 0), (0, .ref M), (1, .ref a), (2, .ref b), (3, .int x)]) X dX0_go_4 (by decide) rfl ?_
  have L6 : ∀ (N : Nat) (q : Nat) (mm : Nat → Int32) (o : Int32) (tt : Nat → Int32) (s0 v0 s1 v1 : Int32), (q ≤ n) → (TOk g h wf mm p0 p1 (T + q) tt) → (told mm p0 = told m p0) → (told mm p1 = told m p1) → (ptF mm = ptF m) → (runA m p0 p1 T n = if o = 0 then runA mm p0 p1 (T + q) (n - q) else (mm, o)) → n - q < N → VJ K 0 0 (hU (hU (hU (hU h fa (ob 3 [.int (mm 16), .int (mm 18), .int (mm 20), .int s0, .int v0])) sa (ob 3 [.int (mm 17), .int (mm 19), .int (mm 21), .int s1, .int v1])) M (ob 0 [.ref pa, .ref wa, .ref ra, .ref fa, .ref sa, .int (mm 5), .int (mm 6), .int (mm 8)])) ra (ai g 10 tt)) 6 [(0, .ref M), (1, .ref a), (2, .ref b), (3, .int x), (4, .int o), (5, .int (nI q))] [] := by
    intro N
    induction N with
    | zero => intro q mm o tt s0 v0 s1 v1 _ _ _ _ _ _ hm; exact absurd hm (Nat.not_lt_zero _)
    | succ N ih6 =>
      intro q mm o tt s0 v0 s1 v1 hqn hk2 e0 e1 ep hq hm
      have ha2 : h a = some (ob 1 [.int ((told mm p0) 0), .int ((told mm p0) 1), .int ((told mm p0) 2), .int ((told mm p0) 3), .int ((told mm p0) 4), .int ((told mm p0) 5), .int ((told mm p0) 6)]) := by rw [e0]; exact ha
      have hb2 : h b = some (ob 1 [.int ((told mm p1) 0), .int ((told mm p1) 1), .int ((told mm p1) 2), .int ((told mm p1) 3), .int ((told mm p1) 4), .int ((told mm p1) 5), .int ((told mm p1) 6)]) := by rw [e1]; exact hb
      have hpa2 : h pa = some (ai g 5 (ptF mm)) := by rw [ep]; exact hpa
      refine v_iload X dX0_go_6 5 rfl ?_
      refine v_iload_n X dX0_go_8 3 rfl ?_
      refine v_icmp_ge X dX0_go_9 (tgt := 31) (by decide) (fun c1 => ?_) (fun c1 => ?_)
      · refine v_iload X dX0_go_31 4 rfl ?_
        have hRR : runA m p0 p1 T n = (mm, o) := runA_end hq ((nI_leI (by omega) (by omega)).mp (by rw [← hx]; exact c1))
        exact v_iret X r dX0_go_33 (Nat.le_refl _) (Nat.le_refl _) ⟨s0, v0, s1, v1, tt, T + q, by rw [hRR], by rw [hRR], by rw [hRR]; exact hk2.2.1, by omega, by rw [hRR]; exact hk2.1, hk2.2.2.1⟩
      · refine v_iload X dX0_go_12 4 rfl ?_
        refine v_if_ne X dX0_go_14 (tgt := 31) (by decide) (fun c2 => ?_) (fun c2 => ?_)
        · refine v_iload X dX0_go_31 4 rfl ?_
          have hRR : runA m p0 p1 T n = (mm, o) := hq.trans (if_neg c2)
          exact v_iret X r dX0_go_33 (Nat.le_refl _) (Nat.le_refl _) ⟨s0, v0, s1, v1, tt, T + q, by rw [hRR], by rw [hRR], by rw [hRR]; exact hk2.2.1, by omega, by rw [hRR]; exact hk2.1, hk2.2.2.1⟩
        · have hqlt : q < n := by
            rcases Nat.lt_or_ge q n with z | z
            · exact z
            · exact absurd (by rw [hx]; exact nI_le z (by omega)) c1
          have hk3 := hk2
          obtain ⟨hR, hT, hB, ⟨l0, hl0, el0⟩, ⟨l1, hl1, el1⟩, hw0, hw1, r0, r1, w0, w1, q10, q11, q12⟩ := hk3
          have hz : (0 : Int32) ≤ told mm p0 3 := Int32.le_trans (by decide) r0.1
          have hz1 : (0 : Int32) ≤ told mm p1 3 := Int32.le_trans (by decide) r1.1
          have h5 : iB (mm 5) (99 * (T + q : Nat)) := by rw [← hR.1]; exact hB _ (Nat.le_refl _) (by omega)
          have hms := (turn2_B (p0 := p0) (p1 := p1) h5 (by omega) r0 r1 w0 w1 q10 q11 q12).2
          refine v_aload_n X dX0_go_17 0 rfl ?_
          refine v_aload_n X dX0_go_18 1 rfl ?_
          refine v_aload_n X dX0_go_19 2 rfl ?_
          refine v_cVi X [.ref a, .ref b] sX0_55 (ct_X0_tick (m := mm) (p0 := p0) (p1 := p1) (T := T + q) ll g  ((hU_n n_M_ra).trans hU_s) ((hU_n n_a_ra).trans ((hU_n n_a_M).trans ((hU_n n_a_sa).trans ((hU_n n_a_fa).trans ha2)))) ((hU_n n_b_ra).trans ((hU_n n_b_M).trans ((hU_n n_b_sa).trans ((hU_n n_b_fa).trans hb2)))) hU_s ((hU_n n_wa_ra).trans ((hU_n n_wa_M).trans ((hU_n n_wa_sa).trans ((hU_n n_wa_fa).trans hwa)))) ((hU_n n_pa_ra).trans ((hU_n n_pa_M).trans ((hU_n n_pa_sa).trans ((hU_n n_pa_fa).trans hpa2)))) ((hU_n n_fa_ra).trans ((hU_n n_fa_M).trans ((hU_n hfs).trans hU_s))) ((hU_n n_sa_ra).trans ((hU_n n_sa_M).trans hU_s)) hfs hR hT (by omega) el0 hl0 el1 hl1 (HW_U (HW_U (HW_U (HW_U hw0 hfa rfl) ((hU_n (Ne.symm hfs)).trans hsa) rfl) ((hU_n (Ne.symm n_sa_M)).trans ((hU_n (Ne.symm n_fa_M)).trans hM)) rfl) ((hU_n (Ne.symm n_M_ra)).trans ((hU_n (Ne.symm n_sa_ra)).trans ((hU_n (Ne.symm n_fa_ra)).trans hra))) rfl) (HW_U (HW_U (HW_U (HW_U hw1 hfa rfl) ((hU_n (Ne.symm hfs)).trans hsa) rfl) ((hU_n (Ne.symm n_sa_M)).trans ((hU_n (Ne.symm n_fa_M)).trans hM)) rfl) ((hU_n (Ne.symm n_M_ra)).trans ((hU_n (Ne.symm n_sa_ra)).trans ((hU_n (Ne.symm n_fa_ra)).trans hra))) rfl) hz hz1 (iB_ne (sees_B hR hT (by omega) el0 hl0 hB) (by omega)) (iB_ne (sees_B hR hT (by omega) el1 hl1 hB) (by omega)) hms) ((hU_n n_M_ra).trans hU_s) rfl dX0_go_20 rfl rfl ⟨rfl, rfl⟩ ⟨(Nat.le_of_ble_eq_true rfl), (Nat.le_of_ble_eq_true rfl)⟩ ⟨Nat.zero_le _, Nat.zero_le _⟩ (Nat.le_of_ble_eq_true rfl) ?_
          refine v_eqh (h2 := (hU (hU (hU (hU h fa (ob 3 [.int (feet0 mm p0), .int (lean0 mm p0 p1), .int (mm 20 - costM (pshS mm p0 (mm 18) (mm 20))), .int (seesM mm p0), .int (pshS mm p0 (mm 18) (mm 20))])) sa (ob 3 [.int (feet1 mm p1), .int (lean1 mm p0 p1), .int (mm 21 - costM (pshS mm p1 (mm 19) (mm 21))), .int (seesM mm p1), .int (pshS mm p1 (mm 19) (mm 21))])) M (ob 0 [.ref pa, .ref wa, .ref ra, .ref fa, .ref sa, .int (turn2 mm p0 p1), .int (mm 6 + 1), .int (zN (zN (mm 8)))])) ra (ai g 10 (upd tt (((T + q) + 1) % 10) (turn2 mm p0 p1))))) (Eq.trans (Eq.trans (Eq.trans (congrArg (fun z => hU (hU (hU (z) sa (ob 3 [.int (feet1 mm p1), .int (lean1 mm p0 p1), .int (mm 21 - costM (pshS mm p1 (mm 19) (mm 21))), .int (seesM mm p1), .int (pshS mm p1 (mm 19) (mm 21))])) M (ob 0 [.ref pa, .ref wa, .ref ra, .ref fa, .ref sa, .int (turn2 mm p0 p1), .int (mm 6 + 1), .int (zN (zN (mm 8)))])) ra (ai g 10 (upd tt (((T + q) + 1) % 10) (turn2 mm p0 p1)))) (hU_u4 (Ne.symm hfs) (Ne.symm n_fa_M) (Ne.symm n_fa_ra))) (congrArg (fun z => hU (hU (z) M (ob 0 [.ref pa, .ref wa, .ref ra, .ref fa, .ref sa, .int (turn2 mm p0 p1), .int (mm 6 + 1), .int (zN (zN (mm 8)))])) ra (ai g 10 (upd tt (((T + q) + 1) % 10) (turn2 mm p0 p1)))) (hU_u3 (Ne.symm n_sa_M) (Ne.symm n_sa_ra)))) (congrArg (fun z => hU (z) ra (ai g 10 (upd tt (((T + q) + 1) % 10) (turn2 mm p0 p1)))) (hU_u2 (Ne.symm n_M_ra)))) hU_u) ?_
          refine v_istore (lv1 := [(4, .int (gbO mm p0 p1)), (0, .ref M), (1, .ref a), (2, .ref b), (3, .int x), (5, .int (nI q))]) X dX0_go_23 (by decide) rfl ?_
          refine v_iinc (v := (nI q) + 1) (lv1 := [(5, .int ((nI q) + 1)), (4, .int (gbO mm p0 p1)), (0, .ref M), (1, .ref a), (2, .ref b), (3, .int x)]) X dX0_go_25 5 rfl rfl (by decide) rfl ?_
          refine v_goto X dX0_go_28 (tgt := 6) (by decide) ?_
          refine v_lv (lv2 := [(0, .ref M), (1, .ref a), (2, .ref b), (3, .int x), (4, .int (gbO mm p0 p1)), (5, .int ((nI q) + 1))]) [2, 3, 4, 5, 1, 0] rfl ?_
          refine v_eqv (lv2 := [(0, .ref M), (1, .ref a), (2, .ref b), (3, .int x), (4, .int (gbO mm p0 p1)), (5, .int (nI (q + 1)))]) (by rw [nI_1]) ?_
          refine v_eqh (h2 := (hU (hU (hU (hU h fa (ob 3 [.int ((gbA mm p0 p1 (T + q)) 16), .int ((gbA mm p0 p1 (T + q)) 18), .int ((gbA mm p0 p1 (T + q)) 20), .int (seesM mm p0), .int (pshS mm p0 (mm 18) (mm 20))])) sa (ob 3 [.int ((gbA mm p0 p1 (T + q)) 17), .int ((gbA mm p0 p1 (T + q)) 19), .int ((gbA mm p0 p1 (T + q)) 21), .int (seesM mm p1), .int (pshS mm p1 (mm 19) (mm 21))])) M (ob 0 [.ref pa, .ref wa, .ref ra, .ref fa, .ref sa, .int ((gbA mm p0 p1 (T + q)) 5), .int ((gbA mm p0 p1 (T + q)) 6), .int ((gbA mm p0 p1 (T + q)) 8)])) ra (ai g 10 (upd tt ((T + q + 1) % 10) (turn2 mm p0 p1))))) (by rw [gbA_16, gbA_18, gbA_20, gbA_17, gbA_19, gbA_21, gbA_5, gbA_6, gbA_8, psh_es, psh_es]) ?_
          exact ih6 (q + 1) (gbA mm p0 p1 (T + q)) (gbO mm p0 p1) (upd tt ((T + q + 1) % 10) (turn2 mm p0 p1)) (seesM mm p0) (pshS mm p0 (mm 18) (mm 20)) (seesM mm p1) (pshS mm p1 (mm 19) (mm 21)) (by omega) (TOk_step hk2 (by omega)) ((funext fun _ => gbA_told).trans e0) ((funext fun _ => gbA_told).trans e1) (gbA_pt.trans ep) (runA_step hq c2 hqlt) (by omega)
  refine v_lv (lv2 := [(0, .ref M), (1, .ref a), (2, .ref b), (3, .int x), (4, .int 0), (5, .int 0)]) [2, 3, 4, 5, 1, 0] rfl ?_
  refine v_eqv (lv2 := [(0, .ref M), (1, .ref a), (2, .ref b), (3, .int x), (4, .int 0), (5, .int (nI 0))]) rfl ?_
  refine v_eqh (h2 := (hU (hU (hU (hU h fa (ob 3 [.int (m 16), .int (m 18), .int (m 20), .int sg0, .int sv0])) sa (ob 3 [.int (m 17), .int (m 19), .int (m 21), .int sg1, .int sv1])) M (ob 0 [.ref pa, .ref wa, .ref ra, .ref fa, .ref sa, .int (m 5), .int (m 6), .int (m 8)])) ra (ai g 10 tr))) (by rw [hU_id hfa, hU_id hsa, hU_id hM, hU_id hra]) ?_
  exact L6 _ 0 m 0 tr sg0 sv0 sg1 sv1 (Nat.zero_le _) hk rfl rfl rfl (if_pos rfl).symm (Nat.lt_succ_self _)
