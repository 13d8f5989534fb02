/-! ===== the class: tick ===== -/
theorem rl2_t (m : Nat → Int32) (p0 p1 : Nat) : rl2 m p0 p1 (pshS m p0 (m 18) (m 20)) (pshS m p1 (m 19) (m 21)) = turn2 m p0 p1 := rfl
theorem ft_0 (m : Nat → Int32) (p0 : Nat) : feetS (m 16) (seesM m p0) (told m p0 3) (zN (m 8)) (m 14) = feet0 m p0 := rfl
theorem ft_1 (m : Nat → Int32) (p1 : Nat) : feetS (m 17) (seesM m p1) (told m p1 3) (zN (zN (m 8))) (m 14) = feet1 m p1 := rfl
theorem xor_nn {x y : Int32} (hx : 0 ≤ x) (hy : 0 ≤ y) : 0 ≤ x ^^^ y := by
  have e : ∀ z : Int32, 0 ≤ z ↔ z.toBitVec.msb = false := by
    intro z
    rw [Int32.le_iff_toInt_le, BitVec.msb_eq_toInt]
    show (0 : Int) ≤ z.toBitVec.toInt ↔ _
    simp
  rw [e] at hx hy ⊢
  rw [Int32.toBitVec_xor, BitVec.msb_xor, hx, hy]; rfl
/-- a contract of a method whose class is not plainly named (Math), by its own name -/
theorem mc_ofF {l : Launch} {g : GT} {y : MethodName} {cc : ByteArray} {nL : Nat} {ret : Option FieldType} {rm : Room} {av : List Value} {h : Hp} {P : Option Value → Hp → Prop} {mc ms : Nat} (hy : plainFor y = true) (hlen : (lg_sl av).length ≤ nL)
    (body : ∀ K : KT, Cx K l g cc y.cls nL rm → Rt K ret P mc ms → VJ K 0 0 h 0 (lv_args 0 av) []) : MC l g y cc nL ret rm av h P mc ms := by
  intro sz
  refine MetFree.of_bodySF (code := cc) (maxLocals := nL) (ret := ret) hy (fun args s m hp hn => ?_) (fun p e s m args below meth c s₁ B hml hv _ => ?_)
  · obtain ⟨meth, c, q1, q2, q3, q4, q5, q6, -, -⟩ := Cond.code_spec hn (atoms_spec (ws := Cond.code y cc nL ret :: GW) hp _ List.mem_cons_self)
    exact ⟨meth, c, q1, q2, q3, q4, q5, q6⟩
  · obtain ⟨rfl, hsz, hP, hE⟩ := hv
    subst hsz
    have hts := atoms_spec (ws := Cond.code y cc nL ret :: GW) B.pre
    have hown : s.vm.findClass y.cls = some m.cls := findClass_of_methodNamed B.named
    have hb := body (p, l, e, rm, s, m, av.toArray, below, meth, c, MQ below (QFp g (dm h s.heap.size) P) av.toArray s mc ms (dm h s.heap.size), nL, g, dm h s.heap.size)
      ⟨B.exec, B.bytes, hml, hown, fun w hw => hts w (List.mem_cons_of_mem _ hw), hE, fun q hq => Or.inr hq, B.notSynchronized, rfl, rfl, rfl, rfl⟩ ⟨B.returns, rfl⟩
    have hl := lv_entry av (n := nL) hlen
    have hw : W p l e rm s m av.toArray below meth c s.heap [] 0 0 (MQ below (QFp g (dm h s.heap.size) P) av.toArray s mc ms (dm h s.heap.size)) (entryFrame m av.toArray nL) := by
      rw [lg_entry_eq]
      exact hb s.heap [] _ hP (fun a ha => Or.inl ha) va_S.rf hl
    obtain ⟨t, a1, o, b1, b2, b3⟩ := hw s₁ (by rw [B.state]; rfl) (Stand.of_body B)
    exact ⟨t, o, a1, b1, b2, ⟨b3.1, b3.2⟩⟩
set_option maxHeartbeats 4000000 in
set_option maxRecDepth 100000 in
theorem ct_J9_floorMod_7cf53 (ll : Launch) (g : GT) {h : Hp} {x : Int32} {N : Nat} (hx : x = nI N) (hN : N < 2 ^ 31) : MF ll g yJ9_floorMod_7cf53 cJ9_floorMod_7cf53 3 (some .int) (k2_rm 0 0) [.int x, .int 10] h (some (.int (x - x / 10 * 10))) h := by
  refine mc_ofF (by decide +kernel) (Nat.le_of_ble_eq_true rfl) ?_
  intro K X r
  refine v_eqv (lv2 := [(0, .int x), (1, .int 10)]) rfl ?_
  refine v_iload_n X dJ9_floorMod_7cf53_0 0 rfl ?_
  refine v_iload_n X dJ9_floorMod_7cf53_1 1 rfl ?_
  refine v_irem X dJ9_floorMod_7cf53_2 (by decide) ?_
  refine v_istore_n (lv1 := [(2, .int (x - x / 10 * 10)), (0, .int x), (1, .int 10)]) X dJ9_floorMod_7cf53_3 (by decide) rfl ?_
  refine v_iload_n X dJ9_floorMod_7cf53_4 1 rfl ?_
  refine v_iload_n X dJ9_floorMod_7cf53_5 2 rfl ?_
  refine v_ixor X dJ9_floorMod_7cf53_6 ?_
  refine v_if_ge X dJ9_floorMod_7cf53_7 (tgt := 18) (by decide) (fun c1 => ?_) (fun c1 => ?_)
  · refine v_iload_n X dJ9_floorMod_7cf53_18 0 rfl ?_
    exact v_iret X r dJ9_floorMod_7cf53_19 (Nat.le_refl _) (Nat.le_refl _) ⟨ri rfl, rfl⟩
  · exact absurd (xor_nn (show (0 : Int32) ≤ x by rw [hx]; exact nI_le (Nat.zero_le N) hN) (show (0 : Int32) ≤ 10 by decide)) c1
set_option maxHeartbeats 4000000 in
set_option maxRecDepth 100000 in
theorem ct_X0_tick (ll : Launch) (g : GT) {h : Hp} {M pa wa ra fa sa : Nat} {m : Nat → Int32} {a b p0 p1 T l0 l1 : Nat} {tr : Nat → Int32} {wf : Nat → Option Nat} {sg0 sv0 sg1 sv1 : Int32} (hM : h M = some (ob 0 [.ref pa, .ref wa, .ref ra, .ref fa, .ref sa, .int (m 5), .int (m 6), .int (m 8)])) (ha : h a = some (ob 1 [.int ((told m p0) 0), .int ((told m p0) 1), .int ((told m p0) 2), .int ((told m p0) 3), .int ((told m p0) 4), .int ((told m p0) 5), .int ((told m p0) 6)])) (hb : h b = some (ob 1 [.int ((told m p1) 0), .int ((told m p1) 1), .int ((told m p1) 2), .int ((told m p1) 3), .int ((told m p1) 4), .int ((told m p1) 5), .int ((told m p1) 6)])) (hra : h ra = some (ai g 10 tr)) (hwa : h wa = some (ar g 4 6 wf)) (hpa : h pa = some (ai g 5 (ptF m))) (hfa : h fa = some (ob 3 [.int (m 16), .int (m 18), .int (m 20), .int sg0, .int sv0])) (hsa : h sa = some (ob 3 [.int (m 17), .int (m 19), .int (m 21), .int sg1, .int sv1])) (hfs : fa ≠ sa) (hR : RingOk m T tr) (hT : m 6 = nI T) (hT2 : T + 1 < 2 ^ 30) (hl0 : told m p0 2 = nI l0) (hlg0 : l0 ≤ 9) (hl1 : told m p1 2 = nI l1) (hlg1 : l1 ≤ 9) (hw0 : HW g h wf m p0) (hw1 : HW g h wf m p1) (hre0 : 0 ≤ told m p0 3) (hre1 : 0 ≤ told m p1 3) (hs0 : ¬ seesM m p0 = -2147483648) (hs1 : ¬ seesM m p1 = -2147483648) (hm : 0 < m 10 * m 10 + told m p0 1 + told m p1 1) : MF ll g yX0_tick cX0_tick 5 (some .int) (k2_rm 5 180) [.ref M, .ref a, .ref b] h (some (.int (gbO m p0 p1))) (hU (hU (hU (hU h fa (ob 3 [.int (feet0 m p0), .int (lean0 m p0 p1), .int (m 20 - costM (pshS m p0 (m 18) (m 20))), .int (seesM m p0), .int (pshS m p0 (m 18) (m 20))])) sa (ob 3 [.int (feet1 m p1), .int (lean1 m p0 p1), .int (m 21 - costM (pshS m p1 (m 19) (m 21))), .int (seesM m p1), .int (pshS m p1 (m 19) (m 21))])) M (ob 0 [.ref pa, .ref wa, .ref ra, .ref fa, .ref sa, .int (turn2 m p0 p1), .int (m 6 + 1), .int (zN (zN (m 8)))])) ra (ai g 10 (upd tr ((T + 1) % 10) (turn2 m p0 p1)))) := by
  have ne_1 : M ≠ fa := hneb hM hfa rfl
  have ne_2 : b ≠ fa := hneb hb hfa rfl
  have ne_3 : ra ≠ fa := hneb hra hfa rfl
  have ne_4 : wa ≠ fa := hneb hwa hfa rfl
  have ne_5 : M ≠ sa := hneb hM hsa rfl
  have ne_6 : pa ≠ fa := hneb hpa hfa rfl
  have ne_7 : pa ≠ sa := hneb hpa hsa rfl
  have ne_8 : a ≠ fa := hneb ha hfa rfl
  have ne_9 : a ≠ sa := hneb ha hsa rfl
  have ne_10 : b ≠ sa := hneb hb hsa rfl
  have ne_11 : pa ≠ M := hneb hpa hM rfl
  have ne_12 : a ≠ M := hneb ha hM rfl
  have ne_13 : b ≠ M := hneb hb hM rfl
  have ne_14 : ra ≠ sa := hneb hra hsa rfl
  have ne_15 : ra ≠ M := hneb hra hM rfl
  have ne_16 : pa ≠ ra := hneb hpa hra rfl
  refine mc_of (by decide) (Nat.le_of_ble_eq_true rfl) ?_
  intro K X r
  refine v_eqv (lv2 := [(0, .ref M), (1, .ref a), (2, .ref b)]) rfl ?_
  refine v_aload_n X dX0_tick_0 0 rfl ?_
  refine v_get X fX0_18 hM rfl dX0_tick_1 ?_
  refine v_aload_n X dX0_tick_4 0 rfl ?_
  refine v_aload_n X dX0_tick_5 1 rfl ?_
  refine v_cVi X [.ref a] sX0_59 (ct_X0_seenBy ll g  hM ha hra hR hT (by omega) hl0 hlg0) hM rfl dX0_tick_6 rfl rfl ⟨rfl, rfl⟩ ⟨(Nat.le_of_ble_eq_true rfl), (Nat.le_of_ble_eq_true rfl)⟩ ⟨Nat.zero_le _, Nat.zero_le _⟩ (Nat.le_of_ble_eq_true rfl) ?_
  refine v_aload_n X dX0_tick_9 0 rfl ?_
  refine v_aload_n X dX0_tick_10 1 rfl ?_
  refine v_aload_n X dX0_tick_11 0 rfl ?_
  refine v_get X fX0_18 hM rfl dX0_tick_12 ?_
  refine v_cVi X [.ref a, .ref fa] sX0_63 (ct_X0_nextShove ll g  hM ha hra hwa hfa hR hT (by omega) hl0 hlg0 hw0 hre0 hs0) hM rfl dX0_tick_15 rfl rfl ⟨rfl, rfl⟩ ⟨(Nat.le_of_ble_eq_true rfl), (Nat.le_of_ble_eq_true rfl)⟩ ⟨Nat.zero_le _, Nat.zero_le _⟩ (Nat.le_of_ble_eq_true rfl) ?_
  refine v_cVv X [.int (seesM m p0), .int (pshS m p0 (m 18) (m 20))] sX0_67 (ct_X3_decide ll g (seesM m p0) (pshS m p0 (m 18) (m 20)) hfa) hfa rfl dX0_tick_18 rfl rfl ⟨rfl, rfl⟩ ⟨(Nat.le_of_ble_eq_true rfl), (Nat.le_of_ble_eq_true rfl)⟩ ⟨Nat.zero_le _, Nat.zero_le _⟩ (Nat.le_of_ble_eq_true rfl) ?_
  refine v_aload_n X dX0_tick_21 0 rfl ?_
  refine v_get X fX0_22 ((hU_n ne_1).trans hM) rfl dX0_tick_22 ?_
  refine v_aload_n X dX0_tick_25 0 rfl ?_
  refine v_aload_n X dX0_tick_26 2 rfl ?_
  refine v_cVi X [.ref b] sX0_59 (ct_X0_seenBy ll g  ((hU_n ne_1).trans hM) ((hU_n ne_2).trans hb) ((hU_n ne_3).trans hra) hR hT (by omega) hl1 hlg1) ((hU_n ne_1).trans hM) rfl dX0_tick_27 rfl rfl ⟨rfl, rfl⟩ ⟨(Nat.le_of_ble_eq_true rfl), (Nat.le_of_ble_eq_true rfl)⟩ ⟨Nat.zero_le _, Nat.zero_le _⟩ (Nat.le_of_ble_eq_true rfl) ?_
  refine v_aload_n X dX0_tick_30 0 rfl ?_
  refine v_aload_n X dX0_tick_31 2 rfl ?_
  refine v_aload_n X dX0_tick_32 0 rfl ?_
  refine v_get X fX0_22 ((hU_n ne_1).trans hM) rfl dX0_tick_33 ?_
  refine v_cVi X [.ref b, .ref sa] sX0_63 (ct_X0_nextShove ll g  ((hU_n ne_1).trans hM) ((hU_n ne_2).trans hb) ((hU_n ne_3).trans hra) ((hU_n ne_4).trans hwa) ((hU_n (Ne.symm hfs)).trans hsa) hR hT (by omega) hl1 hlg1 (HW_U hw1 hfa rfl) hre1 hs1) ((hU_n ne_1).trans hM) rfl dX0_tick_36 rfl rfl ⟨rfl, rfl⟩ ⟨(Nat.le_of_ble_eq_true rfl), (Nat.le_of_ble_eq_true rfl)⟩ ⟨Nat.zero_le _, Nat.zero_le _⟩ (Nat.le_of_ble_eq_true rfl) ?_
  refine v_cVv X [.int (seesM m p1), .int (pshS m p1 (m 19) (m 21))] sX0_67 (ct_X3_decide ll g (seesM m p1) (pshS m p1 (m 19) (m 21)) ((hU_n (Ne.symm hfs)).trans hsa)) ((hU_n (Ne.symm hfs)).trans hsa) rfl dX0_tick_39 rfl rfl ⟨rfl, rfl⟩ ⟨(Nat.le_of_ble_eq_true rfl), (Nat.le_of_ble_eq_true rfl)⟩ ⟨Nat.zero_le _, Nat.zero_le _⟩ (Nat.le_of_ble_eq_true rfl) ?_
  refine v_aload_n X dX0_tick_42 0 rfl ?_
  refine v_aload_n X dX0_tick_43 1 rfl ?_
  refine v_aload_n X dX0_tick_44 2 rfl ?_
  refine v_cVv X [.ref a, .ref b] sX0_71 (ct_X0_roll ll g  ((hU_n ne_5).trans ((hU_n ne_1).trans hM)) ((hU_n ne_7).trans ((hU_n ne_6).trans hpa)) ((hU_n ne_9).trans ((hU_n ne_8).trans ha)) ((hU_n ne_10).trans ((hU_n ne_2).trans hb)) ((hU_n hfs).trans hU_s) hU_s hm) ((hU_n ne_5).trans ((hU_n ne_1).trans hM)) rfl dX0_tick_45 rfl rfl ⟨rfl, rfl⟩ ⟨(Nat.le_of_ble_eq_true rfl), (Nat.le_of_ble_eq_true rfl)⟩ ⟨Nat.zero_le _, Nat.zero_le _⟩ (Nat.le_of_ble_eq_true rfl) ?_
  refine v_aload_n X dX0_tick_48 0 rfl ?_
  refine v_aload_n X dX0_tick_49 1 rfl ?_
  refine v_aload_n X dX0_tick_50 0 rfl ?_
  refine v_get X fX0_18 hU_s rfl dX0_tick_51 ?_
  refine v_cVv X [.ref a, .ref fa] sX0_75 (ct_X0_stepUnlessSlipping ll g  hU_s ((hU_n ne_11).trans ((hU_n ne_7).trans ((hU_n ne_6).trans hpa))) ((hU_n ne_12).trans ((hU_n ne_9).trans ((hU_n ne_8).trans ha))) ((hU_n (Ne.symm ne_1)).trans ((hU_n hfs).trans hU_s)) hre0) hU_s rfl dX0_tick_54 rfl rfl ⟨rfl, rfl⟩ ⟨(Nat.le_of_ble_eq_true rfl), (Nat.le_of_ble_eq_true rfl)⟩ ⟨Nat.zero_le _, Nat.zero_le _⟩ (Nat.le_of_ble_eq_true rfl) ?_
  refine v_eqh (h2 := (hU (hU (hU h fa (ob 3 [.int (feetS (m 16) (seesM m p0) (told m p0 3) (zN (m 8)) (m 14)), .int (m 18), .int ((m 20) - costS (pshS m p0 (m 18) (m 20))), .int (seesM m p0), .int (pshS m p0 (m 18) (m 20))])) sa (ob 3 [.int (m 17), .int (m 19), .int ((m 21) - costS (pshS m p1 (m 19) (m 21))), .int (seesM m p1), .int (pshS m p1 (m 19) (m 21))])) M (ob 0 [.ref pa, .ref wa, .ref ra, .ref fa, .ref sa, .int (rl2 m p0 p1 (pshS m p0 (m 18) (m 20)) (pshS m p1 (m 19) (m 21))), .int (m 6), .int (zN (m 8))]))) (Eq.trans (congrArg (fun z => hU (z) fa (ob 3 [.int (feetS (m 16) (seesM m p0) (told m p0 3) (zN (m 8)) (m 14)), .int (m 18), .int ((m 20) - costS (pshS m p0 (m 18) (m 20))), .int (seesM m p0), .int (pshS m p0 (m 18) (m 20))])) hU_u) (hU_u3 (Ne.symm hfs) ne_1)) ?_
  refine v_aload_n X dX0_tick_57 0 rfl ?_
  refine v_aload_n X dX0_tick_58 2 rfl ?_
  refine v_aload_n X dX0_tick_59 0 rfl ?_
  refine v_get X fX0_22 hU_s rfl dX0_tick_60 ?_
  refine v_cVv X [.ref b, .ref sa] sX0_75 (ct_X0_stepUnlessSlipping ll g  hU_s ((hU_n ne_11).trans ((hU_n ne_7).trans ((hU_n ne_6).trans hpa))) ((hU_n ne_13).trans ((hU_n ne_10).trans ((hU_n ne_2).trans hb))) ((hU_n (Ne.symm ne_5)).trans hU_s) hre1) hU_s rfl dX0_tick_63 rfl rfl ⟨rfl, rfl⟩ ⟨(Nat.le_of_ble_eq_true rfl), (Nat.le_of_ble_eq_true rfl)⟩ ⟨Nat.zero_le _, Nat.zero_le _⟩ (Nat.le_of_ble_eq_true rfl) ?_
  refine v_eqh (h2 := (hU (hU (hU h fa (ob 3 [.int (feetS (m 16) (seesM m p0) (told m p0 3) (zN (m 8)) (m 14)), .int (m 18), .int ((m 20) - costS (pshS m p0 (m 18) (m 20))), .int (seesM m p0), .int (pshS m p0 (m 18) (m 20))])) sa (ob 3 [.int (feetS (m 17) (seesM m p1) (told m p1 3) (zN (zN (m 8))) (m 14)), .int (m 19), .int ((m 21) - costS (pshS m p1 (m 19) (m 21))), .int (seesM m p1), .int (pshS m p1 (m 19) (m 21))])) M (ob 0 [.ref pa, .ref wa, .ref ra, .ref fa, .ref sa, .int (rl2 m p0 p1 (pshS m p0 (m 18) (m 20)) (pshS m p1 (m 19) (m 21))), .int (m 6), .int (zN (zN (m 8)))]))) (Eq.trans (congrArg (fun z => hU (z) sa (ob 3 [.int (feetS (m 17) (seesM m p1) (told m p1 3) (zN (zN (m 8))) (m 14)), .int (m 19), .int ((m 21) - costS (pshS m p1 (m 19) (m 21))), .int (seesM m p1), .int (pshS m p1 (m 19) (m 21))])) hU_u) (hU_u2 ne_5)) ?_
  refine v_eqh (h2 := (hU (hU (hU h fa (ob 3 [.int (feet0 m p0), .int (m 18), .int (m 20 - costM (pshS m p0 (m 18) (m 20))), .int (seesM m p0), .int (pshS m p0 (m 18) (m 20))])) sa (ob 3 [.int (feet1 m p1), .int (m 19), .int (m 21 - costM (pshS m p1 (m 19) (m 21))), .int (seesM m p1), .int (pshS m p1 (m 19) (m 21))])) M (ob 0 [.ref pa, .ref wa, .ref ra, .ref fa, .ref sa, .int (turn2 m p0 p1), .int (m 6), .int (zN (zN (m 8)))]))) (by rw [rl2_t, ft_0, ft_1, cost_M, cost_M]) ?_
  refine v_aload_n X dX0_tick_66 0 rfl ?_
  refine v_get X fX0_18 hU_s rfl dX0_tick_67 ?_
  refine v_aload_n X dX0_tick_70 0 rfl ?_
  refine v_get X fX0_25 hU_s rfl dX0_tick_71 ?_
  refine v_cVv X [.int (turn2 m p0 p1)] sX0_79 (ct_X3_sway ll g (turn2 m p0 p1) ((hU_n (Ne.symm ne_1)).trans ((hU_n hfs).trans hU_s))) ((hU_n (Ne.symm ne_1)).trans ((hU_n hfs).trans hU_s)) rfl dX0_tick_74 rfl rfl ⟨rfl, rfl⟩ ⟨(Nat.le_of_ble_eq_true rfl), (Nat.le_of_ble_eq_true rfl)⟩ ⟨Nat.zero_le _, Nat.zero_le _⟩ (Nat.le_of_ble_eq_true rfl) ?_
  refine v_eqh (h2 := (hU (hU (hU h fa (ob 3 [.int (feet0 m p0), .int (swayS (m 18) (turn2 m p0 p1) (feet0 m p0)), .int (m 20 - costM (pshS m p0 (m 18) (m 20))), .int (seesM m p0), .int (pshS m p0 (m 18) (m 20))])) sa (ob 3 [.int (feet1 m p1), .int (m 19), .int (m 21 - costM (pshS m p1 (m 19) (m 21))), .int (seesM m p1), .int (pshS m p1 (m 19) (m 21))])) M (ob 0 [.ref pa, .ref wa, .ref ra, .ref fa, .ref sa, .int (turn2 m p0 p1), .int (m 6), .int (zN (zN (m 8)))]))) (hU_u3 (Ne.symm hfs) ne_1) ?_
  refine v_aload_n X dX0_tick_77 0 rfl ?_
  refine v_get X fX0_22 hU_s rfl dX0_tick_78 ?_
  refine v_aload_n X dX0_tick_81 0 rfl ?_
  refine v_get X fX0_25 hU_s rfl dX0_tick_82 ?_
  refine v_cVv X [.int (turn2 m p0 p1)] sX0_79 (ct_X3_sway ll g (turn2 m p0 p1) ((hU_n (Ne.symm ne_5)).trans hU_s)) ((hU_n (Ne.symm ne_5)).trans hU_s) rfl dX0_tick_85 rfl rfl ⟨rfl, rfl⟩ ⟨(Nat.le_of_ble_eq_true rfl), (Nat.le_of_ble_eq_true rfl)⟩ ⟨Nat.zero_le _, Nat.zero_le _⟩ (Nat.le_of_ble_eq_true rfl) ?_
  refine v_eqh (h2 := (hU (hU (hU h fa (ob 3 [.int (feet0 m p0), .int (swayS (m 18) (turn2 m p0 p1) (feet0 m p0)), .int (m 20 - costM (pshS m p0 (m 18) (m 20))), .int (seesM m p0), .int (pshS m p0 (m 18) (m 20))])) sa (ob 3 [.int (feet1 m p1), .int (swayS (m 19) (turn2 m p0 p1) (feet1 m p1)), .int (m 21 - costM (pshS m p1 (m 19) (m 21))), .int (seesM m p1), .int (pshS m p1 (m 19) (m 21))])) M (ob 0 [.ref pa, .ref wa, .ref ra, .ref fa, .ref sa, .int (turn2 m p0 p1), .int (m 6), .int (zN (zN (m 8)))]))) (hU_u2 ne_5) ?_
  refine v_eqh (h2 := (hU (hU (hU h fa (ob 3 [.int (feet0 m p0), .int (lean0 m p0 p1), .int (m 20 - costM (pshS m p0 (m 18) (m 20))), .int (seesM m p0), .int (pshS m p0 (m 18) (m 20))])) sa (ob 3 [.int (feet1 m p1), .int (lean1 m p0 p1), .int (m 21 - costM (pshS m p1 (m 19) (m 21))), .int (seesM m p1), .int (pshS m p1 (m 19) (m 21))])) M (ob 0 [.ref pa, .ref wa, .ref ra, .ref fa, .ref sa, .int (turn2 m p0 p1), .int (m 6), .int (zN (zN (m 8)))]))) rfl ?_
  refine v_aload_n X dX0_tick_88 0 rfl ?_
  refine v_dup X dX0_tick_89 rfl ?_
  refine v_get X fX0_29 hU_s rfl dX0_tick_90 ?_
  refine v_iconst X dX0_tick_93 (v := 1) (by decide) ?_
  refine v_iadd X dX0_tick_94 ?_
  refine v_putE (h2 := (hU (hU (hU h fa (ob 3 [.int (feet0 m p0), .int (lean0 m p0 p1), .int (m 20 - costM (pshS m p0 (m 18) (m 20))), .int (seesM m p0), .int (pshS m p0 (m 18) (m 20))])) sa (ob 3 [.int (feet1 m p1), .int (lean1 m p0 p1), .int (m 21 - costM (pshS m p1 (m 19) (m 21))), .int (seesM m p1), .int (pshS m p1 (m 19) (m 21))])) M (ob 0 [.ref pa, .ref wa, .ref ra, .ref fa, .ref sa, .int (turn2 m p0 p1), .int ((m 6) + 1), .int (zN (zN (m 8)))]))) X fX0_29 tyX0_ok nmX0 rfl pd_I hU_s rfl rfl (ltb rfl) dX0_tick_95 hU_u ?_
  refine v_aload_n X dX0_tick_98 0 rfl ?_
  refine v_get X fX0_11 hU_s rfl dX0_tick_99 ?_
  refine v_aload_n X dX0_tick_102 0 rfl ?_
  refine v_get X fX0_29 hU_s rfl dX0_tick_103 ?_
  refine v_bipush X dX0_tick_106 (v := 10) (by decide) ?_
  refine v_cSi X [.int ((m 6) + 1), .int 10] sX0_82 (ct_J9_floorMod_7cf53 (x := (m 6) + 1) (N := T + 1) ll g (ix_add hT (rfl : (1 : Int32) = nI 1)) (by omega)) dX0_tick_108 rfl rfl ⟨rfl, rfl⟩ ⟨(Nat.le_of_ble_eq_true rfl), (Nat.le_of_ble_eq_true rfl)⟩ ⟨Nat.zero_le _, Nat.zero_le _⟩ (Nat.le_of_ble_eq_true rfl) ?_
  refine v_aload_n X dX0_tick_111 0 rfl ?_
  refine v_get X fX0_25 hU_s rfl dX0_tick_112 ?_
  refine v_iastK (h2 := (hU (hU (hU (hU h fa (ob 3 [.int (feet0 m p0), .int (lean0 m p0 p1), .int (m 20 - costM (pshS m p0 (m 18) (m 20))), .int (seesM m p0), .int (pshS m p0 (m 18) (m 20))])) sa (ob 3 [.int (feet1 m p1), .int (lean1 m p0 p1), .int (m 21 - costM (pshS m p1 (m 19) (m 21))), .int (seesM m p1), .int (pshS m p1 (m 19) (m 21))])) M (ob 0 [.ref pa, .ref wa, .ref ra, .ref fa, .ref sa, .int (turn2 m p0 p1), .int ((m 6) + 1), .int (zN (zN (m 8)))])) ra (ai g 10 (upd tr ((T + 1) % 10) (turn2 m p0 p1))))) X ((T + 1) % 10) ((hU_n ne_15).trans ((hU_n ne_14).trans ((hU_n ne_3).trans hra))) (ix_rem (ix_add hT (rfl : (1 : Int32) = nI 1)) (rfl : (10 : Int32) = nI 10) (by omega) (by decide) (by decide)) (Nat.mod_lt _ (by decide)) (by decide) dX0_tick_115 rfl ?_
  refine v_aload_n X dX0_tick_116 0 rfl ?_
  refine v_get X fX0_18 ((hU_n (Ne.symm ne_15)).trans hU_s) rfl dX0_tick_117 ?_
  refine v_get X fX0_88 ((hU_n (Ne.symm ne_3)).trans ((hU_n (Ne.symm ne_1)).trans ((hU_n hfs).trans hU_s))) rfl dX0_tick_120 ?_
  refine v_mabs X sX0_91 (Nat.le_of_ble_eq_true rfl) (Nat.le_of_ble_eq_true rfl) (Nat.zero_le _) (Nat.zero_le _) dX0_tick_123 ?_
  refine v_aload_n X dX0_tick_126 0 rfl ?_
  refine v_get X fX0_35 ((hU_n (Ne.symm ne_15)).trans hU_s) rfl dX0_tick_127 ?_
  refine v_iconst X dX0_tick_130 (v := 3) (by decide) ?_
  refine v_ialdK X 3 ((hU_n ne_16).trans ((hU_n ne_11).trans ((hU_n ne_7).trans ((hU_n ne_6).trans hpa)))) (rfl : (3 : Int32) = nI 3) (by decide) (by decide) dX0_tick_131 ?_
  have J1 : VJ K 0 0 (hU (hU (hU (hU h fa (ob 3 [.int (feet0 m p0), .int (lean0 m p0 p1), .int (m 20 - costM (pshS m p0 (m 18) (m 20))), .int (seesM m p0), .int (pshS m p0 (m 18) (m 20))])) sa (ob 3 [.int (feet1 m p1), .int (lean1 m p0 p1), .int (m 21 - costM (pshS m p1 (m 19) (m 21))), .int (seesM m p1), .int (pshS m p1 (m 19) (m 21))])) M (ob 0 [.ref pa, .ref wa, .ref ra, .ref fa, .ref sa, .int (turn2 m p0 p1), .int ((m 6) + 1), .int (zN (zN (m 8)))])) ra (ai g 10 (upd tr ((T + 1) % 10) (turn2 m p0 p1)))) 140 [(0, .ref M), (1, .ref a), (2, .ref b)] [.int (bI (m 13 < szS (lean0 m p0 p1)))] := by
    refine v_istore_n (lv1 := [(3, .int (bI (m 13 < szS (lean0 m p0 p1)))), (0, .ref M), (1, .ref a), (2, .ref b)]) X dX0_tick_140 (by decide) rfl ?_
    refine v_aload_n X dX0_tick_141 1 rfl ?_
    refine v_get X fX0_22 ((hU_n (Ne.symm ne_15)).trans hU_s) rfl dX0_tick_142 ?_
    refine v_get X fX0_88 ((hU_n (Ne.symm ne_14)).trans ((hU_n (Ne.symm ne_5)).trans hU_s)) rfl dX0_tick_145 ?_
    refine v_mabs X sX0_91 (Nat.le_of_ble_eq_true rfl) (Nat.le_of_ble_eq_true rfl) (Nat.zero_le _) (Nat.zero_le _) dX0_tick_148 ?_
    refine v_aload_n X dX0_tick_151 1 rfl ?_
    refine v_get X fX0_35 ((hU_n (Ne.symm ne_15)).trans hU_s) rfl dX0_tick_152 ?_
    refine v_iconst X dX0_tick_155 (v := 3) (by decide) ?_
    refine v_ialdK X 3 ((hU_n ne_16).trans ((hU_n ne_11).trans ((hU_n ne_7).trans ((hU_n ne_6).trans hpa)))) (rfl : (3 : Int32) = nI 3) (by decide) (by decide) dX0_tick_156 ?_
    have J2 : VJ K 0 0 (hU (hU (hU (hU h fa (ob 3 [.int (feet0 m p0), .int (lean0 m p0 p1), .int (m 20 - costM (pshS m p0 (m 18) (m 20))), .int (seesM m p0), .int (pshS m p0 (m 18) (m 20))])) sa (ob 3 [.int (feet1 m p1), .int (lean1 m p0 p1), .int (m 21 - costM (pshS m p1 (m 19) (m 21))), .int (seesM m p1), .int (pshS m p1 (m 19) (m 21))])) M (ob 0 [.ref pa, .ref wa, .ref ra, .ref fa, .ref sa, .int (turn2 m p0 p1), .int ((m 6) + 1), .int (zN (zN (m 8)))])) ra (ai g 10 (upd tr ((T + 1) % 10) (turn2 m p0 p1)))) 165 [(3, .int (bI (m 13 < szS (lean0 m p0 p1)))), (0, .ref M), (1, .ref a), (2, .ref b)] [.int (if m 13 < szS (lean1 m p0 p1) then 2 else 0)] := by
      refine v_istore (lv1 := [(4, .int (if m 13 < szS (lean1 m p0 p1) then 2 else 0)), (3, .int (bI (m 13 < szS (lean0 m p0 p1)))), (0, .ref M), (1, .ref a), (2, .ref b)]) X dX0_tick_165 (by decide) rfl ?_
      refine v_iload_n X dX0_tick_167 1 rfl ?_
      refine v_iload X dX0_tick_168 0 rfl ?_
      refine v_iadd X dX0_tick_170 ?_
      exact v_iret X r dX0_tick_171 (Nat.le_refl _) (Nat.le_refl _) ⟨ri rfl, rfl⟩
    refine v_icmp_le X dX0_tick_157 (tgt := 164) (by decide) (fun c1 => ?_) (fun c1 => ?_)
    · refine v_iconst X dX0_tick_164 (v := 0) (by decide) ?_
      exact v_eqi (if_neg (fun z => absurd (show m 13 < iabs (lean1 m p0 p1) by rw [iabs_sz]; exact z) (Int32.not_lt.mpr c1))).symm J2
    · refine v_iconst X dX0_tick_160 (v := 2) (by decide) ?_
      refine v_goto X dX0_tick_161 (tgt := 165) (by decide) ?_
      exact v_eqi (if_pos (show m 13 < szS (lean1 m p0 p1) by rw [← iabs_sz]; exact Int32.not_le.mp c1)).symm J2
  refine v_icmp_le X dX0_tick_132 (tgt := 139) (by decide) (fun c2 => ?_) (fun c2 => ?_)
  · refine v_iconst X dX0_tick_139 (v := 0) (by decide) ?_
    exact v_eqi (bI_f (fun z => absurd (show m 13 < iabs (lean0 m p0 p1) by rw [iabs_sz]; exact z) (Int32.not_lt.mpr c2))).symm J1
  · refine v_iconst X dX0_tick_135 (v := 1) (by decide) ?_
    refine v_goto X dX0_tick_136 (tgt := 140) (by decide) ?_
    exact v_eqi (bI_t (show m 13 < szS (lean0 m p0 p1) by rw [← iabs_sz]; exact Int32.not_le.mp c2)).symm J1
