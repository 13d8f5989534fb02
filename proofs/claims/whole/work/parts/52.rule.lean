/-! ===== the class: one rule ===== -/
abbrev rkOk (f : Nat → Int32) (n e : Nat) : Prop := ¬ nameAt f n e < 0 ∧ rdP1 f n e ∧ rdP2 f n e
def rkA (f : Nat → Int32) (n e : Nat) : Nat := if nameAt f n e < 0 then e else if rdP1 f n e then (if rdP2 f n e then lkE f n (rdA3 f n e) else rdA3 f n e) else rdA2 f n e
def rkF (P : Prop) [Decidable P] (f : Nat → Int32) (c : Nat) (x : Int32) : Nat → Int32 := if P then upd f c x else f
def rkC (P : Prop) [Decidable P] (c : Nat) : Nat := if P then c + 1 else c
theorem name4 {f : Nat → Int32} {n e : Nat} : nameAt f n e = 4 ↔ 4 ≤ nameAt f n e := by
  unfold nameAt
  by_cases h0 : wdAt f n e 0
  · rw [if_pos h0]; decide
  · rw [if_neg h0]
    by_cases h1 : wdAt f n e 1
    · rw [if_pos h1]; decide
    · rw [if_neg h1]
      by_cases h2 : wdAt f n e 2
      · rw [if_pos h2]; decide
      · rw [if_neg h2]
        by_cases h3 : wdAt f n e 3
        · rw [if_pos h3]; decide
        · rw [if_neg h3]
          by_cases h4 : wdAt f n e 4
          · rw [if_pos h4]; decide
          · rw [if_neg h4]; decide
theorem rkA_le {f : Nat → Int32} {n e : Nat} (h : e ≤ n) : rkA f n e ≤ n := by
  unfold rkA
  by_cases h1 : nameAt f n e < 0
  · rw [if_pos h1]; exact h
  · rw [if_neg h1]
    by_cases h2 : rdP1 f n e
    · rw [if_pos h2]
      by_cases h3 : rdP2 f n e
      · rw [if_pos h3]; exact lkE_le (lkE_le (rdA2_le h))
      · rw [if_neg h3]; exact lkE_le (rdA2_le h)
    · rw [if_neg h2]; exact rdA2_le h
theorem rkA_d {f : Nat → Int32} {n e : Nat} {d : Nat → Int32} {w : Nat} (hd : ¬ 6 ≤ d w) : rdA f n e d w = rkA f n e := by
  unfold rdA rkA
  by_cases h1 : nameAt f n e < 0
  · rw [if_neg (fun q => q.1 h1), if_pos h1]
  · rw [if_pos ⟨h1, hd⟩, if_neg h1]
theorem rkOk_d {f : Nat → Int32} {n e : Nat} {d : Nat → Int32} {w : Nat} (hd : ¬ 6 ≤ d w) : rdOk f n e d w ↔ rkOk f n e := ⟨fun q => ⟨q.1.1, q.2⟩, fun q => ⟨⟨q.1, hd⟩, q.2⟩⟩
set_option maxHeartbeats 4000000 in
set_option maxRecDepth 100000 in
theorem ct_X4_takeRule (ll : Launch) (g : GT) {h : Hp} {a by_ n e w c n1 n2 n3 n4 : Nat} {f f1 f2 f3 f4 : Nat → Int32} {vl : Int32} (ha : h a = some (ob 4 [.ref by_, .int (nI n), .int (nI (lkJ f n e)), .int (nI (lkE f n e)), .int (tkC f n e), .int vl])) (hb : h by_ = some (ai g 100 f)) (hw : h w = some (ob 5 [.int (nI c), .ref n1, .ref n2, .ref n3, .ref n4])) (h1 : h n1 = some (ai g 6 f1)) (h2 : h n2 = some (ai g 6 f2)) (h3 : h n3 = some (ai g 6 f3)) (h4 : h n4 = some (ai g 6 f4)) (hc : c < 6) (hen : e ≤ n) (hn : n ≤ 100) (n12 : n1 ≠ n2) (n13 : n1 ≠ n3) (n14 : n1 ≠ n4) (n23 : n2 ≠ n3) (n24 : n2 ≠ n4) (n34 : n3 ≠ n4) : MC ll g yX4_takeRule cX4_takeRule 6 (some .boolean) { frames := 6, cells := 0, slots := 0, locals := 240 } [.ref a, .ref w] h (fun r h2 => ∃ (v2 bd : Int32), (rkOk f n e → ¬ 4 ≤ nameAt f n e → bd = c2V f n (lkE f n e)) ∧ r = some (.int (bI (rkOk f n e))) ∧ h2 = (hU (hU (hU (hU (hU (hU h a (ob 4 [.ref by_, .int (nI n), .int (nI (lkJ f n (rkA f n e))), .int (nI (lkE f n (rkA f n e))), .int (tkC f n (rkA f n e)), .int v2])) n1 (ai g 6 (rkF (rkOk f n e) f1 c (nameAt f n e)))) n2 (ai g 6 (rkF (rkOk f n e) f2 c (tkC f n (lkE f n e))))) n3 (ai g 6 (rkF (rkOk f n e) f3 c bd))) n4 (ai g 6 (rkF (rkOk f n e) f4 c (deedAt f n (rdA3 f n e))))) w (ob 5 [.int (nI (rkC (rkOk f n e) c)), .ref n1, .ref n2, .ref n3, .ref n4]))) 0 0 := by
  have ne_1 : by_ ≠ a := hneb hb ha rfl
  have ne_2 : w ≠ a := hneb hw ha rfl
  have ne_3 : n1 ≠ a := hneb h1 ha rfl
  have ne_4 : n2 ≠ a := hneb h2 ha rfl
  have ne_5 : n3 ≠ a := hneb h3 ha rfl
  have ne_6 : n4 ≠ a := hneb h4 ha rfl
  refine mc_of (by decide) (Nat.le_of_ble_eq_true rfl) ?_
  intro K X r
  refine v_eqv (lv2 := [(0, .ref a), (1, .ref w)]) rfl ?_
  refine v_aload_n X dX4_takeRule_0 0 rfl ?_
  refine v_cVi X [] sX4_41 (ct_X4_nameHere ll g  ha hb (by assumption) (by assumption)) ha rfl dX4_takeRule_1 rfl rfl ⟨rfl, rfl⟩ ⟨(Nat.le_of_ble_eq_true rfl), (Nat.le_of_ble_eq_true rfl)⟩ ⟨Nat.zero_le _, Nat.zero_le _⟩ (Nat.le_of_ble_eq_true rfl) ?_
  refine v_istore_n (lv1 := [(2, .int (nameAt f n e)), (0, .ref a), (1, .ref w)]) X dX4_takeRule_4 (by decide) rfl ?_
  refine v_iload_n X dX4_takeRule_5 0 rfl ?_
  refine v_if_ge X dX4_takeRule_6 (tgt := 11) (by decide) (fun c1 => ?_) (fun c1 => ?_)
  · refine v_aload_n X dX4_takeRule_11 1 rfl ?_
    refine v_cVv X [] sX4_34 (ct_X4_nextToken ll g  ha hb (lkE_le hen) hn) ha rfl dX4_takeRule_12 rfl rfl ⟨rfl, rfl⟩ ⟨(Nat.le_of_ble_eq_true rfl), (Nat.le_of_ble_eq_true rfl)⟩ ⟨Nat.zero_le _, Nat.zero_le _⟩ (Nat.le_of_ble_eq_true rfl) ?_
    refine v_aload_n X dX4_takeRule_15 1 rfl ?_
    refine v_get X fX4_25 hU_s rfl dX4_takeRule_16 ?_
    refine v_istore_n (lv1 := [(3, .int (tkC f n (lkE f n e))), (2, .int (nameAt f n e)), (0, .ref a), (1, .ref w)]) X dX4_takeRule_19 (by decide) rfl ?_
    refine v_iconst X dX4_takeRule_20 (v := 0) (by decide) ?_
    refine v_istore (lv1 := [(4, .int 0), (3, .int (tkC f n (lkE f n e))), (2, .int (nameAt f n e)), (0, .ref a), (1, .ref w)]) X dX4_takeRule_21 (by decide) rfl ?_
    have C43 : ∀ (v2 bd : Int32), (¬ rdW f n e) → (¬ 4 ≤ nameAt f n e → bd = c2V f n (lkE f n e)) → VJ K 0 0 (hU h a (ob 4 [.ref by_, .int (nI n), .int (nI (lkJ f n (rdA2 f n e))), .int (nI (lkE f n (rdA2 f n e))), .int (tkC f n (rdA2 f n e)), .int v2])) 43 [(0, .ref a), (1, .ref w), (2, .int (nameAt f n e)), (3, .int (tkC f n (lkE f n e))), (4, .int bd)] [] := by
      intro v2 bd hW hbd
      refine v_aload_n X dX4_takeRule_43 0 rfl ?_
      refine v_get X fX4_25 hU_s rfl dX4_takeRule_44 ?_
      refine v_bipush X dX4_takeRule_47 (v := 58) (by decide) ?_
      refine v_icmp_eq X dX4_takeRule_49 (tgt := 54) (by decide) (fun c2 => ?_) (fun c2 => ?_)
      · refine v_aload_n X dX4_takeRule_54 0 rfl ?_
        refine v_cVv X [] sX4_34 (ct_X4_nextToken ll g  hU_s ((hU_n ne_1).trans hb) (lkE_le (rdA2_le hen)) hn) hU_s rfl dX4_takeRule_55 rfl rfl ⟨rfl, rfl⟩ ⟨(Nat.le_of_ble_eq_true rfl), (Nat.le_of_ble_eq_true rfl)⟩ ⟨Nat.zero_le _, Nat.zero_le _⟩ (Nat.le_of_ble_eq_true rfl) ?_
        refine v_eqh (h2 := (hU h a (ob 4 [.ref by_, .int (nI n), .int (nI (lkJ f n (lkE f n (rdA2 f n e)))), .int (nI (lkE f n (lkE f n (rdA2 f n e)))), .int (tkC f n (lkE f n (rdA2 f n e))), .int (vlC v2 f n (lkE f n (rdA2 f n e)))]))) hU_u ?_
        refine v_aload_n X dX4_takeRule_58 0 rfl ?_
        refine v_cVi X [] sX4_49 (ct_X4_deedHere ll g  hU_s ((hU_n ne_1).trans hb) (lkE_le (rdA2_le hen)) hn) hU_s rfl dX4_takeRule_59 rfl rfl ⟨rfl, rfl⟩ ⟨(Nat.le_of_ble_eq_true rfl), (Nat.le_of_ble_eq_true rfl)⟩ ⟨Nat.zero_le _, Nat.zero_le _⟩ (Nat.le_of_ble_eq_true rfl) ?_
        refine v_istore (lv1 := [(5, .int (deedAt f n (lkE f n (rdA2 f n e)))), (0, .ref a), (1, .ref w), (2, .int (nameAt f n e)), (3, .int (tkC f n (lkE f n e))), (4, .int bd)]) X dX4_takeRule_62 (by decide) rfl ?_
        refine v_iload X dX4_takeRule_64 0 rfl ?_
        refine v_if_ge X dX4_takeRule_66 (tgt := 71) (by decide) (fun c3 => ?_) (fun c3 => ?_)
        · refine v_aload_n X dX4_takeRule_71 1 rfl ?_
          refine v_cVv X [] sX4_34 (ct_X4_nextToken ll g  hU_s ((hU_n ne_1).trans hb) (lkE_le (lkE_le (rdA2_le hen))) hn) hU_s rfl dX4_takeRule_72 rfl rfl ⟨rfl, rfl⟩ ⟨(Nat.le_of_ble_eq_true rfl), (Nat.le_of_ble_eq_true rfl)⟩ ⟨Nat.zero_le _, Nat.zero_le _⟩ (Nat.le_of_ble_eq_true rfl) ?_
          refine v_eqh (h2 := (hU h a (ob 4 [.ref by_, .int (nI n), .int (nI (lkJ f n (lkE f n (lkE f n (rdA2 f n e))))), .int (nI (lkE f n (lkE f n (lkE f n (rdA2 f n e))))), .int (tkC f n (lkE f n (lkE f n (rdA2 f n e)))), .int (vlC (vlC v2 f n (lkE f n (rdA2 f n e))) f n (lkE f n (lkE f n (rdA2 f n e))))]))) hU_u ?_
          refine v_aload_n X dX4_takeRule_75 2 rfl ?_
          refine v_iload_n X dX4_takeRule_76 3 rfl ?_
          refine v_iload_n X dX4_takeRule_77 4 rfl ?_
          refine v_iload X dX4_takeRule_78 5 rfl ?_
          refine v_iload X dX4_takeRule_80 0 rfl ?_
          refine v_cVv X [.int (nameAt f n e), .int (tkC f n (lkE f n e)), .int bd, .int (deedAt f n (lkE f n (rdA2 f n e)))] sX4_52 (ct_X5_addRule ll g (nameAt f n e) (tkC f n (lkE f n e)) bd (deedAt f n (lkE f n (rdA2 f n e))) ((hU_n ne_2).trans hw) ((hU_n ne_3).trans h1) ((hU_n ne_4).trans h2) ((hU_n ne_5).trans h3) ((hU_n ne_6).trans h4) (by assumption) (by assumption) (by assumption) (by assumption) (by assumption) (by assumption) (by assumption)) ((hU_n ne_2).trans hw) rfl dX4_takeRule_82 rfl rfl ⟨rfl, rfl⟩ ⟨(Nat.le_of_ble_eq_true rfl), (Nat.le_of_ble_eq_true rfl)⟩ ⟨Nat.zero_le _, Nat.zero_le _⟩ (Nat.le_of_ble_eq_true rfl) ?_
          refine v_iconst X dX4_takeRule_85 (v := 1) (by decide) ?_
          have hok : rkOk f n e := ⟨Int32.not_lt.mpr c1, ⟨hW, sg58.mp c2⟩, Int32.not_lt.mpr c3⟩
          have hA : rkA f n e = lkE f n (rdA3 f n e) := by unfold rkA; rw [if_neg hok.1, if_pos hok.2.1, if_pos hok.2.2]
          exact v_zret X r dX4_takeRule_86 rfl (Nat.le_refl _) (Nat.le_refl _) ⟨(vlC (vlC v2 f n (lkE f n (rdA2 f n e))) f n (lkE f n (lkE f n (rdA2 f n e)))), bd, fun _ => hbd, by rw [bI_t hok], by rw [hA]; simp only [rkF, rkC, if_pos hok]; rfl⟩
        · refine v_iconst X dX4_takeRule_69 (v := 0) (by decide) ?_
          have z2 : ¬ rdP2 f n e := fun q => c3 (Int32.not_lt.mp q)
          have hno : ¬ rkOk f n e := fun q => z2 q.2.2
          have hA : rkA f n e = rdA3 f n e := by unfold rkA; rw [if_neg (Int32.not_lt.mpr c1), if_pos ⟨hW, sg58.mp c2⟩, if_neg z2]
          exact v_zret X r dX4_takeRule_70 rfl (Nat.le_refl _) (Nat.le_refl _) ⟨(vlC v2 f n (lkE f n (rdA2 f n e))), 0, fun q => absurd q hno, by rw [bI_f hno], by rw [hA]; simp only [rkF, rkC, if_neg hno, rdA3]; rw [hU_id ((hU_n ne_3).trans h1), hU_id ((hU_n ne_4).trans h2), hU_id ((hU_n ne_5).trans h3), hU_id ((hU_n ne_6).trans h4), hU_id ((hU_n ne_2).trans hw)]⟩
      · refine v_iconst X dX4_takeRule_52 (v := 0) (by decide) ?_
        have z1 : ¬ rdP1 f n e := fun q => c2 (sg58.mpr q.2)
        have hno : ¬ rkOk f n e := fun q => z1 q.2.1
        have hA : rkA f n e = rdA2 f n e := by unfold rkA; rw [if_neg (Int32.not_lt.mpr c1), if_neg z1]
        exact v_zret X r dX4_takeRule_53 rfl (Nat.le_refl _) (Nat.le_refl _) ⟨v2, 0, fun q => absurd q hno, by rw [bI_f hno], by rw [hA]; simp only [rkF, rkC, if_neg hno, rdA3]; rw [hU_id ((hU_n ne_3).trans h1), hU_id ((hU_n ne_4).trans h2), hU_id ((hU_n ne_5).trans h3), hU_id ((hU_n ne_6).trans h4), hU_id ((hU_n ne_2).trans hw)]⟩
    refine v_iload_n X dX4_takeRule_23 2 rfl ?_
    refine v_iconst X dX4_takeRule_24 (v := 4) (by decide) ?_
    refine v_icmp_eq X dX4_takeRule_25 (tgt := 43) (by decide) (fun c4 => ?_) (fun c4 => ?_)
    · have z4 : 4 ≤ nameAt f n e := name4.mp c4
      have hA2 : rdA2 f n e = lkE f n e := if_pos z4
      refine v_lv (lv2 := [(0, .ref a), (1, .ref w), (2, .int (nameAt f n e)), (3, .int (tkC f n (lkE f n e))), (4, .int 0)]) [3, 4, 2, 1, 0] rfl ?_
      refine v_eqh (h2 := (hU h a (ob 4 [.ref by_, .int (nI n), .int (nI (lkJ f n (rdA2 f n e))), .int (nI (lkE f n (rdA2 f n e))), .int (tkC f n (rdA2 f n e)), .int (vlC vl f n (lkE f n e))]))) (by rw [hA2]) ?_
      exact C43 (vlC vl f n (lkE f n e)) 0 (fun q => q.1 z4) (fun q => absurd z4 q)
    · refine v_aload_n X dX4_takeRule_28 3 rfl ?_
      refine v_cVi X [] sX4_45 (ct_X4_takeComparison ll g  hU_s ((hU_n ne_1).trans hb) (lkE_le hen) hn) hU_s rfl dX4_takeRule_29 rfl rfl ⟨rfl, rfl⟩ ⟨(Nat.le_of_ble_eq_true rfl), (Nat.le_of_ble_eq_true rfl)⟩ ⟨Nat.zero_le _, Nat.zero_le _⟩ (Nat.le_of_ble_eq_true rfl) ?_
      refine v_eqh (h2 := (hU h a (ob 4 [.ref by_, .int (nI n), .int (nI (lkJ f n (cmA f n (lkE f n e)))), .int (nI (lkE f n (cmA f n (lkE f n e)))), .int (tkC f n (cmA f n (lkE f n e))), .int (cmVl (vlC vl f n (lkE f n e)) f n (lkE f n e))]))) hU_u ?_
      refine v_ifb_ne X dX4_takeRule_32 (tgt := 37) (by decide) (fun c5 => ?_) (fun c5 => ?_)
      · refine v_aload_n X dX4_takeRule_37 3 rfl ?_
        refine v_get X fX4_28 hU_s rfl dX4_takeRule_38 ?_
        refine v_istore (lv1 := [(4, .int (cmVl (vlC vl f n (lkE f n e)) f n (lkE f n e))), (3, .int (tkC f n (lkE f n e))), (2, .int (nameAt f n e)), (0, .ref a), (1, .ref w)]) X dX4_takeRule_41 (by decide) rfl ?_
        have z4 : ¬ 4 ≤ nameAt f n e := fun q => c4 (name4.mpr q)
        have hA2 : rdA2 f n e = cmA f n (lkE f n e) := if_neg z4
        have hbv : cmVl (vlC vl f n (lkE f n e)) f n (lkE f n e) = c2V f n (lkE f n e) := by unfold cmVl; rw [if_pos (c5).1, if_pos (c5).2]
        refine v_lv (lv2 := [(0, .ref a), (1, .ref w), (2, .int (nameAt f n e)), (3, .int (tkC f n (lkE f n e))), (4, .int (cmVl (vlC vl f n (lkE f n e)) f n (lkE f n e)))]) [3, 4, 2, 1, 0] rfl ?_
        refine v_eqh (h2 := (hU h a (ob 4 [.ref by_, .int (nI n), .int (nI (lkJ f n (rdA2 f n e))), .int (nI (lkE f n (rdA2 f n e))), .int (tkC f n (rdA2 f n e)), .int (cmVl (vlC vl f n (lkE f n e)) f n (lkE f n e))]))) (by rw [hA2]) ?_
        exact C43 (cmVl (vlC vl f n (lkE f n e)) f n (lkE f n e)) (cmVl (vlC vl f n (lkE f n e)) f n (lkE f n e)) (fun q => q.2 c5) (fun _ => hbv)
      · refine v_iconst X dX4_takeRule_35 (v := 0) (by decide) ?_
        have z4 : ¬ 4 ≤ nameAt f n e := fun q => c4 (name4.mpr q)
        have z1 : ¬ rdP1 f n e := fun q => q.1 ⟨z4, c5⟩
        have hno : ¬ rkOk f n e := fun q => z1 q.2.1
        have hA : rkA f n e = cmA f n (lkE f n e) := by unfold rkA; rw [if_neg (Int32.not_lt.mpr c1), if_neg z1]; unfold rdA2; rw [if_neg z4]
        exact v_zret X r dX4_takeRule_36 rfl (Nat.le_refl _) (Nat.le_refl _) ⟨(cmVl (vlC vl f n (lkE f n e)) f n (lkE f n e)), 0, fun q => absurd q hno, by rw [bI_f hno], by rw [hA]; simp only [rkF, rkC, if_neg hno, rdA3]; rw [hU_id ((hU_n ne_3).trans h1), hU_id ((hU_n ne_4).trans h2), hU_id ((hU_n ne_5).trans h3), hU_id ((hU_n ne_6).trans h4), hU_id ((hU_n ne_2).trans hw)]⟩
  · refine v_iconst X dX4_takeRule_9 (v := 0) (by decide) ?_
    have hno : ¬ rkOk f n e := fun q => c1 (Int32.not_lt.mp q.1)
    have hA : rkA f n e = e := by unfold rkA; rw [if_pos (Int32.not_le.mp c1)]
    exact v_zret X r dX4_takeRule_10 rfl (Nat.le_refl _) (Nat.le_refl _) ⟨vl, 0, fun q => absurd q hno, by rw [bI_f hno], by rw [hA]; simp only [rkF, rkC, if_neg hno, rdA3]; rw [hU_id ha, hU_id h1, hU_id h2, hU_id h3, hU_id h4, hU_id hw]⟩
