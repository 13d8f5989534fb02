/-! ===== the class: people and ways ===== -/
theorem iabs_sz (x : Int32) : iabs x = szS x := by
  unfold iabs szS
  by_cases h : x < 0
  · rw [if_pos h, if_neg (Int32.not_le.mpr h), Int32.zero_sub]
  · rw [if_neg h, if_pos (Int32.not_lt.mp h)]
theorem cost_M (x : Int32) : costS x = costM x := by unfold costS costM; rw [iabs_sz]
theorem hold_held {v m : Int32} (h : 0 ≤ m) : hold v m = heldS v m := by
  unfold hold heldS
  by_cases h1 : m < v
  · have h2 : ¬ v < -m := by
      rw [Int32.le_iff_toInt_le] at h
      rw [Int32.lt_iff_toInt_lt] at h1 ⊢
      rw [Int32.toInt_neg]
      have a1 := Int32.toInt_lt m
      have a2 := Int32.le_toInt m
      have a0 : (0 : Int32).toInt = 0 := rfl
      simp only [Int.bmod] at *
      omega
    rw [if_pos h1, if_neg h2, if_pos h1]
  · rw [if_neg h1, if_neg h1]
theorem szR {s : Int32} (h : ¬ s = -2147483648) : 5 ≤ szS s ↔ (5 ≤ s ∨ ¬ -5 < s) := by
  have h' : ¬ s.toInt = -2147483648 := fun e => h (Int32.toInt_inj.mp e)
  have a1 := Int32.toInt_lt s
  have a2 := Int32.le_toInt s
  have a0 : (0 : Int32).toInt = 0 := rfl
  have a5 : (5 : Int32).toInt = 5 := rfl
  have a6 : (-5 : Int32).toInt = -5 := rfl
  unfold szS
  by_cases h1 : s < 0
  · rw [if_pos h1]
    rw [Int32.lt_iff_toInt_lt] at h1
    rw [Int32.le_iff_toInt_le, Int32.le_iff_toInt_le, Int32.lt_iff_toInt_lt, Int32.toInt_neg]
    simp only [Int.bmod]
    omega
  · rw [if_neg h1]
    rw [Int32.lt_iff_toInt_lt] at h1
    rw [Int32.le_iff_toInt_le, Int32.lt_iff_toInt_lt]
    omega
/-- a rule of the class's Way against the row's -/
def RuleE (n1 n2 n3 n4 : Int32) (m : Nat → Int32) (u : Nat) : Prop := n1 = m u ∧ (¬ m u = 4 → (n2 = 60 ↔ m (u + 1) = 1) ∧ n3 = m (u + 2)) ∧ n4 = m (u + 3)
abbrev QR (n2 n3 v : Int32) : Prop := (n2 = 60 ∧ v < n3) ∨ (¬ n2 = 60 ∧ n3 < v)
theorem rule_Q {n1 n2 n3 n4 s l e t : Int32} {m : Nat → Int32} {w k : Nat} (h : RuleE n1 n2 n3 n4 m (110 + 25 * w + 1 + 4 * k)) : (QR n2 n3 (valS (m (110 + 25 * w + 1 + 4 * k)) s l e t) ∨ m (110 + 25 * w + 1 + 4 * k) = 4) ↔ rP m w s l e t k := by
  obtain ⟨-, h2, -⟩ := h
  unfold rP rhS QR
  by_cases h4 : m (110 + 25 * w + 1 + 4 * k) = 4
  · exact ⟨fun _ => Or.inl h4, fun _ => Or.inr h4⟩
  · obtain ⟨h5, h6⟩ := h2 h4
    rw [h6, h5]
    exact ⟨fun q => Or.inr (q.resolve_right h4), fun q => Or.inl (q.resolve_left h4)⟩
/-- a Way at an address that tells what the row tells at place w -/
def WayC (g : GT) (h : Hp) (a : Nat) (m : Nat → Int32) (w : Nat) : Prop := ∃ (c n1 n2 n3 n4 : Nat) (f1 f2 f3 f4 : Nat → Int32), h a = some (ob 5 [.int (nI c), .ref n1, .ref n2, .ref n3, .ref n4]) ∧ h n1 = some (ai g 6 f1) ∧ h n2 = some (ai g 6 f2) ∧ h n3 = some (ai g 6 f3) ∧ h n4 = some (ai g 6 f4) ∧ c ≤ 6 ∧ m (110 + 25 * w) = nI c ∧ ∀ k, k < c → RuleE (f1 k) (f2 k) (f3 k) (f4 k) m (110 + 25 * w + 1 + 4 * k)
def wayKd (n : Nat) : Bool := n.beq 11 || n.beq 96
theorem kd_ne {h : Hp} {a b : Nat} {c d : va_E} (ha : h a = some c) (hb : h b = some d) (h1 : wayKd (kd c) = true) (h2 : wayKd (kd d) = false) : a ≠ b := hne ha hb (fun e => by subst e; rw [h1] at h2; cases h2)
theorem WayC_U {g : GT} {h : Hp} {a b : Nat} {m : Nat → Int32} {w : Nat} {c c2 : va_E} (hw : WayC g h a m w) (hb : h b = some c) (hk : wayKd (kd c) = false) : WayC g (hU h b c2) a m w := by
  obtain ⟨q, n1, n2, n3, n4, f1, f2, f3, f4, e0, e1, e2, e3, e4, r⟩ := hw
  exact ⟨q, n1, n2, n3, n4, f1, f2, f3, f4, (hU_n (kd_ne e0 hb rfl hk)).trans e0, (hU_n (kd_ne e1 hb rfl hk)).trans e1, (hU_n (kd_ne e2 hb rfl hk)).trans e2, (hU_n (kd_ne e3 hb rfl hk)).trans e3, (hU_n (kd_ne e4 hb rfl hk)).trans e4, r⟩
/-- a person's way: none, or one of the array -/
def HW (g : GT) (h : Hp) (wf : Nat → Option Nat) (m : Nat → Int32) (p : Nat) : Prop := told m p 6 = -1 ∨ ∃ w a : Nat, told m p 6 = nI w ∧ w < 6 ∧ wf w = some a ∧ WayC g h a m w
theorem HW_U {g : GT} {h : Hp} {b p : Nat} {wf : Nat → Option Nat} {m : Nat → Int32} {c c2 : va_E} (hw : HW g h wf m p) (hb : h b = some c) (hk : wayKd (kd c) = false) : HW g (hU h b c2) wf m p := by
  rcases hw with z | ⟨w, a, h1, h2, h3, h4⟩
  · exact Or.inl z
  · exact Or.inr ⟨w, a, h1, h2, h3, WayC_U h4 hb hk⟩
theorem deedK_in {m : Nat → Int32} {w c j : Nat} {s l e t : Int32} (h : ruleS m w c s l e t = nI j) (hj : j < 2 ^ 31) : deedK m w c s l e t = m (110 + 25 * w + 1 + 4 * j + 3) := by
  unfold deedK
  rw [h, nI_clamp hj, if_neg (Int32.not_lt.mpr (show (0 : Int32) ≤ nI j from nI_le (Nat.zero_le j) hj)), show 110 + 25 * w + 4 + 4 * j = 110 + 25 * w + 1 + 4 * j + 3 by omega]
theorem deedK_out {m : Nat → Int32} {w c : Nat} {s l e t : Int32} (hc : c ≤ 6) (h : ¬ wi (ruleS m w c s l e t) 0 (nI c - 1)) : deedK m w c s l e t = 3 := by
  unfold deedK
  by_cases z : ruleS m w c s l e t < 0
  · rw [if_pos z]
  · obtain ⟨j, hj, ej⟩ := ruleS_rng (Int32.not_lt.mp z)
    refine absurd ?_ h
    rw [ej]
    refine ⟨nI_le (Nat.zero_le j) (by omega), ?_⟩
    rw [show nI c - 1 = nI (c - 1) from pk_sub (show 1 ≤ c by omega)]
    exact nI_le (by omega) (by omega)
theorem nI_inj {a b : Nat} (ha : a < 2 ^ 31) (hb : b < 2 ^ 31) (h : nI a = nI b) : a = b := by
  rw [← nI_clamp ha, ← nI_clamp hb, h]
set_option maxHeartbeats 4000000 in
set_option maxRecDepth 100000 in
theorem ct_X1_begin (ll : Launch) (g : GT) {h : Hp} {a : Nat} {f : Nat → Int32} (kind weight : Int32) (ha : h a = some (ob 1 [.int (f 0), .int (f 1), .int (f 2), .int (f 3), .int (f 4), .int (f 5), .int (f 6)])) : MF ll g yX1_begin cX1_begin 3 none (k2_rm 0 0) [.ref a, .int kind, .int weight] h none (hU h a (ob 1 [.int kind, .int weight, .int 2, .int 20, .int 300, .int 0, .int (-1)])) := by
  refine mc_of (by decide) (Nat.le_of_ble_eq_true rfl) ?_
  intro K X r
  refine v_eqv (lv2 := [(0, .ref a), (1, .int kind), (2, .int weight)]) rfl ?_
  refine v_aload_n X dX1_begin_0 0 rfl ?_
  refine v_iload_n X dX1_begin_1 1 rfl ?_
  refine v_putE (h2 := (hU h a (ob 1 [.int kind, .int (f 1), .int (f 2), .int (f 3), .int (f 4), .int (f 5), .int (f 6)]))) X fX1_9 tyX1_ok nmX1 rfl pd_I ha rfl rfl (ltb rfl) dX1_begin_2 rfl ?_
  refine v_aload_n X dX1_begin_5 0 rfl ?_
  refine v_iload_n X dX1_begin_6 2 rfl ?_
  refine v_putE (h2 := (hU h a (ob 1 [.int kind, .int weight, .int (f 2), .int (f 3), .int (f 4), .int (f 5), .int (f 6)]))) X fX1_15 tyX1_ok nmX1 rfl pd_I hU_s rfl rfl (ltb rfl) dX1_begin_7 hU_u ?_
  refine v_aload_n X dX1_begin_10 0 rfl ?_
  refine v_iconst X dX1_begin_11 (v := 2) (by decide) ?_
  refine v_putE (h2 := (hU h a (ob 1 [.int kind, .int weight, .int 2, .int (f 3), .int (f 4), .int (f 5), .int (f 6)]))) X fX1_18 tyX1_ok nmX1 rfl pd_I hU_s rfl rfl (ltb rfl) dX1_begin_12 hU_u ?_
  refine v_aload_n X dX1_begin_15 0 rfl ?_
  refine v_bipush X dX1_begin_16 (v := 20) (by decide) ?_
  refine v_putE (h2 := (hU h a (ob 1 [.int kind, .int weight, .int 2, .int 20, .int (f 4), .int (f 5), .int (f 6)]))) X fX1_21 tyX1_ok nmX1 rfl pd_I hU_s rfl rfl (ltb rfl) dX1_begin_18 hU_u ?_
  refine v_aload_n X dX1_begin_21 0 rfl ?_
  refine v_sipush X dX1_begin_22 (v := 300) (by decide) ?_
  refine v_putE (h2 := (hU h a (ob 1 [.int kind, .int weight, .int 2, .int 20, .int 300, .int (f 5), .int (f 6)]))) X fX1_24 tyX1_ok nmX1 rfl pd_I hU_s rfl rfl (ltb rfl) dX1_begin_25 hU_u ?_
  refine v_aload_n X dX1_begin_28 0 rfl ?_
  refine v_iconst X dX1_begin_29 (v := 0) (by decide) ?_
  refine v_putE (h2 := (hU h a (ob 1 [.int kind, .int weight, .int 2, .int 20, .int 300, .int 0, .int (f 6)]))) X fX1_27 tyX1_ok nmX1 rfl pd_I hU_s rfl rfl (ltb rfl) dX1_begin_30 hU_u ?_
  refine v_aload_n X dX1_begin_33 0 rfl ?_
  refine v_iconst X dX1_begin_34 (v := (-1)) (by decide) ?_
  refine v_putE (h2 := (hU h a (ob 1 [.int kind, .int weight, .int 2, .int 20, .int 300, .int 0, .int (-1)]))) X fX1_30 tyX1_ok nmX1 rfl pd_I hU_s rfl rfl (ltb rfl) dX1_begin_35 hU_u ?_
  exact v_vret X r dX1_begin_38 (Nat.le_refl _) (Nat.le_refl _) ⟨rfl, rfl⟩
set_option maxHeartbeats 4000000 in
set_option maxRecDepth 100000 in
theorem ct_X1_takeFrom (ll : Launch) (g : GT) {h : Hp} {a : Nat} {b : Nat} {f f2 : Nat → Int32} (ha : h a = some (ob 1 [.int (f 0), .int (f 1), .int (f 2), .int (f 3), .int (f 4), .int (f 5), .int (f 6)])) (hb : h b = some (ob 1 [.int (f2 0), .int (f2 1), .int (f2 2), .int (f2 3), .int (f2 4), .int (f2 5), .int (f2 6)])) (hab : a ≠ b) : MF ll g yX1_takeFrom cX1_takeFrom 2 none (k2_rm 0 0) [.ref a, .ref b] h none (hU h a (ob 1 [.int (f2 0), .int (f2 1), .int (f2 2), .int (f2 3), .int (f2 4), .int (f2 5), .int (f2 6)])) := by
  refine mc_of (by decide) (Nat.le_of_ble_eq_true rfl) ?_
  intro K X r
  refine v_eqv (lv2 := [(0, .ref a), (1, .ref b)]) rfl ?_
  refine v_aload_n X dX1_takeFrom_0 0 rfl ?_
  refine v_aload_n X dX1_takeFrom_1 1 rfl ?_
  refine v_get X fX1_9 hb rfl dX1_takeFrom_2 ?_
  refine v_putE (h2 := (hU h a (ob 1 [.int (f2 0), .int (f 1), .int (f 2), .int (f 3), .int (f 4), .int (f 5), .int (f 6)]))) X fX1_9 tyX1_ok nmX1 rfl pd_I ha rfl rfl (ltb rfl) dX1_takeFrom_5 rfl ?_
  refine v_aload_n X dX1_takeFrom_8 0 rfl ?_
  refine v_aload_n X dX1_takeFrom_9 1 rfl ?_
  refine v_get X fX1_15 ((hU_n (Ne.symm hab)).trans hb) rfl dX1_takeFrom_10 ?_
  refine v_putE (h2 := (hU h a (ob 1 [.int (f2 0), .int (f2 1), .int (f 2), .int (f 3), .int (f 4), .int (f 5), .int (f 6)]))) X fX1_15 tyX1_ok nmX1 rfl pd_I hU_s rfl rfl (ltb rfl) dX1_takeFrom_13 hU_u ?_
  refine v_aload_n X dX1_takeFrom_16 0 rfl ?_
  refine v_aload_n X dX1_takeFrom_17 1 rfl ?_
  refine v_get X fX1_18 ((hU_n (Ne.symm hab)).trans hb) rfl dX1_takeFrom_18 ?_
  refine v_putE (h2 := (hU h a (ob 1 [.int (f2 0), .int (f2 1), .int (f2 2), .int (f 3), .int (f 4), .int (f 5), .int (f 6)]))) X fX1_18 tyX1_ok nmX1 rfl pd_I hU_s rfl rfl (ltb rfl) dX1_takeFrom_21 hU_u ?_
  refine v_aload_n X dX1_takeFrom_24 0 rfl ?_
  refine v_aload_n X dX1_takeFrom_25 1 rfl ?_
  refine v_get X fX1_21 ((hU_n (Ne.symm hab)).trans hb) rfl dX1_takeFrom_26 ?_
  refine v_putE (h2 := (hU h a (ob 1 [.int (f2 0), .int (f2 1), .int (f2 2), .int (f2 3), .int (f 4), .int (f 5), .int (f 6)]))) X fX1_21 tyX1_ok nmX1 rfl pd_I hU_s rfl rfl (ltb rfl) dX1_takeFrom_29 hU_u ?_
  refine v_aload_n X dX1_takeFrom_32 0 rfl ?_
  refine v_aload_n X dX1_takeFrom_33 1 rfl ?_
  refine v_get X fX1_24 ((hU_n (Ne.symm hab)).trans hb) rfl dX1_takeFrom_34 ?_
  refine v_putE (h2 := (hU h a (ob 1 [.int (f2 0), .int (f2 1), .int (f2 2), .int (f2 3), .int (f2 4), .int (f 5), .int (f 6)]))) X fX1_24 tyX1_ok nmX1 rfl pd_I hU_s rfl rfl (ltb rfl) dX1_takeFrom_37 hU_u ?_
  refine v_aload_n X dX1_takeFrom_40 0 rfl ?_
  refine v_aload_n X dX1_takeFrom_41 1 rfl ?_
  refine v_get X fX1_27 ((hU_n (Ne.symm hab)).trans hb) rfl dX1_takeFrom_42 ?_
  refine v_putE (h2 := (hU h a (ob 1 [.int (f2 0), .int (f2 1), .int (f2 2), .int (f2 3), .int (f2 4), .int (f2 5), .int (f 6)]))) X fX1_27 tyX1_ok nmX1 rfl pd_I hU_s rfl rfl (ltb rfl) dX1_takeFrom_45 hU_u ?_
  refine v_aload_n X dX1_takeFrom_48 0 rfl ?_
  refine v_aload_n X dX1_takeFrom_49 1 rfl ?_
  refine v_get X fX1_30 ((hU_n (Ne.symm hab)).trans hb) rfl dX1_takeFrom_50 ?_
  refine v_putE (h2 := (hU h a (ob 1 [.int (f2 0), .int (f2 1), .int (f2 2), .int (f2 3), .int (f2 4), .int (f2 5), .int (f2 6)]))) X fX1_30 tyX1_ok nmX1 rfl pd_I hU_s rfl rfl (ltb rfl) dX1_takeFrom_53 hU_u ?_
  exact v_vret X r dX1_takeFrom_56 (Nat.le_refl _) (Nat.le_refl _) ⟨rfl, rfl⟩
set_option maxHeartbeats 4000000 in
set_option maxRecDepth 100000 in
theorem ct_X1_trait (ll : Launch) (g : GT) {h : Hp} {a : Nat} {f : Nat → Int32} {x : Int32} {w : Nat} (ha : h a = some (ob 1 [.int (f 0), .int (f 1), .int (f 2), .int (f 3), .int (f 4), .int (f 5), .int (f 6)])) (hx : x = nI w) (hw : w < 7) : MF ll g yX1_trait cX1_trait 2 (some .int) (k2_rm 0 0) [.ref a, .int x] h (some (.int (f w))) h := by
  refine mc_of (by decide) (Nat.le_of_ble_eq_true rfl) ?_
  intro K X r
  refine v_eqv (lv2 := [(0, .ref a), (1, .int x)]) rfl ?_
  refine v_iload_n X dX1_trait_0 1 rfl ?_
  by_cases c1_0 : x = 0
  · refine v_tabIn X dX1_trait_1 (off := 39) (tgt := 40) 0 c1_0 (by decide) (by decide) (by decide) (by decide) ?_
    refine v_aload_n X dX1_trait_40 0 rfl ?_
    refine v_get X fX1_9 ha rfl dX1_trait_41 ?_
    exact v_iret X r dX1_trait_44 (Nat.le_refl _) (Nat.le_refl _) ⟨ri (by rw [show w = 0 from nI_inj (by omega) (by decide) (hx.symm.trans c1_0)]), rfl⟩
  by_cases c1_1 : x = 1
  · refine v_tabIn X dX1_trait_1 (off := 44) (tgt := 45) 1 c1_1 (by decide) (by decide) (by decide) (by decide) ?_
    refine v_aload_n X dX1_trait_45 0 rfl ?_
    refine v_get X fX1_15 ha rfl dX1_trait_46 ?_
    exact v_iret X r dX1_trait_49 (Nat.le_refl _) (Nat.le_refl _) ⟨ri (by rw [show w = 1 from nI_inj (by omega) (by decide) (hx.symm.trans c1_1)]), rfl⟩
  by_cases c1_2 : x = 2
  · refine v_tabIn X dX1_trait_1 (off := 49) (tgt := 50) 2 c1_2 (by decide) (by decide) (by decide) (by decide) ?_
    refine v_aload_n X dX1_trait_50 0 rfl ?_
    refine v_get X fX1_18 ha rfl dX1_trait_51 ?_
    exact v_iret X r dX1_trait_54 (Nat.le_refl _) (Nat.le_refl _) ⟨ri (by rw [show w = 2 from nI_inj (by omega) (by decide) (hx.symm.trans c1_2)]), rfl⟩
  by_cases c1_3 : x = 3
  · refine v_tabIn X dX1_trait_1 (off := 54) (tgt := 55) 3 c1_3 (by decide) (by decide) (by decide) (by decide) ?_
    refine v_aload_n X dX1_trait_55 0 rfl ?_
    refine v_get X fX1_21 ha rfl dX1_trait_56 ?_
    exact v_iret X r dX1_trait_59 (Nat.le_refl _) (Nat.le_refl _) ⟨ri (by rw [show w = 3 from nI_inj (by omega) (by decide) (hx.symm.trans c1_3)]), rfl⟩
  by_cases c1_4 : x = 4
  · refine v_tabIn X dX1_trait_1 (off := 59) (tgt := 60) 4 c1_4 (by decide) (by decide) (by decide) (by decide) ?_
    refine v_aload_n X dX1_trait_60 0 rfl ?_
    refine v_get X fX1_24 ha rfl dX1_trait_61 ?_
    exact v_iret X r dX1_trait_64 (Nat.le_refl _) (Nat.le_refl _) ⟨ri (by rw [show w = 4 from nI_inj (by omega) (by decide) (hx.symm.trans c1_4)]), rfl⟩
  by_cases c1_5 : x = 5
  · refine v_tabIn X dX1_trait_1 (off := 64) (tgt := 65) 5 c1_5 (by decide) (by decide) (by decide) (by decide) ?_
    refine v_aload_n X dX1_trait_65 0 rfl ?_
    refine v_get X fX1_27 ha rfl dX1_trait_66 ?_
    exact v_iret X r dX1_trait_69 (Nat.le_refl _) (Nat.le_refl _) ⟨ri (by rw [show w = 5 from nI_inj (by omega) (by decide) (hx.symm.trans c1_5)]), rfl⟩
  refine v_tabOut X dX1_trait_1 (tgt := 70) (by have e0 := lv_neT (k := 0) (a := 0) c1_0 (by decide); have e1 := lv_neT (k := 1) (a := 1) c1_1 (by decide); have e2 := lv_neT (k := 2) (a := 2) c1_2 (by decide); have e3 := lv_neT (k := 3) (a := 3) c1_3 (by decide); have e4 := lv_neT (k := 4) (a := 4) c1_4 (by decide); have e5 := lv_neT (k := 5) (a := 5) c1_5 (by decide); omega) (by decide) ?_
  refine v_aload_n X dX1_trait_70 0 rfl ?_
  refine v_get X fX1_30 ha rfl dX1_trait_71 ?_
  exact v_iret X r dX1_trait_74 (Nat.le_refl _) (Nat.le_refl _) ⟨ri (by rw [show w = 6 by
      have : ∀ q, q < 6 → w ≠ q := fun q hq z => by
        subst z
        match w, hq with
        | 0, _ => exact c1_0 hx
        | 1, _ => exact c1_1 hx
        | 2, _ => exact c1_2 hx
        | 3, _ => exact c1_3 hx
        | 4, _ => exact c1_4 hx
        | 5, _ => exact c1_5 hx
      rcases Nat.lt_or_ge w 6 with z | z
      · exact absurd rfl (this w z)
      · omega]), rfl⟩
set_option maxHeartbeats 4000000 in
set_option maxRecDepth 100000 in
theorem ct_X1_waiterShove (ll : Launch) (g : GT) {h : Hp} {a : Nat} {f : Nat → Int32} (e t : Int32) (ha : h a = some (ob 1 [.int (f 0), .int (f 1), .int (f 2), .int (f 3), .int (f 4), .int (f 5), .int (f 6)])) : MF ll g yX1_waiterShove cX1_waiterShove 3 (some .int) (k2_rm 0 0) [.ref a, .int e, .int t] h (some (.int (waitS (f 3) e t))) h := by
  refine mc_of (by decide) (Nat.le_of_ble_eq_true rfl) ?_
  intro K X r
  refine v_eqv (lv2 := [(0, .ref a), (1, .int e), (2, .int t)]) rfl ?_
  refine v_iload_n X dX1_waiterShove_0 2 rfl ?_
  refine v_bipush X dX1_waiterShove_1 (v := 19) (by decide) ?_
  refine v_icmp_le X dX1_waiterShove_3 (tgt := 20) (by decide) (fun c1 => ?_) (fun c1 => ?_)
  · refine v_iconst X dX1_waiterShove_20 (v := 0) (by decide) ?_
    exact v_iret X r dX1_waiterShove_21 (Nat.le_refl _) (Nat.le_refl _) ⟨ri (by simp [waitS, c1, Int32.not_lt.mpr c1]), rfl⟩
  · refine v_iload_n X dX1_waiterShove_6 1 rfl ?_
    refine v_iconst X dX1_waiterShove_7 (v := 1) (by decide) ?_
    refine v_icmp_lt X dX1_waiterShove_8 (tgt := 20) (by decide) (fun c2 => ?_) (fun c2 => ?_)
    · refine v_iconst X dX1_waiterShove_20 (v := 0) (by decide) ?_
      exact v_iret X r dX1_waiterShove_21 (Nat.le_refl _) (Nat.le_refl _) ⟨ri (by simp [waitS, c1, Int32.not_le.mp c1, c2, Int32.not_le.mpr c2]), rfl⟩
    · refine v_aload_n X dX1_waiterShove_11 0 rfl ?_
      refine v_get X fX1_21 ha rfl dX1_waiterShove_12 ?_
      refine v_iconst X dX1_waiterShove_15 (v := 3) (by decide) ?_
      refine v_idiv X dX1_waiterShove_16 (by decide) ?_
      refine v_goto X dX1_waiterShove_17 (tgt := 21) (by decide) ?_
      exact v_iret X r dX1_waiterShove_21 (Nat.le_refl _) (Nat.le_refl _) ⟨ri (by simp [waitS, c1, Int32.not_le.mp c1, c2, Int32.not_lt.mp c2]), rfl⟩
set_option maxHeartbeats 4000000 in
set_option maxRecDepth 100000 in
theorem ct_X1_deedShove (ll : Launch) (g : GT) {h : Hp} {a : Nat} {f : Nat → Int32} (x s l : Int32) (ha : h a = some (ob 1 [.int (f 0), .int (f 1), .int (f 2), .int (f 3), .int (f 4), .int (f 5), .int (f 6)])) (hre : 0 ≤ f 3) : MF ll g yX1_deedShove cX1_deedShove 4 (some .int) (k2_rm 1 40) [.ref a, .int x, .int s, .int l] h (some (.int (deedS x (f 3) s l))) h := by
  refine mc_of (by decide) (Nat.le_of_ble_eq_true rfl) ?_
  intro K X r
  refine v_eqv (lv2 := [(0, .ref a), (1, .int x), (2, .int s), (3, .int l)]) rfl ?_
  refine v_iload_n X dX1_deedShove_0 1 rfl ?_
  by_cases c1_0 : x = 0
  · refine v_tabIn X dX1_deedShove_1 (off := 35) (tgt := 36) 0 c1_0 (by decide) (by decide) (by decide) (by decide) ?_
    refine v_aload_n X dX1_deedShove_36 0 rfl ?_
    refine v_get X fX1_21 ha rfl dX1_deedShove_37 ?_
    exact v_iret X r dX1_deedShove_40 (Nat.le_refl _) (Nat.le_refl _) ⟨ri (by simp [deedS, hold_held hre, c1_0]), rfl⟩
  by_cases c1_1 : x = 1
  · refine v_tabIn X dX1_deedShove_1 (off := 40) (tgt := 41) 1 c1_1 (by decide) (by decide) (by decide) (by decide) ?_
    refine v_iload_n X dX1_deedShove_41 2 rfl ?_
    refine v_iconst X dX1_deedShove_42 (v := 2) (by decide) ?_
    refine v_idiv X dX1_deedShove_43 (by decide) ?_
    refine v_ineg X dX1_deedShove_44 ?_
    refine v_aload_n X dX1_deedShove_45 0 rfl ?_
    refine v_get X fX1_21 ha rfl dX1_deedShove_46 ?_
    refine v_cSni X [.int (-(s / 2)), .int (f 3)] sX1_33 (ct_X7_atMost ll g (-(s / 2)) (f 3)) dX1_deedShove_49 rfl rfl ⟨rfl, rfl⟩ ⟨(Nat.le_of_ble_eq_true rfl), (Nat.le_of_ble_eq_true rfl)⟩ ⟨Nat.zero_le _, Nat.zero_le _⟩ (Nat.le_of_ble_eq_true rfl) ?_
    exact v_iret X r dX1_deedShove_52 (Nat.le_refl _) (Nat.le_refl _) ⟨ri (by simp [deedS, hold_held hre, c1_0, c1_1]), rfl⟩
  by_cases c1_2 : x = 2
  · refine v_tabIn X dX1_deedShove_1 (off := 52) (tgt := 53) 2 c1_2 (by decide) (by decide) (by decide) (by decide) ?_
    refine v_aload_n X dX1_deedShove_53 0 rfl ?_
    refine v_get X fX1_21 ha rfl dX1_deedShove_54 ?_
    refine v_ineg X dX1_deedShove_57 ?_
    exact v_iret X r dX1_deedShove_58 (Nat.le_refl _) (Nat.le_refl _) ⟨ri (by simp [deedS, hold_held hre, c1_0, c1_1, c1_2]), rfl⟩
  by_cases c1_3 : x = 3
  · refine v_tabIn X dX1_deedShove_1 (off := 70) (tgt := 71) 3 c1_3 (by decide) (by decide) (by decide) (by decide) ?_
    refine v_iconst X dX1_deedShove_71 (v := 0) (by decide) ?_
    exact v_iret X r dX1_deedShove_72 (Nat.le_refl _) (Nat.le_refl _) ⟨ri (by simp [deedS, hold_held hre, c1_0, c1_1, c1_2, c1_3]), rfl⟩
  by_cases c1_4 : x = 4
  · refine v_tabIn X dX1_deedShove_1 (off := 58) (tgt := 59) 4 c1_4 (by decide) (by decide) (by decide) (by decide) ?_
    refine v_iload_n X dX1_deedShove_59 3 rfl ?_
    refine v_iconst X dX1_deedShove_60 (v := 2) (by decide) ?_
    refine v_idiv X dX1_deedShove_61 (by decide) ?_
    refine v_ineg X dX1_deedShove_62 ?_
    refine v_aload_n X dX1_deedShove_63 0 rfl ?_
    refine v_get X fX1_21 ha rfl dX1_deedShove_64 ?_
    refine v_cSni X [.int (-(l / 2)), .int (f 3)] sX1_33 (ct_X7_atMost ll g (-(l / 2)) (f 3)) dX1_deedShove_67 rfl rfl ⟨rfl, rfl⟩ ⟨(Nat.le_of_ble_eq_true rfl), (Nat.le_of_ble_eq_true rfl)⟩ ⟨Nat.zero_le _, Nat.zero_le _⟩ (Nat.le_of_ble_eq_true rfl) ?_
    exact v_iret X r dX1_deedShove_70 (Nat.le_refl _) (Nat.le_refl _) ⟨ri (by simp [deedS, hold_held hre, c1_0, c1_1, c1_2, c1_3, c1_4]), rfl⟩
  refine v_tabOut X dX1_deedShove_1 (tgt := 71) (by have e0 := lv_neT (k := 0) (a := 0) c1_0 (by decide); have e1 := lv_neT (k := 1) (a := 1) c1_1 (by decide); have e2 := lv_neT (k := 2) (a := 2) c1_2 (by decide); have e3 := lv_neT (k := 3) (a := 3) c1_3 (by decide); have e4 := lv_neT (k := 4) (a := 4) c1_4 (by decide); omega) (by decide) ?_
  refine v_iconst X dX1_deedShove_71 (v := 0) (by decide) ?_
  exact v_iret X r dX1_deedShove_72 (Nat.le_refl _) (Nat.le_refl _) ⟨ri (by simp [deedS, hold_held hre, c1_0, c1_1, c1_2, c1_3, c1_4]), rfl⟩
set_option maxHeartbeats 4000000 in
set_option maxRecDepth 100000 in
theorem ct_X5_firstThat (ll : Launch) (g : GT) {h : Hp} {a c n1 n2 n3 n4 w : Nat} {f1 f2 f3 f4 m : Nat → Int32} (s l e t : Int32) (ha : h a = some (ob 5 [.int (nI c), .ref n1, .ref n2, .ref n3, .ref n4])) (h1 : h n1 = some (ai g 6 f1)) (h2 : h n2 = some (ai g 6 f2)) (h3 : h n3 = some (ai g 6 f3)) (h4 : h n4 = some (ai g 6 f4)) (hc : c ≤ 6) (hr : ∀ k, k < c → RuleE (f1 k) (f2 k) (f3 k) (f4 k) m (110 + 25 * w + 1 + 4 * k)) : MF ll g yX5_firstThat cX5_firstThat 9 (some .int) (k2_rm 0 0) [.ref a, .int s, .int l, .int e, .int t] h (some (.int (ruleS m w c s l e t))) h := by
  refine mc_of (by decide) (Nat.le_of_ble_eq_true rfl) ?_
  intro K X r
  refine v_eqv (lv2 := [(0, .ref a), (1, .int s), (2, .int l), (3, .int e), (4, .int t)]) rfl ?_
  refine v_iconst X dX5_firstThat_0 (v := 0) (by decide) ?_
  refine v_istore (lv1 := [(5, .int 0), (0, .ref a), (1, .int s), (2, .int l), (3, .int e), (4, .int t)]) X dX5_firstThat_1 (by decide) rfl ?_
  have L3 : ∀ (N : Nat) (k : Nat), (k ≤ c) → (ruleS m w c s l e t = fk (rP m w s l e t) k (c - k)) → c - k < N → VJ K 0 0 h 3 [(0, .ref a), (1, .int s), (2, .int l), (3, .int e), (4, .int t), (5, .int (nI k))] [] := by
    intro N
    induction N with
    | zero => intro k _ _ hm; exact absurd hm (Nat.not_lt_zero _)
    | succ N ih3 =>
      intro k hk hq hm
      refine v_iload X dX5_firstThat_3 5 rfl ?_
      refine v_aload_n X dX5_firstThat_5 0 rfl ?_
      refine v_get X fX5_9 ha rfl dX5_firstThat_6 ?_
      refine v_icmp_ge X dX5_firstThat_9 (tgt := 125) (by decide) (fun c1 => ?_) (fun c1 => ?_)
      · refine v_iconst X dX5_firstThat_125 (v := (-1)) (by decide) ?_
        exact v_iret X r dX5_firstThat_126 (Nat.le_refl _) (Nat.le_refl _) ⟨ri (fk_end hq (fun q => absurd (nI_lt q (by omega)) (Int32.not_lt.mpr c1))).symm, rfl⟩
      · have hkc : k < c := by
          rcases Nat.lt_or_ge k c with q | q
          · exact q
          · exact absurd (nI_le q (by omega)) c1
        refine v_aload_n X dX5_firstThat_12 0 rfl ?_
        refine v_get X fX5_15 ha rfl dX5_firstThat_13 ?_
        refine v_iload X dX5_firstThat_16 5 rfl ?_
        refine v_ialdK X k h1 rfl (by omega) (by decide) dX5_firstThat_18 ?_
        refine v_eqi (y := m (110 + 25 * w + 1 + 4 * k)) (hr k hkc).1 ?_
        refine v_istore (lv1 := [(6, .int (m (110 + 25 * w + 1 + 4 * k))), (0, .ref a), (1, .int s), (2, .int l), (3, .int e), (4, .int t), (5, .int (nI k))]) X dX5_firstThat_19 (by decide) rfl ?_
        refine v_iload X dX5_firstThat_21 0 rfl ?_
        have J1 : VJ K 0 0 h 52 [(6, .int (m (110 + 25 * w + 1 + 4 * k))), (0, .ref a), (1, .int s), (2, .int l), (3, .int e), (4, .int t), (5, .int (nI k))] [.int (valS (m (110 + 25 * w + 1 + 4 * k)) s l e t)] := by
          refine v_istore (lv1 := [(7, .int (valS (m (110 + 25 * w + 1 + 4 * k)) s l e t)), (6, .int (m (110 + 25 * w + 1 + 4 * k))), (0, .ref a), (1, .int s), (2, .int l), (3, .int e), (4, .int t), (5, .int (nI k))]) X dX5_firstThat_52 (by decide) rfl ?_
          refine v_aload_n X dX5_firstThat_54 2 rfl ?_
          refine v_get X fX5_19 ha rfl dX5_firstThat_55 ?_
          refine v_iload X dX5_firstThat_58 7 rfl ?_
          refine v_ialdK X k h2 rfl (by omega) (by decide) dX5_firstThat_60 ?_
          refine v_bipush X dX5_firstThat_61 (v := 60) (by decide) ?_
          have J2 : VJ K 0 0 h 103 [(7, .int (valS (m (110 + 25 * w + 1 + 4 * k)) s l e t)), (6, .int (m (110 + 25 * w + 1 + 4 * k))), (0, .ref a), (1, .int s), (2, .int l), (3, .int e), (4, .int t), (5, .int (nI k))] [.int (bI (QR (f2 k) (f3 k) (valS (m (110 + 25 * w + 1 + 4 * k)) s l e t)))] := by
            refine v_istore (lv1 := [(8, .int (bI (QR (f2 k) (f3 k) (valS (m (110 + 25 * w + 1 + 4 * k)) s l e t)))), (7, .int (valS (m (110 + 25 * w + 1 + 4 * k)) s l e t)), (6, .int (m (110 + 25 * w + 1 + 4 * k))), (0, .ref a), (1, .int s), (2, .int l), (3, .int e), (4, .int t), (5, .int (nI k))]) X dX5_firstThat_103 (by decide) rfl ?_
            refine v_iload X dX5_firstThat_105 0 rfl ?_
            refine v_ifb_ne X dX5_firstThat_107 (tgt := 116) (by decide) (fun c2 => ?_) (fun c2 => ?_)
            · refine v_iload X dX5_firstThat_116 8 rfl ?_
              exact v_iret X r dX5_firstThat_118 (Nat.le_refl _) (Nat.le_refl _) ⟨ri ((fk_step hq hkc).1 ((rule_Q (hr k hkc)).mp (Or.inl c2))).symm, rfl⟩
            · refine v_iload X dX5_firstThat_110 2 rfl ?_
              refine v_iconst X dX5_firstThat_112 (v := 4) (by decide) ?_
              refine v_icmp_ne X dX5_firstThat_113 (tgt := 119) (by decide) (fun c3 => ?_) (fun c3 => ?_)
              · refine v_iinc (v := (nI k) + 1) (lv1 := [(5, .int ((nI k) + 1)), (8, .int (bI (QR (f2 k) (f3 k) (valS (m (110 + 25 * w + 1 + 4 * k)) s l e t)))), (7, .int (valS (m (110 + 25 * w + 1 + 4 * k)) s l e t)), (6, .int (m (110 + 25 * w + 1 + 4 * k))), (0, .ref a), (1, .int s), (2, .int l), (3, .int e), (4, .int t)]) X dX5_firstThat_119 8 rfl rfl (by decide) rfl ?_
                refine v_goto X dX5_firstThat_122 (tgt := 3) (by decide) ?_
                refine v_lv (lv2 := [(0, .ref a), (1, .int s), (2, .int l), (3, .int e), (4, .int t), (5, .int ((nI k) + 1))]) [4, 5, 6, 7, 8, 0] rfl ?_
                refine v_eqv (lv2 := [(0, .ref a), (1, .int s), (2, .int l), (3, .int e), (4, .int t), (5, .int (nI (k + 1)))]) (by rw [nI_1]) ?_
                exact ih3 (k + 1) (by omega) ((fk_step hq hkc).2 (fun y => ((rule_Q (hr k hkc)).mpr y).elim c2 c3)) (by omega)
              · refine v_iload X dX5_firstThat_116 8 rfl ?_
                exact v_iret X r dX5_firstThat_118 (Nat.le_refl _) (Nat.le_refl _) ⟨ri ((fk_step hq hkc).1 ((rule_Q (hr k hkc)).mp (Or.inr c3))).symm, rfl⟩
          refine v_icmp_ne X dX5_firstThat_63 (tgt := 86) (by decide) (fun c4 => ?_) (fun c4 => ?_)
          · refine v_iload X dX5_firstThat_86 0 rfl ?_
            refine v_aload_n X dX5_firstThat_88 2 rfl ?_
            refine v_get X fX5_22 ha rfl dX5_firstThat_89 ?_
            refine v_iload X dX5_firstThat_92 7 rfl ?_
            refine v_ialdK X k h3 rfl (by omega) (by decide) dX5_firstThat_94 ?_
            refine v_icmp_le X dX5_firstThat_95 (tgt := 102) (by decide) (fun c5 => ?_) (fun c5 => ?_)
            · refine v_iconst X dX5_firstThat_102 (v := 0) (by decide) ?_
              exact v_eqi (bI_f (fun z => z.elim (fun q => c4 q.1) (fun q => absurd q.2 (Int32.not_lt.mpr c5)))).symm J2
            · refine v_iconst X dX5_firstThat_98 (v := 1) (by decide) ?_
              refine v_goto X dX5_firstThat_99 (tgt := 103) (by decide) ?_
              exact v_eqi (bI_t (Or.inr ⟨c4, Int32.not_le.mp c5⟩)).symm J2
          · refine v_iload X dX5_firstThat_66 0 rfl ?_
            refine v_aload_n X dX5_firstThat_68 2 rfl ?_
            refine v_get X fX5_22 ha rfl dX5_firstThat_69 ?_
            refine v_iload X dX5_firstThat_72 7 rfl ?_
            refine v_ialdK X k h3 rfl (by omega) (by decide) dX5_firstThat_74 ?_
            refine v_icmp_ge X dX5_firstThat_75 (tgt := 82) (by decide) (fun c6 => ?_) (fun c6 => ?_)
            · refine v_iconst X dX5_firstThat_82 (v := 0) (by decide) ?_
              refine v_goto X dX5_firstThat_83 (tgt := 103) (by decide) ?_
              exact v_eqi (bI_f (fun z => z.elim (fun q => absurd q.2 (Int32.not_lt.mpr c6)) (fun q => q.1 c4))).symm J2
            · refine v_iconst X dX5_firstThat_78 (v := 1) (by decide) ?_
              refine v_goto X dX5_firstThat_79 (tgt := 103) (by decide) ?_
              exact v_eqi (bI_t (Or.inl ⟨c4, Int32.not_le.mp c6⟩)).symm J2
        refine v_if_ne X dX5_firstThat_23 (tgt := 30) (by decide) (fun c7 => ?_) (fun c7 => ?_)
        · refine v_iload X dX5_firstThat_30 0 rfl ?_
          refine v_iconst X dX5_firstThat_32 (v := 1) (by decide) ?_
          refine v_icmp_ne X dX5_firstThat_33 (tgt := 40) (by decide) (fun c8 => ?_) (fun c8 => ?_)
          · refine v_iload X dX5_firstThat_40 0 rfl ?_
            refine v_iconst X dX5_firstThat_42 (v := 2) (by decide) ?_
            refine v_icmp_ne X dX5_firstThat_43 (tgt := 50) (by decide) (fun c9 => ?_) (fun c9 => ?_)
            · refine v_iload X dX5_firstThat_50 5 rfl ?_
              exact v_eqi (by simp [valS, c1, Int32.not_le.mp c1, c7, c8, c9]) J1
            · refine v_iload_n X dX5_firstThat_46 4 rfl ?_
              refine v_goto X dX5_firstThat_47 (tgt := 52) (by decide) ?_
              exact v_eqi (by simp [valS, c1, Int32.not_le.mp c1, c7, c8, c9]) J1
          · refine v_iload_n X dX5_firstThat_36 3 rfl ?_
            refine v_goto X dX5_firstThat_37 (tgt := 52) (by decide) ?_
            exact v_eqi (by simp [valS, c1, Int32.not_le.mp c1, c7, c8]) J1
        · refine v_iload_n X dX5_firstThat_26 2 rfl ?_
          refine v_goto X dX5_firstThat_27 (tgt := 52) (by decide) ?_
          exact v_eqi (by simp [valS, c1, Int32.not_le.mp c1, c7]) J1
  refine v_lv (lv2 := [(0, .ref a), (1, .int s), (2, .int l), (3, .int e), (4, .int t), (5, .int 0)]) [1, 2, 3, 4, 5, 0] rfl ?_
  refine v_eqv (lv2 := [(0, .ref a), (1, .int s), (2, .int l), (3, .int e), (4, .int t), (5, .int (nI 0))]) rfl ?_
  exact L3 _ 0 (Nat.zero_le _) rfl (Nat.lt_succ_self _)
set_option maxHeartbeats 4000000 in
set_option maxRecDepth 100000 in
theorem ct_X5_deedOf (ll : Launch) (g : GT) {h : Hp} {a c n1 n2 n3 n4 w : Nat} {f1 f2 f3 f4 m : Nat → Int32} (s l e t : Int32) (ha : h a = some (ob 5 [.int (nI c), .ref n1, .ref n2, .ref n3, .ref n4])) (h1 : h n1 = some (ai g 6 f1)) (h2 : h n2 = some (ai g 6 f2)) (h3 : h n3 = some (ai g 6 f3)) (h4 : h n4 = some (ai g 6 f4)) (hc : c ≤ 6) (hr : ∀ k, k < c → RuleE (f1 k) (f2 k) (f3 k) (f4 k) m (110 + 25 * w + 1 + 4 * k)) : MF ll g yX5_deedOf cX5_deedOf 2 (some .int) (k2_rm 1 30) [.ref a, .int (ruleS m w c s l e t)] h (some (.int (deedK m w c s l e t))) h := by
  refine mc_of (by decide) (Nat.le_of_ble_eq_true rfl) ?_
  intro K X r
  refine v_eqv (lv2 := [(0, .ref a), (1, .int (ruleS m w c s l e t))]) rfl ?_
  refine v_iload_n X dX5_deedOf_0 1 rfl ?_
  refine v_iconst X dX5_deedOf_1 (v := 0) (by decide) ?_
  refine v_aload_n X dX5_deedOf_2 0 rfl ?_
  refine v_get X fX5_9 ha rfl dX5_deedOf_3 ?_
  refine v_iconst X dX5_deedOf_6 (v := 1) (by decide) ?_
  refine v_isub X dX5_deedOf_7 ?_
  refine v_cSni X [.int (ruleS m w c s l e t), .int 0, .int ((nI c) - 1)] sX5_28 (ct_X7_within ll g (ruleS m w c s l e t) 0 ((nI c) - 1)) dX5_deedOf_8 rfl rfl ⟨rfl, rfl⟩ ⟨(Nat.le_of_ble_eq_true rfl), (Nat.le_of_ble_eq_true rfl)⟩ ⟨Nat.zero_le _, Nat.zero_le _⟩ (Nat.le_of_ble_eq_true rfl) ?_
  refine v_ifb_eq X dX5_deedOf_11 (tgt := 23) (by decide) (fun c1 => ?_) (fun c1 => ?_)
  · refine v_iconst X dX5_deedOf_23 (v := 3) (by decide) ?_
    exact v_iret X r dX5_deedOf_24 (Nat.le_refl _) (Nat.le_refl _) ⟨ri (deedK_out hc c1).symm, rfl⟩
  · obtain ⟨j, hj, ej⟩ := wi_n (rfl : nI c = nI c) (by omega) c1
    refine v_aload_n X dX5_deedOf_14 0 rfl ?_
    refine v_get X fX5_25 ha rfl dX5_deedOf_15 ?_
    refine v_iload_n X dX5_deedOf_18 1 rfl ?_
    refine v_ialdK X j h4 ej (by omega) (by decide) dX5_deedOf_19 ?_
    refine v_goto X dX5_deedOf_20 (tgt := 24) (by decide) ?_
    exact v_iret X r dX5_deedOf_24 (Nat.le_refl _) (Nat.le_refl _) ⟨ri ((deedK_in ej (by omega)).trans (hr j hj).2.2.symm).symm, rfl⟩
