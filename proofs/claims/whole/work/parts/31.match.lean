/-! ===== the class: a bout's tick ===== -/
def RingOk (m : Nat → Int32) (T : Nat) (tr : Nat → Int32) : Prop := tr (T % 10) = m 5 ∧ ∀ j, j < T → T ≤ j + 9 → tr (j % 10) = m (24 + j % 10)
def ptF (m : Nat → Int32) : Nat → Int32 := fun j => if j < 5 then m (10 + j) else 0
theorem sees_ring {m tr : Nat → Int32} {p T lg j : Nat} (hR : RingOk m T tr) (hT : m 6 = nI T) (hT2 : T < 2 ^ 30) (hl : told m p 2 = nI lg) (hlg : lg ≤ 9) (ej : m 6 - told m p 2 = nI j) (hj : j < 2 ^ 31) : seesM m p = tr (j % 10) := by
  have e1 : (T : Int) - lg = j := by
    rw [hT, hl] at ej
    have := congrArg Int32.toInt ej
    rw [pk_sub_toInt hT2 (by omega), nI_toInt hj] at this
    exact this
  unfold seesM
  rw [ej, if_neg (Int32.not_lt.mpr (show (0 : Int32) ≤ nI j from nI_le (Nat.zero_le j) hj)), hT]
  by_cases h0 : lg = 0
  · rw [show j = T by omega, if_pos rfl, hR.1]
  · rw [if_neg (fun e => by have := (nI_eq hj (by omega)).mp e; omega), nI_clamp hj]
    exact (hR.2 j (by omega) (by omega)).symm
theorem sees_0 {m : Nat → Int32} {p : Nat} (h : ¬ 0 ≤ m 6 - told m p 2) : seesM m p = 0 := by
  unfold seesM; rw [if_pos (Int32.not_le.mp h)]
def pshS (m : Nat → Int32) (p : Nat) (l e : Int32) : Int32 := if costM (pushM m p (seesM m p) l e (m 6)) ≤ e then pushM m p (seesM m p) l e (m 6) else 0
theorem psh_es (m : Nat → Int32) (p sd : Nat) : pushesM m p sd = pshS m p (m (18 + sd)) (m (20 + sd)) := rfl
def rl1 (m : Nat → Int32) (p0 p1 : Nat) (s0 s1 : Int32) : Int32 := m 5 + (s0 * told m p0 1 + s1 * told m p1 1) / (m 10 * m 10 + told m p0 1 + told m p1 1)
def rl2 (m : Nat → Int32) (p0 p1 : Nat) (s0 s1 : Int32) : Int32 := rl1 m p0 p1 s0 s1 - rl1 m p0 p1 s0 s1 * (m 11 + m 12) / 100
theorem feetT {ft s rc z sl : Int32} (h : drawS z < sl) : feetS ft s rc z sl = ft := by unfold feetS; rw [if_pos h]
theorem feetF {ft s rc z sl : Int32} (h : ¬ drawS z < sl) (hr : 0 ≤ rc) : feetS ft s rc z sl = ft + hold (s - ft) rc := by unfold feetS; rw [if_neg h, hold_held hr]
set_option maxHeartbeats 4000000 in
set_option maxRecDepth 100000 in
theorem ct_X1_shoveN (ll : Launch) (g : GT) {h : Hp} {a p : Nat} {m : Nat → Int32} (s l e t : Int32) (hp : h a = some (ob 1 [.int ((told m p) 0), .int ((told m p) 1), .int ((told m p) 2), .int ((told m p) 3), .int ((told m p) 4), .int ((told m p) 5), .int ((told m p) 6)])) (hre : 0 ≤ told m p 3) (hs : ¬ s = -2147483648) (h6 : told m p 6 = -1) : MF ll g yX1_shove cX1_shove 6 (some .int) (k2_rm 3 100) [.ref a, .null, .int s, .int l, .int e, .int t] h (some (.int (pushM m p s l e t))) h := by
  have h60 : ¬ (0 : Int32) ≤ told m p 6 := by rw [h6]; decide
  refine mc_of (by decide) (Nat.le_of_ble_eq_true rfl) ?_
  intro K X r
  refine v_eqv (lv2 := [(0, .ref a), (1, .null), (2, .int s), (3, .int l), (4, .int e), (5, .int t)]) rfl ?_
  refine v_aload_n X dX1_shove_0 0 rfl ?_
  refine v_get X fX1_9 hp rfl dX1_shove_1 ?_
  by_cases c1_1 : (told m p) 0 = 1
  · refine v_tabIn X dX1_shove_4 (off := 36) (tgt := 40) 1 c1_1 (by decide) (by decide) (by decide) (by decide) ?_
    refine v_iload X dX1_shove_40 4 rfl ?_
    refine v_iconst X dX1_shove_42 (v := 2) (by decide) ?_
    refine v_icmp_lt X dX1_shove_43 (tgt := 53) (by decide) (fun c2 => ?_) (fun c2 => ?_)
    · refine v_iconst X dX1_shove_53 (v := 0) (by decide) ?_
      exact v_iret X r dX1_shove_54 (Nat.le_refl _) (Nat.le_refl _) ⟨ri (by simp [pushM, waitS, deedS, hold_held hre, szR hs, h60, c1_1, c2, Int32.not_le.mpr c2]), rfl⟩
    · refine v_aload_n X dX1_shove_46 0 rfl ?_
      refine v_get X fX1_21 hp rfl dX1_shove_47 ?_
      refine v_goto X dX1_shove_50 (tgt := 54) (by decide) ?_
      exact v_iret X r dX1_shove_54 (Nat.le_refl _) (Nat.le_refl _) ⟨ri (by simp [pushM, waitS, deedS, hold_held hre, szR hs, h60, c1_1, c2, Int32.not_lt.mp c2]), rfl⟩
  by_cases c1_2 : (told m p) 0 = 2
  · refine v_tabIn X dX1_shove_4 (off := 51) (tgt := 55) 2 c1_2 (by decide) (by decide) (by decide) (by decide) ?_
    refine v_iload_n X dX1_shove_55 2 rfl ?_
    refine v_iconst X dX1_shove_56 (v := 2) (by decide) ?_
    refine v_idiv X dX1_shove_57 (by decide) ?_
    refine v_ineg X dX1_shove_58 ?_
    refine v_aload_n X dX1_shove_59 0 rfl ?_
    refine v_get X fX1_21 hp rfl dX1_shove_60 ?_
    refine v_cSni X [.int (-(s / 2)), .int ((told m p) 3)] sX1_33 (ct_X7_atMost ll g (-(s / 2)) ((told m p) 3)) dX1_shove_63 rfl rfl ⟨rfl, rfl⟩ ⟨(Nat.le_of_ble_eq_true rfl), (Nat.le_of_ble_eq_true rfl)⟩ ⟨Nat.zero_le _, Nat.zero_le _⟩ (Nat.le_of_ble_eq_true rfl) ?_
    exact v_iret X r dX1_shove_66 (Nat.le_refl _) (Nat.le_refl _) ⟨ri (by simp [pushM, waitS, deedS, hold_held hre, szR hs, h60, c1_1, c1_2]), rfl⟩
  by_cases c1_3 : (told m p) 0 = 3
  · refine v_tabIn X dX1_shove_4 (off := 63) (tgt := 67) 3 c1_3 (by decide) (by decide) (by decide) (by decide) ?_
    refine v_iload_n X dX1_shove_67 2 rfl ?_
    refine v_iconst X dX1_shove_68 (v := 5) (by decide) ?_
    refine v_icmp_ge X dX1_shove_69 (tgt := 78) (by decide) (fun c3 => ?_) (fun c3 => ?_)
    · refine v_iload_n X dX1_shove_78 2 rfl ?_
      refine v_iconst X dX1_shove_79 (v := 2) (by decide) ?_
      refine v_idiv X dX1_shove_80 (by decide) ?_
      refine v_ineg X dX1_shove_81 ?_
      refine v_aload_n X dX1_shove_82 0 rfl ?_
      refine v_get X fX1_21 hp rfl dX1_shove_83 ?_
      refine v_cSni X [.int (-(s / 2)), .int ((told m p) 3)] sX1_33 (ct_X7_atMost ll g (-(s / 2)) ((told m p) 3)) dX1_shove_86 rfl rfl ⟨rfl, rfl⟩ ⟨(Nat.le_of_ble_eq_true rfl), (Nat.le_of_ble_eq_true rfl)⟩ ⟨Nat.zero_le _, Nat.zero_le _⟩ (Nat.le_of_ble_eq_true rfl) ?_
      refine v_goto X dX1_shove_89 (tgt := 97) (by decide) ?_
      exact v_iret X r dX1_shove_97 (Nat.le_refl _) (Nat.le_refl _) ⟨ri (by simp [pushM, waitS, deedS, hold_held hre, szR hs, h60, c1_1, c1_2, c1_3, c3, Int32.not_lt.mpr c3]), rfl⟩
    · refine v_iload_n X dX1_shove_72 2 rfl ?_
      refine v_bipush X dX1_shove_73 (v := (-5)) (by decide) ?_
      refine v_icmp_gt X dX1_shove_75 (tgt := 92) (by decide) (fun c4 => ?_) (fun c4 => ?_)
      · refine v_aload_n X dX1_shove_92 0 rfl ?_
        refine v_get X fX1_21 hp rfl dX1_shove_93 ?_
        refine v_ineg X dX1_shove_96 ?_
        exact v_iret X r dX1_shove_97 (Nat.le_refl _) (Nat.le_refl _) ⟨ri (by simp [pushM, waitS, deedS, hold_held hre, szR hs, h60, c1_1, c1_2, c1_3, c3, Int32.not_le.mp c3, c4, Int32.not_le.mpr c4]), rfl⟩
      · refine v_iload_n X dX1_shove_78 2 rfl ?_
        refine v_iconst X dX1_shove_79 (v := 2) (by decide) ?_
        refine v_idiv X dX1_shove_80 (by decide) ?_
        refine v_ineg X dX1_shove_81 ?_
        refine v_aload_n X dX1_shove_82 0 rfl ?_
        refine v_get X fX1_21 hp rfl dX1_shove_83 ?_
        refine v_cSni X [.int (-(s / 2)), .int ((told m p) 3)] sX1_33 (ct_X7_atMost ll g (-(s / 2)) ((told m p) 3)) dX1_shove_86 rfl rfl ⟨rfl, rfl⟩ ⟨(Nat.le_of_ble_eq_true rfl), (Nat.le_of_ble_eq_true rfl)⟩ ⟨Nat.zero_le _, Nat.zero_le _⟩ (Nat.le_of_ble_eq_true rfl) ?_
        refine v_goto X dX1_shove_89 (tgt := 97) (by decide) ?_
        exact v_iret X r dX1_shove_97 (Nat.le_refl _) (Nat.le_refl _) ⟨ri (by simp [pushM, waitS, deedS, hold_held hre, szR hs, h60, c1_1, c1_2, c1_3, c3, Int32.not_le.mp c3, c4, Int32.not_lt.mp c4]), rfl⟩
  by_cases c1_4 : (told m p) 0 = 4
  · refine v_tabIn X dX1_shove_4 (off := 94) (tgt := 98) 4 c1_4 (by decide) (by decide) (by decide) (by decide) ?_
    refine v_aload_n X dX1_shove_98 0 rfl ?_
    refine v_iload X dX1_shove_99 4 rfl ?_
    refine v_iload X dX1_shove_101 5 rfl ?_
    refine v_cVi X [.int e, .int t] sX1_37 (ct_X1_waiterShove ll g e t hp) hp rfl dX1_shove_103 rfl rfl ⟨rfl, rfl⟩ ⟨(Nat.le_of_ble_eq_true rfl), (Nat.le_of_ble_eq_true rfl)⟩ ⟨Nat.zero_le _, Nat.zero_le _⟩ (Nat.le_of_ble_eq_true rfl) ?_
    exact v_iret X r dX1_shove_106 (Nat.le_refl _) (Nat.le_refl _) ⟨ri (by simp [pushM, waitS, deedS, hold_held hre, szR hs, h60, c1_1, c1_2, c1_3, c1_4]), rfl⟩
  by_cases c1_5 : (told m p) 0 = 5
  · refine v_tabIn X dX1_shove_4 (off := 103) (tgt := 107) 5 c1_5 (by decide) (by decide) (by decide) (by decide) ?_
    refine v_aload_nN X dX1_shove_107 1 rfl ?_
    refine v_ifnonnullN X dX1_shove_108 ?_
    refine v_aload_n X dX1_shove_111 0 rfl ?_
    refine v_iload X dX1_shove_112 4 rfl ?_
    refine v_iload X dX1_shove_114 5 rfl ?_
    refine v_cVi X [.int e, .int t] sX1_37 (ct_X1_waiterShove ll g e t hp) hp rfl dX1_shove_116 rfl rfl ⟨rfl, rfl⟩ ⟨(Nat.le_of_ble_eq_true rfl), (Nat.le_of_ble_eq_true rfl)⟩ ⟨Nat.zero_le _, Nat.zero_le _⟩ (Nat.le_of_ble_eq_true rfl) ?_
    refine v_goto X dX1_shove_119 (tgt := 142) (by decide) ?_
    exact v_iret X r dX1_shove_142 (Nat.le_refl _) (Nat.le_refl _) ⟨ri (by simp [pushM, waitS, deedS, hold_held hre, szR hs, h60, c1_1, c1_2, c1_3, c1_4, c1_5]), rfl⟩
  refine v_tabOut X dX1_shove_4 (tgt := 143) (by have e1 := lv_neT (k := 1) (a := 1) c1_1 (by decide); have e2 := lv_neT (k := 2) (a := 2) c1_2 (by decide); have e3 := lv_neT (k := 3) (a := 3) c1_3 (by decide); have e4 := lv_neT (k := 4) (a := 4) c1_4 (by decide); have e5 := lv_neT (k := 5) (a := 5) c1_5 (by decide); omega) (by decide) ?_
  refine v_iconst X dX1_shove_143 (v := 0) (by decide) ?_
  exact v_iret X r dX1_shove_144 (Nat.le_refl _) (Nat.le_refl _) ⟨ri (by simp [pushM, waitS, deedS, hold_held hre, szR hs, h60, c1_1, c1_2, c1_3, c1_4, c1_5]), rfl⟩
set_option maxHeartbeats 4000000 in
set_option maxRecDepth 100000 in
theorem ct_X1_shoveR (ll : Launch) (g : GT) {b c n1 n2 n3 n4 w : Nat} {f1 f2 f3 f4 : Nat → Int32} {h : Hp} {a p : Nat} {m : Nat → Int32} (s l e t : Int32) (hp : h a = some (ob 1 [.int ((told m p) 0), .int ((told m p) 1), .int ((told m p) 2), .int ((told m p) 3), .int ((told m p) 4), .int ((told m p) 5), .int ((told m p) 6)])) (hre : 0 ≤ told m p 3) (hs : ¬ s = -2147483648) (hb : h b = some (ob 5 [.int (nI c), .ref n1, .ref n2, .ref n3, .ref n4])) (h1 : h n1 = some (ai g 6 f1)) (h2 : h n2 = some (ai g 6 f2)) (h3 : h n3 = some (ai g 6 f3)) (h4 : h n4 = some (ai g 6 f4)) (hc : c ≤ 6) (hr : ∀ k, k < c → RuleE (f1 k) (f2 k) (f3 k) (f4 k) m (110 + 25 * w + 1 + 4 * k)) (e6 : told m p 6 = nI w) (hw6 : w < 6) (ec : m (110 + 25 * w) = nI c) : MF ll g yX1_shove cX1_shove 6 (some .int) (k2_rm 3 100) [.ref a, .ref b, .int s, .int l, .int e, .int t] h (some (.int (pushM m p s l e t))) h := by
  have h60 : (0 : Int32) ≤ told m p 6 := by rw [e6]; exact nI_le (Nat.zero_le w) (by omega)
  have ew2 : (told m p 6).toNatClampNeg = w := ix_cl e6 (by omega)
  have ec2 : wayC m w = c := ix_cl ec (by omega)
  refine mc_of (by decide) (Nat.le_of_ble_eq_true rfl) ?_
  intro K X r
  refine v_eqv (lv2 := [(0, .ref a), (1, .ref b), (2, .int s), (3, .int l), (4, .int e), (5, .int t)]) rfl ?_
  refine v_aload_n X dX1_shove_0 0 rfl ?_
  refine v_get X fX1_9 hp rfl dX1_shove_1 ?_
  by_cases c1_1 : (told m p) 0 = 1
  · refine v_tabIn X dX1_shove_4 (off := 36) (tgt := 40) 1 c1_1 (by decide) (by decide) (by decide) (by decide) ?_
    refine v_iload X dX1_shove_40 4 rfl ?_
    refine v_iconst X dX1_shove_42 (v := 2) (by decide) ?_
    refine v_icmp_lt X dX1_shove_43 (tgt := 53) (by decide) (fun c2 => ?_) (fun c2 => ?_)
    · refine v_iconst X dX1_shove_53 (v := 0) (by decide) ?_
      exact v_iret X r dX1_shove_54 (Nat.le_refl _) (Nat.le_refl _) ⟨ri (by simp [pushM, waitS, deedS, hold_held hre, szR hs, h60, ew2, ec2, c1_1, c2, Int32.not_le.mpr c2]), rfl⟩
    · refine v_aload_n X dX1_shove_46 0 rfl ?_
      refine v_get X fX1_21 hp rfl dX1_shove_47 ?_
      refine v_goto X dX1_shove_50 (tgt := 54) (by decide) ?_
      exact v_iret X r dX1_shove_54 (Nat.le_refl _) (Nat.le_refl _) ⟨ri (by simp [pushM, waitS, deedS, hold_held hre, szR hs, h60, ew2, ec2, c1_1, c2, Int32.not_lt.mp c2]), rfl⟩
  by_cases c1_2 : (told m p) 0 = 2
  · refine v_tabIn X dX1_shove_4 (off := 51) (tgt := 55) 2 c1_2 (by decide) (by decide) (by decide) (by decide) ?_
    refine v_iload_n X dX1_shove_55 2 rfl ?_
    refine v_iconst X dX1_shove_56 (v := 2) (by decide) ?_
    refine v_idiv X dX1_shove_57 (by decide) ?_
    refine v_ineg X dX1_shove_58 ?_
    refine v_aload_n X dX1_shove_59 0 rfl ?_
    refine v_get X fX1_21 hp rfl dX1_shove_60 ?_
    refine v_cSni X [.int (-(s / 2)), .int ((told m p) 3)] sX1_33 (ct_X7_atMost ll g (-(s / 2)) ((told m p) 3)) dX1_shove_63 rfl rfl ⟨rfl, rfl⟩ ⟨(Nat.le_of_ble_eq_true rfl), (Nat.le_of_ble_eq_true rfl)⟩ ⟨Nat.zero_le _, Nat.zero_le _⟩ (Nat.le_of_ble_eq_true rfl) ?_
    exact v_iret X r dX1_shove_66 (Nat.le_refl _) (Nat.le_refl _) ⟨ri (by simp [pushM, waitS, deedS, hold_held hre, szR hs, h60, ew2, ec2, c1_1, c1_2]), rfl⟩
  by_cases c1_3 : (told m p) 0 = 3
  · refine v_tabIn X dX1_shove_4 (off := 63) (tgt := 67) 3 c1_3 (by decide) (by decide) (by decide) (by decide) ?_
    refine v_iload_n X dX1_shove_67 2 rfl ?_
    refine v_iconst X dX1_shove_68 (v := 5) (by decide) ?_
    refine v_icmp_ge X dX1_shove_69 (tgt := 78) (by decide) (fun c3 => ?_) (fun c3 => ?_)
    · refine v_iload_n X dX1_shove_78 2 rfl ?_
      refine v_iconst X dX1_shove_79 (v := 2) (by decide) ?_
      refine v_idiv X dX1_shove_80 (by decide) ?_
      refine v_ineg X dX1_shove_81 ?_
      refine v_aload_n X dX1_shove_82 0 rfl ?_
      refine v_get X fX1_21 hp rfl dX1_shove_83 ?_
      refine v_cSni X [.int (-(s / 2)), .int ((told m p) 3)] sX1_33 (ct_X7_atMost ll g (-(s / 2)) ((told m p) 3)) dX1_shove_86 rfl rfl ⟨rfl, rfl⟩ ⟨(Nat.le_of_ble_eq_true rfl), (Nat.le_of_ble_eq_true rfl)⟩ ⟨Nat.zero_le _, Nat.zero_le _⟩ (Nat.le_of_ble_eq_true rfl) ?_
      refine v_goto X dX1_shove_89 (tgt := 97) (by decide) ?_
      exact v_iret X r dX1_shove_97 (Nat.le_refl _) (Nat.le_refl _) ⟨ri (by simp [pushM, waitS, deedS, hold_held hre, szR hs, h60, ew2, ec2, c1_1, c1_2, c1_3, c3, Int32.not_lt.mpr c3]), rfl⟩
    · refine v_iload_n X dX1_shove_72 2 rfl ?_
      refine v_bipush X dX1_shove_73 (v := (-5)) (by decide) ?_
      refine v_icmp_gt X dX1_shove_75 (tgt := 92) (by decide) (fun c4 => ?_) (fun c4 => ?_)
      · refine v_aload_n X dX1_shove_92 0 rfl ?_
        refine v_get X fX1_21 hp rfl dX1_shove_93 ?_
        refine v_ineg X dX1_shove_96 ?_
        exact v_iret X r dX1_shove_97 (Nat.le_refl _) (Nat.le_refl _) ⟨ri (by simp [pushM, waitS, deedS, hold_held hre, szR hs, h60, ew2, ec2, c1_1, c1_2, c1_3, c3, Int32.not_le.mp c3, c4, Int32.not_le.mpr c4]), rfl⟩
      · refine v_iload_n X dX1_shove_78 2 rfl ?_
        refine v_iconst X dX1_shove_79 (v := 2) (by decide) ?_
        refine v_idiv X dX1_shove_80 (by decide) ?_
        refine v_ineg X dX1_shove_81 ?_
        refine v_aload_n X dX1_shove_82 0 rfl ?_
        refine v_get X fX1_21 hp rfl dX1_shove_83 ?_
        refine v_cSni X [.int (-(s / 2)), .int ((told m p) 3)] sX1_33 (ct_X7_atMost ll g (-(s / 2)) ((told m p) 3)) dX1_shove_86 rfl rfl ⟨rfl, rfl⟩ ⟨(Nat.le_of_ble_eq_true rfl), (Nat.le_of_ble_eq_true rfl)⟩ ⟨Nat.zero_le _, Nat.zero_le _⟩ (Nat.le_of_ble_eq_true rfl) ?_
        refine v_goto X dX1_shove_89 (tgt := 97) (by decide) ?_
        exact v_iret X r dX1_shove_97 (Nat.le_refl _) (Nat.le_refl _) ⟨ri (by simp [pushM, waitS, deedS, hold_held hre, szR hs, h60, ew2, ec2, c1_1, c1_2, c1_3, c3, Int32.not_le.mp c3, c4, Int32.not_lt.mp c4]), rfl⟩
  by_cases c1_4 : (told m p) 0 = 4
  · refine v_tabIn X dX1_shove_4 (off := 94) (tgt := 98) 4 c1_4 (by decide) (by decide) (by decide) (by decide) ?_
    refine v_aload_n X dX1_shove_98 0 rfl ?_
    refine v_iload X dX1_shove_99 4 rfl ?_
    refine v_iload X dX1_shove_101 5 rfl ?_
    refine v_cVi X [.int e, .int t] sX1_37 (ct_X1_waiterShove ll g e t hp) hp rfl dX1_shove_103 rfl rfl ⟨rfl, rfl⟩ ⟨(Nat.le_of_ble_eq_true rfl), (Nat.le_of_ble_eq_true rfl)⟩ ⟨Nat.zero_le _, Nat.zero_le _⟩ (Nat.le_of_ble_eq_true rfl) ?_
    exact v_iret X r dX1_shove_106 (Nat.le_refl _) (Nat.le_refl _) ⟨ri (by simp [pushM, waitS, deedS, hold_held hre, szR hs, h60, ew2, ec2, c1_1, c1_2, c1_3, c1_4]), rfl⟩
  by_cases c1_5 : (told m p) 0 = 5
  · refine v_tabIn X dX1_shove_4 (off := 103) (tgt := 107) 5 c1_5 (by decide) (by decide) (by decide) (by decide) ?_
    refine v_aload_n X dX1_shove_107 1 rfl ?_
    refine v_ifnonnull X dX1_shove_108 (tgt := 122) (by decide) ?_
    refine v_aload_n X dX1_shove_122 0 rfl ?_
    refine v_aload_n X dX1_shove_123 1 rfl ?_
    refine v_aload_n X dX1_shove_124 1 rfl ?_
    refine v_iload_n X dX1_shove_125 2 rfl ?_
    refine v_iload_n X dX1_shove_126 3 rfl ?_
    refine v_iload X dX1_shove_127 4 rfl ?_
    refine v_iload X dX1_shove_129 5 rfl ?_
    refine v_cVi X [.int s, .int l, .int e, .int t] sX1_40 (ct_X5_firstThat ll g s l e t hb h1 h2 h3 h4 hc hr) hb rfl dX1_shove_131 rfl rfl ⟨rfl, rfl⟩ ⟨(Nat.le_of_ble_eq_true rfl), (Nat.le_of_ble_eq_true rfl)⟩ ⟨Nat.zero_le _, Nat.zero_le _⟩ (Nat.le_of_ble_eq_true rfl) ?_
    refine v_cVi X [.int (ruleS m w c s l e t)] sX1_46 (ct_X5_deedOf ll g s l e t hb h1 h2 h3 h4 hc hr) hb rfl dX1_shove_134 rfl rfl ⟨rfl, rfl⟩ ⟨(Nat.le_of_ble_eq_true rfl), (Nat.le_of_ble_eq_true rfl)⟩ ⟨Nat.zero_le _, Nat.zero_le _⟩ (Nat.le_of_ble_eq_true rfl) ?_
    refine v_iload_n X dX1_shove_137 2 rfl ?_
    refine v_iload_n X dX1_shove_138 3 rfl ?_
    refine v_cVi X [.int (deedK m w c s l e t), .int s, .int l] sX1_50 (ct_X1_deedShove ll g (deedK m w c s l e t) s l hp hre) hp rfl dX1_shove_139 rfl rfl ⟨rfl, rfl⟩ ⟨(Nat.le_of_ble_eq_true rfl), (Nat.le_of_ble_eq_true rfl)⟩ ⟨Nat.zero_le _, Nat.zero_le _⟩ (Nat.le_of_ble_eq_true rfl) ?_
    exact v_iret X r dX1_shove_142 (Nat.le_refl _) (Nat.le_refl _) ⟨ri (by simp [pushM, waitS, deedS, hold_held hre, szR hs, h60, ew2, ec2, c1_1, c1_2, c1_3, c1_4, c1_5]), rfl⟩
  refine v_tabOut X dX1_shove_4 (tgt := 143) (by have e1 := lv_neT (k := 1) (a := 1) c1_1 (by decide); have e2 := lv_neT (k := 2) (a := 2) c1_2 (by decide); have e3 := lv_neT (k := 3) (a := 3) c1_3 (by decide); have e4 := lv_neT (k := 4) (a := 4) c1_4 (by decide); have e5 := lv_neT (k := 5) (a := 5) c1_5 (by decide); omega) (by decide) ?_
  refine v_iconst X dX1_shove_143 (v := 0) (by decide) ?_
  exact v_iret X r dX1_shove_144 (Nat.le_refl _) (Nat.le_refl _) ⟨ri (by simp [pushM, waitS, deedS, hold_held hre, szR hs, h60, ew2, ec2, c1_1, c1_2, c1_3, c1_4, c1_5]), rfl⟩
set_option maxHeartbeats 4000000 in
set_option maxRecDepth 100000 in
theorem ct_X0_seenBy (ll : Launch) (g : GT) {h : Hp} {M pa wa ra fa sa : Nat} {m : Nat → Int32} {a p T lg : Nat} {tr : Nat → Int32} {u5 z : Int32} (hM : h M = some (ob 0 [.ref pa, .ref wa, .ref ra, .ref fa, .ref sa, .int u5, .int (m 6), .int z])) (ha : h a = some (ob 1 [.int ((told m p) 0), .int ((told m p) 1), .int ((told m p) 2), .int ((told m p) 3), .int ((told m p) 4), .int ((told m p) 5), .int ((told m p) 6)])) (hra : h ra = some (ai g 10 tr)) (hR : RingOk m T tr) (hT : m 6 = nI T) (hT2 : T < 2 ^ 30) (hl : told m p 2 = nI lg) (hlg : lg ≤ 9) : MF ll g yX0_seenBy cX0_seenBy 3 (some .int) (k2_rm 0 0) [.ref M, .ref a] h (some (.int (seesM m p))) h := by
  refine mc_of (by decide) (Nat.le_of_ble_eq_true rfl) ?_
  intro K X r
  refine v_eqv (lv2 := [(0, .ref M), (1, .ref a)]) rfl ?_
  refine v_aload_n X dX0_seenBy_0 0 rfl ?_
  refine v_get X fX0_29 hM rfl dX0_seenBy_1 ?_
  refine v_aload_n X dX0_seenBy_4 1 rfl ?_
  refine v_get X fX0_108 ha rfl dX0_seenBy_5 ?_
  refine v_isub X dX0_seenBy_8 ?_
  refine v_istore_n (lv1 := [(2, .int ((m 6) - ((told m p) 2))), (0, .ref M), (1, .ref a)]) X dX0_seenBy_9 (by decide) rfl ?_
  refine v_iload_n X dX0_seenBy_10 0 rfl ?_
  refine v_if_ge X dX0_seenBy_11 (tgt := 18) (by decide) (fun c1 => ?_) (fun c1 => ?_)
  · obtain ⟨j, hj, ej⟩ := nI_of (Int32.not_lt.mpr c1)
    refine v_aload_n X dX0_seenBy_18 1 rfl ?_
    refine v_get X fX0_11 hM rfl dX0_seenBy_19 ?_
    refine v_iload_n X dX0_seenBy_22 0 rfl ?_
    refine v_bipush X dX0_seenBy_23 (v := 10) (by decide) ?_
    refine v_irem X dX0_seenBy_25 (by decide) ?_
    refine v_ialdK X (j % 10) hra (ix_rem ej (rfl : (10 : Int32) = nI 10) hj (by decide) (by decide)) (Nat.mod_lt _ (by decide)) (by decide) dX0_seenBy_26 ?_
    exact v_iret X r dX0_seenBy_27 (Nat.le_refl _) (Nat.le_refl _) ⟨ri (sees_ring hR hT hT2 hl hlg ej hj).symm, rfl⟩
  · refine v_iconst X dX0_seenBy_14 (v := 0) (by decide) ?_
    refine v_goto X dX0_seenBy_15 (tgt := 27) (by decide) ?_
    exact v_iret X r dX0_seenBy_27 (Nat.le_refl _) (Nat.le_refl _) ⟨ri (sees_0 c1).symm, rfl⟩
set_option maxHeartbeats 4000000 in
set_option maxRecDepth 100000 in
theorem ct_X0_nextShove (ll : Launch) (g : GT) {h : Hp} {M pa wa ra fa sa : Nat} {m : Nat → Int32} {a b p T lg : Nat} {tr : Nat → Int32} {wf : Nat → Option Nat} {u5 z ft l e sg sv : Int32} (hM : h M = some (ob 0 [.ref pa, .ref wa, .ref ra, .ref fa, .ref sa, .int u5, .int (m 6), .int z])) (ha : h a = some (ob 1 [.int ((told m p) 0), .int ((told m p) 1), .int ((told m p) 2), .int ((told m p) 3), .int ((told m p) 4), .int ((told m p) 5), .int ((told m p) 6)])) (hra : h ra = some (ai g 10 tr)) (hwa : h wa = some (ar g 4 6 wf)) (hb : h b = some (ob 3 [.int ft, .int l, .int e, .int sg, .int sv])) (hR : RingOk m T tr) (hT : m 6 = nI T) (hT2 : T < 2 ^ 30) (hl : told m p 2 = nI lg) (hlg : lg ≤ 9) (hw : HW g h wf m p) (hre : 0 ≤ told m p 3) (hs : ¬ seesM m p = -2147483648) : MF ll g yX0_nextShove cX0_nextShove 5 (some .int) (k2_rm 4 140) [.ref M, .ref a, .ref b] h (some (.int (pshS m p l e))) h := by
  refine mc_of (by decide) (Nat.le_of_ble_eq_true rfl) ?_
  intro K X r
  refine v_eqv (lv2 := [(0, .ref M), (1, .ref a), (2, .ref b)]) rfl ?_
  refine v_aload_n X dX0_nextShove_0 1 rfl ?_
  refine v_get X fX0_111 ha rfl dX0_nextShove_1 ?_
  refine v_iconst X dX0_nextShove_4 (v := 0) (by decide) ?_
  refine v_iconst X dX0_nextShove_5 (v := 5) (by decide) ?_
  refine v_cSni X [.int ((told m p) 6), .int 0, .int 5] sX0_114 (ct_X7_within ll g ((told m p) 6) 0 5) dX0_nextShove_6 rfl rfl ⟨rfl, rfl⟩ ⟨(Nat.le_of_ble_eq_true rfl), (Nat.le_of_ble_eq_true rfl)⟩ ⟨Nat.zero_le _, Nat.zero_le _⟩ (Nat.le_of_ble_eq_true rfl) ?_
  refine v_ifb_eq X dX0_nextShove_9 (tgt := 24) (by decide) (fun c1 => ?_) (fun c1 => ?_)
  · have h6 : told m p 6 = -1 := hw.resolve_right (fun ⟨w, b2, e6, hw6, _⟩ => c1 ⟨by rw [e6]; exact nI_le (Nat.zero_le w) (by omega), by rw [e6]; exact nI_le (show w ≤ 5 by omega) (by decide)⟩)
    refine v_null X dX0_nextShove_24 ?_
    refine v_astore_nN (lv1 := [(3, .null), (0, .ref M), (1, .ref a), (2, .ref b)]) X dX0_nextShove_25 (by decide) rfl ?_
    refine v_aload_n X dX0_nextShove_26 2 rfl ?_
    refine v_aload_nN X dX0_nextShove_27 0 rfl ?_
    refine v_aload_n X dX0_nextShove_28 1 rfl ?_
    refine v_aload_n X dX0_nextShove_29 2 rfl ?_
    refine v_cVi X [.ref a] sX0_59 (ct_X0_seenBy ll g  hM ha hra (by assumption) (by assumption) (by assumption) (by assumption) (by assumption)) hM rfl dX0_nextShove_30 rfl rfl ⟨rfl, rfl⟩ ⟨(Nat.le_of_ble_eq_true rfl), (Nat.le_of_ble_eq_true rfl)⟩ ⟨Nat.zero_le _, Nat.zero_le _⟩ (Nat.le_of_ble_eq_true rfl) ?_
    refine v_aload_n X dX0_nextShove_33 3 rfl ?_
    refine v_get X fX0_88 hb rfl dX0_nextShove_34 ?_
    refine v_aload_n X dX0_nextShove_37 3 rfl ?_
    refine v_get X fX0_118 hb rfl dX0_nextShove_38 ?_
    refine v_aload_n X dX0_nextShove_41 1 rfl ?_
    refine v_get X fX0_29 hM rfl dX0_nextShove_42 ?_
    refine v_cVi X [.null, .int (seesM m p), .int l, .int e, .int (m 6)] sX0_121 (ct_X1_shoveN (m := m) (p := p) ll g (seesM m p) l e (m 6) ha hre hs h6) ha rfl dX0_nextShove_45 rfl rfl ⟨rfl, rfl⟩ ⟨(Nat.le_of_ble_eq_true rfl), (Nat.le_of_ble_eq_true rfl)⟩ ⟨Nat.zero_le _, Nat.zero_le _⟩ (Nat.le_of_ble_eq_true rfl) ?_
    refine v_istore (lv1 := [(4, .int (pushM m p (seesM m p) l e (m 6))), (3, .null), (0, .ref M), (1, .ref a), (2, .ref b)]) X dX0_nextShove_48 (by decide) rfl ?_
    refine v_aload_n X dX0_nextShove_50 4 rfl ?_
    refine v_get X fX0_118 hb rfl dX0_nextShove_51 ?_
    refine v_iload X dX0_nextShove_54 0 rfl ?_
    refine v_cSi X [.int (pushM m p (seesM m p) l e (m 6))] sX0_124 (ct_X3_cost ll g (pushM m p (seesM m p) l e (m 6))) dX0_nextShove_56 rfl rfl ⟨rfl, rfl⟩ ⟨(Nat.le_of_ble_eq_true rfl), (Nat.le_of_ble_eq_true rfl)⟩ ⟨Nat.zero_le _, Nat.zero_le _⟩ (Nat.le_of_ble_eq_true rfl) ?_
    refine v_icmp_ge X dX0_nextShove_59 (tgt := 66) (by decide) (fun c2 => ?_) (fun c2 => ?_)
    · refine v_iload X dX0_nextShove_66 0 rfl ?_
      exact v_iret X r dX0_nextShove_68 (Nat.le_refl _) (Nat.le_refl _) ⟨ri (by unfold pshS; rw [← cost_M, if_pos c2]), rfl⟩
    · refine v_iconst X dX0_nextShove_62 (v := 0) (by decide) ?_
      refine v_goto X dX0_nextShove_63 (tgt := 68) (by decide) ?_
      exact v_iret X r dX0_nextShove_68 (Nat.le_refl _) (Nat.le_refl _) ⟨ri (by unfold pshS; rw [← cost_M, if_neg c2]), rfl⟩
  · obtain ⟨w, b2, e6, hw6, ewf, c_, n1, n2, n3, n4, f1, f2, f3, f4, k0, k1, k2, k3, k4, hc6, ec, hr⟩ := hw.resolve_left (fun z => absurd c1.1 (by rw [z]; decide))
    refine v_aload_n X dX0_nextShove_12 0 rfl ?_
    refine v_get X fX0_38 hM rfl dX0_nextShove_13 ?_
    refine v_aload_n X dX0_nextShove_16 1 rfl ?_
    refine v_get X fX0_111 ha rfl dX0_nextShove_17 ?_
    refine v_aaldK X 4 rfl w (v := .ref b2) hwa e6 hw6 (by decide) (by rw [ewf]; rfl) dX0_nextShove_20 ?_
    refine v_goto X dX0_nextShove_21 (tgt := 25) (by decide) ?_
    refine v_astore_n (lv1 := [(3, .ref b2), (0, .ref M), (1, .ref a), (2, .ref b)]) X dX0_nextShove_25 (by decide) rfl ?_
    refine v_aload_n X dX0_nextShove_26 2 rfl ?_
    refine v_aload_n X dX0_nextShove_27 0 rfl ?_
    refine v_aload_n X dX0_nextShove_28 1 rfl ?_
    refine v_aload_n X dX0_nextShove_29 2 rfl ?_
    refine v_cVi X [.ref a] sX0_59 (ct_X0_seenBy ll g  hM ha hra (by assumption) (by assumption) (by assumption) (by assumption) (by assumption)) hM rfl dX0_nextShove_30 rfl rfl ⟨rfl, rfl⟩ ⟨(Nat.le_of_ble_eq_true rfl), (Nat.le_of_ble_eq_true rfl)⟩ ⟨Nat.zero_le _, Nat.zero_le _⟩ (Nat.le_of_ble_eq_true rfl) ?_
    refine v_aload_n X dX0_nextShove_33 3 rfl ?_
    refine v_get X fX0_88 hb rfl dX0_nextShove_34 ?_
    refine v_aload_n X dX0_nextShove_37 3 rfl ?_
    refine v_get X fX0_118 hb rfl dX0_nextShove_38 ?_
    refine v_aload_n X dX0_nextShove_41 1 rfl ?_
    refine v_get X fX0_29 hM rfl dX0_nextShove_42 ?_
    refine v_cVi X [.ref b2, .int (seesM m p), .int l, .int e, .int (m 6)] sX0_121 (ct_X1_shoveR (m := m) (p := p) (w := w) ll g (seesM m p) l e (m 6) ha hre hs k0 k1 k2 k3 k4 hc6 hr e6 hw6 ec) ha rfl dX0_nextShove_45 rfl rfl ⟨rfl, rfl⟩ ⟨(Nat.le_of_ble_eq_true rfl), (Nat.le_of_ble_eq_true rfl)⟩ ⟨Nat.zero_le _, Nat.zero_le _⟩ (Nat.le_of_ble_eq_true rfl) ?_
    refine v_istore (lv1 := [(4, .int (pushM m p (seesM m p) l e (m 6))), (3, .ref b2), (0, .ref M), (1, .ref a), (2, .ref b)]) X dX0_nextShove_48 (by decide) rfl ?_
    refine v_aload_n X dX0_nextShove_50 4 rfl ?_
    refine v_get X fX0_118 hb rfl dX0_nextShove_51 ?_
    refine v_iload X dX0_nextShove_54 0 rfl ?_
    refine v_cSi X [.int (pushM m p (seesM m p) l e (m 6))] sX0_124 (ct_X3_cost ll g (pushM m p (seesM m p) l e (m 6))) dX0_nextShove_56 rfl rfl ⟨rfl, rfl⟩ ⟨(Nat.le_of_ble_eq_true rfl), (Nat.le_of_ble_eq_true rfl)⟩ ⟨Nat.zero_le _, Nat.zero_le _⟩ (Nat.le_of_ble_eq_true rfl) ?_
    refine v_icmp_ge X dX0_nextShove_59 (tgt := 66) (by decide) (fun c3 => ?_) (fun c3 => ?_)
    · refine v_iload X dX0_nextShove_66 0 rfl ?_
      exact v_iret X r dX0_nextShove_68 (Nat.le_refl _) (Nat.le_refl _) ⟨ri (by unfold pshS; rw [← cost_M, if_pos c3]), rfl⟩
    · refine v_iconst X dX0_nextShove_62 (v := 0) (by decide) ?_
      refine v_goto X dX0_nextShove_63 (tgt := 68) (by decide) ?_
      exact v_iret X r dX0_nextShove_68 (Nat.le_refl _) (Nat.le_refl _) ⟨ri (by unfold pshS; rw [← cost_M, if_neg c3]), rfl⟩
set_option maxHeartbeats 4000000 in
set_option maxRecDepth 100000 in
theorem ct_X0_roll (ll : Launch) (g : GT) {h : Hp} {M pa wa ra fa sa : Nat} {m : Nat → Int32} {a b p0 p1 : Nat} {s0 s1 u1 u2 u3 u4 v1 v2 v3 v4 z t6 : Int32} (hM : h M = some (ob 0 [.ref pa, .ref wa, .ref ra, .ref fa, .ref sa, .int (m 5), .int t6, .int z])) (hpa : h pa = some (ai g 5 (ptF m))) (ha : h a = some (ob 1 [.int ((told m p0) 0), .int ((told m p0) 1), .int ((told m p0) 2), .int ((told m p0) 3), .int ((told m p0) 4), .int ((told m p0) 5), .int ((told m p0) 6)])) (hb : h b = some (ob 1 [.int ((told m p1) 0), .int ((told m p1) 1), .int ((told m p1) 2), .int ((told m p1) 3), .int ((told m p1) 4), .int ((told m p1) 5), .int ((told m p1) 6)])) (hfa : h fa = some (ob 3 [.int u1, .int u2, .int u3, .int u4, .int s0])) (hsa : h sa = some (ob 3 [.int v1, .int v2, .int v3, .int v4, .int s1])) (hm : 0 < m 10 * m 10 + told m p0 1 + told m p1 1) : MF ll g yX0_roll cX0_roll 4 none (k2_rm 0 0) [.ref M, .ref a, .ref b] h none (hU h M (ob 0 [.ref pa, .ref wa, .ref ra, .ref fa, .ref sa, .int (rl2 m p0 p1 s0 s1), .int t6, .int z])) := by
  have ne_1 : pa ≠ M := hneb hpa hM rfl
  refine mc_of (by decide) (Nat.le_of_ble_eq_true rfl) ?_
  intro K X r
  refine v_eqv (lv2 := [(0, .ref M), (1, .ref a), (2, .ref b)]) rfl ?_
  refine v_aload_n X dX0_roll_0 0 rfl ?_
  refine v_get X fX0_35 hM rfl dX0_roll_1 ?_
  refine v_iconst X dX0_roll_4 (v := 0) (by decide) ?_
  refine v_ialdK X 0 hpa (rfl : (0 : Int32) = nI 0) (by decide) (by decide) dX0_roll_5 ?_
  refine v_aload_n X dX0_roll_6 0 rfl ?_
  refine v_get X fX0_35 hM rfl dX0_roll_7 ?_
  refine v_iconst X dX0_roll_10 (v := 0) (by decide) ?_
  refine v_ialdK X 0 hpa (rfl : (0 : Int32) = nI 0) (by decide) (by decide) dX0_roll_11 ?_
  refine v_imul X dX0_roll_12 ?_
  refine v_aload_n X dX0_roll_13 1 rfl ?_
  refine v_get X fX0_95 ha rfl dX0_roll_14 ?_
  refine v_iadd X dX0_roll_17 ?_
  refine v_aload_n X dX0_roll_18 2 rfl ?_
  refine v_get X fX0_95 hb rfl dX0_roll_19 ?_
  refine v_iadd X dX0_roll_22 ?_
  refine v_istore_n (lv1 := [(3, .int (((((ptF m) 0) * ((ptF m) 0)) + ((told m p0) 1)) + ((told m p1) 1))), (0, .ref M), (1, .ref a), (2, .ref b)]) X dX0_roll_23 (by decide) rfl ?_
  refine v_iload_n X dX0_roll_24 0 rfl ?_
  refine v_if_le X dX0_roll_25 (tgt := 64) (by decide) (fun c1 => ?_) (fun c1 => ?_)
  · exact absurd hm (Int32.not_lt.mpr c1)
  · have hnz : ¬ (ptF m 0 * ptF m 0 + told m p0 1 + told m p1 1 = 0) := fun z => c1 (by rw [z]; decide)
    refine v_aload_n X dX0_roll_28 1 rfl ?_
    refine v_dup X dX0_roll_29 rfl ?_
    refine v_get X fX0_25 hM rfl dX0_roll_30 ?_
    refine v_aload_n X dX0_roll_33 1 rfl ?_
    refine v_get X fX0_18 hM rfl dX0_roll_34 ?_
    refine v_get X fX0_98 hfa rfl dX0_roll_37 ?_
    refine v_aload_n X dX0_roll_40 2 rfl ?_
    refine v_get X fX0_95 ha rfl dX0_roll_41 ?_
    refine v_imul X dX0_roll_44 ?_
    refine v_aload_n X dX0_roll_45 1 rfl ?_
    refine v_get X fX0_22 hM rfl dX0_roll_46 ?_
    refine v_get X fX0_98 hsa rfl dX0_roll_49 ?_
    refine v_aload_n X dX0_roll_52 3 rfl ?_
    refine v_get X fX0_95 hb rfl dX0_roll_53 ?_
    refine v_imul X dX0_roll_56 ?_
    refine v_iadd X dX0_roll_57 ?_
    refine v_iload_n X dX0_roll_58 0 rfl ?_
    refine v_idiv X dX0_roll_59 hnz ?_
    refine v_iadd X dX0_roll_60 ?_
    refine v_putE (h2 := (hU h M (ob 0 [.ref pa, .ref wa, .ref ra, .ref fa, .ref sa, .int ((m 5) + (((s0 * ((told m p0) 1)) + (s1 * ((told m p1) 1))) / (((((ptF m) 0) * ((ptF m) 0)) + ((told m p0) 1)) + ((told m p1) 1)))), .int t6, .int z]))) X fX0_25 tyX0_ok nmX0 rfl pd_I hM rfl rfl (ltb rfl) dX0_roll_61 rfl ?_
    refine v_aload_n X dX0_roll_64 1 rfl ?_
    refine v_dup X dX0_roll_65 rfl ?_
    refine v_get X fX0_25 hU_s rfl dX0_roll_66 ?_
    refine v_aload_n X dX0_roll_69 1 rfl ?_
    refine v_get X fX0_25 hU_s rfl dX0_roll_70 ?_
    refine v_aload_n X dX0_roll_73 1 rfl ?_
    refine v_get X fX0_35 hU_s rfl dX0_roll_74 ?_
    refine v_iconst X dX0_roll_77 (v := 1) (by decide) ?_
    refine v_ialdK X 1 ((hU_n ne_1).trans hpa) (rfl : (1 : Int32) = nI 1) (by decide) (by decide) dX0_roll_78 ?_
    refine v_aload_n X dX0_roll_79 1 rfl ?_
    refine v_get X fX0_35 hU_s rfl dX0_roll_80 ?_
    refine v_iconst X dX0_roll_83 (v := 2) (by decide) ?_
    refine v_ialdK X 2 ((hU_n ne_1).trans hpa) (rfl : (2 : Int32) = nI 2) (by decide) (by decide) dX0_roll_84 ?_
    refine v_iadd X dX0_roll_85 ?_
    refine v_imul X dX0_roll_86 ?_
    refine v_bipush X dX0_roll_87 (v := 100) (by decide) ?_
    refine v_idiv X dX0_roll_89 (by decide) ?_
    refine v_isub X dX0_roll_90 ?_
    refine v_putE (h2 := (hU h M (ob 0 [.ref pa, .ref wa, .ref ra, .ref fa, .ref sa, .int (((m 5) + (((s0 * ((told m p0) 1)) + (s1 * ((told m p1) 1))) / (((((ptF m) 0) * ((ptF m) 0)) + ((told m p0) 1)) + ((told m p1) 1)))) - ((((m 5) + (((s0 * ((told m p0) 1)) + (s1 * ((told m p1) 1))) / (((((ptF m) 0) * ((ptF m) 0)) + ((told m p0) 1)) + ((told m p1) 1)))) * (((ptF m) 1) + ((ptF m) 2))) / 100)), .int t6, .int z]))) X fX0_25 tyX0_ok nmX0 rfl pd_I hU_s rfl rfl (ltb rfl) dX0_roll_91 hU_u ?_
    exact v_vret X r dX0_roll_94 (Nat.le_refl _) (Nat.le_refl _) ⟨rfl, rfl⟩
set_option maxHeartbeats 4000000 in
set_option maxRecDepth 100000 in
theorem ct_X0_stepUnlessSlipping (ll : Launch) (g : GT) {h : Hp} {M pa wa ra fa sa : Nat} {m : Nat → Int32} {a b p : Nat} {u5 z t6 ft l e sg sv : Int32} (hM : h M = some (ob 0 [.ref pa, .ref wa, .ref ra, .ref fa, .ref sa, .int u5, .int t6, .int z])) (hpa : h pa = some (ai g 5 (ptF m))) (ha : h a = some (ob 1 [.int ((told m p) 0), .int ((told m p) 1), .int ((told m p) 2), .int ((told m p) 3), .int ((told m p) 4), .int ((told m p) 5), .int ((told m p) 6)])) (hb : h b = some (ob 3 [.int ft, .int l, .int e, .int sg, .int sv])) (hre : 0 ≤ told m p 3) : MF ll g yX0_stepUnlessSlipping cX0_stepUnlessSlipping 3 none (k2_rm 2 60) [.ref M, .ref a, .ref b] h none (hU (hU h M (ob 0 [.ref pa, .ref wa, .ref ra, .ref fa, .ref sa, .int u5, .int t6, .int (zN z)])) b (ob 3 [.int (feetS ft sg (told m p 3) (zN z) (m 14)), .int l, .int e, .int sg, .int sv])) := by
  have ne_1 : pa ≠ M := hneb hpa hM rfl
  have ne_2 : b ≠ M := hneb hb hM rfl
  have ne_3 : a ≠ M := hneb ha hM rfl
  refine mc_of (by decide) (Nat.le_of_ble_eq_true rfl) ?_
  intro K X r
  refine v_eqv (lv2 := [(0, .ref M), (1, .ref a), (2, .ref b)]) rfl ?_
  refine v_aload_n X dX0_stepUnlessSlipping_0 0 rfl ?_
  refine v_aload_n X dX0_stepUnlessSlipping_1 0 rfl ?_
  refine v_get X fX0_32 hM rfl dX0_stepUnlessSlipping_2 ?_
  refine v_ldc X dX0_stepUnlessSlipping_5 kX0_101 ?_
  refine v_imul X dX0_stepUnlessSlipping_7 ?_
  refine v_sipush X dX0_stepUnlessSlipping_8 (v := 12345) (by decide) ?_
  refine v_iadd X dX0_stepUnlessSlipping_11 ?_
  refine v_putE (h2 := (hU h M (ob 0 [.ref pa, .ref wa, .ref ra, .ref fa, .ref sa, .int u5, .int t6, .int ((z * 1103515245) + 12345)]))) X fX0_32 tyX0_ok nmX0 rfl pd_I hM rfl rfl (ltb rfl) dX0_stepUnlessSlipping_12 rfl ?_
  refine v_aload_n X dX0_stepUnlessSlipping_15 0 rfl ?_
  refine v_get X fX0_32 hU_s rfl dX0_stepUnlessSlipping_16 ?_
  refine v_bipush X dX0_stepUnlessSlipping_19 (v := 8) (by decide) ?_
  refine v_iushr X dX0_stepUnlessSlipping_21 ?_
  refine v_bipush X dX0_stepUnlessSlipping_22 (v := 100) (by decide) ?_
  refine v_irem X dX0_stepUnlessSlipping_24 (by decide) ?_
  refine v_aload_n X dX0_stepUnlessSlipping_25 0 rfl ?_
  refine v_get X fX0_35 hU_s rfl dX0_stepUnlessSlipping_26 ?_
  refine v_iconst X dX0_stepUnlessSlipping_29 (v := 4) (by decide) ?_
  refine v_ialdK X 4 ((hU_n ne_1).trans hpa) (rfl : (4 : Int32) = nI 4) (by decide) (by decide) dX0_stepUnlessSlipping_30 ?_
  refine v_icmp_lt X dX0_stepUnlessSlipping_31 (tgt := 42) (by decide) (fun c1 => ?_) (fun c1 => ?_)
  · exact v_vret X r dX0_stepUnlessSlipping_42 (Nat.le_refl _) (Nat.le_refl _) ⟨rfl, (by rw [feetT (show drawS (zN z) < m 14 from c1)]; exact (hU_id ((hU_n ne_2).trans hb)).symm)⟩
  · refine v_aload_n X dX0_stepUnlessSlipping_34 2 rfl ?_
    refine v_aload_n X dX0_stepUnlessSlipping_35 1 rfl ?_
    refine v_get X fX0_102 ((hU_n ne_3).trans ha) rfl dX0_stepUnlessSlipping_36 ?_
    refine v_cVv X [.int ((told m p) 3)] sX0_105 (ct_X3_step ll g ((told m p) 3) ((hU_n ne_2).trans hb)) ((hU_n ne_2).trans hb) rfl dX0_stepUnlessSlipping_39 rfl rfl ⟨rfl, rfl⟩ ⟨(Nat.le_of_ble_eq_true rfl), (Nat.le_of_ble_eq_true rfl)⟩ ⟨Nat.zero_le _, Nat.zero_le _⟩ (Nat.le_of_ble_eq_true rfl) ?_
    exact v_vret X r dX0_stepUnlessSlipping_42 (Nat.le_refl _) (Nat.le_refl _) ⟨rfl, (by rw [feetF (show ¬ drawS (zN z) < m 14 from c1) hre]; rfl)⟩
set_option maxHeartbeats 4000000 in
set_option maxRecDepth 100000 in
theorem ct_X0_begin (ll : Launch) (g : GT) {h : Hp} {M pa wa ra fa sa : Nat} {m : Nat → Int32} {a b : Nat} {q0 q1 tr : Nat → Int32} {s0 s1 u1 u2 u3 u4 v1 v2 v3 v4 z u5 t6 : Int32} (hM : h M = some (ob 0 [.ref pa, .ref wa, .ref ra, .ref fa, .ref sa, .int u5, .int t6, .int z])) (ha : h a = some (ob 1 [.int (q0 0), .int (q0 1), .int (q0 2), .int (q0 3), .int (q0 4), .int (q0 5), .int (q0 6)])) (hb : h b = some (ob 1 [.int (q1 0), .int (q1 1), .int (q1 2), .int (q1 3), .int (q1 4), .int (q1 5), .int (q1 6)])) (hfa : h fa = some (ob 3 [.int u1, .int u2, .int u3, .int u4, .int s0])) (hsa : h sa = some (ob 3 [.int v1, .int v2, .int v3, .int v4, .int s1])) (hra : h ra = some (ai g 10 tr)) (hfs : fa ≠ sa) : MF ll g yX0_begin cX0_begin 3 none (k2_rm 1 30) [.ref M, .ref a, .ref b] h none (hU (hU (hU (hU h fa (ob 3 [.int 0, .int 0, .int (q0 4), .int u4, .int s0])) sa (ob 3 [.int 0, .int 0, .int (q1 4), .int v4, .int s1])) M (ob 0 [.ref pa, .ref wa, .ref ra, .ref fa, .ref sa, .int 0, .int 0, .int z])) ra (ai g 10 (upd tr 0 0))) := by
  have ne_1 : M ≠ fa := hneb hM hfa rfl
  have ne_2 : b ≠ fa := hneb hb hfa rfl
  have ne_3 : M ≠ sa := hneb hM hsa rfl
  have ne_4 : ra ≠ fa := hneb hra hfa rfl
  have ne_5 : ra ≠ sa := hneb hra hsa rfl
  have ne_6 : ra ≠ M := hneb hra hM rfl
  refine mc_of (by decide) (Nat.le_of_ble_eq_true rfl) ?_
  intro K X r
  refine v_eqv (lv2 := [(0, .ref M), (1, .ref a), (2, .ref b)]) rfl ?_
  refine v_aload_n X dX0_begin_0 0 rfl ?_
  refine v_get X fX0_18 hM rfl dX0_begin_1 ?_
  refine v_aload_n X dX0_begin_4 1 rfl ?_
  refine v_get X fX0_46 ha rfl dX0_begin_5 ?_
  refine v_cVv X [.int (q0 4)] sX0_51 (ct_X3_begin ll g (q0 4) hfa) hfa rfl dX0_begin_8 rfl rfl ⟨rfl, rfl⟩ ⟨(Nat.le_of_ble_eq_true rfl), (Nat.le_of_ble_eq_true rfl)⟩ ⟨Nat.zero_le _, Nat.zero_le _⟩ (Nat.le_of_ble_eq_true rfl) ?_
  refine v_aload_n X dX0_begin_11 0 rfl ?_
  refine v_get X fX0_22 ((hU_n ne_1).trans hM) rfl dX0_begin_12 ?_
  refine v_aload_n X dX0_begin_15 2 rfl ?_
  refine v_get X fX0_46 ((hU_n ne_2).trans hb) rfl dX0_begin_16 ?_
  refine v_cVv X [.int (q1 4)] sX0_51 (ct_X3_begin ll g (q1 4) ((hU_n (Ne.symm hfs)).trans hsa)) ((hU_n (Ne.symm hfs)).trans hsa) rfl dX0_begin_19 rfl rfl ⟨rfl, rfl⟩ ⟨(Nat.le_of_ble_eq_true rfl), (Nat.le_of_ble_eq_true rfl)⟩ ⟨Nat.zero_le _, Nat.zero_le _⟩ (Nat.le_of_ble_eq_true rfl) ?_
  refine v_aload_n X dX0_begin_22 0 rfl ?_
  refine v_iconst X dX0_begin_23 (v := 0) (by decide) ?_
  refine v_putE (h2 := (hU (hU (hU h fa (ob 3 [.int 0, .int 0, .int (q0 4), .int u4, .int s0])) sa (ob 3 [.int 0, .int 0, .int (q1 4), .int v4, .int s1])) M (ob 0 [.ref pa, .ref wa, .ref ra, .ref fa, .ref sa, .int 0, .int t6, .int z]))) X fX0_25 tyX0_ok nmX0 rfl pd_I ((hU_n ne_3).trans ((hU_n ne_1).trans hM)) rfl rfl (ltb rfl) dX0_begin_24 rfl ?_
  refine v_aload_n X dX0_begin_27 0 rfl ?_
  refine v_iconst X dX0_begin_28 (v := 0) (by decide) ?_
  refine v_putE (h2 := (hU (hU (hU h fa (ob 3 [.int 0, .int 0, .int (q0 4), .int u4, .int s0])) sa (ob 3 [.int 0, .int 0, .int (q1 4), .int v4, .int s1])) M (ob 0 [.ref pa, .ref wa, .ref ra, .ref fa, .ref sa, .int 0, .int 0, .int z]))) X fX0_29 tyX0_ok nmX0 rfl pd_I hU_s rfl rfl (ltb rfl) dX0_begin_29 hU_u ?_
  refine v_aload_n X dX0_begin_32 0 rfl ?_
  refine v_get X fX0_11 hU_s rfl dX0_begin_33 ?_
  refine v_iconst X dX0_begin_36 (v := 0) (by decide) ?_
  refine v_iconst X dX0_begin_37 (v := 0) (by decide) ?_
  refine v_iastK (h2 := (hU (hU (hU (hU h fa (ob 3 [.int 0, .int 0, .int (q0 4), .int u4, .int s0])) sa (ob 3 [.int 0, .int 0, .int (q1 4), .int v4, .int s1])) M (ob 0 [.ref pa, .ref wa, .ref ra, .ref fa, .ref sa, .int 0, .int 0, .int z])) ra (ai g 10 (upd tr 0 0)))) X 0 ((hU_n ne_6).trans ((hU_n ne_5).trans ((hU_n ne_4).trans hra))) (rfl : (0 : Int32) = nI 0) (by decide) (by decide) dX0_begin_38 rfl ?_
  exact v_vret X r dX0_begin_39 (Nat.le_refl _) (Nat.le_refl _) ⟨rfl, rfl⟩
