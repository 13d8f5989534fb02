/-! ===== the reference's bout, as functions of its row of numbers ===== -/
def told (m : Nat → Int32) (p w : Nat) : Int32 := m (40 + 8 * p + w)
def szS (v : Int32) : Int32 := if v < 0 then -v else v
def heldS (v m : Int32) : Int32 := if v < -m then -m else if m < v then m else v
def costM (p : Int32) : Int32 := if p = 0 then 0 else szS p / 10 + 1
def valS (nm s l e t : Int32) : Int32 := if nm = 0 then s else if nm = 1 then l else if nm = 2 then e else t
abbrev rhS (nm sg bd s l e t : Int32) : Prop := nm = 4 ∨ (sg = 1 ∧ valS nm s l e t < bd) ∨ (¬ sg = 1 ∧ bd < valS nm s l e t)
def fk (P : Nat → Prop) [DecidablePred P] : Nat → Nat → Int32
  | _, 0 => -1
  | k, n + 1 => if P k then nI k else fk P (k + 1) n
abbrev rP (m : Nat → Int32) (w : Nat) (s l e t : Int32) (k : Nat) : Prop := rhS (m (110 + 25 * w + 1 + 4 * k)) (m (110 + 25 * w + 1 + 4 * k + 1)) (m (110 + 25 * w + 1 + 4 * k + 2)) s l e t
def ruleS (m : Nat → Int32) (w c : Nat) (s l e t : Int32) : Int32 := fk (rP m w s l e t) 0 c
theorem fk_step {P : Nat → Prop} [DecidablePred P] {k c : Nat} {r : Int32} (h : r = fk P k (c - k)) (hk : k < c) : (P k → r = nI k) ∧ (¬ P k → r = fk P (k + 1) (c - (k + 1))) := by
  have e : c - k = (c - (k + 1)) + 1 := by omega
  rw [e] at h
  exact ⟨fun q => by rw [h]; exact if_pos q, fun q => by rw [h]; exact if_neg q⟩
theorem fk_end {P : Nat → Prop} [DecidablePred P] {k c : Nat} {r : Int32} (h : r = fk P k (c - k)) (hk : ¬ k < c) : r = -1 := by
  rw [h, show c - k = 0 by omega]; rfl
set_option maxHeartbeats 4000000 in
set_option maxRecDepth 100000 in
theorem ct_X8_held (ll : Launch) (g : GT) {h : Hp} (v m : Int32)  : MF ll g yX8_held cX8_held 2 (some .int) (k2_rm 0 0) [.int v, .int m] h (some (.int (heldS v m))) h := by
  refine mc_of (by decide) (Nat.le_of_ble_eq_true rfl) ?_
  intro K X r
  refine v_eqv (lv2 := [(0, .int v), (1, .int m)]) rfl ?_
  refine v_iload_n X dX8_held_0 0 rfl ?_
  refine v_iload_n X dX8_held_1 1 rfl ?_
  refine v_ineg X dX8_held_2 ?_
  refine v_icmp_ge X dX8_held_3 (tgt := 11) (by decide) (fun c1 => ?_) (fun c1 => ?_)
  · refine v_iload_n X dX8_held_11 0 rfl ?_
    refine v_iload_n X dX8_held_12 1 rfl ?_
    refine v_icmp_le X dX8_held_13 (tgt := 20) (by decide) (fun c2 => ?_) (fun c2 => ?_)
    · refine v_iload_n X dX8_held_20 0 rfl ?_
      exact v_iret X r dX8_held_21 (Nat.le_refl _) (Nat.le_refl _) ⟨ri (by simp [heldS, c1, Int32.not_lt.mpr c1, c2, Int32.not_lt.mpr c2]), rfl⟩
    · refine v_iload_n X dX8_held_16 1 rfl ?_
      refine v_goto X dX8_held_17 (tgt := 21) (by decide) ?_
      exact v_iret X r dX8_held_21 (Nat.le_refl _) (Nat.le_refl _) ⟨ri (by simp [heldS, c1, Int32.not_lt.mpr c1, c2, Int32.not_le.mp c2]), rfl⟩
  · refine v_iload_n X dX8_held_6 1 rfl ?_
    refine v_ineg X dX8_held_7 ?_
    refine v_goto X dX8_held_8 (tgt := 21) (by decide) ?_
    exact v_iret X r dX8_held_21 (Nat.le_refl _) (Nat.le_refl _) ⟨ri (by simp [heldS, c1, Int32.not_le.mp c1]), rfl⟩
set_option maxHeartbeats 4000000 in
set_option maxRecDepth 100000 in
theorem ct_X8_size (ll : Launch) (g : GT) {h : Hp} (v : Int32)  : MF ll g yX8_size cX8_size 1 (some .int) (k2_rm 0 0) [.int v] h (some (.int (szS v))) h := by
  refine mc_of (by decide) (Nat.le_of_ble_eq_true rfl) ?_
  intro K X r
  refine v_eqv (lv2 := [(0, .int v)]) rfl ?_
  refine v_iload_n X dX8_size_0 0 rfl ?_
  refine v_if_ge X dX8_size_1 (tgt := 9) (by decide) (fun c1 => ?_) (fun c1 => ?_)
  · refine v_iload_n X dX8_size_9 0 rfl ?_
    exact v_iret X r dX8_size_10 (Nat.le_refl _) (Nat.le_refl _) ⟨ri (by simp [szS, c1, Int32.not_lt.mpr c1]), rfl⟩
  · refine v_iload_n X dX8_size_4 0 rfl ?_
    refine v_ineg X dX8_size_5 ?_
    refine v_goto X dX8_size_6 (tgt := 10) (by decide) ?_
    exact v_iret X r dX8_size_10 (Nat.le_refl _) (Nat.le_refl _) ⟨ri (by simp [szS, c1, Int32.not_le.mp c1]), rfl⟩
set_option maxHeartbeats 4000000 in
set_option maxRecDepth 100000 in
theorem ct_X8_costOf (ll : Launch) (g : GT) {h : Hp} (p : Int32)  : MF ll g yX8_costOf cX8_costOf 1 (some .int) (k2_rm 1 30) [.int p] h (some (.int (costM p))) h := by
  refine mc_of (by decide) (Nat.le_of_ble_eq_true rfl) ?_
  intro K X r
  refine v_eqv (lv2 := [(0, .int p)]) rfl ?_
  refine v_iload_n X dX8_costOf_0 0 rfl ?_
  refine v_if_ne X dX8_costOf_1 (tgt := 8) (by decide) (fun c1 => ?_) (fun c1 => ?_)
  · refine v_iload_n X dX8_costOf_8 0 rfl ?_
    refine v_cSi X [.int p] sX8_88 (ct_X8_size ll g p) dX8_costOf_9 rfl rfl ⟨rfl, rfl⟩ ⟨(Nat.le_of_ble_eq_true rfl), (Nat.le_of_ble_eq_true rfl)⟩ ⟨Nat.zero_le _, Nat.zero_le _⟩ (Nat.le_of_ble_eq_true rfl) ?_
    refine v_bipush X dX8_costOf_12 (v := 10) (by decide) ?_
    refine v_idiv X dX8_costOf_14 (by decide) ?_
    refine v_iconst X dX8_costOf_15 (v := 1) (by decide) ?_
    refine v_iadd X dX8_costOf_16 ?_
    exact v_iret X r dX8_costOf_17 (Nat.le_refl _) (Nat.le_refl _) ⟨ri (by simp [costM, c1]), rfl⟩
  · refine v_iconst X dX8_costOf_4 (v := 0) (by decide) ?_
    refine v_goto X dX8_costOf_5 (tgt := 17) (by decide) ?_
    exact v_iret X r dX8_costOf_17 (Nat.le_refl _) (Nat.le_refl _) ⟨ri (by simp [costM, c1]), rfl⟩
set_option maxHeartbeats 4000000 in
set_option maxRecDepth 100000 in
theorem ct_X8_told (ll : Launch) (g : GT) {h : Hp} {a : Nat} {m : Nat → Int32} {x y : Int32} {p w : Nat} (ha : h a = some (ai g 260 m)) (hx : x = nI p) (hy : y = nI w) (hb : 40 + 8 * p + w < 260) : MF ll g yX8_told cX8_told 3 (some .int) (k2_rm 0 0) [.ref a, .int x, .int y] h (some (.int (told m p w))) h := by
  refine mc_of (by decide) (Nat.le_of_ble_eq_true rfl) ?_
  intro K X r
  refine v_eqv (lv2 := [(0, .ref a), (1, .int x), (2, .int y)]) rfl ?_
  refine v_aload_n X dX8_told_0 0 rfl ?_
  refine v_bipush X dX8_told_1 (v := 40) (by decide) ?_
  refine v_bipush X dX8_told_3 (v := 8) (by decide) ?_
  refine v_iload_n X dX8_told_5 1 rfl ?_
  refine v_imul X dX8_told_6 ?_
  refine v_iadd X dX8_told_7 ?_
  refine v_iload_n X dX8_told_8 2 rfl ?_
  refine v_iadd X dX8_told_9 ?_
  refine v_ialdK X ((40 + (8 * p)) + w) ha (ix_add (ix_add (rfl : (40 : Int32) = nI 40) (ix_mul (rfl : (8 : Int32) = nI 8) hx)) hy) (by omega) (by decide) dX8_told_10 ?_
  exact v_iret X r dX8_told_11 (Nat.le_refl _) (Nat.le_refl _) ⟨ri (by rfl), rfl⟩
set_option maxHeartbeats 4000000 in
set_option maxRecDepth 100000 in
theorem ct_X8_ruleOf (ll : Launch) (g : GT) {h : Hp} {a : Nat} {m : Nat → Int32} {x : Int32} {w c : Nat} (s l e t : Int32) (ha : h a = some (ai g 260 m)) (hx : x = nI w) (hw : w < 6) (hc : m (110 + 25 * w) = nI c) (hc6 : c ≤ 6) : MF ll g yX8_ruleOf cX8_ruleOf 10 (some .int) (k2_rm 0 0) [.ref a, .int x, .int s, .int l, .int e, .int t] h (some (.int (ruleS m w c s l e t))) h := by
  refine mc_of (by decide) (Nat.le_of_ble_eq_true rfl) ?_
  intro K X r
  refine v_eqv (lv2 := [(0, .ref a), (1, .int x), (2, .int s), (3, .int l), (4, .int e), (5, .int t)]) rfl ?_
  refine v_bipush X dX8_ruleOf_0 (v := 110) (by decide) ?_
  refine v_bipush X dX8_ruleOf_2 (v := 25) (by decide) ?_
  refine v_iload_n X dX8_ruleOf_4 1 rfl ?_
  refine v_imul X dX8_ruleOf_5 ?_
  refine v_iadd X dX8_ruleOf_6 ?_
  refine v_istore (lv1 := [(6, .int (110 + (25 * x))), (0, .ref a), (1, .int x), (2, .int s), (3, .int l), (4, .int e), (5, .int t)]) X dX8_ruleOf_7 (by decide) rfl ?_
  refine v_iconst X dX8_ruleOf_9 (v := 0) (by decide) ?_
  refine v_istore (lv1 := [(7, .int 0), (6, .int (110 + (25 * x))), (0, .ref a), (1, .int x), (2, .int s), (3, .int l), (4, .int e), (5, .int t)]) X dX8_ruleOf_10 (by decide) rfl ?_
  have L12 : ∀ (N : Nat) (k : Nat), k ≤ c → ruleS m w c s l e t = fk (rP m w s l e t) k (c - k) → c - k < N → VJ K 0 0 h 12 [(0, .ref a), (1, .int x), (2, .int s), (3, .int l), (4, .int e), (5, .int t), (6, .int (110 + 25 * x)), (7, .int (nI k))] [] := by
    intro N
    induction N with
    | zero => intro k _ _ hm; exact absurd hm (Nat.not_lt_zero _)
    | succ N ih =>
      intro k hk hq hm
      refine v_iload X dX8_ruleOf_12 7 rfl ?_
      refine v_aload_n X dX8_ruleOf_14 0 rfl ?_
      refine v_iload X dX8_ruleOf_15 6 rfl ?_
      refine v_ialdK X (110 + 25 * w) ha (ix_add (rfl : (110 : Int32) = nI 110) (ix_mul (rfl : (25 : Int32) = nI 25) hx)) (by omega) (by decide) dX8_ruleOf_17 ?_
      refine v_icmp_ge X dX8_ruleOf_18 (tgt := 124) (by decide) (fun c1 => ?_) (fun c1 => ?_)
      · refine v_iconst X dX8_ruleOf_124 (v := (-1)) (by decide) ?_
        exact v_iret X r dX8_ruleOf_125 (Nat.le_refl _) (Nat.le_refl _) ⟨ri (fk_end hq (fun q => absurd (nI_lt q (by omega)) (Int32.not_lt.mpr (by rw [← hc]; exact c1)))).symm, rfl⟩
      · have hkc : k < c := by
          rcases Nat.lt_or_ge k c with q | q
          · exact q
          · exact absurd (by rw [hc]; exact nI_le q (by omega)) c1
        refine v_iload X dX8_ruleOf_21 6 rfl ?_
        refine v_iconst X dX8_ruleOf_23 (v := 1) (by decide) ?_
        refine v_iadd X dX8_ruleOf_24 ?_
        refine v_iconst X dX8_ruleOf_25 (v := 4) (by decide) ?_
        refine v_iload X dX8_ruleOf_26 7 rfl ?_
        refine v_imul X dX8_ruleOf_28 ?_
        refine v_iadd X dX8_ruleOf_29 ?_
        refine v_istore (lv1 := [(8, .int (((110 + 25 * x) + 1) + (4 * (nI k)))), (0, .ref a), (1, .int x), (2, .int s), (3, .int l), (4, .int e), (5, .int t), (6, .int (110 + 25 * x)), (7, .int (nI k))]) X dX8_ruleOf_30 (by decide) rfl ?_
        refine v_aload_n X dX8_ruleOf_32 1 rfl ?_
        refine v_iload X dX8_ruleOf_33 0 rfl ?_
        refine v_ialdK X (((110 + 25 * w) + 1) + (4 * k)) ha (ix_add (ix_add (ix_add (rfl : (110 : Int32) = nI 110) (ix_mul (rfl : (25 : Int32) = nI 25) hx)) (rfl : (1 : Int32) = nI 1)) (ix_mul (rfl : (4 : Int32) = nI 4) rfl)) (by omega) (by decide) dX8_ruleOf_35 ?_
        have J1 : VJ K 0 0 h 70 [(8, .int (((110 + 25 * x) + 1) + (4 * (nI k)))), (0, .ref a), (1, .int x), (2, .int s), (3, .int l), (4, .int e), (5, .int t), (6, .int (110 + 25 * x)), (7, .int (nI k))] [.int (valS (m (110 + 25 * w + 1 + 4 * k)) s l e t)] := by
          refine v_istore (lv1 := [(9, .int (valS (m (110 + 25 * w + 1 + 4 * k)) s l e t)), (8, .int (((110 + 25 * x) + 1) + (4 * (nI k)))), (0, .ref a), (1, .int x), (2, .int s), (3, .int l), (4, .int e), (5, .int t), (6, .int (110 + 25 * x)), (7, .int (nI k))]) X dX8_ruleOf_70 (by decide) rfl ?_
          refine v_aload_n X dX8_ruleOf_72 2 rfl ?_
          refine v_iload X dX8_ruleOf_73 1 rfl ?_
          refine v_ialdK X (((110 + 25 * w) + 1) + (4 * k)) ha (ix_add (ix_add (ix_add (rfl : (110 : Int32) = nI 110) (ix_mul (rfl : (25 : Int32) = nI 25) hx)) (rfl : (1 : Int32) = nI 1)) (ix_mul (rfl : (4 : Int32) = nI 4) rfl)) (by omega) (by decide) dX8_ruleOf_75 ?_
          refine v_iconst X dX8_ruleOf_76 (v := 4) (by decide) ?_
          refine v_icmp_eq X dX8_ruleOf_77 (tgt := 115) (by decide) (fun c2 => ?_) (fun c2 => ?_)
          · refine v_iload X dX8_ruleOf_115 9 rfl ?_
            exact v_iret X r dX8_ruleOf_117 (Nat.le_refl _) (Nat.le_refl _) ⟨ri ((fk_step hq hkc).1 (by simp [rP, rhS, c1, Int32.not_le.mp c1, c2])).symm, rfl⟩
          · refine v_aload_n X dX8_ruleOf_80 2 rfl ?_
            refine v_iload X dX8_ruleOf_81 1 rfl ?_
            refine v_iconst X dX8_ruleOf_83 (v := 1) (by decide) ?_
            refine v_iadd X dX8_ruleOf_84 ?_
            refine v_ialdK X ((((110 + 25 * w) + 1) + (4 * k)) + 1) ha (ix_add (ix_add (ix_add (ix_add (rfl : (110 : Int32) = nI 110) (ix_mul (rfl : (25 : Int32) = nI 25) hx)) (rfl : (1 : Int32) = nI 1)) (ix_mul (rfl : (4 : Int32) = nI 4) rfl)) (rfl : (1 : Int32) = nI 1)) (by omega) (by decide) dX8_ruleOf_85 ?_
            refine v_iconst X dX8_ruleOf_86 (v := 1) (by decide) ?_
            refine v_icmp_ne X dX8_ruleOf_87 (tgt := 104) (by decide) (fun c3 => ?_) (fun c3 => ?_)
            · refine v_iload X dX8_ruleOf_104 0 rfl ?_
              refine v_aload_n X dX8_ruleOf_106 2 rfl ?_
              refine v_iload X dX8_ruleOf_107 1 rfl ?_
              refine v_iconst X dX8_ruleOf_109 (v := 2) (by decide) ?_
              refine v_iadd X dX8_ruleOf_110 ?_
              refine v_ialdK X ((((110 + 25 * w) + 1) + (4 * k)) + 2) ha (ix_add (ix_add (ix_add (ix_add (rfl : (110 : Int32) = nI 110) (ix_mul (rfl : (25 : Int32) = nI 25) hx)) (rfl : (1 : Int32) = nI 1)) (ix_mul (rfl : (4 : Int32) = nI 4) rfl)) (rfl : (2 : Int32) = nI 2)) (by omega) (by decide) dX8_ruleOf_111 ?_
              refine v_icmp_le X dX8_ruleOf_112 (tgt := 118) (by decide) (fun c4 => ?_) (fun c4 => ?_)
              · refine v_iinc (v := (nI k) + 1) (lv1 := [(7, .int ((nI k) + 1)), (9, .int (valS (m (110 + 25 * w + 1 + 4 * k)) s l e t)), (8, .int (((110 + 25 * x) + 1) + (4 * (nI k)))), (0, .ref a), (1, .int x), (2, .int s), (3, .int l), (4, .int e), (5, .int t), (6, .int (110 + 25 * x))]) X dX8_ruleOf_118 9 rfl rfl (by decide) rfl ?_
                refine v_goto X dX8_ruleOf_121 (tgt := 12) (by decide) ?_
                refine v_lv (lv2 := [(0, .ref a), (1, .int x), (2, .int s), (3, .int l), (4, .int e), (5, .int t), (6, .int (110 + 25 * x)), (7, .int ((nI k) + 1))]) [3, 4, 5, 6, 7, 8, 9, 0] rfl ?_
                refine v_eqv (lv2 := [(0, .ref a), (1, .int x), (2, .int s), (3, .int l), (4, .int e), (5, .int t), (6, .int (110 + 25 * x)), (7, .int (nI (k + 1)))]) (by rw [nI_1]) ?_
                exact ih (k + 1) (by omega) ((fk_step hq (by omega)).2 (by simp [rP, rhS, c1, Int32.not_le.mp c1, c2, c3, c4, Int32.not_lt.mpr c4])) (by omega)
              · refine v_iload X dX8_ruleOf_115 9 rfl ?_
                exact v_iret X r dX8_ruleOf_117 (Nat.le_refl _) (Nat.le_refl _) ⟨ri ((fk_step hq hkc).1 (by simp [rP, rhS, c1, Int32.not_le.mp c1, c2, c3, c4, Int32.not_le.mp c4])).symm, rfl⟩
            · refine v_iload X dX8_ruleOf_90 0 rfl ?_
              refine v_aload_n X dX8_ruleOf_92 2 rfl ?_
              refine v_iload X dX8_ruleOf_93 1 rfl ?_
              refine v_iconst X dX8_ruleOf_95 (v := 2) (by decide) ?_
              refine v_iadd X dX8_ruleOf_96 ?_
              refine v_ialdK X ((((110 + 25 * w) + 1) + (4 * k)) + 2) ha (ix_add (ix_add (ix_add (ix_add (rfl : (110 : Int32) = nI 110) (ix_mul (rfl : (25 : Int32) = nI 25) hx)) (rfl : (1 : Int32) = nI 1)) (ix_mul (rfl : (4 : Int32) = nI 4) rfl)) (rfl : (2 : Int32) = nI 2)) (by omega) (by decide) dX8_ruleOf_97 ?_
              refine v_icmp_ge X dX8_ruleOf_98 (tgt := 118) (by decide) (fun c5 => ?_) (fun c5 => ?_)
              · refine v_iinc (v := (nI k) + 1) (lv1 := [(7, .int ((nI k) + 1)), (9, .int (valS (m (110 + 25 * w + 1 + 4 * k)) s l e t)), (8, .int (((110 + 25 * x) + 1) + (4 * (nI k)))), (0, .ref a), (1, .int x), (2, .int s), (3, .int l), (4, .int e), (5, .int t), (6, .int (110 + 25 * x))]) X dX8_ruleOf_118 9 rfl rfl (by decide) rfl ?_
                refine v_goto X dX8_ruleOf_121 (tgt := 12) (by decide) ?_
                refine v_lv (lv2 := [(0, .ref a), (1, .int x), (2, .int s), (3, .int l), (4, .int e), (5, .int t), (6, .int (110 + 25 * x)), (7, .int ((nI k) + 1))]) [3, 4, 5, 6, 7, 8, 9, 0] rfl ?_
                refine v_eqv (lv2 := [(0, .ref a), (1, .int x), (2, .int s), (3, .int l), (4, .int e), (5, .int t), (6, .int (110 + 25 * x)), (7, .int (nI (k + 1)))]) (by rw [nI_1]) ?_
                exact ih (k + 1) (by omega) ((fk_step hq (by omega)).2 (by simp [rP, rhS, c1, Int32.not_le.mp c1, c2, c3, c5, Int32.not_lt.mpr c5])) (by omega)
              · refine v_goto X dX8_ruleOf_101 (tgt := 115) (by decide) ?_
                refine v_iload X dX8_ruleOf_115 9 rfl ?_
                exact v_iret X r dX8_ruleOf_117 (Nat.le_refl _) (Nat.le_refl _) ⟨ri ((fk_step hq hkc).1 (by simp [rP, rhS, c1, Int32.not_le.mp c1, c2, c3, c5, Int32.not_le.mp c5])).symm, rfl⟩
        refine v_if_ne X dX8_ruleOf_36 (tgt := 43) (by decide) (fun c6 => ?_) (fun c6 => ?_)
        · refine v_aload_n X dX8_ruleOf_43 1 rfl ?_
          refine v_iload X dX8_ruleOf_44 0 rfl ?_
          refine v_ialdK X (((110 + 25 * w) + 1) + (4 * k)) ha (ix_add (ix_add (ix_add (rfl : (110 : Int32) = nI 110) (ix_mul (rfl : (25 : Int32) = nI 25) hx)) (rfl : (1 : Int32) = nI 1)) (ix_mul (rfl : (4 : Int32) = nI 4) rfl)) (by omega) (by decide) dX8_ruleOf_46 ?_
          refine v_iconst X dX8_ruleOf_47 (v := 1) (by decide) ?_
          refine v_icmp_ne X dX8_ruleOf_48 (tgt := 55) (by decide) (fun c7 => ?_) (fun c7 => ?_)
          · refine v_aload_n X dX8_ruleOf_55 1 rfl ?_
            refine v_iload X dX8_ruleOf_56 0 rfl ?_
            refine v_ialdK X (((110 + 25 * w) + 1) + (4 * k)) ha (ix_add (ix_add (ix_add (rfl : (110 : Int32) = nI 110) (ix_mul (rfl : (25 : Int32) = nI 25) hx)) (rfl : (1 : Int32) = nI 1)) (ix_mul (rfl : (4 : Int32) = nI 4) rfl)) (by omega) (by decide) dX8_ruleOf_58 ?_
            refine v_iconst X dX8_ruleOf_59 (v := 2) (by decide) ?_
            refine v_icmp_ne X dX8_ruleOf_60 (tgt := 68) (by decide) (fun c8 => ?_) (fun c8 => ?_)
            · refine v_iload X dX8_ruleOf_68 6 rfl ?_
              exact v_eqi (by simp [valS, c1, Int32.not_le.mp c1, c6, c7, c8]) J1
            · refine v_iload X dX8_ruleOf_63 5 rfl ?_
              refine v_goto X dX8_ruleOf_65 (tgt := 70) (by decide) ?_
              exact v_eqi (by simp [valS, c1, Int32.not_le.mp c1, c6, c7, c8]) J1
          · refine v_iload_n X dX8_ruleOf_51 4 rfl ?_
            refine v_goto X dX8_ruleOf_52 (tgt := 70) (by decide) ?_
            exact v_eqi (by simp [valS, c1, Int32.not_le.mp c1, c6, c7]) J1
        · refine v_iload_n X dX8_ruleOf_39 3 rfl ?_
          refine v_goto X dX8_ruleOf_40 (tgt := 70) (by decide) ?_
          exact v_eqi (by simp [valS, c1, Int32.not_le.mp c1, c6]) J1
  refine v_lv (lv2 := [(0, .ref a), (1, .int x), (2, .int s), (3, .int l), (4, .int e), (5, .int t), (6, .int (110 + (25 * x))), (7, .int 0)]) [2, 3, 4, 5, 6, 7, 1, 0] rfl ?_
  exact L12 _ 0 (Nat.zero_le _) rfl (Nat.lt_succ_self _)
