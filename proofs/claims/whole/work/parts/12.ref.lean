/-! ===== the reference's bout, as functions of its row of numbers ===== -/
def told (m : Nat → Int32) (p w : Nat) : Int32 := m (40 + 8 * p + w)
def szS (v : Int32) : Int32 := if v < 0 then -v else v
def heldS (v m : Int32) : Int32 := if v < -m then -m else if m < v then m else v
def costM (p : Int32) : Int32 := if p = 0 then 0 else szS p / 10 + 1
def valS (nm s l e t : Int32) : Int32 := if nm = 0 then s else if nm = 1 then l else if nm = 2 then e else t
abbrev rhS (nm sg bd s l e t : Int32) : Prop := nm = 4 ∨ (sg = 1 ∧ valS nm s l e t < bd) ∨ (¬ sg = 1 ∧ bd < valS nm s l e t)
def fk (P : Nat → Prop) [DecidablePred P] : Nat → Nat → Int32
  | _, 0 => -1
  | k, n + 1 => if P k then nI k else fk P (k + 1) n
abbrev rP (m : Nat → Int32) (w : Nat) (s l e t : Int32) (k : Nat) : Prop := rhS (m (110 + 25 * w + 1 + 4 * k)) (m (110 + 25 * w + 1 + 4 * k + 1)) (m (110 + 25 * w + 1 + 4 * k + 2)) s l e t
def ruleS (m : Nat → Int32) (w c : Nat) (s l e t : Int32) : Int32 := fk (rP m w s l e t) 0 c
theorem fk_step {P : Nat → Prop} [DecidablePred P] {k c : Nat} {r : Int32} (h : r = fk P k (c - k)) (hk : k < c) : (P k → r = nI k) ∧ (¬ P k → r = fk P (k + 1) (c - (k + 1))) := by
  have e : c - k = (c - (k + 1)) + 1 := by omega
  rw [e] at h
  exact ⟨fun q => by rw [h]; exact if_pos q, fun q => by rw [h]; exact if_neg q⟩
theorem fk_end {P : Nat → Prop} [DecidablePred P] {k c : Nat} {r : Int32} (h : r = fk P k (c - k)) (hk : ¬ k < c) : r = -1 := by
  rw [h, show c - k = 0 by omega]; rfl
theorem upd_uu {f : Nat → Int32} {k : Nat} {x y : Int32} : upd (upd f k x) k y = upd f k y := by
  funext j; unfold upd; by_cases h : j = k <;> simp [h]
theorem upd_self (f : Nat → Int32) (k : Nat) : upd f k (f k) = f := by
  funext j; unfold upd; by_cases h : j = k <;> simp [h]
theorem told_lo {f : Nat → Int32} {j p w : Nat} {x : Int32} (hj : j < 40) : told (upd f j x) p w = told f p w := pk_un (by omega)
theorem fk_rng {P : Nat → Prop} [DecidablePred P] : ∀ (n k : Nat), fk P k n = -1 ∨ ∃ j, k ≤ j ∧ j < k + n ∧ fk P k n = nI j
  | 0, k => Or.inl rfl
  | n + 1, k => by
    unfold fk
    by_cases h : P k
    · rw [if_pos h]; exact Or.inr ⟨k, Nat.le_refl _, by omega, rfl⟩
    · rw [if_neg h]
      rcases fk_rng (P := P) n (k + 1) with q | ⟨j, h1, h2, h3⟩
      · exact Or.inl q
      · exact Or.inr ⟨j, by omega, by omega, h3⟩
theorem ruleS_rng {m : Nat → Int32} {w c : Nat} {s l e t : Int32} (h : 0 ≤ ruleS m w c s l e t) : ∃ j, j < c ∧ ruleS m w c s l e t = nI j := by
  rcases fk_rng (P := rP m w s l e t) c 0 with q | ⟨j, -, h2, h3⟩
  · exact absurd h (by unfold ruleS; rw [q]; decide)
  · exact ⟨j, by omega, h3⟩
def waitS (reach e t : Int32) : Int32 := if 19 < t ∧ 1 ≤ e then reach / 3 else 0
def deedS (deed reach s l : Int32) : Int32 := if deed = 0 then reach else if deed = 1 then heldS (-(s / 2)) reach else if deed = 2 then -reach else if deed = 4 then heldS (-(l / 2)) reach else 0
def deedK (m : Nat → Int32) (w c : Nat) (s l e t : Int32) : Int32 := if ruleS m w c s l e t < 0 then 3 else m (110 + 25 * w + 4 + 4 * (ruleS m w c s l e t).toNatClampNeg)
def wayC (m : Nat → Int32) (w : Nat) : Nat := (m (110 + 25 * w)).toNatClampNeg
def pushM (m : Nat → Int32) (p : Nat) (s l e t : Int32) : Int32 :=
  if told m p 0 = 1 then (if 2 ≤ e then told m p 3 else 0)
  else if told m p 0 = 2 then heldS (-(s / 2)) (told m p 3)
  else if told m p 0 = 3 then (if 5 ≤ szS s then heldS (-(s / 2)) (told m p 3) else -(told m p 3))
  else if told m p 0 = 4 then waitS (told m p 3) e t
  else if told m p 0 = 5 then (if 0 ≤ told m p 6 then deedS (deedK m (told m p 6).toNatClampNeg (wayC m (told m p 6).toNatClampNeg) s l e t) (told m p 3) s l else waitS (told m p 3) e t)
  else 0
/-- a person's way, if he has one, stands in the row -/
def wayOk (m : Nat → Int32) (p : Nat) : Prop := ¬ told m p 6 < 0 → ∃ w c : Nat, told m p 6 = nI w ∧ w < 6 ∧ m (110 + 25 * w) = nI c ∧ c ≤ 6
def seesM (m : Nat → Int32) (p : Nat) : Int32 := if m 6 - told m p 2 < 0 then 0 else if m 6 - told m p 2 = m 6 then m 5 else m (24 + (m 6 - told m p 2).toNatClampNeg % 10)
def pushesM (m : Nat → Int32) (p sd : Nat) : Int32 := if costM (pushM m p (seesM m p) (m (18 + sd)) (m (20 + sd)) (m 6)) ≤ m (20 + sd) then pushM m p (seesM m p) (m (18 + sd)) (m (20 + sd)) (m 6) else 0
def zN (z : Int32) : Int32 := z * 1103515245 + 12345
def drawS (z : Int32) : Int32 := (z.toUInt32 >>> ((8 : Int32).toUInt32 &&& Int32.toUInt32 31)).toInt32 - (z.toUInt32 >>> ((8 : Int32).toUInt32 &&& Int32.toUInt32 31)).toInt32 / 100 * 100
def feetS (feet s reach z slips : Int32) : Int32 := if drawS z < slips then feet else feet + heldS (s - feet) reach
def turn1 (m : Nat → Int32) (p0 p1 : Nat) : Int32 := m 5 + (pushesM m p0 0 * told m p0 1 + pushesM m p1 1 * told m p1 1) / (m 10 * m 10 + told m p0 1 + told m p1 1)
def turn2 (m : Nat → Int32) (p0 p1 : Nat) : Int32 := turn1 m p0 p1 - turn1 m p0 p1 * (m 11 + m 12) / 100
def feet0 (m : Nat → Int32) (p0 : Nat) : Int32 := feetS (m 16) (seesM m p0) (told m p0 3) (zN (m 8)) (m 14)
def feet1 (m : Nat → Int32) (p1 : Nat) : Int32 := feetS (m 17) (seesM m p1) (told m p1 3) (zN (zN (m 8))) (m 14)
def lean0 (m : Nat → Int32) (p0 p1 : Nat) : Int32 := swayS (m 18) (turn2 m p0 p1) (feet0 m p0)
def lean1 (m : Nat → Int32) (p0 p1 : Nat) : Int32 := swayS (m 19) (turn2 m p0 p1) (feet1 m p1)
/-- a tick: the row behind it, and who fell -/
def gbA (m : Nat → Int32) (p0 p1 T : Nat) : Nat → Int32 := upd (upd (upd (upd (upd (upd (upd (upd (upd (upd (upd m 20 (m 20 - costM (pushesM m p0 0))) 21 (m 21 - costM (pushesM m p1 1))) (24 + T % 10) (m 5)) 5 (turn2 m p0 p1)) 8 (zN (m 8))) 16 (feet0 m p0)) 8 (zN (zN (m 8)))) 17 (feet1 m p1)) 18 (lean0 m p0 p1)) 19 (lean1 m p0 p1)) 6 (m 6 + 1)
def gbO (m : Nat → Int32) (p0 p1 : Nat) : Int32 := bI (m 13 < szS (lean0 m p0 p1)) + (if m 13 < szS (lean1 m p0 p1) then 2 else 0)
set_option maxHeartbeats 4000000 in
set_option maxRecDepth 100000 in
theorem ct_X8_held (ll : Launch) (g : GT) {h : Hp} (v m : Int32)  : MF ll g yX8_held cX8_held 2 (some .int) (k2_rm 0 0) [.int v, .int m] h (some (.int (heldS v m))) h := by
  refine mc_of (by decide) (Nat.le_of_ble_eq_true rfl) ?_
  intro K X r
  refine v_eqv (lv2 := [(0, .int v), (1, .int m)]) rfl ?_
  refine v_iload_n X dX8_held_0 0 rfl ?_
  refine v_iload_n X dX8_held_1 1 rfl ?_
  refine v_ineg X dX8_held_2 ?_
  refine v_icmp_ge X dX8_held_3 (tgt := 11) (by decide) (fun c1 => ?_) (fun c1 => ?_)
  · refine v_iload_n X dX8_held_11 0 rfl ?_
    refine v_iload_n X dX8_held_12 1 rfl ?_
    refine v_icmp_le X dX8_held_13 (tgt := 20) (by decide) (fun c2 => ?_) (fun c2 => ?_)
    · refine v_iload_n X dX8_held_20 0 rfl ?_
      exact v_iret X r dX8_held_21 (Nat.le_refl _) (Nat.le_refl _) ⟨ri (by simp [heldS, c1, Int32.not_lt.mpr c1, c2, Int32.not_lt.mpr c2]), rfl⟩
    · refine v_iload_n X dX8_held_16 1 rfl ?_
      refine v_goto X dX8_held_17 (tgt := 21) (by decide) ?_
      exact v_iret X r dX8_held_21 (Nat.le_refl _) (Nat.le_refl _) ⟨ri (by simp [heldS, c1, Int32.not_lt.mpr c1, c2, Int32.not_le.mp c2]), rfl⟩
  · refine v_iload_n X dX8_held_6 1 rfl ?_
    refine v_ineg X dX8_held_7 ?_
    refine v_goto X dX8_held_8 (tgt := 21) (by decide) ?_
    exact v_iret X r dX8_held_21 (Nat.le_refl _) (Nat.le_refl _) ⟨ri (by simp [heldS, c1, Int32.not_le.mp c1]), rfl⟩
set_option maxHeartbeats 4000000 in
set_option maxRecDepth 100000 in
theorem ct_X8_size (ll : Launch) (g : GT) {h : Hp} (v : Int32)  : MF ll g yX8_size cX8_size 1 (some .int) (k2_rm 0 0) [.int v] h (some (.int (szS v))) h := by
  refine mc_of (by decide) (Nat.le_of_ble_eq_true rfl) ?_
  intro K X r
  refine v_eqv (lv2 := [(0, .int v)]) rfl ?_
  refine v_iload_n X dX8_size_0 0 rfl ?_
  refine v_if_ge X dX8_size_1 (tgt := 9) (by decide) (fun c1 => ?_) (fun c1 => ?_)
  · refine v_iload_n X dX8_size_9 0 rfl ?_
    exact v_iret X r dX8_size_10 (Nat.le_refl _) (Nat.le_refl _) ⟨ri (by simp [szS, c1, Int32.not_lt.mpr c1]), rfl⟩
  · refine v_iload_n X dX8_size_4 0 rfl ?_
    refine v_ineg X dX8_size_5 ?_
    refine v_goto X dX8_size_6 (tgt := 10) (by decide) ?_
    exact v_iret X r dX8_size_10 (Nat.le_refl _) (Nat.le_refl _) ⟨ri (by simp [szS, c1, Int32.not_le.mp c1]), rfl⟩
set_option maxHeartbeats 4000000 in
set_option maxRecDepth 100000 in
theorem ct_X8_costOf (ll : Launch) (g : GT) {h : Hp} (p : Int32)  : MF ll g yX8_costOf cX8_costOf 1 (some .int) (k2_rm 1 30) [.int p] h (some (.int (costM p))) h := by
  refine mc_of (by decide) (Nat.le_of_ble_eq_true rfl) ?_
  intro K X r
  refine v_eqv (lv2 := [(0, .int p)]) rfl ?_
  refine v_iload_n X dX8_costOf_0 0 rfl ?_
  refine v_if_ne X dX8_costOf_1 (tgt := 8) (by decide) (fun c1 => ?_) (fun c1 => ?_)
  · refine v_iload_n X dX8_costOf_8 0 rfl ?_
    refine v_cSi X [.int p] sX8_88 (ct_X8_size ll g p) dX8_costOf_9 rfl rfl ⟨rfl, rfl⟩ ⟨(Nat.le_of_ble_eq_true rfl), (Nat.le_of_ble_eq_true rfl)⟩ ⟨Nat.zero_le _, Nat.zero_le _⟩ (Nat.le_of_ble_eq_true rfl) ?_
    refine v_bipush X dX8_costOf_12 (v := 10) (by decide) ?_
    refine v_idiv X dX8_costOf_14 (by decide) ?_
    refine v_iconst X dX8_costOf_15 (v := 1) (by decide) ?_
    refine v_iadd X dX8_costOf_16 ?_
    exact v_iret X r dX8_costOf_17 (Nat.le_refl _) (Nat.le_refl _) ⟨ri (by simp [costM, c1]), rfl⟩
  · refine v_iconst X dX8_costOf_4 (v := 0) (by decide) ?_
    refine v_goto X dX8_costOf_5 (tgt := 17) (by decide) ?_
    exact v_iret X r dX8_costOf_17 (Nat.le_refl _) (Nat.le_refl _) ⟨ri (by simp [costM, c1]), rfl⟩
set_option maxHeartbeats 4000000 in
set_option maxRecDepth 100000 in
theorem ct_X8_told (ll : Launch) (g : GT) {h : Hp} {a : Nat} {m : Nat → Int32} {x y : Int32} {p w : Nat} (ha : h a = some (ai g 260 m)) (hx : x = nI p) (hy : y = nI w) (hb : 40 + 8 * p + w < 260) : MF ll g yX8_told cX8_told 3 (some .int) (k2_rm 0 0) [.ref a, .int x, .int y] h (some (.int (told m p w))) h := by
  refine mc_of (by decide) (Nat.le_of_ble_eq_true rfl) ?_
  intro K X r
  refine v_eqv (lv2 := [(0, .ref a), (1, .int x), (2, .int y)]) rfl ?_
  refine v_aload_n X dX8_told_0 0 rfl ?_
  refine v_bipush X dX8_told_1 (v := 40) (by decide) ?_
  refine v_bipush X dX8_told_3 (v := 8) (by decide) ?_
  refine v_iload_n X dX8_told_5 1 rfl ?_
  refine v_imul X dX8_told_6 ?_
  refine v_iadd X dX8_told_7 ?_
  refine v_iload_n X dX8_told_8 2 rfl ?_
  refine v_iadd X dX8_told_9 ?_
  refine v_ialdK X ((40 + (8 * p)) + w) ha (ix_add (ix_add (rfl : (40 : Int32) = nI 40) (ix_mul (rfl : (8 : Int32) = nI 8) hx)) hy) (by omega) (by decide) dX8_told_10 ?_
  exact v_iret X r dX8_told_11 (Nat.le_refl _) (Nat.le_refl _) ⟨ri (by rfl), rfl⟩
set_option maxHeartbeats 4000000 in
set_option maxRecDepth 100000 in
theorem ct_X8_ruleOf (ll : Launch) (g : GT) {h : Hp} {a : Nat} {m : Nat → Int32} {x : Int32} {w c : Nat} (s l e t : Int32) (ha : h a = some (ai g 260 m)) (hx : x = nI w) (hw : w < 6) (hc : m (110 + 25 * w) = nI c) (hc6 : c ≤ 6) : MF ll g yX8_ruleOf cX8_ruleOf 10 (some .int) (k2_rm 0 0) [.ref a, .int x, .int s, .int l, .int e, .int t] h (some (.int (ruleS m w c s l e t))) h := by
  refine mc_of (by decide) (Nat.le_of_ble_eq_true rfl) ?_
  intro K X r
  refine v_eqv (lv2 := [(0, .ref a), (1, .int x), (2, .int s), (3, .int l), (4, .int e), (5, .int t)]) rfl ?_
  refine v_bipush X dX8_ruleOf_0 (v := 110) (by decide) ?_
  refine v_bipush X dX8_ruleOf_2 (v := 25) (by decide) ?_
  refine v_iload_n X dX8_ruleOf_4 1 rfl ?_
  refine v_imul X dX8_ruleOf_5 ?_
  refine v_iadd X dX8_ruleOf_6 ?_
  refine v_istore (lv1 := [(6, .int (110 + (25 * x))), (0, .ref a), (1, .int x), (2, .int s), (3, .int l), (4, .int e), (5, .int t)]) X dX8_ruleOf_7 (by decide) rfl ?_
  refine v_iconst X dX8_ruleOf_9 (v := 0) (by decide) ?_
  refine v_istore (lv1 := [(7, .int 0), (6, .int (110 + (25 * x))), (0, .ref a), (1, .int x), (2, .int s), (3, .int l), (4, .int e), (5, .int t)]) X dX8_ruleOf_10 (by decide) rfl ?_
  have L12 : ∀ (N : Nat) (k : Nat), (k ≤ c) → (ruleS m w c s l e t = fk (rP m w s l e t) k (c - k)) → c - k < N → VJ K 0 0 h 12 [(0, .ref a), (1, .int x), (2, .int s), (3, .int l), (4, .int e), (5, .int t), (6, .int (110 + 25 * x)), (7, .int (nI k))] [] := by
    intro N
    induction N with
    | zero => intro k _ _ hm; exact absurd hm (Nat.not_lt_zero _)
    | succ N ih12 =>
      intro k hk hq hm
      refine v_iload X dX8_ruleOf_12 7 rfl ?_
      refine v_aload_n X dX8_ruleOf_14 0 rfl ?_
      refine v_iload X dX8_ruleOf_15 6 rfl ?_
      refine v_ialdK X (110 + 25 * w) ha (ix_add (rfl : (110 : Int32) = nI 110) (ix_mul (rfl : (25 : Int32) = nI 25) hx)) (by omega) (by decide) dX8_ruleOf_17 ?_
      refine v_icmp_ge X dX8_ruleOf_18 (tgt := 124) (by decide) (fun c1 => ?_) (fun c1 => ?_)
      · refine v_iconst X dX8_ruleOf_124 (v := (-1)) (by decide) ?_
        exact v_iret X r dX8_ruleOf_125 (Nat.le_refl _) (Nat.le_refl _) ⟨ri (fk_end hq (fun q => absurd (nI_lt q (by omega)) (Int32.not_lt.mpr (by rw [← hc]; exact c1)))).symm, rfl⟩
      · have hkc : k < c := by
          rcases Nat.lt_or_ge k c with q | q
          · exact q
          · exact absurd (by rw [hc]; exact nI_le q (by omega)) c1
        refine v_iload X dX8_ruleOf_21 6 rfl ?_
        refine v_iconst X dX8_ruleOf_23 (v := 1) (by decide) ?_
        refine v_iadd X dX8_ruleOf_24 ?_
        refine v_iconst X dX8_ruleOf_25 (v := 4) (by decide) ?_
        refine v_iload X dX8_ruleOf_26 7 rfl ?_
        refine v_imul X dX8_ruleOf_28 ?_
        refine v_iadd X dX8_ruleOf_29 ?_
        refine v_istore (lv1 := [(8, .int (((110 + 25 * x) + 1) + (4 * (nI k)))), (0, .ref a), (1, .int x), (2, .int s), (3, .int l), (4, .int e), (5, .int t), (6, .int (110 + 25 * x)), (7, .int (nI k))]) X dX8_ruleOf_30 (by decide) rfl ?_
        refine v_aload_n X dX8_ruleOf_32 1 rfl ?_
        refine v_iload X dX8_ruleOf_33 0 rfl ?_
        refine v_ialdK X (((110 + 25 * w) + 1) + (4 * k)) ha (ix_add (ix_add (ix_add (rfl : (110 : Int32) = nI 110) (ix_mul (rfl : (25 : Int32) = nI 25) hx)) (rfl : (1 : Int32) = nI 1)) (ix_mul (rfl : (4 : Int32) = nI 4) rfl)) (by omega) (by decide) dX8_ruleOf_35 ?_
        have J1 : VJ K 0 0 h 70 [(8, .int (((110 + 25 * x) + 1) + (4 * (nI k)))), (0, .ref a), (1, .int x), (2, .int s), (3, .int l), (4, .int e), (5, .int t), (6, .int (110 + 25 * x)), (7, .int (nI k))] [.int (valS (m (110 + 25 * w + 1 + 4 * k)) s l e t)] := by
          refine v_istore (lv1 := [(9, .int (valS (m (110 + 25 * w + 1 + 4 * k)) s l e t)), (8, .int (((110 + 25 * x) + 1) + (4 * (nI k)))), (0, .ref a), (1, .int x), (2, .int s), (3, .int l), (4, .int e), (5, .int t), (6, .int (110 + 25 * x)), (7, .int (nI k))]) X dX8_ruleOf_70 (by decide) rfl ?_
          refine v_aload_n X dX8_ruleOf_72 2 rfl ?_
          refine v_iload X dX8_ruleOf_73 1 rfl ?_
          refine v_ialdK X (((110 + 25 * w) + 1) + (4 * k)) ha (ix_add (ix_add (ix_add (rfl : (110 : Int32) = nI 110) (ix_mul (rfl : (25 : Int32) = nI 25) hx)) (rfl : (1 : Int32) = nI 1)) (ix_mul (rfl : (4 : Int32) = nI 4) rfl)) (by omega) (by decide) dX8_ruleOf_75 ?_
          refine v_iconst X dX8_ruleOf_76 (v := 4) (by decide) ?_
          refine v_icmp_eq X dX8_ruleOf_77 (tgt := 115) (by decide) (fun c2 => ?_) (fun c2 => ?_)
          · refine v_iload X dX8_ruleOf_115 9 rfl ?_
            exact v_iret X r dX8_ruleOf_117 (Nat.le_refl _) (Nat.le_refl _) ⟨ri ((fk_step hq hkc).1 (by simp [rP, rhS, c1, Int32.not_le.mp c1, c2])).symm, rfl⟩
          · refine v_aload_n X dX8_ruleOf_80 2 rfl ?_
            refine v_iload X dX8_ruleOf_81 1 rfl ?_
            refine v_iconst X dX8_ruleOf_83 (v := 1) (by decide) ?_
            refine v_iadd X dX8_ruleOf_84 ?_
            refine v_ialdK X ((((110 + 25 * w) + 1) + (4 * k)) + 1) ha (ix_add (ix_add (ix_add (ix_add (rfl : (110 : Int32) = nI 110) (ix_mul (rfl : (25 : Int32) = nI 25) hx)) (rfl : (1 : Int32) = nI 1)) (ix_mul (rfl : (4 : Int32) = nI 4) rfl)) (rfl : (1 : Int32) = nI 1)) (by omega) (by decide) dX8_ruleOf_85 ?_
            refine v_iconst X dX8_ruleOf_86 (v := 1) (by decide) ?_
            refine v_icmp_ne X dX8_ruleOf_87 (tgt := 104) (by decide) (fun c3 => ?_) (fun c3 => ?_)
            · refine v_iload X dX8_ruleOf_104 0 rfl ?_
              refine v_aload_n X dX8_ruleOf_106 2 rfl ?_
              refine v_iload X dX8_ruleOf_107 1 rfl ?_
              refine v_iconst X dX8_ruleOf_109 (v := 2) (by decide) ?_
              refine v_iadd X dX8_ruleOf_110 ?_
              refine v_ialdK X ((((110 + 25 * w) + 1) + (4 * k)) + 2) ha (ix_add (ix_add (ix_add (ix_add (rfl : (110 : Int32) = nI 110) (ix_mul (rfl : (25 : Int32) = nI 25) hx)) (rfl : (1 : Int32) = nI 1)) (ix_mul (rfl : (4 : Int32) = nI 4) rfl)) (rfl : (2 : Int32) = nI 2)) (by omega) (by decide) dX8_ruleOf_111 ?_
              refine v_icmp_le X dX8_ruleOf_112 (tgt := 118) (by decide) (fun c4 => ?_) (fun c4 => ?_)
              · refine v_iinc (v := (nI k) + 1) (lv1 := [(7, .int ((nI k) + 1)), (9, .int (valS (m (110 + 25 * w + 1 + 4 * k)) s l e t)), (8, .int (((110 + 25 * x) + 1) + (4 * (nI k)))), (0, .ref a), (1, .int x), (2, .int s), (3, .int l), (4, .int e), (5, .int t), (6, .int (110 + 25 * x))]) X dX8_ruleOf_118 9 rfl rfl (by decide) rfl ?_
                refine v_goto X dX8_ruleOf_121 (tgt := 12) (by decide) ?_
                refine v_lv (lv2 := [(0, .ref a), (1, .int x), (2, .int s), (3, .int l), (4, .int e), (5, .int t), (6, .int (110 + 25 * x)), (7, .int ((nI k) + 1))]) [3, 4, 5, 6, 7, 8, 9, 0] rfl ?_
                refine v_eqv (lv2 := [(0, .ref a), (1, .int x), (2, .int s), (3, .int l), (4, .int e), (5, .int t), (6, .int (110 + 25 * x)), (7, .int (nI (k + 1)))]) (by rw [nI_1]) ?_
                exact ih12 (k + 1) (by omega) ((fk_step hq (by omega)).2 (by simp [rP, rhS, c1, Int32.not_le.mp c1, c2, c3, c4, Int32.not_lt.mpr c4])) (by omega)
              · refine v_iload X dX8_ruleOf_115 9 rfl ?_
                exact v_iret X r dX8_ruleOf_117 (Nat.le_refl _) (Nat.le_refl _) ⟨ri ((fk_step hq hkc).1 (by simp [rP, rhS, c1, Int32.not_le.mp c1, c2, c3, c4, Int32.not_le.mp c4])).symm, rfl⟩
            · refine v_iload X dX8_ruleOf_90 0 rfl ?_
              refine v_aload_n X dX8_ruleOf_92 2 rfl ?_
              refine v_iload X dX8_ruleOf_93 1 rfl ?_
              refine v_iconst X dX8_ruleOf_95 (v := 2) (by decide) ?_
              refine v_iadd X dX8_ruleOf_96 ?_
              refine v_ialdK X ((((110 + 25 * w) + 1) + (4 * k)) + 2) ha (ix_add (ix_add (ix_add (ix_add (rfl : (110 : Int32) = nI 110) (ix_mul (rfl : (25 : Int32) = nI 25) hx)) (rfl : (1 : Int32) = nI 1)) (ix_mul (rfl : (4 : Int32) = nI 4) rfl)) (rfl : (2 : Int32) = nI 2)) (by omega) (by decide) dX8_ruleOf_97 ?_
              refine v_icmp_ge X dX8_ruleOf_98 (tgt := 118) (by decide) (fun c5 => ?_) (fun c5 => ?_)
              · refine v_iinc (v := (nI k) + 1) (lv1 := [(7, .int ((nI k) + 1)), (9, .int (valS (m (110 + 25 * w + 1 + 4 * k)) s l e t)), (8, .int (((110 + 25 * x) + 1) + (4 * (nI k)))), (0, .ref a), (1, .int x), (2, .int s), (3, .int l), (4, .int e), (5, .int t), (6, .int (110 + 25 * x))]) X dX8_ruleOf_118 9 rfl rfl (by decide) rfl ?_
                refine v_goto X dX8_ruleOf_121 (tgt := 12) (by decide) ?_
                refine v_lv (lv2 := [(0, .ref a), (1, .int x), (2, .int s), (3, .int l), (4, .int e), (5, .int t), (6, .int (110 + 25 * x)), (7, .int ((nI k) + 1))]) [3, 4, 5, 6, 7, 8, 9, 0] rfl ?_
                refine v_eqv (lv2 := [(0, .ref a), (1, .int x), (2, .int s), (3, .int l), (4, .int e), (5, .int t), (6, .int (110 + 25 * x)), (7, .int (nI (k + 1)))]) (by rw [nI_1]) ?_
                exact ih12 (k + 1) (by omega) ((fk_step hq (by omega)).2 (by simp [rP, rhS, c1, Int32.not_le.mp c1, c2, c3, c5, Int32.not_lt.mpr c5])) (by omega)
              · refine v_goto X dX8_ruleOf_101 (tgt := 115) (by decide) ?_
                refine v_iload X dX8_ruleOf_115 9 rfl ?_
                exact v_iret X r dX8_ruleOf_117 (Nat.le_refl _) (Nat.le_refl _) ⟨ri ((fk_step hq hkc).1 (by simp [rP, rhS, c1, Int32.not_le.mp c1, c2, c3, c5, Int32.not_le.mp c5])).symm, rfl⟩
        refine v_if_ne X dX8_ruleOf_36 (tgt := 43) (by decide) (fun c6 => ?_) (fun c6 => ?_)
        · refine v_aload_n X dX8_ruleOf_43 1 rfl ?_
          refine v_iload X dX8_ruleOf_44 0 rfl ?_
          refine v_ialdK X (((110 + 25 * w) + 1) + (4 * k)) ha (ix_add (ix_add (ix_add (rfl : (110 : Int32) = nI 110) (ix_mul (rfl : (25 : Int32) = nI 25) hx)) (rfl : (1 : Int32) = nI 1)) (ix_mul (rfl : (4 : Int32) = nI 4) rfl)) (by omega) (by decide) dX8_ruleOf_46 ?_
          refine v_iconst X dX8_ruleOf_47 (v := 1) (by decide) ?_
          refine v_icmp_ne X dX8_ruleOf_48 (tgt := 55) (by decide) (fun c7 => ?_) (fun c7 => ?_)
          · refine v_aload_n X dX8_ruleOf_55 1 rfl ?_
            refine v_iload X dX8_ruleOf_56 0 rfl ?_
            refine v_ialdK X (((110 + 25 * w) + 1) + (4 * k)) ha (ix_add (ix_add (ix_add (rfl : (110 : Int32) = nI 110) (ix_mul (rfl : (25 : Int32) = nI 25) hx)) (rfl : (1 : Int32) = nI 1)) (ix_mul (rfl : (4 : Int32) = nI 4) rfl)) (by omega) (by decide) dX8_ruleOf_58 ?_
            refine v_iconst X dX8_ruleOf_59 (v := 2) (by decide) ?_
            refine v_icmp_ne X dX8_ruleOf_60 (tgt := 68) (by decide) (fun c8 => ?_) (fun c8 => ?_)
            · refine v_iload X dX8_ruleOf_68 6 rfl ?_
              exact v_eqi (by simp [valS, c1, Int32.not_le.mp c1, c6, c7, c8]) J1
            · refine v_iload X dX8_ruleOf_63 5 rfl ?_
              refine v_goto X dX8_ruleOf_65 (tgt := 70) (by decide) ?_
              exact v_eqi (by simp [valS, c1, Int32.not_le.mp c1, c6, c7, c8]) J1
          · refine v_iload_n X dX8_ruleOf_51 4 rfl ?_
            refine v_goto X dX8_ruleOf_52 (tgt := 70) (by decide) ?_
            exact v_eqi (by simp [valS, c1, Int32.not_le.mp c1, c6, c7]) J1
        · refine v_iload_n X dX8_ruleOf_39 3 rfl ?_
          refine v_goto X dX8_ruleOf_40 (tgt := 70) (by decide) ?_
          exact v_eqi (by simp [valS, c1, Int32.not_le.mp c1, c6]) J1
  refine v_lv (lv2 := [(0, .ref a), (1, .int x), (2, .int s), (3, .int l), (4, .int e), (5, .int t), (6, .int (110 + (25 * x))), (7, .int 0)]) [2, 3, 4, 5, 6, 7, 1, 0] rfl ?_
  exact L12 _ 0 (Nat.zero_le _) rfl (Nat.lt_succ_self _)
set_option maxHeartbeats 4000000 in
set_option maxRecDepth 100000 in
theorem ct_X8_pushOf (ll : Launch) (g : GT) {h : Hp} {a : Nat} {m : Nat → Int32} {x : Int32} {p : Nat} (s l e t : Int32) (ha : h a = some (ai g 260 m)) (hx : x = nI p) (hp : p < 8) (hwy : wayOk m p) : MF ll g yX8_pushOf cX8_pushOf 10 (some .int) (k2_rm 1 40) [.ref a, .int x, .int s, .int l, .int e, .int t] h (some (.int (pushM m p s l e t))) h := by
  refine mc_of (by decide) (Nat.le_of_ble_eq_true rfl) ?_
  intro K X r
  refine v_eqv (lv2 := [(0, .ref a), (1, .int x), (2, .int s), (3, .int l), (4, .int e), (5, .int t)]) rfl ?_
  refine v_aload_n X dX8_pushOf_0 0 rfl ?_
  refine v_iload_n X dX8_pushOf_1 1 rfl ?_
  refine v_iconst X dX8_pushOf_2 (v := 3) (by decide) ?_
  refine v_cSi X [.ref a, .int x, .int 3] sX8_74 (ct_X8_told (p := p) (w := 3) ll g  ha hx (rfl : (3 : Int32) = nI 3) (by omega)) dX8_pushOf_3 rfl rfl ⟨rfl, rfl⟩ ⟨(Nat.le_of_ble_eq_true rfl), (Nat.le_of_ble_eq_true rfl)⟩ ⟨Nat.zero_le _, Nat.zero_le _⟩ (Nat.le_of_ble_eq_true rfl) ?_
  refine v_istore (lv1 := [(6, .int (told m p 3)), (0, .ref a), (1, .int x), (2, .int s), (3, .int l), (4, .int e), (5, .int t)]) X dX8_pushOf_6 (by decide) rfl ?_
  refine v_iload_n X dX8_pushOf_8 3 rfl ?_
  refine v_iconst X dX8_pushOf_9 (v := 2) (by decide) ?_
  refine v_idiv X dX8_pushOf_10 (by decide) ?_
  refine v_ineg X dX8_pushOf_11 ?_
  refine v_iload X dX8_pushOf_12 0 rfl ?_
  refine v_cSi X [.int (-(s / 2)), .int (told m p 3)] sX8_84 (ct_X8_held ll g (-(s / 2)) (told m p 3)) dX8_pushOf_14 rfl rfl ⟨rfl, rfl⟩ ⟨(Nat.le_of_ble_eq_true rfl), (Nat.le_of_ble_eq_true rfl)⟩ ⟨Nat.zero_le _, Nat.zero_le _⟩ (Nat.le_of_ble_eq_true rfl) ?_
  refine v_istore (lv1 := [(7, .int (heldS (-(s / 2)) (told m p 3))), (6, .int (told m p 3)), (0, .ref a), (1, .int x), (2, .int s), (3, .int l), (4, .int e), (5, .int t)]) X dX8_pushOf_17 (by decide) rfl ?_
  refine v_aload_n X dX8_pushOf_19 2 rfl ?_
  refine v_iload_n X dX8_pushOf_20 3 rfl ?_
  refine v_iconst X dX8_pushOf_21 (v := 0) (by decide) ?_
  refine v_cSi X [.ref a, .int x, .int 0] sX8_74 (ct_X8_told (p := p) (w := 0) ll g  ha hx (rfl : (0 : Int32) = nI 0) (by omega)) dX8_pushOf_22 rfl rfl ⟨rfl, rfl⟩ ⟨(Nat.le_of_ble_eq_true rfl), (Nat.le_of_ble_eq_true rfl)⟩ ⟨Nat.zero_le _, Nat.zero_le _⟩ (Nat.le_of_ble_eq_true rfl) ?_
  by_cases c1_1 : told m p 0 = 1
  · refine v_tabIn X dX8_pushOf_25 (off := 35) (tgt := 60) 1 c1_1 (by decide) (by decide) (by decide) (by decide) ?_
    refine v_iload X dX8_pushOf_60 6 rfl ?_
    refine v_iconst X dX8_pushOf_62 (v := 2) (by decide) ?_
    refine v_icmp_lt X dX8_pushOf_63 (tgt := 71) (by decide) (fun c2 => ?_) (fun c2 => ?_)
    · refine v_iconst X dX8_pushOf_71 (v := 0) (by decide) ?_
      exact v_iret X r dX8_pushOf_72 (Nat.le_refl _) (Nat.le_refl _) ⟨ri (by simp [pushM, waitS, deedS, c1_1, c2, Int32.not_le.mpr c2]), rfl⟩
    · refine v_iload X dX8_pushOf_66 1 rfl ?_
      refine v_goto X dX8_pushOf_68 (tgt := 72) (by decide) ?_
      exact v_iret X r dX8_pushOf_72 (Nat.le_refl _) (Nat.le_refl _) ⟨ri (by simp [pushM, waitS, deedS, c1_1, c2, Int32.not_lt.mp c2]), rfl⟩
  by_cases c1_2 : told m p 0 = 2
  · refine v_tabIn X dX8_pushOf_25 (off := 48) (tgt := 73) 2 c1_2 (by decide) (by decide) (by decide) (by decide) ?_
    refine v_iload X dX8_pushOf_73 0 rfl ?_
    exact v_iret X r dX8_pushOf_75 (Nat.le_refl _) (Nat.le_refl _) ⟨ri (by simp [pushM, waitS, deedS, c1_1, c1_2]), rfl⟩
  by_cases c1_3 : told m p 0 = 3
  · refine v_tabIn X dX8_pushOf_25 (off := 51) (tgt := 76) 3 c1_3 (by decide) (by decide) (by decide) (by decide) ?_
    refine v_iload_n X dX8_pushOf_76 4 rfl ?_
    refine v_cSi X [.int s] sX8_88 (ct_X8_size ll g s) dX8_pushOf_77 rfl rfl ⟨rfl, rfl⟩ ⟨(Nat.le_of_ble_eq_true rfl), (Nat.le_of_ble_eq_true rfl)⟩ ⟨Nat.zero_le _, Nat.zero_le _⟩ (Nat.le_of_ble_eq_true rfl) ?_
    refine v_iconst X dX8_pushOf_80 (v := 5) (by decide) ?_
    refine v_icmp_lt X dX8_pushOf_81 (tgt := 89) (by decide) (fun c3 => ?_) (fun c3 => ?_)
    · refine v_iload X dX8_pushOf_89 1 rfl ?_
      refine v_ineg X dX8_pushOf_91 ?_
      exact v_iret X r dX8_pushOf_92 (Nat.le_refl _) (Nat.le_refl _) ⟨ri (by simp [pushM, waitS, deedS, c1_1, c1_2, c1_3, c3, Int32.not_le.mpr c3]), rfl⟩
    · refine v_iload X dX8_pushOf_84 0 rfl ?_
      refine v_goto X dX8_pushOf_86 (tgt := 92) (by decide) ?_
      exact v_iret X r dX8_pushOf_92 (Nat.le_refl _) (Nat.le_refl _) ⟨ri (by simp [pushM, waitS, deedS, c1_1, c1_2, c1_3, c3, Int32.not_lt.mp c3]), rfl⟩
  by_cases c1_4 : told m p 0 = 4
  · refine v_tabIn X dX8_pushOf_25 (off := 205) (tgt := 230) 4 c1_4 (by decide) (by decide) (by decide) (by decide) ?_
    refine v_iload X dX8_pushOf_230 7 rfl ?_
    refine v_bipush X dX8_pushOf_232 (v := 19) (by decide) ?_
    refine v_icmp_le X dX8_pushOf_234 (tgt := 250) (by decide) (fun c4 => ?_) (fun c4 => ?_)
    · refine v_iconst X dX8_pushOf_250 (v := 0) (by decide) ?_
      exact v_iret X r dX8_pushOf_251 (Nat.le_refl _) (Nat.le_refl _) ⟨ri (by simp [pushM, waitS, deedS, c1_1, c1_2, c1_3, c1_4, c4, Int32.not_lt.mpr c4]), rfl⟩
    · refine v_iload X dX8_pushOf_237 6 rfl ?_
      refine v_iconst X dX8_pushOf_239 (v := 1) (by decide) ?_
      refine v_icmp_lt X dX8_pushOf_240 (tgt := 250) (by decide) (fun c5 => ?_) (fun c5 => ?_)
      · refine v_iconst X dX8_pushOf_250 (v := 0) (by decide) ?_
        exact v_iret X r dX8_pushOf_251 (Nat.le_refl _) (Nat.le_refl _) ⟨ri (by simp [pushM, waitS, deedS, c1_1, c1_2, c1_3, c1_4, c4, Int32.not_le.mp c4, c5, Int32.not_le.mpr c5]), rfl⟩
      · refine v_iload X dX8_pushOf_243 1 rfl ?_
        refine v_iconst X dX8_pushOf_245 (v := 3) (by decide) ?_
        refine v_idiv X dX8_pushOf_246 (by decide) ?_
        refine v_goto X dX8_pushOf_247 (tgt := 251) (by decide) ?_
        exact v_iret X r dX8_pushOf_251 (Nat.le_refl _) (Nat.le_refl _) ⟨ri (by simp [pushM, waitS, deedS, c1_1, c1_2, c1_3, c1_4, c4, Int32.not_le.mp c4, c5, Int32.not_lt.mp c5]), rfl⟩
  by_cases c1_5 : told m p 0 = 5
  · refine v_tabIn X dX8_pushOf_25 (off := 68) (tgt := 93) 5 c1_5 (by decide) (by decide) (by decide) (by decide) ?_
    refine v_aload_n X dX8_pushOf_93 2 rfl ?_
    refine v_iload_n X dX8_pushOf_94 3 rfl ?_
    refine v_bipush X dX8_pushOf_95 (v := 6) (by decide) ?_
    refine v_cSi X [.ref a, .int x, .int 6] sX8_74 (ct_X8_told (p := p) (w := 6) ll g  ha hx (rfl : (6 : Int32) = nI 6) (by omega)) dX8_pushOf_97 rfl rfl ⟨rfl, rfl⟩ ⟨(Nat.le_of_ble_eq_true rfl), (Nat.le_of_ble_eq_true rfl)⟩ ⟨Nat.zero_le _, Nat.zero_le _⟩ (Nat.le_of_ble_eq_true rfl) ?_
    refine v_if_lt X dX8_pushOf_100 (tgt := 208) (by decide) (fun c6 => ?_) (fun c6 => ?_)
    · refine v_iload X dX8_pushOf_208 7 rfl ?_
      refine v_bipush X dX8_pushOf_210 (v := 19) (by decide) ?_
      refine v_icmp_le X dX8_pushOf_212 (tgt := 228) (by decide) (fun c7 => ?_) (fun c7 => ?_)
      · refine v_iconst X dX8_pushOf_228 (v := 0) (by decide) ?_
        exact v_iret X r dX8_pushOf_229 (Nat.le_refl _) (Nat.le_refl _) ⟨ri (by simp [pushM, waitS, deedS, c1_1, c1_2, c1_3, c1_4, c1_5, c6, Int32.not_le.mpr c6, c7, Int32.not_lt.mpr c7]), rfl⟩
      · refine v_iload X dX8_pushOf_215 6 rfl ?_
        refine v_iconst X dX8_pushOf_217 (v := 1) (by decide) ?_
        refine v_icmp_lt X dX8_pushOf_218 (tgt := 228) (by decide) (fun c8 => ?_) (fun c8 => ?_)
        · refine v_iconst X dX8_pushOf_228 (v := 0) (by decide) ?_
          exact v_iret X r dX8_pushOf_229 (Nat.le_refl _) (Nat.le_refl _) ⟨ri (by simp [pushM, waitS, deedS, c1_1, c1_2, c1_3, c1_4, c1_5, c6, Int32.not_le.mpr c6, c7, Int32.not_le.mp c7, c8, Int32.not_le.mpr c8]), rfl⟩
        · refine v_iload X dX8_pushOf_221 1 rfl ?_
          refine v_iconst X dX8_pushOf_223 (v := 3) (by decide) ?_
          refine v_idiv X dX8_pushOf_224 (by decide) ?_
          refine v_goto X dX8_pushOf_225 (tgt := 229) (by decide) ?_
          exact v_iret X r dX8_pushOf_229 (Nat.le_refl _) (Nat.le_refl _) ⟨ri (by simp [pushM, waitS, deedS, c1_1, c1_2, c1_3, c1_4, c1_5, c6, Int32.not_le.mpr c6, c7, Int32.not_le.mp c7, c8, Int32.not_lt.mp c8]), rfl⟩
    · obtain ⟨w, c, ew, hw, ec, hc⟩ := hwy c6
      have ew2 : (told m p 6).toNatClampNeg = w := ix_cl ew (by omega)
      have ec2 : wayC m w = c := ix_cl ec (by omega)
      refine v_aload_n X dX8_pushOf_103 2 rfl ?_
      refine v_aload_n X dX8_pushOf_104 2 rfl ?_
      refine v_iload_n X dX8_pushOf_105 3 rfl ?_
      refine v_bipush X dX8_pushOf_106 (v := 6) (by decide) ?_
      refine v_cSi X [.ref a, .int x, .int 6] sX8_74 (ct_X8_told (p := p) (w := 6) ll g  ha hx (rfl : (6 : Int32) = nI 6) (by omega)) dX8_pushOf_108 rfl rfl ⟨rfl, rfl⟩ ⟨(Nat.le_of_ble_eq_true rfl), (Nat.le_of_ble_eq_true rfl)⟩ ⟨Nat.zero_le _, Nat.zero_le _⟩ (Nat.le_of_ble_eq_true rfl) ?_
      refine v_iload_n X dX8_pushOf_111 4 rfl ?_
      refine v_iload_n X dX8_pushOf_112 5 rfl ?_
      refine v_iload X dX8_pushOf_113 6 rfl ?_
      refine v_iload X dX8_pushOf_115 7 rfl ?_
      refine v_cSi X [.ref a, .int (told m p 6), .int s, .int l, .int e, .int t] sX8_91 (ct_X8_ruleOf (w := w) ll g s l e t ha ew hw ec hc) dX8_pushOf_117 rfl rfl ⟨rfl, rfl⟩ ⟨(Nat.le_of_ble_eq_true rfl), (Nat.le_of_ble_eq_true rfl)⟩ ⟨Nat.zero_le _, Nat.zero_le _⟩ (Nat.le_of_ble_eq_true rfl) ?_
      refine v_istore (lv1 := [(8, .int (ruleS m w c s l e t)), (7, .int (heldS (-(s / 2)) (told m p 3))), (6, .int (told m p 3)), (0, .ref a), (1, .int x), (2, .int s), (3, .int l), (4, .int e), (5, .int t)]) X dX8_pushOf_120 (by decide) rfl ?_
      refine v_iload X dX8_pushOf_122 0 rfl ?_
      have J1 : VJ K 0 0 h 153 [(8, .int (ruleS m w c s l e t)), (7, .int (heldS (-(s / 2)) (told m p 3))), (6, .int (told m p 3)), (0, .ref a), (1, .int x), (2, .int s), (3, .int l), (4, .int e), (5, .int t)] [.int (deedK m w c s l e t)] := by
        refine v_istore (lv1 := [(9, .int (deedK m w c s l e t)), (8, .int (ruleS m w c s l e t)), (7, .int (heldS (-(s / 2)) (told m p 3))), (6, .int (told m p 3)), (0, .ref a), (1, .int x), (2, .int s), (3, .int l), (4, .int e), (5, .int t)]) X dX8_pushOf_153 (by decide) rfl ?_
        refine v_iload X dX8_pushOf_155 0 rfl ?_
        refine v_if_ne X dX8_pushOf_157 (tgt := 165) (by decide) (fun c9 => ?_) (fun c9 => ?_)
        · refine v_iload X dX8_pushOf_165 0 rfl ?_
          refine v_iconst X dX8_pushOf_167 (v := 1) (by decide) ?_
          refine v_icmp_ne X dX8_pushOf_168 (tgt := 176) (by decide) (fun c10 => ?_) (fun c10 => ?_)
          · refine v_iload X dX8_pushOf_176 0 rfl ?_
            refine v_iconst X dX8_pushOf_178 (v := 2) (by decide) ?_
            refine v_icmp_ne X dX8_pushOf_179 (tgt := 188) (by decide) (fun c11 => ?_) (fun c11 => ?_)
            · refine v_iload X dX8_pushOf_188 0 rfl ?_
              refine v_iconst X dX8_pushOf_190 (v := 4) (by decide) ?_
              refine v_icmp_ne X dX8_pushOf_191 (tgt := 206) (by decide) (fun c12 => ?_) (fun c12 => ?_)
              · refine v_iconst X dX8_pushOf_206 (v := 0) (by decide) ?_
                exact v_iret X r dX8_pushOf_207 (Nat.le_refl _) (Nat.le_refl _) ⟨ri (by simp [pushM, waitS, deedS, c1_1, c1_2, c1_3, c1_4, c1_5, c6, Int32.not_lt.mp c6, c9, c10, c11, c12, ew2, ec2]), rfl⟩
              · refine v_iload_n X dX8_pushOf_194 7 rfl ?_
                refine v_iconst X dX8_pushOf_195 (v := 2) (by decide) ?_
                refine v_idiv X dX8_pushOf_196 (by decide) ?_
                refine v_ineg X dX8_pushOf_197 ?_
                refine v_iload X dX8_pushOf_198 3 rfl ?_
                refine v_cSi X [.int (-(l / 2)), .int (told m p 3)] sX8_84 (ct_X8_held ll g (-(l / 2)) (told m p 3)) dX8_pushOf_200 rfl rfl ⟨rfl, rfl⟩ ⟨(Nat.le_of_ble_eq_true rfl), (Nat.le_of_ble_eq_true rfl)⟩ ⟨Nat.zero_le _, Nat.zero_le _⟩ (Nat.le_of_ble_eq_true rfl) ?_
                refine v_goto X dX8_pushOf_203 (tgt := 207) (by decide) ?_
                exact v_iret X r dX8_pushOf_207 (Nat.le_refl _) (Nat.le_refl _) ⟨ri (by simp [pushM, waitS, deedS, c1_1, c1_2, c1_3, c1_4, c1_5, c6, Int32.not_lt.mp c6, c9, c10, c11, c12, ew2, ec2]), rfl⟩
            · refine v_iload X dX8_pushOf_182 3 rfl ?_
              refine v_ineg X dX8_pushOf_184 ?_
              refine v_goto X dX8_pushOf_185 (tgt := 207) (by decide) ?_
              exact v_iret X r dX8_pushOf_207 (Nat.le_refl _) (Nat.le_refl _) ⟨ri (by simp [pushM, waitS, deedS, c1_1, c1_2, c1_3, c1_4, c1_5, c6, Int32.not_lt.mp c6, c9, c10, c11, ew2, ec2]), rfl⟩
          · refine v_iload X dX8_pushOf_171 2 rfl ?_
            refine v_goto X dX8_pushOf_173 (tgt := 207) (by decide) ?_
            exact v_iret X r dX8_pushOf_207 (Nat.le_refl _) (Nat.le_refl _) ⟨ri (by simp [pushM, waitS, deedS, c1_1, c1_2, c1_3, c1_4, c1_5, c6, Int32.not_lt.mp c6, c9, c10, ew2, ec2]), rfl⟩
        · refine v_iload X dX8_pushOf_160 3 rfl ?_
          refine v_goto X dX8_pushOf_162 (tgt := 207) (by decide) ?_
          exact v_iret X r dX8_pushOf_207 (Nat.le_refl _) (Nat.le_refl _) ⟨ri (by simp [pushM, waitS, deedS, c1_1, c1_2, c1_3, c1_4, c1_5, c6, Int32.not_lt.mp c6, c9, ew2, ec2]), rfl⟩
      refine v_if_ge X dX8_pushOf_124 (tgt := 131) (by decide) (fun c13 => ?_) (fun c13 => ?_)
      · obtain ⟨j, hj, ej⟩ := ruleS_rng c13
        refine v_aload_n X dX8_pushOf_131 3 rfl ?_
        refine v_bipush X dX8_pushOf_132 (v := 110) (by decide) ?_
        refine v_bipush X dX8_pushOf_134 (v := 25) (by decide) ?_
        refine v_aload_n X dX8_pushOf_136 3 rfl ?_
        refine v_iload_n X dX8_pushOf_137 4 rfl ?_
        refine v_bipush X dX8_pushOf_138 (v := 6) (by decide) ?_
        refine v_cSi X [.ref a, .int x, .int 6] sX8_74 (ct_X8_told (p := p) (w := 6) ll g  ha hx (rfl : (6 : Int32) = nI 6) (by omega)) dX8_pushOf_140 rfl rfl ⟨rfl, rfl⟩ ⟨(Nat.le_of_ble_eq_true rfl), (Nat.le_of_ble_eq_true rfl)⟩ ⟨Nat.zero_le _, Nat.zero_le _⟩ (Nat.le_of_ble_eq_true rfl) ?_
        refine v_imul X dX8_pushOf_143 ?_
        refine v_iadd X dX8_pushOf_144 ?_
        refine v_iconst X dX8_pushOf_145 (v := 4) (by decide) ?_
        refine v_iadd X dX8_pushOf_146 ?_
        refine v_iconst X dX8_pushOf_147 (v := 4) (by decide) ?_
        refine v_iload X dX8_pushOf_148 0 rfl ?_
        refine v_imul X dX8_pushOf_150 ?_
        refine v_iadd X dX8_pushOf_151 ?_
        refine v_ialdK X (((110 + (25 * w)) + 4) + (4 * j)) ha (ix_add (ix_add (ix_add (rfl : (110 : Int32) = nI 110) (ix_mul (rfl : (25 : Int32) = nI 25) ew)) (rfl : (4 : Int32) = nI 4)) (ix_mul (rfl : (4 : Int32) = nI 4) ej)) (by omega) (by decide) dX8_pushOf_152 ?_
        exact v_eqi (by simp [deedK, c1_1, c1_2, c1_3, c1_4, c1_5, c6, Int32.not_lt.mp c6, c13, Int32.not_lt.mpr c13, ix_cl ej (show j < 2 ^ 31 by omega)]) J1
      · refine v_iconst X dX8_pushOf_127 (v := 3) (by decide) ?_
        refine v_goto X dX8_pushOf_128 (tgt := 153) (by decide) ?_
        exact v_eqi (by simp [deedK, c1_1, c1_2, c1_3, c1_4, c1_5, c6, Int32.not_lt.mp c6, c13, Int32.not_le.mp c13]) J1
  refine v_tabOut X dX8_pushOf_25 (tgt := 252) (by have e1 := lv_neT (k := 1) (a := 1) c1_1 (by decide); have e2 := lv_neT (k := 2) (a := 2) c1_2 (by decide); have e3 := lv_neT (k := 3) (a := 3) c1_3 (by decide); have e4 := lv_neT (k := 4) (a := 4) c1_4 (by decide); have e5 := lv_neT (k := 5) (a := 5) c1_5 (by decide); omega) (by decide) ?_
  refine v_iconst X dX8_pushOf_252 (v := 0) (by decide) ?_
  exact v_iret X r dX8_pushOf_253 (Nat.le_refl _) (Nat.le_refl _) ⟨ri (by simp [pushM, waitS, deedS, c1_1, c1_2, c1_3, c1_4, c1_5]), rfl⟩
set_option maxHeartbeats 4000000 in
set_option maxRecDepth 100000 in
theorem ct_X8_sees (ll : Launch) (g : GT) {h : Hp} {a : Nat} {m : Nat → Int32} {x : Int32} {sd p : Nat} (ha : h a = some (ai g 260 m)) (hx : x = nI sd) (hs : sd < 2) (hp : m (3 + sd) = nI p) (hp8 : p < 8) : MF ll g yX8_sees cX8_sees 3 (some .int) (k2_rm 1 40) [.ref a, .int x] h (some (.int (seesM m p))) h := by
  refine mc_of (by decide) (Nat.le_of_ble_eq_true rfl) ?_
  intro K X r
  refine v_eqv (lv2 := [(0, .ref a), (1, .int x)]) rfl ?_
  refine v_aload_n X dX8_sees_0 0 rfl ?_
  refine v_bipush X dX8_sees_1 (v := 6) (by decide) ?_
  refine v_ialdK X 6 ha (rfl : (6 : Int32) = nI 6) (by decide) (by decide) dX8_sees_3 ?_
  refine v_aload_n X dX8_sees_4 0 rfl ?_
  refine v_aload_n X dX8_sees_5 0 rfl ?_
  refine v_iconst X dX8_sees_6 (v := 3) (by decide) ?_
  refine v_iload_n X dX8_sees_7 1 rfl ?_
  refine v_iadd X dX8_sees_8 ?_
  refine v_ialdK X (3 + sd) ha (ix_add (rfl : (3 : Int32) = nI 3) hx) (by omega) (by decide) dX8_sees_9 ?_
  refine v_iconst X dX8_sees_10 (v := 2) (by decide) ?_
  refine v_cSi X [.ref a, .int (m (3 + sd)), .int 2] sX8_74 (ct_X8_told (p := p) (w := 2) ll g  ha hp (rfl : (2 : Int32) = nI 2) (by omega)) dX8_sees_11 rfl rfl ⟨rfl, rfl⟩ ⟨(Nat.le_of_ble_eq_true rfl), (Nat.le_of_ble_eq_true rfl)⟩ ⟨Nat.zero_le _, Nat.zero_le _⟩ (Nat.le_of_ble_eq_true rfl) ?_
  refine v_isub X dX8_sees_14 ?_
  refine v_istore_n (lv1 := [(2, .int ((m 6) - (told m p 2))), (0, .ref a), (1, .int x)]) X dX8_sees_15 (by decide) rfl ?_
  refine v_iload_n X dX8_sees_16 0 rfl ?_
  refine v_if_ge X dX8_sees_17 (tgt := 24) (by decide) (fun c1 => ?_) (fun c1 => ?_)
  · refine v_iload_n X dX8_sees_24 0 rfl ?_
    refine v_aload_n X dX8_sees_25 1 rfl ?_
    refine v_bipush X dX8_sees_26 (v := 6) (by decide) ?_
    refine v_ialdK X 6 ha (rfl : (6 : Int32) = nI 6) (by decide) (by decide) dX8_sees_28 ?_
    refine v_icmp_ne X dX8_sees_29 (tgt := 38) (by decide) (fun c2 => ?_) (fun c2 => ?_)
    · obtain ⟨j, hj, ej⟩ := nI_of (Int32.not_lt.mpr c1)
      refine v_aload_n X dX8_sees_38 1 rfl ?_
      refine v_bipush X dX8_sees_39 (v := 24) (by decide) ?_
      refine v_iload_n X dX8_sees_41 0 rfl ?_
      refine v_bipush X dX8_sees_42 (v := 10) (by decide) ?_
      refine v_irem X dX8_sees_44 (by decide) ?_
      refine v_iadd X dX8_sees_45 ?_
      refine v_ialdK X (24 + (j % 10)) ha (ix_add (rfl : (24 : Int32) = nI 24) (ix_rem ej (rfl : (10 : Int32) = nI 10) hj (by decide) (by decide))) (by omega) (by decide) dX8_sees_46 ?_
      exact v_iret X r dX8_sees_47 (Nat.le_refl _) (Nat.le_refl _) ⟨ri (by unfold seesM; rw [if_neg (Int32.not_lt.mpr c1), if_neg c2, ix_cl ej hj]), rfl⟩
    · refine v_aload_n X dX8_sees_32 1 rfl ?_
      refine v_iconst X dX8_sees_33 (v := 5) (by decide) ?_
      refine v_ialdK X 5 ha (rfl : (5 : Int32) = nI 5) (by decide) (by decide) dX8_sees_34 ?_
      refine v_goto X dX8_sees_35 (tgt := 47) (by decide) ?_
      exact v_iret X r dX8_sees_47 (Nat.le_refl _) (Nat.le_refl _) ⟨ri (by unfold seesM; rw [if_neg (Int32.not_lt.mpr c1), if_pos c2]), rfl⟩
  · refine v_iconst X dX8_sees_20 (v := 0) (by decide) ?_
    refine v_goto X dX8_sees_21 (tgt := 47) (by decide) ?_
    exact v_iret X r dX8_sees_47 (Nat.le_refl _) (Nat.le_refl _) ⟨ri (by unfold seesM; rw [if_pos (Int32.not_le.mp c1)]), rfl⟩
set_option maxHeartbeats 4000000 in
set_option maxRecDepth 100000 in
theorem ct_X8_pushes (ll : Launch) (g : GT) {h : Hp} {a : Nat} {m : Nat → Int32} {x : Int32} {sd p : Nat} (ha : h a = some (ai g 260 m)) (hx : x = nI sd) (hs : sd < 2) (hp : m (3 + sd) = nI p) (hp8 : p < 8) (hwy : wayOk m p) : MF ll g yX8_pushes cX8_pushes 3 (some .int) (k2_rm 2 80) [.ref a, .int x] h (some (.int (pushesM m p sd))) h := by
  refine mc_of (by decide) (Nat.le_of_ble_eq_true rfl) ?_
  intro K X r
  refine v_eqv (lv2 := [(0, .ref a), (1, .int x)]) rfl ?_
  refine v_aload_n X dX8_pushes_0 0 rfl ?_
  refine v_aload_n X dX8_pushes_1 0 rfl ?_
  refine v_iconst X dX8_pushes_2 (v := 3) (by decide) ?_
  refine v_iload_n X dX8_pushes_3 1 rfl ?_
  refine v_iadd X dX8_pushes_4 ?_
  refine v_ialdK X (3 + sd) ha (ix_add (rfl : (3 : Int32) = nI 3) hx) (by omega) (by decide) dX8_pushes_5 ?_
  refine v_aload_n X dX8_pushes_6 0 rfl ?_
  refine v_iload_n X dX8_pushes_7 1 rfl ?_
  refine v_cSi X [.ref a, .int x] sX8_104 (ct_X8_sees (sd := sd) ll g  ha hx hs hp hp8) dX8_pushes_8 rfl rfl ⟨rfl, rfl⟩ ⟨(Nat.le_of_ble_eq_true rfl), (Nat.le_of_ble_eq_true rfl)⟩ ⟨Nat.zero_le _, Nat.zero_le _⟩ (Nat.le_of_ble_eq_true rfl) ?_
  refine v_aload_n X dX8_pushes_11 0 rfl ?_
  refine v_bipush X dX8_pushes_12 (v := 18) (by decide) ?_
  refine v_iload_n X dX8_pushes_14 1 rfl ?_
  refine v_iadd X dX8_pushes_15 ?_
  refine v_ialdK X (18 + sd) ha (ix_add (rfl : (18 : Int32) = nI 18) hx) (by omega) (by decide) dX8_pushes_16 ?_
  refine v_aload_n X dX8_pushes_17 0 rfl ?_
  refine v_bipush X dX8_pushes_18 (v := 20) (by decide) ?_
  refine v_iload_n X dX8_pushes_20 1 rfl ?_
  refine v_iadd X dX8_pushes_21 ?_
  refine v_ialdK X (20 + sd) ha (ix_add (rfl : (20 : Int32) = nI 20) hx) (by omega) (by decide) dX8_pushes_22 ?_
  refine v_aload_n X dX8_pushes_23 0 rfl ?_
  refine v_bipush X dX8_pushes_24 (v := 6) (by decide) ?_
  refine v_ialdK X 6 ha (rfl : (6 : Int32) = nI 6) (by decide) (by decide) dX8_pushes_26 ?_
  refine v_cSi X [.ref a, .int (m (3 + sd)), .int (seesM m p), .int (m (18 + sd)), .int (m (20 + sd)), .int (m 6)] sX8_101 (ct_X8_pushOf (p := p) ll g (seesM m p) (m (18 + sd)) (m (20 + sd)) (m 6) ha hp hp8 hwy) dX8_pushes_27 rfl rfl ⟨rfl, rfl⟩ ⟨(Nat.le_of_ble_eq_true rfl), (Nat.le_of_ble_eq_true rfl)⟩ ⟨Nat.zero_le _, Nat.zero_le _⟩ (Nat.le_of_ble_eq_true rfl) ?_
  refine v_istore_n (lv1 := [(2, .int (pushM m p (seesM m p) (m (18 + sd)) (m (20 + sd)) (m 6))), (0, .ref a), (1, .int x)]) X dX8_pushes_30 (by decide) rfl ?_
  refine v_aload_n X dX8_pushes_31 1 rfl ?_
  refine v_bipush X dX8_pushes_32 (v := 20) (by decide) ?_
  refine v_iload_n X dX8_pushes_34 2 rfl ?_
  refine v_iadd X dX8_pushes_35 ?_
  refine v_ialdK X (20 + sd) ha (ix_add (rfl : (20 : Int32) = nI 20) hx) (by omega) (by decide) dX8_pushes_36 ?_
  refine v_iload_n X dX8_pushes_37 0 rfl ?_
  refine v_cSi X [.int (pushM m p (seesM m p) (m (18 + sd)) (m (20 + sd)) (m 6))] sX8_108 (ct_X8_costOf ll g (pushM m p (seesM m p) (m (18 + sd)) (m (20 + sd)) (m 6))) dX8_pushes_38 rfl rfl ⟨rfl, rfl⟩ ⟨(Nat.le_of_ble_eq_true rfl), (Nat.le_of_ble_eq_true rfl)⟩ ⟨Nat.zero_le _, Nat.zero_le _⟩ (Nat.le_of_ble_eq_true rfl) ?_
  refine v_icmp_ge X dX8_pushes_41 (tgt := 48) (by decide) (fun c1 => ?_) (fun c1 => ?_)
  · refine v_iload_n X dX8_pushes_48 0 rfl ?_
    exact v_iret X r dX8_pushes_49 (Nat.le_refl _) (Nat.le_refl _) ⟨ri (by simp [pushesM, c1, Int32.not_lt.mpr c1]), rfl⟩
  · refine v_iconst X dX8_pushes_44 (v := 0) (by decide) ?_
    refine v_goto X dX8_pushes_45 (tgt := 49) (by decide) ?_
    exact v_iret X r dX8_pushes_49 (Nat.le_refl _) (Nat.le_refl _) ⟨ri (by simp [pushesM, c1, Int32.not_le.mp c1]), rfl⟩
set_option maxHeartbeats 4000000 in
set_option maxRecDepth 100000 in
theorem ct_X8_slips (ll : Launch) (g : GT) {h : Hp} {a : Nat} {m : Nat → Int32}  (ha : h a = some (ai g 260 m)) : MF ll g yX8_slips cX8_slips 1 (some .boolean) (k2_rm 0 0) [.ref a] h (some (.int (bI (drawS (zN (m 8)) < m 14)))) (hU h a (ai g 260 (upd m 8 (zN (m 8))))) := by
  refine mc_of (by decide) (Nat.le_of_ble_eq_true rfl) ?_
  intro K X r
  refine v_eqv (lv2 := [(0, .ref a)]) rfl ?_
  refine v_aload_n X dX8_slips_0 0 rfl ?_
  refine v_bipush X dX8_slips_1 (v := 8) (by decide) ?_
  refine v_aload_n X dX8_slips_3 0 rfl ?_
  refine v_bipush X dX8_slips_4 (v := 8) (by decide) ?_
  refine v_ialdK X 8 ha (rfl : (8 : Int32) = nI 8) (by decide) (by decide) dX8_slips_6 ?_
  refine v_ldc X dX8_slips_7 kX8_111 ?_
  refine v_imul X dX8_slips_9 ?_
  refine v_sipush X dX8_slips_10 (v := 12345) (by decide) ?_
  refine v_iadd X dX8_slips_13 ?_
  refine v_iastK (h2 := (hU h a (ai g 260 (upd m 8 (((m 8) * 1103515245) + 12345))))) X 8 ha (rfl : (8 : Int32) = nI 8) (by decide) (by decide) dX8_slips_14 rfl ?_
  refine v_aload_n X dX8_slips_15 0 rfl ?_
  refine v_bipush X dX8_slips_16 (v := 8) (by decide) ?_
  refine v_ialdK X 8 hU_s (rfl : (8 : Int32) = nI 8) (by decide) (by decide) dX8_slips_18 ?_
  refine v_eqi (y := ((m 8) * 1103515245) + 12345) pk_us ?_
  refine v_bipush X dX8_slips_19 (v := 8) (by decide) ?_
  refine v_iushr X dX8_slips_21 ?_
  refine v_bipush X dX8_slips_22 (v := 100) (by decide) ?_
  refine v_irem X dX8_slips_24 (by decide) ?_
  refine v_aload_n X dX8_slips_25 0 rfl ?_
  refine v_bipush X dX8_slips_26 (v := 14) (by decide) ?_
  refine v_ialdK X 14 hU_s (rfl : (14 : Int32) = nI 14) (by decide) (by decide) dX8_slips_28 ?_
  refine v_eqi (y := m 14) (pk_un (by decide)) ?_
  refine v_icmp_ge X dX8_slips_29 (tgt := 36) (by decide) (fun c1 => ?_) (fun c1 => ?_)
  · refine v_iconst X dX8_slips_36 (v := 0) (by decide) ?_
    exact v_zret X r dX8_slips_37 rfl (Nat.le_refl _) (Nat.le_refl _) ⟨ri (bI_f (Int32.not_lt.mpr c1)).symm, rfl⟩
  · refine v_iconst X dX8_slips_32 (v := 1) (by decide) ?_
    refine v_goto X dX8_slips_33 (tgt := 37) (by decide) ?_
    exact v_zret X r dX8_slips_37 rfl (Nat.le_refl _) (Nat.le_refl _) ⟨ri (bI_t (Int32.not_le.mp c1)).symm, rfl⟩
set_option maxHeartbeats 4000000 in
set_option maxRecDepth 100000 in
theorem ct_X8_steps (ll : Launch) (g : GT) {h : Hp} {a : Nat} {m : Nat → Int32} {x : Int32} {sd p : Nat} (s : Int32) (ha : h a = some (ai g 260 m)) (hx : x = nI sd) (hs : sd < 2) (hp : m (3 + sd) = nI p) (hp8 : p < 8) : MF ll g yX8_steps cX8_steps 3 none (k2_rm 2 60) [.ref a, .int x, .int s] h none (hU h a (ai g 260 (upd (upd m 8 (zN (m 8))) (16 + sd) (feetS (m (16 + sd)) s (told m p 3) (zN (m 8)) (m 14))))) := by
  refine mc_of (by decide) (Nat.le_of_ble_eq_true rfl) ?_
  intro K X r
  refine v_eqv (lv2 := [(0, .ref a), (1, .int x), (2, .int s)]) rfl ?_
  refine v_aload_n X dX8_steps_0 0 rfl ?_
  refine v_cSi X [.ref a] sX8_112 (ct_X8_slips ll g  ha) dX8_steps_1 rfl rfl ⟨rfl, rfl⟩ ⟨(Nat.le_of_ble_eq_true rfl), (Nat.le_of_ble_eq_true rfl)⟩ ⟨Nat.zero_le _, Nat.zero_le _⟩ (Nat.le_of_ble_eq_true rfl) ?_
  refine v_ifb_ne X dX8_steps_4 (tgt := 37) (by decide) (fun c1 => ?_) (fun c1 => ?_)
  · exact v_vret X r dX8_steps_37 (Nat.le_refl _) (Nat.le_refl _) ⟨rfl, (by rw [feetS, if_pos c1, show m (16 + sd) = upd m 8 (zN (m 8)) (16 + sd) from (pk_un (by omega)).symm, upd_self])⟩
  · refine v_aload_n X dX8_steps_7 0 rfl ?_
    refine v_bipush X dX8_steps_8 (v := 16) (by decide) ?_
    refine v_iload_n X dX8_steps_10 1 rfl ?_
    refine v_iadd X dX8_steps_11 ?_
    refine v_dup2 X dX8_steps_12 rfl rfl ?_
    refine v_ialdK X (16 + sd) hU_s (ix_add (rfl : (16 : Int32) = nI 16) hx) (by omega) (by decide) dX8_steps_13 ?_
    refine v_eqi (y := m (16 + sd)) (pk_un (by omega)) ?_
    refine v_iload_n X dX8_steps_14 2 rfl ?_
    refine v_aload_n X dX8_steps_15 0 rfl ?_
    refine v_bipush X dX8_steps_16 (v := 16) (by decide) ?_
    refine v_iload_n X dX8_steps_18 1 rfl ?_
    refine v_iadd X dX8_steps_19 ?_
    refine v_ialdK X (16 + sd) hU_s (ix_add (rfl : (16 : Int32) = nI 16) hx) (by omega) (by decide) dX8_steps_20 ?_
    refine v_eqi (y := m (16 + sd)) (pk_un (by omega)) ?_
    refine v_isub X dX8_steps_21 ?_
    refine v_aload_n X dX8_steps_22 0 rfl ?_
    refine v_aload_n X dX8_steps_23 0 rfl ?_
    refine v_iconst X dX8_steps_24 (v := 3) (by decide) ?_
    refine v_iload_n X dX8_steps_25 1 rfl ?_
    refine v_iadd X dX8_steps_26 ?_
    refine v_ialdK X (3 + sd) hU_s (ix_add (rfl : (3 : Int32) = nI 3) hx) (by omega) (by decide) dX8_steps_27 ?_
    refine v_eqi (y := m (3 + sd)) (pk_un (by omega)) ?_
    refine v_iconst X dX8_steps_28 (v := 3) (by decide) ?_
    refine v_cSi X [.ref a, .int (m (3 + sd)), .int 3] sX8_74 (ct_X8_told (p := p) (w := 3) ll g  hU_s hp (rfl : (3 : Int32) = nI 3) (by omega)) dX8_steps_29 rfl rfl ⟨rfl, rfl⟩ ⟨(Nat.le_of_ble_eq_true rfl), (Nat.le_of_ble_eq_true rfl)⟩ ⟨Nat.zero_le _, Nat.zero_le _⟩ (Nat.le_of_ble_eq_true rfl) ?_
    refine v_eqi (y := told m p 3) (told_lo (by omega)) ?_
    refine v_cSi X [.int (s - (m (16 + sd))), .int (told m p 3)] sX8_84 (ct_X8_held ll g (s - (m (16 + sd))) (told m p 3)) dX8_steps_32 rfl rfl ⟨rfl, rfl⟩ ⟨(Nat.le_of_ble_eq_true rfl), (Nat.le_of_ble_eq_true rfl)⟩ ⟨Nat.zero_le _, Nat.zero_le _⟩ (Nat.le_of_ble_eq_true rfl) ?_
    refine v_iadd X dX8_steps_35 ?_
    refine v_iastK (h2 := (hU h a (ai g 260 (upd (upd m 8 (zN (m 8))) (16 + sd) ((m (16 + sd)) + (heldS (s - (m (16 + sd))) (told m p 3))))))) X (16 + sd) hU_s (ix_add (rfl : (16 : Int32) = nI 16) hx) (by omega) (by decide) dX8_steps_36 hU_u ?_
    exact v_vret X r dX8_steps_37 (Nat.le_refl _) (Nat.le_refl _) ⟨rfl, (by rw [feetS, if_neg c1])⟩
set_option maxHeartbeats 4000000 in
set_option maxRecDepth 100000 in
theorem ct_X8_falls (ll : Launch) (g : GT) {h : Hp} {a : Nat} {m : Nat → Int32} {x : Int32} {sd : Nat} (ha : h a = some (ai g 260 m)) (hx : x = nI sd) (hs : sd < 2) : MF ll g yX8_falls cX8_falls 2 (some .boolean) (k2_rm 1 30) [.ref a, .int x] h (some (.int (bI (m 13 < szS (swayS (m (18 + sd)) (m 5) (m (16 + sd))))))) (hU h a (ai g 260 (upd m (18 + sd) (swayS (m (18 + sd)) (m 5) (m (16 + sd)))))) := by
  refine mc_of (by decide) (Nat.le_of_ble_eq_true rfl) ?_
  intro K X r
  refine v_eqv (lv2 := [(0, .ref a), (1, .int x)]) rfl ?_
  refine v_aload_n X dX8_falls_0 0 rfl ?_
  refine v_bipush X dX8_falls_1 (v := 18) (by decide) ?_
  refine v_iload_n X dX8_falls_3 1 rfl ?_
  refine v_iadd X dX8_falls_4 ?_
  refine v_dup2 X dX8_falls_5 rfl rfl ?_
  refine v_ialdK X (18 + sd) ha (ix_add (rfl : (18 : Int32) = nI 18) hx) (by omega) (by decide) dX8_falls_6 ?_
  refine v_aload_n X dX8_falls_7 0 rfl ?_
  refine v_iconst X dX8_falls_8 (v := 5) (by decide) ?_
  refine v_ialdK X 5 ha (rfl : (5 : Int32) = nI 5) (by decide) (by decide) dX8_falls_9 ?_
  refine v_aload_n X dX8_falls_10 0 rfl ?_
  refine v_bipush X dX8_falls_11 (v := 16) (by decide) ?_
  refine v_iload_n X dX8_falls_13 1 rfl ?_
  refine v_iadd X dX8_falls_14 ?_
  refine v_ialdK X (16 + sd) ha (ix_add (rfl : (16 : Int32) = nI 16) hx) (by omega) (by decide) dX8_falls_15 ?_
  refine v_isub X dX8_falls_16 ?_
  refine v_iconst X dX8_falls_17 (v := 4) (by decide) ?_
  refine v_idiv X dX8_falls_18 (by decide) ?_
  refine v_iadd X dX8_falls_19 ?_
  refine v_iastK (h2 := (hU h a (ai g 260 (upd m (18 + sd) ((m (18 + sd)) + (((m 5) - (m (16 + sd))) / 4)))))) X (18 + sd) ha (ix_add (rfl : (18 : Int32) = nI 18) hx) (by omega) (by decide) dX8_falls_20 rfl ?_
  refine v_aload_n X dX8_falls_21 0 rfl ?_
  refine v_bipush X dX8_falls_22 (v := 18) (by decide) ?_
  refine v_iload_n X dX8_falls_24 1 rfl ?_
  refine v_iadd X dX8_falls_25 ?_
  refine v_dup2 X dX8_falls_26 rfl rfl ?_
  refine v_ialdK X (18 + sd) hU_s (ix_add (rfl : (18 : Int32) = nI 18) hx) (by omega) (by decide) dX8_falls_27 ?_
  refine v_eqi (y := (m (18 + sd)) + (((m 5) - (m (16 + sd))) / 4)) pk_us ?_
  refine v_aload_n X dX8_falls_28 0 rfl ?_
  refine v_bipush X dX8_falls_29 (v := 18) (by decide) ?_
  refine v_iload_n X dX8_falls_31 1 rfl ?_
  refine v_iadd X dX8_falls_32 ?_
  refine v_ialdK X (18 + sd) hU_s (ix_add (rfl : (18 : Int32) = nI 18) hx) (by omega) (by decide) dX8_falls_33 ?_
  refine v_eqi (y := (m (18 + sd)) + (((m 5) - (m (16 + sd))) / 4)) pk_us ?_
  refine v_bipush X dX8_falls_34 (v := 8) (by decide) ?_
  refine v_idiv X dX8_falls_36 (by decide) ?_
  refine v_isub X dX8_falls_37 ?_
  refine v_iastK (h2 := (hU h a (ai g 260 (upd m (18 + sd) (((m (18 + sd)) + (((m 5) - (m (16 + sd))) / 4)) - (((m (18 + sd)) + (((m 5) - (m (16 + sd))) / 4)) / 8)))))) X (18 + sd) hU_s (ix_add (rfl : (18 : Int32) = nI 18) hx) (by omega) (by decide) dX8_falls_38 (by rw [upd_uu]; exact hU_u) ?_
  refine v_aload_n X dX8_falls_39 0 rfl ?_
  refine v_bipush X dX8_falls_40 (v := 18) (by decide) ?_
  refine v_iload_n X dX8_falls_42 1 rfl ?_
  refine v_iadd X dX8_falls_43 ?_
  refine v_ialdK X (18 + sd) hU_s (ix_add (rfl : (18 : Int32) = nI 18) hx) (by omega) (by decide) dX8_falls_44 ?_
  refine v_eqi (y := ((m (18 + sd)) + (((m 5) - (m (16 + sd))) / 4)) - (((m (18 + sd)) + (((m 5) - (m (16 + sd))) / 4)) / 8)) pk_us ?_
  refine v_cSi X [.int (((m (18 + sd)) + (((m 5) - (m (16 + sd))) / 4)) - (((m (18 + sd)) + (((m 5) - (m (16 + sd))) / 4)) / 8))] sX8_88 (ct_X8_size ll g (((m (18 + sd)) + (((m 5) - (m (16 + sd))) / 4)) - (((m (18 + sd)) + (((m 5) - (m (16 + sd))) / 4)) / 8))) dX8_falls_45 rfl rfl ⟨rfl, rfl⟩ ⟨(Nat.le_of_ble_eq_true rfl), (Nat.le_of_ble_eq_true rfl)⟩ ⟨Nat.zero_le _, Nat.zero_le _⟩ (Nat.le_of_ble_eq_true rfl) ?_
  refine v_aload_n X dX8_falls_48 0 rfl ?_
  refine v_bipush X dX8_falls_49 (v := 13) (by decide) ?_
  refine v_ialdK X 13 hU_s (rfl : (13 : Int32) = nI 13) (by decide) (by decide) dX8_falls_51 ?_
  refine v_eqi (y := m 13) (pk_un (by omega)) ?_
  refine v_icmp_le X dX8_falls_52 (tgt := 59) (by decide) (fun c1 => ?_) (fun c1 => ?_)
  · refine v_iconst X dX8_falls_59 (v := 0) (by decide) ?_
    exact v_zret X r dX8_falls_60 rfl (Nat.le_refl _) (Nat.le_refl _) ⟨ri (by simp [bI, swayS, c1, Int32.not_lt.mpr c1]), rfl⟩
  · refine v_iconst X dX8_falls_55 (v := 1) (by decide) ?_
    refine v_goto X dX8_falls_56 (tgt := 60) (by decide) ?_
    exact v_zret X r dX8_falls_60 rfl (Nat.le_refl _) (Nat.le_refl _) ⟨ri (by simp [bI, swayS, c1, Int32.not_le.mp c1]), rfl⟩
