/-! ===== words, rules, and the reference's way() ===== -/
section VT
variable {K : KT} {l0 : Launch} {g0 : GT} {cc : ByteArray} {own : String} {nL0 : Nat} {rm : Room} {k n : Nat} {h : Hp} {pc pc1 : Nat} {lv : List (Nat × Value)} {st st0 : List Value}
theorem v_ldcM (X : Cx K l0 g0 cc RX8 nL0 rm) {w idx : Nat} (hw : w < 10) (hi : sixM.getD w 0 = idx) (hd : DD cc pc (.ldc idx) 2 pc1) (kk : VJ K k n h pc1 lv (.ref (g0.2.2 (50 + w)) :: st)) : VJ K k n h pc lv st := by
  obtain ⟨p, l, e, R, s, m, args, below, meth, c, Q, nL, g, A⟩ := K
  obtain ⟨hx, hb, hml, hown, hts, hE, hA, hlk, rfl, rfl, rfl, rfl⟩ := X
  obtain ⟨hd, rfl⟩ := hd
  subst hi
  exact fun H locs ls h1 h2 h3 h4 => va_ldcS hx hb hown (hE.2.2.2.2.2.1.2 w hw) hd (kk H locs ls h1 h2 h3 h4)
theorem v_ldcT (X : Cx K l0 g0 cc RX4 nL0 rm) {w idx : Nat} (hw : w < 10) (hi : sixT.getD w 0 = idx) (hd : DD cc pc (.ldc idx) 2 pc1) (kk : VJ K k n h pc1 lv (.ref (g0.2.2 (10 + w)) :: st)) : VJ K k n h pc lv st := by
  obtain ⟨p, l, e, R, s, m, args, below, meth, c, Q, nL, g, A⟩ := K
  obtain ⟨hx, hb, hml, hown, hts, hE, hA, hlk, rfl, rfl, rfl, rfl⟩ := X
  obtain ⟨hd, rfl⟩ := hd
  subst hi
  exact fun H locs ls h1 h2 h3 h4 => va_ldcS hx hb hown (hE.2.2.2.2.2.1.1 w hw) hd (kk H locs ls h1 h2 h3 h4)
end VT
def wcK (w : Nat) : Nat → Int32
  | 0 => 0
  | k + 1 => 32 * wcK w k + chS w k - 97 + 1
def wcN (w : Nat) : Int32 := wcK w (slN w)
abbrev sgAt (f : Nat → Int32) (n a : Nat) (c : Int32) : Prop := lkT f n a = 3 ∧ lkV f n a = c
abbrev wdAt (f : Nat → Int32) (n a w : Nat) : Prop := lkT f n a = 1 ∧ lkW f n a = wcN w
def nameAt (f : Nat → Int32) (n a : Nat) : Int32 := if wdAt f n a 0 then 0 else if wdAt f n a 1 then 1 else if wdAt f n a 2 then 2 else if wdAt f n a 3 then 3 else if wdAt f n a 4 then 4 else -1
def deedAt (f : Nat → Int32) (n a : Nat) : Int32 := if wdAt f n a 5 then 0 else if wdAt f n a 6 then 1 else if wdAt f n a 7 then 2 else if wdAt f n a 8 then 3 else if wdAt f n a 9 then 4 else -1
abbrev c1P (f : Nat → Int32) (n a : Nat) : Prop := sgAt f n a 60 ∨ sgAt f n a 62
def c2A (f : Nat → Int32) (n a : Nat) : Nat := if sgAt f n (lkE f n a) 45 then lkE f n (lkE f n a) else lkE f n a
abbrev c2P (f : Nat → Int32) (n a : Nat) : Prop := lkT f n (c2A f n a) = 2 ∧ lkV f n (c2A f n a) ≤ 999
def c2V (f : Nat → Int32) (n a : Nat) : Int32 := if sgAt f n (lkE f n a) 45 then -lkV f n (c2A f n a) else lkV f n (c2A f n a)
abbrev cmP (f : Nat → Int32) (n a : Nat) : Prop := c1P f n a ∧ c2P f n a
def cmA (f : Nat → Int32) (n a : Nat) : Nat := if c1P f n a then (if c2P f n a then lkE f n (c2A f n a) else c2A f n a) else a
def cmD (d : Nat → Int32) (r : Nat) (f : Nat → Int32) (n a : Nat) : Nat → Int32 := if c1P f n a then upd (upd d (r + 1) (if sgAt f n a 60 then 1 else 0)) (r + 2) (c2V f n a) else upd d (r + 1) (if sgAt f n a 60 then 1 else 0)
theorem skipF_le {f : Nat → Int32} : ∀ (k q : Nat), q ≤ skipF f q k ∧ skipF f q k ≤ q + k
  | 0, q => ⟨Nat.le_refl _, Nat.le_refl _⟩
  | k + 1, q => by
    unfold skipF
    by_cases h : f q = 32
    · rw [if_pos h]; have := skipF_le (f := f) k (q + 1); omega
    · rw [if_neg h]; omega
theorem wordE_le {f : Nat → Int32} : ∀ (k q : Nat), q ≤ wordE f q k ∧ wordE f q k ≤ q + k
  | 0, q => ⟨Nat.le_refl _, Nat.le_refl _⟩
  | k + 1, q => by
    unfold wordE
    by_cases h : isL (f q)
    · rw [if_pos h]; have := wordE_le (f := f) k (q + 1); omega
    · rw [if_neg h]; omega
theorem digE_le {f : Nat → Int32} : ∀ (k q : Nat), q ≤ digE f q k ∧ digE f q k ≤ q + k
  | 0, q => ⟨Nat.le_refl _, Nat.le_refl _⟩
  | k + 1, q => by
    unfold digE
    by_cases h : isDg (f q)
    · rw [if_pos h]; have := digE_le (f := f) k (q + 1); omega
    · rw [if_neg h]; omega
theorem lkJ_le {f : Nat → Int32} {n a : Nat} (h : a ≤ n) : a ≤ lkJ f n a ∧ lkJ f n a ≤ n := by
  have := skipF_le (f := f) (n - a) a
  unfold lkJ; omega
theorem lkE_le {f : Nat → Int32} {n a : Nat} (h : a ≤ n) : lkE f n a ≤ n := by
  have hj := lkJ_le (f := f) h
  unfold lkE
  by_cases h1 : lkJ f n a = n
  · rw [if_pos h1]; exact Nat.le_refl _
  · rw [if_neg h1]
    by_cases h2 : isL (f (lkJ f n a))
    · rw [if_pos h2]; have := wordE_le (f := f) (n - lkJ f n a) (lkJ f n a); omega
    · rw [if_neg h2]
      by_cases h3 : isDg (f (lkJ f n a))
      · rw [if_pos h3]; have := digE_le (f := f) (n - lkJ f n a) (lkJ f n a); omega
      · rw [if_neg h3]; omega
theorem c2A_le {f : Nat → Int32} {n a : Nat} (h : a ≤ n) : c2A f n a ≤ n := by
  unfold c2A
  by_cases h1 : sgAt f n (lkE f n a) 45
  · rw [if_pos h1]; exact lkE_le (lkE_le h)
  · rw [if_neg h1]; exact lkE_le h
theorem cmA_le {f : Nat → Int32} {n a : Nat} (h : a ≤ n) : cmA f n a ≤ n := by
  unfold cmA
  by_cases h1 : c1P f n a
  · rw [if_pos h1]
    by_cases h2 : c2P f n a
    · rw [if_pos h2]; exact lkE_le (c2A_le h)
    · rw [if_neg h2]; exact c2A_le h
  · rw [if_neg h1]; exact h
set_option maxHeartbeats 4000000 in
set_option maxRecDepth 100000 in
theorem ct_X8_isWord (ll : Launch) (g : GT) {h : Hp} {t dA eA kA fA tA bA zA nA lA : Nat} {hk sw0 sw1 tp pp fr tk wd vl wr : Int32} {a v w : Nat} (ht : h t = some (ob 8 [.ref dA, .ref eA, .ref kA, .int hk, .ref fA, .int sw0, .int sw1, .ref tA, .int tp, .int pp, .int fr, .int tk, .int wd, .int vl, .int wr, .ref bA, .ref zA, .ref nA, .ref lA])) (hs : sV g a v w) : MF ll g yX8_isWord cX8_isWord 4 (some .boolean) (k2_rm 4 160) [.ref t, .ref a] h (some (.int (bI (tk = 1 ∧ wd = wcN w)))) h := by
  have hw5 := slN_5 w hs.1
  refine mc_of (by decide) (Nat.le_of_ble_eq_true rfl) ?_
  intro K X r
  refine v_eqv (lv2 := [(0, .ref t), (1, .ref a)]) rfl ?_
  refine v_iconst X dX8_isWord_0 (v := 0) (by decide) ?_
  refine v_istore_n (lv1 := [(2, .int 0), (0, .ref t), (1, .ref a)]) X dX8_isWord_1 (by decide) rfl ?_
  refine v_iconst X dX8_isWord_2 (v := 0) (by decide) ?_
  refine v_istore_n (lv1 := [(3, .int 0), (2, .int 0), (0, .ref t), (1, .ref a)]) X dX8_isWord_3 (by decide) rfl ?_
  have L4 : ∀ (N : Nat) (q : Nat), (q ≤ slN w) → slN w - q < N → VJ K 0 0 h 4 [(0, .ref t), (1, .ref a), (2, .int (wcK w q)), (3, .int (nI q))] [] := by
    intro N
    induction N with
    | zero => intro q _ hm; exact absurd hm (Nat.not_lt_zero _)
    | succ N ih4 =>
      intro q hqq hm
      refine v_iload_n X dX8_isWord_4 3 rfl ?_
      refine v_aload_n X dX8_isWord_5 1 rfl ?_
      refine v_cVsi X [] rfl sX8_190 (ct_J0_length_8abf5 ll g hs) hs dX8_isWord_6 rfl rfl ⟨rfl, rfl⟩ ⟨(Nat.le_of_ble_eq_true rfl), (Nat.le_of_ble_eq_true rfl)⟩ ⟨Nat.zero_le _, Nat.zero_le _⟩ (Nat.le_of_ble_eq_true rfl) ?_
      refine v_icmp_ge X dX8_isWord_9 (tgt := 34) (by decide) (fun c1 => ?_) (fun c1 => ?_)
      · have hqe : q = slN w := by
          rcases Nat.lt_or_ge q (slN w) with z | z
          · exact absurd (nI_lt z (by omega)) (Int32.not_lt.mpr c1)
          · omega
        refine v_aload_n X dX8_isWord_34 0 rfl ?_
        refine v_get X fX8_181 ht rfl dX8_isWord_35 ?_
        refine v_iconst X dX8_isWord_38 (v := 1) (by decide) ?_
        refine v_icmp_ne X dX8_isWord_39 (tgt := 54) (by decide) (fun c2 => ?_) (fun c2 => ?_)
        · refine v_iconst X dX8_isWord_54 (v := 0) (by decide) ?_
          exact v_zret X r dX8_isWord_55 rfl (Nat.le_refl _) (Nat.le_refl _) ⟨ri (bI_f (fun z => c2 z.1)).symm, rfl⟩
        · refine v_aload_n X dX8_isWord_42 0 rfl ?_
          refine v_get X fX8_175 ht rfl dX8_isWord_43 ?_
          refine v_iload_n X dX8_isWord_46 2 rfl ?_
          refine v_icmp_ne X dX8_isWord_47 (tgt := 54) (by decide) (fun c3 => ?_) (fun c3 => ?_)
          · refine v_iconst X dX8_isWord_54 (v := 0) (by decide) ?_
            exact v_zret X r dX8_isWord_55 rfl (Nat.le_refl _) (Nat.le_refl _) ⟨ri (bI_f (fun z => c3 (by rw [hqe]; exact z.2))).symm, rfl⟩
          · refine v_iconst X dX8_isWord_50 (v := 1) (by decide) ?_
            refine v_goto X dX8_isWord_51 (tgt := 55) (by decide) ?_
            exact v_zret X r dX8_isWord_55 rfl (Nat.le_refl _) (Nat.le_refl _) ⟨ri (by rw [hqe] at *; exact (bI_t ⟨c2, c3⟩).symm), rfl⟩
      · have hqn : q < slN w := by
          rcases Nat.lt_or_ge q (slN w) with z | z
          · exact z
          · exact absurd (nI_le z (by omega)) c1
        refine v_bipush X dX8_isWord_12 (v := 32) (by decide) ?_
        refine v_iload_n X dX8_isWord_14 2 rfl ?_
        refine v_imul X dX8_isWord_15 ?_
        refine v_aload_n X dX8_isWord_16 1 rfl ?_
        refine v_iload_n X dX8_isWord_17 3 rfl ?_
        refine v_cVsi X [.int (nI q)] rfl sX8_196 (ct_J0_charAt_5068e (j := q) ll g hs rfl hqn) hs dX8_isWord_18 rfl rfl ⟨rfl, rfl⟩ ⟨(Nat.le_of_ble_eq_true rfl), (Nat.le_of_ble_eq_true rfl)⟩ ⟨Nat.zero_le _, Nat.zero_le _⟩ (Nat.le_of_ble_eq_true rfl) ?_
        refine v_iadd X dX8_isWord_21 ?_
        refine v_bipush X dX8_isWord_22 (v := 97) (by decide) ?_
        refine v_isub X dX8_isWord_24 ?_
        refine v_iconst X dX8_isWord_25 (v := 1) (by decide) ?_
        refine v_iadd X dX8_isWord_26 ?_
        refine v_istore_n (lv1 := [(2, .int ((((32 * (wcK w q)) + (chS w q)) - 97) + 1)), (0, .ref t), (1, .ref a), (3, .int (nI q))]) X dX8_isWord_27 (by decide) rfl ?_
        refine v_iinc (v := (nI q) + 1) (lv1 := [(3, .int ((nI q) + 1)), (2, .int ((((32 * (wcK w q)) + (chS w q)) - 97) + 1)), (0, .ref t), (1, .ref a)]) X dX8_isWord_28 3 rfl rfl (by decide) rfl ?_
        refine v_goto X dX8_isWord_31 (tgt := 4) (by decide) ?_
        refine v_lv (lv2 := [(0, .ref t), (1, .ref a), (2, .int ((((32 * (wcK w q)) + (chS w q)) - 97) + 1)), (3, .int ((nI q) + 1))]) [2, 3, 1, 0] rfl ?_
        refine v_eqv (lv2 := [(0, .ref t), (1, .ref a), (2, .int (wcK w (q + 1))), (3, .int (nI (q + 1)))]) (by rw [nI_1]; rfl) ?_
        exact ih4 (q + 1) (by omega) (by omega)
  refine v_lv (lv2 := [(0, .ref t), (1, .ref a), (2, .int 0), (3, .int 0)]) [2, 3, 1, 0] rfl ?_
  refine v_eqv (lv2 := [(0, .ref t), (1, .ref a), (2, .int (wcK w 0)), (3, .int (nI 0))]) rfl ?_
  exact L4 _ 0 (Nat.zero_le _) (Nat.lt_succ_self _)
set_option maxHeartbeats 4000000 in
set_option maxRecDepth 100000 in
theorem ct_X8_must (ll : Launch) (g : GT) {h : Hp} {t dA eA kA fA tA bA zA nA lA : Nat} {hk sw0 sw1 tp pp fr tk wd vl : Int32} {W P : Prop} [Decidable W] [Decidable P] (ht : h t = some (ob 8 [.ref dA, .ref eA, .ref kA, .int hk, .ref fA, .int sw0, .int sw1, .ref tA, .int tp, .int pp, .int fr, .int tk, .int wd, .int vl, .int (bI W), .ref bA, .ref zA, .ref nA, .ref lA])) : MF ll g yX8_must cX8_must 2 none (k2_rm 0 0) [.ref t, .int (bI P)] h none (hU h t (ob 8 [.ref dA, .ref eA, .ref kA, .int hk, .ref fA, .int sw0, .int sw1, .ref tA, .int tp, .int pp, .int fr, .int tk, .int wd, .int vl, .int (bI (W ∨ ¬ P)), .ref bA, .ref zA, .ref nA, .ref lA])) := by
  refine mc_of (by decide) (Nat.le_of_ble_eq_true rfl) ?_
  intro K X r
  refine v_eqv (lv2 := [(0, .ref t), (1, .int (bI P))]) rfl ?_
  refine v_aload_n X dX8_must_0 0 rfl ?_
  refine v_aload_n X dX8_must_1 0 rfl ?_
  refine v_get X fX8_200 ht rfl dX8_must_2 ?_
  have J1 : VJ K 0 0 h 17 [(0, .ref t), (1, .int (bI P))] [.int (bI (W ∨ ¬ P)), .ref t] := by
    refine v_putE (h2 := (hU h t (ob 8 [.ref dA, .ref eA, .ref kA, .int hk, .ref fA, .int sw0, .int sw1, .ref tA, .int tp, .int pp, .int fr, .int tk, .int wd, .int vl, .int (bI (W ∨ ¬ P)), .ref bA, .ref zA, .ref nA, .ref lA]))) X fX8_200 tyX8_ok nmX8 rfl pd_Z ht (bI_nar _) (bI_fit _) (ltb rfl) dX8_must_17 rfl ?_
    exact v_vret X r dX8_must_20 (Nat.le_refl _) (Nat.le_refl _) ⟨rfl, rfl⟩
  refine v_ifb_ne X dX8_must_5 (tgt := 12) (by decide) (fun c1 => ?_) (fun c1 => ?_)
  · refine v_iconst X dX8_must_12 (v := 1) (by decide) ?_
    refine v_goto X dX8_must_13 (tgt := 17) (by decide) ?_
    exact v_eqi (bI_t (Or.inl c1)).symm J1
  · refine v_iload_n X dX8_must_8 1 rfl ?_
    refine v_ifb_ne X dX8_must_9 (tgt := 16) (by decide) (fun c2 => ?_) (fun c2 => ?_)
    · refine v_iconst X dX8_must_16 (v := 0) (by decide) ?_
      exact v_eqi (bI_f (fun z => z.elim c1 (fun y => y c2))).symm J1
    · refine v_iconst X dX8_must_12 (v := 1) (by decide) ?_
      refine v_goto X dX8_must_13 (tgt := 17) (by decide) ?_
      exact v_eqi (bI_t (Or.inr c2)).symm J1
set_option maxHeartbeats 4000000 in
set_option maxRecDepth 100000 in
theorem ct_X8_name (ll : Launch) (g : GT) {h : Hp} {t dA eA kA fA tA bA zA nA lA : Nat} {hk sw0 sw1 : Int32} {f : Nat → Int32} {a n : Nat} {W : Prop} [Decidable W] (ht : h t = some (ob 8 [.ref dA, .ref eA, .ref kA, .int hk, .ref fA, .int sw0, .int sw1, .ref tA, .int (nI n), .int (nI (lkE f n a)), .int (nI (lkJ f n a)), .int (lkT f n a), .int (lkW f n a), .int (lkV f n a), .int (bI (W)), .ref bA, .ref zA, .ref nA, .ref lA])) : MF ll g yX8_name cX8_name 1 (some .int) (k2_rm 5 200) [.ref t] h (some (.int (nameAt f n a))) h := by
  refine mc_of (by decide) (Nat.le_of_ble_eq_true rfl) ?_
  intro K X r
  refine v_eqv (lv2 := [(0, .ref t)]) rfl ?_
  refine v_aload_n X dX8_name_0 0 rfl ?_
  refine v_ldcM X (w := 0) (by decide) rfl dX8_name_1 ?_
  refine v_cVi X [.ref (g.2.2 (50 + 0))] sX8_206 (ct_X8_isWord (a := g.2.2 (50 + 0)) (v := g.2.2 (70 + 0)) (w := 0) ll g ht ⟨by decide, Or.inr ⟨rfl, rfl⟩⟩) ht rfl dX8_name_3 rfl rfl ⟨rfl, rfl⟩ ⟨(Nat.le_of_ble_eq_true rfl), (Nat.le_of_ble_eq_true rfl)⟩ ⟨Nat.zero_le _, Nat.zero_le _⟩ (Nat.le_of_ble_eq_true rfl) ?_
  refine v_ifb_eq X dX8_name_6 (tgt := 13) (by decide) (fun c1 => ?_) (fun c1 => ?_)
  · refine v_aload_n X dX8_name_13 0 rfl ?_
    refine v_ldcM X (w := 1) (by decide) rfl dX8_name_14 ?_
    refine v_cVi X [.ref (g.2.2 (50 + 1))] sX8_206 (ct_X8_isWord (a := g.2.2 (50 + 1)) (v := g.2.2 (70 + 1)) (w := 1) ll g ht ⟨by decide, Or.inr ⟨rfl, rfl⟩⟩) ht rfl dX8_name_16 rfl rfl ⟨rfl, rfl⟩ ⟨(Nat.le_of_ble_eq_true rfl), (Nat.le_of_ble_eq_true rfl)⟩ ⟨Nat.zero_le _, Nat.zero_le _⟩ (Nat.le_of_ble_eq_true rfl) ?_
    refine v_ifb_eq X dX8_name_19 (tgt := 26) (by decide) (fun c2 => ?_) (fun c2 => ?_)
    · refine v_aload_n X dX8_name_26 0 rfl ?_
      refine v_ldcM X (w := 2) (by decide) rfl dX8_name_27 ?_
      refine v_cVi X [.ref (g.2.2 (50 + 2))] sX8_206 (ct_X8_isWord (a := g.2.2 (50 + 2)) (v := g.2.2 (70 + 2)) (w := 2) ll g ht ⟨by decide, Or.inr ⟨rfl, rfl⟩⟩) ht rfl dX8_name_29 rfl rfl ⟨rfl, rfl⟩ ⟨(Nat.le_of_ble_eq_true rfl), (Nat.le_of_ble_eq_true rfl)⟩ ⟨Nat.zero_le _, Nat.zero_le _⟩ (Nat.le_of_ble_eq_true rfl) ?_
      refine v_ifb_eq X dX8_name_32 (tgt := 39) (by decide) (fun c3 => ?_) (fun c3 => ?_)
      · refine v_aload_n X dX8_name_39 0 rfl ?_
        refine v_ldcM X (w := 3) (by decide) rfl dX8_name_40 ?_
        refine v_cVi X [.ref (g.2.2 (50 + 3))] sX8_206 (ct_X8_isWord (a := g.2.2 (50 + 3)) (v := g.2.2 (70 + 3)) (w := 3) ll g ht ⟨by decide, Or.inr ⟨rfl, rfl⟩⟩) ht rfl dX8_name_42 rfl rfl ⟨rfl, rfl⟩ ⟨(Nat.le_of_ble_eq_true rfl), (Nat.le_of_ble_eq_true rfl)⟩ ⟨Nat.zero_le _, Nat.zero_le _⟩ (Nat.le_of_ble_eq_true rfl) ?_
        refine v_ifb_eq X dX8_name_45 (tgt := 52) (by decide) (fun c4 => ?_) (fun c4 => ?_)
        · refine v_aload_n X dX8_name_52 0 rfl ?_
          refine v_ldcM X (w := 4) (by decide) rfl dX8_name_53 ?_
          refine v_cVi X [.ref (g.2.2 (50 + 4))] sX8_206 (ct_X8_isWord (a := g.2.2 (50 + 4)) (v := g.2.2 (70 + 4)) (w := 4) ll g ht ⟨by decide, Or.inr ⟨rfl, rfl⟩⟩) ht rfl dX8_name_55 rfl rfl ⟨rfl, rfl⟩ ⟨(Nat.le_of_ble_eq_true rfl), (Nat.le_of_ble_eq_true rfl)⟩ ⟨Nat.zero_le _, Nat.zero_le _⟩ (Nat.le_of_ble_eq_true rfl) ?_
          refine v_ifb_eq X dX8_name_58 (tgt := 65) (by decide) (fun c5 => ?_) (fun c5 => ?_)
          · refine v_iconst X dX8_name_65 (v := (-1)) (by decide) ?_
            exact v_iret X r dX8_name_66 (Nat.le_refl _) (Nat.le_refl _) ⟨ri (by unfold nameAt; rw [if_neg c1, if_neg c2, if_neg c3, if_neg c4, if_neg c5]), rfl⟩
          · refine v_iconst X dX8_name_61 (v := 4) (by decide) ?_
            refine v_goto X dX8_name_62 (tgt := 66) (by decide) ?_
            exact v_iret X r dX8_name_66 (Nat.le_refl _) (Nat.le_refl _) ⟨ri (by unfold nameAt; rw [if_neg c1, if_neg c2, if_neg c3, if_neg c4, if_pos c5]), rfl⟩
        · refine v_iconst X dX8_name_48 (v := 3) (by decide) ?_
          refine v_goto X dX8_name_49 (tgt := 66) (by decide) ?_
          exact v_iret X r dX8_name_66 (Nat.le_refl _) (Nat.le_refl _) ⟨ri (by unfold nameAt; rw [if_neg c1, if_neg c2, if_neg c3, if_pos c4]), rfl⟩
      · refine v_iconst X dX8_name_35 (v := 2) (by decide) ?_
        refine v_goto X dX8_name_36 (tgt := 66) (by decide) ?_
        exact v_iret X r dX8_name_66 (Nat.le_refl _) (Nat.le_refl _) ⟨ri (by unfold nameAt; rw [if_neg c1, if_neg c2, if_pos c3]), rfl⟩
    · refine v_iconst X dX8_name_22 (v := 1) (by decide) ?_
      refine v_goto X dX8_name_23 (tgt := 66) (by decide) ?_
      exact v_iret X r dX8_name_66 (Nat.le_refl _) (Nat.le_refl _) ⟨ri (by unfold nameAt; rw [if_neg c1, if_pos c2]), rfl⟩
  · refine v_iconst X dX8_name_9 (v := 0) (by decide) ?_
    refine v_goto X dX8_name_10 (tgt := 66) (by decide) ?_
    exact v_iret X r dX8_name_66 (Nat.le_refl _) (Nat.le_refl _) ⟨ri (by unfold nameAt; rw [if_pos c1]), rfl⟩
set_option maxHeartbeats 4000000 in
set_option maxRecDepth 100000 in
theorem ct_X8_deed (ll : Launch) (g : GT) {h : Hp} {t dA eA kA fA tA bA zA nA lA : Nat} {hk sw0 sw1 : Int32} {f : Nat → Int32} {a n : Nat} {W : Prop} [Decidable W] (ht : h t = some (ob 8 [.ref dA, .ref eA, .ref kA, .int hk, .ref fA, .int sw0, .int sw1, .ref tA, .int (nI n), .int (nI (lkE f n a)), .int (nI (lkJ f n a)), .int (lkT f n a), .int (lkW f n a), .int (lkV f n a), .int (bI (W)), .ref bA, .ref zA, .ref nA, .ref lA])) : MF ll g yX8_deed cX8_deed 1 (some .int) (k2_rm 5 200) [.ref t] h (some (.int (deedAt f n a))) h := by
  refine mc_of (by decide) (Nat.le_of_ble_eq_true rfl) ?_
  intro K X r
  refine v_eqv (lv2 := [(0, .ref t)]) rfl ?_
  refine v_aload_n X dX8_deed_0 0 rfl ?_
  refine v_ldcM X (w := 5) (by decide) rfl dX8_deed_1 ?_
  refine v_cVi X [.ref (g.2.2 (50 + 5))] sX8_206 (ct_X8_isWord (a := g.2.2 (50 + 5)) (v := g.2.2 (70 + 5)) (w := 5) ll g ht ⟨by decide, Or.inr ⟨rfl, rfl⟩⟩) ht rfl dX8_deed_3 rfl rfl ⟨rfl, rfl⟩ ⟨(Nat.le_of_ble_eq_true rfl), (Nat.le_of_ble_eq_true rfl)⟩ ⟨Nat.zero_le _, Nat.zero_le _⟩ (Nat.le_of_ble_eq_true rfl) ?_
  refine v_ifb_eq X dX8_deed_6 (tgt := 13) (by decide) (fun c1 => ?_) (fun c1 => ?_)
  · refine v_aload_n X dX8_deed_13 0 rfl ?_
    refine v_ldcM X (w := 6) (by decide) rfl dX8_deed_14 ?_
    refine v_cVi X [.ref (g.2.2 (50 + 6))] sX8_206 (ct_X8_isWord (a := g.2.2 (50 + 6)) (v := g.2.2 (70 + 6)) (w := 6) ll g ht ⟨by decide, Or.inr ⟨rfl, rfl⟩⟩) ht rfl dX8_deed_16 rfl rfl ⟨rfl, rfl⟩ ⟨(Nat.le_of_ble_eq_true rfl), (Nat.le_of_ble_eq_true rfl)⟩ ⟨Nat.zero_le _, Nat.zero_le _⟩ (Nat.le_of_ble_eq_true rfl) ?_
    refine v_ifb_eq X dX8_deed_19 (tgt := 26) (by decide) (fun c2 => ?_) (fun c2 => ?_)
    · refine v_aload_n X dX8_deed_26 0 rfl ?_
      refine v_ldcM X (w := 7) (by decide) rfl dX8_deed_27 ?_
      refine v_cVi X [.ref (g.2.2 (50 + 7))] sX8_206 (ct_X8_isWord (a := g.2.2 (50 + 7)) (v := g.2.2 (70 + 7)) (w := 7) ll g ht ⟨by decide, Or.inr ⟨rfl, rfl⟩⟩) ht rfl dX8_deed_29 rfl rfl ⟨rfl, rfl⟩ ⟨(Nat.le_of_ble_eq_true rfl), (Nat.le_of_ble_eq_true rfl)⟩ ⟨Nat.zero_le _, Nat.zero_le _⟩ (Nat.le_of_ble_eq_true rfl) ?_
      refine v_ifb_eq X dX8_deed_32 (tgt := 39) (by decide) (fun c3 => ?_) (fun c3 => ?_)
      · refine v_aload_n X dX8_deed_39 0 rfl ?_
        refine v_ldcM X (w := 8) (by decide) rfl dX8_deed_40 ?_
        refine v_cVi X [.ref (g.2.2 (50 + 8))] sX8_206 (ct_X8_isWord (a := g.2.2 (50 + 8)) (v := g.2.2 (70 + 8)) (w := 8) ll g ht ⟨by decide, Or.inr ⟨rfl, rfl⟩⟩) ht rfl dX8_deed_42 rfl rfl ⟨rfl, rfl⟩ ⟨(Nat.le_of_ble_eq_true rfl), (Nat.le_of_ble_eq_true rfl)⟩ ⟨Nat.zero_le _, Nat.zero_le _⟩ (Nat.le_of_ble_eq_true rfl) ?_
        refine v_ifb_eq X dX8_deed_45 (tgt := 52) (by decide) (fun c4 => ?_) (fun c4 => ?_)
        · refine v_aload_n X dX8_deed_52 0 rfl ?_
          refine v_ldcM X (w := 9) (by decide) rfl dX8_deed_53 ?_
          refine v_cVi X [.ref (g.2.2 (50 + 9))] sX8_206 (ct_X8_isWord (a := g.2.2 (50 + 9)) (v := g.2.2 (70 + 9)) (w := 9) ll g ht ⟨by decide, Or.inr ⟨rfl, rfl⟩⟩) ht rfl dX8_deed_55 rfl rfl ⟨rfl, rfl⟩ ⟨(Nat.le_of_ble_eq_true rfl), (Nat.le_of_ble_eq_true rfl)⟩ ⟨Nat.zero_le _, Nat.zero_le _⟩ (Nat.le_of_ble_eq_true rfl) ?_
          refine v_ifb_eq X dX8_deed_58 (tgt := 65) (by decide) (fun c5 => ?_) (fun c5 => ?_)
          · refine v_iconst X dX8_deed_65 (v := (-1)) (by decide) ?_
            exact v_iret X r dX8_deed_66 (Nat.le_refl _) (Nat.le_refl _) ⟨ri (by unfold deedAt; rw [if_neg c1, if_neg c2, if_neg c3, if_neg c4, if_neg c5]), rfl⟩
          · refine v_iconst X dX8_deed_61 (v := 4) (by decide) ?_
            refine v_goto X dX8_deed_62 (tgt := 66) (by decide) ?_
            exact v_iret X r dX8_deed_66 (Nat.le_refl _) (Nat.le_refl _) ⟨ri (by unfold deedAt; rw [if_neg c1, if_neg c2, if_neg c3, if_neg c4, if_pos c5]), rfl⟩
        · refine v_iconst X dX8_deed_48 (v := 3) (by decide) ?_
          refine v_goto X dX8_deed_49 (tgt := 66) (by decide) ?_
          exact v_iret X r dX8_deed_66 (Nat.le_refl _) (Nat.le_refl _) ⟨ri (by unfold deedAt; rw [if_neg c1, if_neg c2, if_neg c3, if_pos c4]), rfl⟩
      · refine v_iconst X dX8_deed_35 (v := 2) (by decide) ?_
        refine v_goto X dX8_deed_36 (tgt := 66) (by decide) ?_
        exact v_iret X r dX8_deed_66 (Nat.le_refl _) (Nat.le_refl _) ⟨ri (by unfold deedAt; rw [if_neg c1, if_neg c2, if_pos c3]), rfl⟩
    · refine v_iconst X dX8_deed_22 (v := 1) (by decide) ?_
      refine v_goto X dX8_deed_23 (tgt := 66) (by decide) ?_
      exact v_iret X r dX8_deed_66 (Nat.le_refl _) (Nat.le_refl _) ⟨ri (by unfold deedAt; rw [if_neg c1, if_pos c2]), rfl⟩
  · refine v_iconst X dX8_deed_9 (v := 0) (by decide) ?_
    refine v_goto X dX8_deed_10 (tgt := 66) (by decide) ?_
    exact v_iret X r dX8_deed_66 (Nat.le_refl _) (Nat.le_refl _) ⟨ri (by unfold deedAt; rw [if_pos c1]), rfl⟩
set_option maxHeartbeats 4000000 in
set_option maxRecDepth 100000 in
theorem ct_X8_compares (ll : Launch) (g : GT) {h : Hp} {t dA eA kA fA tA bA zA nA lA : Nat} {hk sw0 sw1 : Int32} {f : Nat → Int32} {a n : Nat} {d : Nat → Int32} {x : Int32} {u : Nat} (ht : h t = some (ob 8 [.ref dA, .ref eA, .ref kA, .int hk, .ref fA, .int sw0, .int sw1, .ref tA, .int (nI n), .int (nI (lkE f n a)), .int (nI (lkJ f n a)), .int (lkT f n a), .int (lkW f n a), .int (lkV f n a), .int (bI (False)), .ref bA, .ref zA, .ref nA, .ref lA])) (hf : h tA = some (ai g 100 f)) (hd : h dA = some (ai g 260 d)) (hx : x = nI u) (hr : u + 2 < 260) (han : a ≤ n) (hn : n ≤ 100) : MF ll g yX8_compares cX8_compares 3 none (k2_rm 2 80) [.ref t, .int x] h none (hU (hU h t (ob 8 [.ref dA, .ref eA, .ref kA, .int hk, .ref fA, .int sw0, .int sw1, .ref tA, .int (nI n), .int (nI (lkE f n (cmA f n a))), .int (nI (lkJ f n (cmA f n a))), .int (lkT f n (cmA f n a)), .int (lkW f n (cmA f n a)), .int (lkV f n (cmA f n a)), .int (bI (¬ cmP f n a)), .ref bA, .ref zA, .ref nA, .ref lA])) dA (ai g 260 (cmD d u f n a))) := by
  have ne_1 : dA ≠ t := hneb hd ht rfl
  have ne_2 : tA ≠ t := hneb hf ht rfl
  have ne_3 : tA ≠ dA := hneb hf hd rfl
  refine mc_of (by decide) (Nat.le_of_ble_eq_true rfl) ?_
  intro K X r
  refine v_eqv (lv2 := [(0, .ref t), (1, .int x)]) rfl ?_
  refine v_aload_n X dX8_compares_0 0 rfl ?_
  refine v_aload_n X dX8_compares_1 0 rfl ?_
  refine v_bipush X dX8_compares_2 (v := 60) (by decide) ?_
  refine v_cVi X [.int 60] sX8_228 (ct_X8_isSign ll g 60 ht) ht rfl dX8_compares_4 rfl rfl ⟨rfl, rfl⟩ ⟨(Nat.le_of_ble_eq_true rfl), (Nat.le_of_ble_eq_true rfl)⟩ ⟨Nat.zero_le _, Nat.zero_le _⟩ (Nat.le_of_ble_eq_true rfl) ?_
  have J1 : VJ K 0 0 h 24 [(0, .ref t), (1, .int x)] [.int (bI (c1P f n a)), .ref t] := by
    refine v_cVv X [.int (bI (c1P f n a))] sX8_231 (ct_X8_must (W := False) (P := c1P f n a) ll g ht) ht rfl dX8_compares_24 rfl rfl ⟨rfl, rfl⟩ ⟨(Nat.le_of_ble_eq_true rfl), (Nat.le_of_ble_eq_true rfl)⟩ ⟨Nat.zero_le _, Nat.zero_le _⟩ (Nat.le_of_ble_eq_true rfl) ?_
    refine v_aload_n X dX8_compares_27 0 rfl ?_
    refine v_get X fX8_9 hU_s rfl dX8_compares_28 ?_
    refine v_iload_n X dX8_compares_31 1 rfl ?_
    refine v_iconst X dX8_compares_32 (v := 1) (by decide) ?_
    refine v_iadd X dX8_compares_33 ?_
    refine v_aload_n X dX8_compares_34 0 rfl ?_
    refine v_bipush X dX8_compares_35 (v := 60) (by decide) ?_
    refine v_cVi X [.int 60] sX8_228 (ct_X8_isSign ll g 60 hU_s) hU_s rfl dX8_compares_37 rfl rfl ⟨rfl, rfl⟩ ⟨(Nat.le_of_ble_eq_true rfl), (Nat.le_of_ble_eq_true rfl)⟩ ⟨Nat.zero_le _, Nat.zero_le _⟩ (Nat.le_of_ble_eq_true rfl) ?_
    have J2 : VJ K 0 0 (hU h t (ob 8 [.ref dA, .ref eA, .ref kA, .int hk, .ref fA, .int sw0, .int sw1, .ref tA, .int (nI n), .int (nI (lkE f n a)), .int (nI (lkJ f n a)), .int (lkT f n a), .int (lkW f n a), .int (lkV f n a), .int (bI ((False) ∨ ¬ (c1P f n a))), .ref bA, .ref zA, .ref nA, .ref lA])) 48 [(0, .ref t), (1, .int x)] [.int (if sgAt f n a 60 then 1 else 0), .int (x + 1), .ref dA] := by
      refine v_iastK (h2 := (hU (hU h t (ob 8 [.ref dA, .ref eA, .ref kA, .int hk, .ref fA, .int sw0, .int sw1, .ref tA, .int (nI n), .int (nI (lkE f n a)), .int (nI (lkJ f n a)), .int (lkT f n a), .int (lkW f n a), .int (lkV f n a), .int (bI ((False) ∨ ¬ (c1P f n a))), .ref bA, .ref zA, .ref nA, .ref lA])) dA (ai g 260 (upd d (u + 1) (if sgAt f n a 60 then 1 else 0))))) X (u + 1) ((hU_n ne_1).trans hd) (ix_add hx (rfl : (1 : Int32) = nI 1)) (by omega) (by decide) dX8_compares_48 rfl ?_
      refine v_aload_n X dX8_compares_49 0 rfl ?_
      refine v_get X fX8_200 ((hU_n (Ne.symm ne_1)).trans hU_s) rfl dX8_compares_50 ?_
      refine v_ifb_eq X dX8_compares_53 (tgt := 57) (by decide) (fun c1 => ?_) (fun c1 => ?_)
      · refine v_aload_n X dX8_compares_57 0 rfl ?_
        refine v_cVv X [] sX8_235 (ct_X8_look (a := lkE f n a) (n := n) ll g ((hU_n (Ne.symm ne_1)).trans hU_s) ((hU_n ne_3).trans ((hU_n ne_2).trans hf)) (lkE_le han) hn) ((hU_n (Ne.symm ne_1)).trans hU_s) rfl dX8_compares_58 rfl rfl ⟨rfl, rfl⟩ ⟨(Nat.le_of_ble_eq_true rfl), (Nat.le_of_ble_eq_true rfl)⟩ ⟨Nat.zero_le _, Nat.zero_le _⟩ (Nat.le_of_ble_eq_true rfl) ?_
        refine v_eqh (h2 := (hU (hU h t (ob 8 [.ref dA, .ref eA, .ref kA, .int hk, .ref fA, .int sw0, .int sw1, .ref tA, .int (nI n), .int (nI (lkE f n (lkE f n a))), .int (nI (lkJ f n (lkE f n a))), .int (lkT f n (lkE f n a)), .int (lkW f n (lkE f n a)), .int (lkV f n (lkE f n a)), .int (bI ((False) ∨ ¬ (c1P f n a))), .ref bA, .ref zA, .ref nA, .ref lA])) dA (ai g 260 (upd d (u + 1) (if sgAt f n a 60 then 1 else 0))))) (hU_u2 ne_1) ?_
        refine v_aload_n X dX8_compares_61 0 rfl ?_
        refine v_bipush X dX8_compares_62 (v := 45) (by decide) ?_
        refine v_cVi X [.int 45] sX8_228 (ct_X8_isSign ll g 45 ((hU_n (Ne.symm ne_1)).trans hU_s)) ((hU_n (Ne.symm ne_1)).trans hU_s) rfl dX8_compares_64 rfl rfl ⟨rfl, rfl⟩ ⟨(Nat.le_of_ble_eq_true rfl), (Nat.le_of_ble_eq_true rfl)⟩ ⟨Nat.zero_le _, Nat.zero_le _⟩ (Nat.le_of_ble_eq_true rfl) ?_
        refine v_istore_n (lv1 := [(2, .int (bI (sgAt f n (lkE f n a) 45))), (0, .ref t), (1, .int x)]) X dX8_compares_67 (by decide) rfl ?_
        have C76 : ∀ (_ : True), VJ K 0 0 (hU (hU h t (ob 8 [.ref dA, .ref eA, .ref kA, .int hk, .ref fA, .int sw0, .int sw1, .ref tA, .int (nI n), .int (nI (lkE f n (c2A f n a))), .int (nI (lkJ f n (c2A f n a))), .int (lkT f n (c2A f n a)), .int (lkW f n (c2A f n a)), .int (lkV f n (c2A f n a)), .int (bI ((False) ∨ ¬ (c1P f n a))), .ref bA, .ref zA, .ref nA, .ref lA])) dA (ai g 260 (upd d (u + 1) (if sgAt f n a 60 then 1 else 0)))) 76 [(0, .ref t), (1, .int x), (2, .int (bI (sgAt f n (lkE f n a) 45)))] [] := by
          intro _ 
          refine v_aload_n X dX8_compares_76 0 rfl ?_
          refine v_aload_n X dX8_compares_77 0 rfl ?_
          refine v_get X fX8_181 ((hU_n (Ne.symm ne_1)).trans hU_s) rfl dX8_compares_78 ?_
          refine v_iconst X dX8_compares_81 (v := 2) (by decide) ?_
          have J3 : VJ K 0 0 (hU (hU h t (ob 8 [.ref dA, .ref eA, .ref kA, .int hk, .ref fA, .int sw0, .int sw1, .ref tA, .int (nI n), .int (nI (lkE f n (c2A f n a))), .int (nI (lkJ f n (c2A f n a))), .int (lkT f n (c2A f n a)), .int (lkW f n (c2A f n a)), .int (lkV f n (c2A f n a)), .int (bI ((False) ∨ ¬ (c1P f n a))), .ref bA, .ref zA, .ref nA, .ref lA])) dA (ai g 260 (upd d (u + 1) (if sgAt f n a 60 then 1 else 0)))) 100 [(0, .ref t), (1, .int x), (2, .int (bI (sgAt f n (lkE f n a) 45)))] [.int (bI (c2P f n a)), .ref t] := by
            refine v_cVv X [.int (bI (c2P f n a))] sX8_231 (ct_X8_must (W := (False) ∨ ¬ (c1P f n a)) (P := c2P f n a) ll g ((hU_n (Ne.symm ne_1)).trans hU_s)) ((hU_n (Ne.symm ne_1)).trans hU_s) rfl dX8_compares_100 rfl rfl ⟨rfl, rfl⟩ ⟨(Nat.le_of_ble_eq_true rfl), (Nat.le_of_ble_eq_true rfl)⟩ ⟨Nat.zero_le _, Nat.zero_le _⟩ (Nat.le_of_ble_eq_true rfl) ?_
            refine v_eqh (h2 := (hU (hU h t (ob 8 [.ref dA, .ref eA, .ref kA, .int hk, .ref fA, .int sw0, .int sw1, .ref tA, .int (nI n), .int (nI (lkE f n (c2A f n a))), .int (nI (lkJ f n (c2A f n a))), .int (lkT f n (c2A f n a)), .int (lkW f n (c2A f n a)), .int (lkV f n (c2A f n a)), .int (bI (((False) ∨ ¬ (c1P f n a)) ∨ ¬ (c2P f n a))), .ref bA, .ref zA, .ref nA, .ref lA])) dA (ai g 260 (upd d (u + 1) (if sgAt f n a 60 then 1 else 0))))) (hU_u2 ne_1) ?_
            refine v_aload_n X dX8_compares_103 0 rfl ?_
            refine v_get X fX8_9 ((hU_n (Ne.symm ne_1)).trans hU_s) rfl dX8_compares_104 ?_
            refine v_iload_n X dX8_compares_107 1 rfl ?_
            refine v_iconst X dX8_compares_108 (v := 2) (by decide) ?_
            refine v_iadd X dX8_compares_109 ?_
            refine v_iload_n X dX8_compares_110 2 rfl ?_
            have J4 : VJ K 0 0 (hU (hU h t (ob 8 [.ref dA, .ref eA, .ref kA, .int hk, .ref fA, .int sw0, .int sw1, .ref tA, .int (nI n), .int (nI (lkE f n (c2A f n a))), .int (nI (lkJ f n (c2A f n a))), .int (lkT f n (c2A f n a)), .int (lkW f n (c2A f n a)), .int (lkV f n (c2A f n a)), .int (bI (((False) ∨ ¬ (c1P f n a)) ∨ ¬ (c2P f n a))), .ref bA, .ref zA, .ref nA, .ref lA])) dA (ai g 260 (upd d (u + 1) (if sgAt f n a 60 then 1 else 0)))) 126 [(0, .ref t), (1, .int x), (2, .int (bI (sgAt f n (lkE f n a) 45)))] [.int (c2V f n a), .int (x + 2), .ref dA] := by
              refine v_iastK (h2 := (hU (hU h t (ob 8 [.ref dA, .ref eA, .ref kA, .int hk, .ref fA, .int sw0, .int sw1, .ref tA, .int (nI n), .int (nI (lkE f n (c2A f n a))), .int (nI (lkJ f n (c2A f n a))), .int (lkT f n (c2A f n a)), .int (lkW f n (c2A f n a)), .int (lkV f n (c2A f n a)), .int (bI (((False) ∨ ¬ (c1P f n a)) ∨ ¬ (c2P f n a))), .ref bA, .ref zA, .ref nA, .ref lA])) dA (ai g 260 (upd (upd d (u + 1) (if sgAt f n a 60 then 1 else 0)) (u + 2) (c2V f n a))))) X (u + 2) hU_s (ix_add hx (rfl : (2 : Int32) = nI 2)) (by omega) (by decide) dX8_compares_126 hU_u ?_
              refine v_aload_n X dX8_compares_127 0 rfl ?_
              refine v_get X fX8_200 ((hU_n (Ne.symm ne_1)).trans hU_s) rfl dX8_compares_128 ?_
              refine v_ifb_ne X dX8_compares_131 (tgt := 138) (by decide) (fun c2 => ?_) (fun c2 => ?_)
              · exact v_vret X r dX8_compares_138 (Nat.le_refl _) (Nat.le_refl _) ⟨rfl, (by have z1 : c1P f n a := (Classical.byContradiction fun y => c1 (Or.inr y)); have z2 : ¬ c2P f n a := fun y => c2.elim (fun q => q.elim (fun q => q) (fun q => q z1)) (fun q => q y); rw [cmA, cmD, if_pos z1, if_pos z1, if_neg z2, bI_congr (show (((False) ∨ ¬ (c1P f n a)) ∨ ¬ (c2P f n a)) ↔ ¬ cmP f n a from ⟨fun _ q => z2 q.2, fun _ => Or.inr z2⟩)])⟩
              · refine v_aload_n X dX8_compares_134 0 rfl ?_
                refine v_cVv X [] sX8_235 (ct_X8_look (a := lkE f n (c2A f n a)) (n := n) ll g ((hU_n (Ne.symm ne_1)).trans hU_s) ((hU_n ne_3).trans ((hU_n ne_2).trans hf)) (lkE_le (c2A_le han)) hn) ((hU_n (Ne.symm ne_1)).trans hU_s) rfl dX8_compares_135 rfl rfl ⟨rfl, rfl⟩ ⟨(Nat.le_of_ble_eq_true rfl), (Nat.le_of_ble_eq_true rfl)⟩ ⟨Nat.zero_le _, Nat.zero_le _⟩ (Nat.le_of_ble_eq_true rfl) ?_
                refine v_eqh (h2 := (hU (hU h t (ob 8 [.ref dA, .ref eA, .ref kA, .int hk, .ref fA, .int sw0, .int sw1, .ref tA, .int (nI n), .int (nI (lkE f n (lkE f n (c2A f n a)))), .int (nI (lkJ f n (lkE f n (c2A f n a)))), .int (lkT f n (lkE f n (c2A f n a))), .int (lkW f n (lkE f n (c2A f n a))), .int (lkV f n (lkE f n (c2A f n a))), .int (bI (((False) ∨ ¬ (c1P f n a)) ∨ ¬ (c2P f n a))), .ref bA, .ref zA, .ref nA, .ref lA])) dA (ai g 260 (upd (upd d (u + 1) (if sgAt f n a 60 then 1 else 0)) (u + 2) (c2V f n a))))) (hU_u2 ne_1) ?_
                exact v_vret X r dX8_compares_138 (Nat.le_refl _) (Nat.le_refl _) ⟨rfl, (by have z1 : c1P f n a := (Classical.byContradiction fun y => c1 (Or.inr y)); have z2 : c2P f n a := Classical.byContradiction fun y => c2 (Or.inr y); rw [cmA, cmD, if_pos z1, if_pos z1, if_pos z2, bI_congr (show (((False) ∨ ¬ (c1P f n a)) ∨ ¬ (c2P f n a)) ↔ ¬ cmP f n a from ⟨fun q => absurd q c2, fun q => absurd ⟨z1, z2⟩ q⟩)])⟩
            refine v_ifb_eq X dX8_compares_111 (tgt := 122) (by decide) (fun c3 => ?_) (fun c3 => ?_)
            · refine v_aload_n X dX8_compares_122 0 rfl ?_
              refine v_get X fX8_178 ((hU_n (Ne.symm ne_1)).trans hU_s) rfl dX8_compares_123 ?_
              exact v_eqi (by rw [c2V, if_neg c3]) J4
            · refine v_aload_n X dX8_compares_114 0 rfl ?_
              refine v_get X fX8_178 ((hU_n (Ne.symm ne_1)).trans hU_s) rfl dX8_compares_115 ?_
              refine v_ineg X dX8_compares_118 ?_
              refine v_goto X dX8_compares_119 (tgt := 126) (by decide) ?_
              exact v_eqi (by rw [c2V, if_pos c3]) J4
          refine v_icmp_ne X dX8_compares_82 (tgt := 99) (by decide) (fun c4 => ?_) (fun c4 => ?_)
          · refine v_iconst X dX8_compares_99 (v := 0) (by decide) ?_
            exact v_eqi (bI_f (fun z => c4 z.1)).symm J3
          · refine v_aload_n X dX8_compares_85 0 rfl ?_
            refine v_get X fX8_178 ((hU_n (Ne.symm ne_1)).trans hU_s) rfl dX8_compares_86 ?_
            refine v_sipush X dX8_compares_89 (v := 999) (by decide) ?_
            refine v_icmp_gt X dX8_compares_92 (tgt := 99) (by decide) (fun c5 => ?_) (fun c5 => ?_)
            · refine v_iconst X dX8_compares_99 (v := 0) (by decide) ?_
              exact v_eqi (bI_f (fun z => absurd z.2 (Int32.not_le.mpr c5))).symm J3
            · refine v_iconst X dX8_compares_95 (v := 1) (by decide) ?_
              refine v_goto X dX8_compares_96 (tgt := 100) (by decide) ?_
              exact v_eqi (bI_t ⟨c4, Int32.not_lt.mp c5⟩).symm J3
        refine v_iload_n X dX8_compares_68 0 rfl ?_
        refine v_ifb_eq X dX8_compares_69 (tgt := 76) (by decide) (fun c6 => ?_) (fun c6 => ?_)
        · refine v_lv (lv2 := [(0, .ref t), (1, .int x), (2, .int (bI (sgAt f n (lkE f n a) 45)))]) [1, 2, 0] rfl ?_
          refine v_eqh (h2 := (hU (hU h t (ob 8 [.ref dA, .ref eA, .ref kA, .int hk, .ref fA, .int sw0, .int sw1, .ref tA, .int (nI n), .int (nI (lkE f n (c2A f n a))), .int (nI (lkJ f n (c2A f n a))), .int (lkT f n (c2A f n a)), .int (lkW f n (c2A f n a)), .int (lkV f n (c2A f n a)), .int (bI ((False) ∨ ¬ (c1P f n a))), .ref bA, .ref zA, .ref nA, .ref lA])) dA (ai g 260 (upd d (u + 1) (if sgAt f n a 60 then 1 else 0))))) (by rw [c2A, if_neg c6]) ?_
          exact C76 trivial 
        · refine v_aload_n X dX8_compares_72 1 rfl ?_
          refine v_cVv X [] sX8_235 (ct_X8_look (a := lkE f n (lkE f n a)) (n := n) ll g ((hU_n (Ne.symm ne_1)).trans hU_s) ((hU_n ne_3).trans ((hU_n ne_2).trans hf)) (lkE_le (lkE_le han)) hn) ((hU_n (Ne.symm ne_1)).trans hU_s) rfl dX8_compares_73 rfl rfl ⟨rfl, rfl⟩ ⟨(Nat.le_of_ble_eq_true rfl), (Nat.le_of_ble_eq_true rfl)⟩ ⟨Nat.zero_le _, Nat.zero_le _⟩ (Nat.le_of_ble_eq_true rfl) ?_
          refine v_eqh (h2 := (hU (hU h t (ob 8 [.ref dA, .ref eA, .ref kA, .int hk, .ref fA, .int sw0, .int sw1, .ref tA, .int (nI n), .int (nI (lkE f n (lkE f n (lkE f n a)))), .int (nI (lkJ f n (lkE f n (lkE f n a)))), .int (lkT f n (lkE f n (lkE f n a))), .int (lkW f n (lkE f n (lkE f n a))), .int (lkV f n (lkE f n (lkE f n a))), .int (bI ((False) ∨ ¬ (c1P f n a))), .ref bA, .ref zA, .ref nA, .ref lA])) dA (ai g 260 (upd d (u + 1) (if sgAt f n a 60 then 1 else 0))))) (hU_u2 ne_1) ?_
          refine v_lv (lv2 := [(0, .ref t), (1, .int x), (2, .int (bI (sgAt f n (lkE f n a) 45)))]) [1, 2, 0] rfl ?_
          refine v_eqh (h2 := (hU (hU h t (ob 8 [.ref dA, .ref eA, .ref kA, .int hk, .ref fA, .int sw0, .int sw1, .ref tA, .int (nI n), .int (nI (lkE f n (c2A f n a))), .int (nI (lkJ f n (c2A f n a))), .int (lkT f n (c2A f n a)), .int (lkW f n (c2A f n a)), .int (lkV f n (c2A f n a)), .int (bI ((False) ∨ ¬ (c1P f n a))), .ref bA, .ref zA, .ref nA, .ref lA])) dA (ai g 260 (upd d (u + 1) (if sgAt f n a 60 then 1 else 0))))) (by rw [c2A, if_pos c6]) ?_
          exact C76 trivial 
      · exact v_vret X r dX8_compares_56 (Nat.le_refl _) (Nat.le_refl _) ⟨rfl, (by have z : ¬ c1P f n a := fun y => c1.elim (fun q => q) (fun q => q y); rw [cmA, cmD, if_neg z, if_neg z, bI_congr (show (False ∨ ¬ (c1P f n a)) ↔ ¬ cmP f n a from ⟨fun _ q => z q.1, fun _ => Or.inr z⟩)])⟩
    refine v_ifb_eq X dX8_compares_40 (tgt := 47) (by decide) (fun c7 => ?_) (fun c7 => ?_)
    · refine v_iconst X dX8_compares_47 (v := 0) (by decide) ?_
      exact v_eqi (if_neg c7).symm J2
    · refine v_iconst X dX8_compares_43 (v := 1) (by decide) ?_
      refine v_goto X dX8_compares_44 (tgt := 48) (by decide) ?_
      exact v_eqi (if_pos c7).symm J2
  refine v_ifb_ne X dX8_compares_7 (tgt := 19) (by decide) (fun c8 => ?_) (fun c8 => ?_)
  · refine v_iconst X dX8_compares_19 (v := 1) (by decide) ?_
    refine v_goto X dX8_compares_20 (tgt := 24) (by decide) ?_
    exact v_eqi (bI_t (Or.inl c8)).symm J1
  · refine v_aload_n X dX8_compares_10 0 rfl ?_
    refine v_bipush X dX8_compares_11 (v := 62) (by decide) ?_
    refine v_cVi X [.int 62] sX8_228 (ct_X8_isSign ll g 62 ht) ht rfl dX8_compares_13 rfl rfl ⟨rfl, rfl⟩ ⟨(Nat.le_of_ble_eq_true rfl), (Nat.le_of_ble_eq_true rfl)⟩ ⟨Nat.zero_le _, Nat.zero_le _⟩ (Nat.le_of_ble_eq_true rfl) ?_
    refine v_ifb_eq X dX8_compares_16 (tgt := 23) (by decide) (fun c9 => ?_) (fun c9 => ?_)
    · refine v_iconst X dX8_compares_23 (v := 0) (by decide) ?_
      exact v_eqi (bI_f (fun z => z.elim c8 c9)).symm J1
    · refine v_iconst X dX8_compares_19 (v := 1) (by decide) ?_
      refine v_goto X dX8_compares_20 (tgt := 24) (by decide) ?_
      exact v_eqi (bI_t (Or.inr c9)).symm J1
