/-! ===== the law's calls ===== -/
def SX (K : KT) (b L : Nat) (xs : Nat → Int32) : Prop := match K with
  | (p, l, e, R, s, m, args, below, meth, c, Q, nL, g, A) => va_X b L xs s s.heap ∧ b < s.heap.size ∧ ¬ A b
section VS
variable {K : KT} {l0 : Launch} {g0 : GT} {cc : ByteArray} {own : String} {nL0 : Nat} {rm : Room} {k n : Nat} {h : Hp} {pc pc1 : Nat} {lv : List (Nat × Value)} {st : List Value} {b L : Nat} {xs : Nat → Int32}
theorem v_sld (X : Cx K l0 g0 cc own nL0 rm) (sx : SX K b L xs) {i : Int32} (j : Nat) (hi : i = nI j) (hj : j < L) (hL : L < 2 ^ 31) (hd : DD cc pc (.iaload) 1 pc1) (kk : VJ K k n h pc1 lv (.int (xs j) :: st)) : VJ K k n h pc lv (.int i :: .ref b :: st) := by
  obtain ⟨p, l, e, R, s, m, args, below, meth, c, Q, nL, g, A⟩ := K
  obtain ⟨hx, hb, hml, hown, hts, hE, hA, hlk, rfl, rfl, rfl, rfl⟩ := X
  obtain ⟨hd, rfl⟩ := hd
  obtain ⟨s1, s2, s3⟩ := sx
  refine fun H locs ls h1 h2 h3 h4 => va_sld hx hb s1 s2 s3 h3 (ix_in hi hj hL) hd ?_
  rw [ix_cl hi (Nat.lt_trans hj hL)]
  exact kk H locs ls h1 h2 h3 h4
theorem v_scl (X : Cx K l0 g0 cc own nL0 rm) (sx : SX K b L xs) (hd : DD cc pc (.arraylength) 1 pc1) (kk : VJ K k n h pc1 lv (.int (nI L) :: st)) : VJ K k n h pc lv (.ref b :: st) := by
  obtain ⟨p, l, e, R, s, m, args, below, meth, c, Q, nL, g, A⟩ := K
  obtain ⟨hx, hb, hml, hown, hts, hE, hA, hlk, rfl, rfl, rfl, rfl⟩ := X
  obtain ⟨hd, rfl⟩ := hd
  obtain ⟨s1, s2, s3⟩ := sx
  exact fun H locs ls h1 h2 h3 h4 => va_slen hx hb s1 s2 s3 h3 hd (kk H locs ls h1 h2 h3 h4)
end VS
theorem wayOk_D {d : Nat → Int32} {nw p : Nat} (hwc : ∀ w, w < nw → ∃ c, d (110 + 25 * w) = nI c ∧ c ≤ 6) (hnw : nw ≤ 6) (H : PerOk d nw p) : wayOk d p := by
  intro h
  rcases H.2.2.2.2 with z | ⟨w, h1, h2⟩
  · exact absurd (by rw [z]; decide) h
  · obtain ⟨c, h3, h4⟩ := hwc w h1
    exact ⟨w, c, h2, by omega, h3, h4⟩
theorem mass_ne {m : Nat → Int32} {a b : Nat} (h10 : wi (m 10) 1 99) (ha : wi (told m a 1) 1 299) (hb : wi (told m b 1) 1 299) : ¬ m 10 * m 10 + told m a 1 + told m b 1 = 0 := by
  have b0 : (1 : Int) ≤ (told m a 1).toInt ∧ (told m a 1).toInt ≤ 299 := wiI ha
  have b1 : (1 : Int) ≤ (told m b 1).toInt ∧ (told m b 1).toInt ≤ 299 := wiI hb
  have c10 : (1 : Int) ≤ (m 10).toInt ∧ (m 10).toInt ≤ 99 := wiI h10
  have q := mulB (show (0 : Int) ≤ (m 10).toInt by omega) (show -(99 : Int) ≤ (m 10).toInt by omega) (show (m 10).toInt ≤ 99 by omega)
  have q0 := Int.mul_nonneg (show (0 : Int) ≤ (m 10).toInt by omega) (show (0 : Int) ≤ (m 10).toInt by omega)
  have e4 : (m 10 * m 10).toInt = (m 10).toInt * (m 10).toInt := by rw [Int32.toInt_mul, bmd (by omega) (by omega)]
  have e6 : (m 10 * m 10 + told m a 1).toInt = (m 10).toInt * (m 10).toInt + (told m a 1).toInt := by rw [Int32.toInt_add, e4, bmd (by omega) (by omega)]
  have e5 : (m 10 * m 10 + told m a 1 + told m b 1).toInt = (m 10).toInt * (m 10).toInt + (told m a 1).toInt + (told m b 1).toInt := by rw [Int32.toInt_add, e6, bmd (by omega) (by omega)]
  intro z
  rw [z] at e5
  have : (0 : Int32).toInt = 0 := rfl
  omega
theorem AOk_D {d : Nat → Int32} {np nw a b : Nat} (hnp : np ≤ 8) (hnw : nw ≤ 6) (hwc : ∀ w, w < nw → ∃ c, d (110 + 25 * w) = nI c ∧ c ≤ 6) (h10 : wi (d 10) 1 99) (ha : a < np) (hb : b < np) (pa : PerOk d nw a) (pb : PerOk d nw b) : AOk d a b :=
  ⟨by omega, by omega, wayOk_D hwc hnw pa, wayOk_D hwc hnw pb, mass_ne h10 pa.2.1 pb.2.1⟩
theorem AOk_k {d : Nat → Int32} {np nw a b f k : Nat} (hnp : np ≤ 8) (hnw : nw ≤ 6) (hwc : ∀ w, w < nw → ∃ c, d (110 + 25 * w) = nI c ∧ c ≤ 6) (h10 : wi (d 10) 1 99) (ha : a < np) (hb : b < np) (hab : a ≠ b) (pa : PerOk d nw a) (pb : PerOk d nw b) (hf : f = 0 ∨ (f = 1 ∧ 1 ≤ k ∧ k ≤ 299) ∨ (f = 2 ∧ k ≤ 9)) : AOk (kAt d a f k) a b := by
  have hw : ∀ p, (∀ w, w = 6 → told (kAt d a f k) p w = told d p w) → wayOk d p → wayOk (kAt d a f k) p := fun p e H z => by
    rw [e 6 rfl] at z
    obtain ⟨w, c, h1, h2, h3, h4⟩ := H z
    exact ⟨w, c, (e 6 rfl).trans h1, h2, (kAt_n (by omega) (by omega) (by omega)).trans h3, h4⟩
  refine ⟨by omega, by omega, hw a (fun w e => kAt_o (by omega)) (wayOk_D hwc hnw pa), hw b (fun w e => kAt_b hab (by omega) (by omega)) (wayOk_D hwc hnw pb), mass_ne ?_ ?_ ?_⟩
  · rw [kAt_n (by omega) (by omega) (by omega)]; exact h10
  · by_cases z : f = 1
    · subst z; rw [kAt_s]; exact ⟨nI_le (show 1 ≤ k by omega) (by omega), nI_le (show k ≤ 299 by omega) (by decide)⟩
    · rw [kAt_o (by omega)]; exact pa.2.1
  · rw [kAt_b hab (by omega) (by decide)]; exact pb.2.1
theorem st_hon {d : Nat → Int32} {p0 p1 : Nat} (e3 : d 3 = nI p0) (hp0 : p0 < 8) (e4 : d 4 = nI p1) (hp1 : p1 < 8) : ∀ sd, sd < 2 → ∃ j, j < 8 ∧ d (3 + sd) = nI j := by
  intro sd hsd
  have hc : sd = 0 ∨ sd = 1 := by omega
  rcases hc with rfl | rfl
  · exact ⟨p0, hp0, e3⟩
  · exact ⟨p1, hp1, e4⟩
theorem st_way {d : Nat → Int32} {p0 p1 np nw : Nat} (hon : d 2 = 0 ∨ d 2 = 1) (honp : d 2 = 1 → p0 < np ∧ p1 < np ∧ p0 ≠ p1) (e3 : d 3 = nI p0) (hp0 : p0 < 8) (e4 : d 4 = nI p1) (hp1 : p1 < 8) (hwc : ∀ w, w < nw → ∃ c, d (110 + 25 * w) = nI c ∧ c ≤ 6) (hnw : nw ≤ 6) (hper : ∀ p, p < np → PerOk d nw p) : ¬ d 2 = 0 → ∀ j sd, j < 8 → sd < 2 → d (3 + sd) = nI j → wayOk d j := by
  intro h2 j sd hj hsd ej
  have h := honp (hon.resolve_left h2)
  have hc : sd = 0 ∨ sd = 1 := by omega
  rcases hc with rfl | rfl
  · have e : p0 = j := nI_inj (by omega) (by omega) (e3.symm.trans ej)
    subst e
    exact wayOk_D hwc hnw (hper p0 h.1)
  · have e : p1 = j := nI_inj (by omega) (by omega) (e4.symm.trans ej)
    subst e
    exact wayOk_D hwc hnw (hper p1 h.2.1)
theorem ct_X8_standz (ll : Launch) (g : GT) {h : Hp} {t : Nat} {A : Nat → Nat} {d k fo tape bits sz : Nat → Int32} {num : Nat → Int64} {hk tp : Int32} {np : Nat}  (who : Int32) (what : Int32) (hM : MW g h t A (d, k, hk, fo, tape, tp, bits, sz, num)) (hon : ∀ sd, sd < 2 → ∃ j, j < 8 ∧ d (3 + sd) = nI j) (hwy : ¬ d 2 = 0 → ∀ j sd, j < 8 → sd < 2 → d (3 + sd) = nI j → wayOk d j) : MC ll g yX8_stands cX8_stands 3 (some .int) { frames := 3, cells := 0, slots := 0, locals := 140 } [.ref t, .int who, .int what] h (fun r h2 => r = some (.int (op_stands (d, k, hk, fo, tape, tp, bits, sz, num) who what).1) ∧ MW g h2 t A (op_stands (d, k, hk, fo, tape, tp, bits, sz, num) who what).2) 0 0 := by
  have hM0 := hM
  obtain ⟨e, lf, sw0, sw1, pp, fr, tk, wd, vl, wr, m0, m1, m2, m3, m4, m5, m6, m7, m8, m9, n01, n02, n12, n56⟩ := hM0
  refine mc_of (by decide) (Nat.le_of_ble_eq_true rfl) ?_
  intro K X r
  refine v_eqv (lv2 := [(0, .ref t), (1, .int who), (2, .int what)]) rfl ?_
  refine v_iload_n X dX8_stands_0 1 rfl ?_
  refine v_i2l X dX8_stands_1 ?_
  refine v_lconst X dX8_stands_2 (v := 0) (by decide) ?_
  refine v_lconst X dX8_stands_3 (v := 1) (by decide) ?_
  refine v_cSi X [.long who.toInt64, .long (0 : Int64), .long (1 : Int64)] sX8_39 (ct_X8_in (v := who) (lo := 0) (hi := 1) ll g rfl (by decide) (by decide)) dX8_stands_4 rfl rfl ⟨rfl, rfl⟩ ⟨(Nat.le_of_ble_eq_true rfl), (Nat.le_of_ble_eq_true rfl)⟩ ⟨Nat.zero_le _, Nat.zero_le _⟩ (Nat.le_of_ble_eq_true rfl) ?_
  refine v_ifb_eq X dX8_stands_7 (tgt := 22) (by decide) (fun c1 => ?_) (fun c1 => ?_)
  · refine v_aload_n X dX8_stands_22 0 rfl ?_
    refine v_ldc X dX8_stands_23 kX8_38 ?_
    refine v_cVi X [.int (-1000000001)] sX8_51 (ct_X8_finds (j := 0) ll g m0 m4 (by decide) (by decide)) m0 rfl dX8_stands_25 rfl rfl ⟨rfl, rfl⟩ ⟨(Nat.le_of_ble_eq_true rfl), (Nat.le_of_ble_eq_true rfl)⟩ ⟨Nat.zero_le _, Nat.zero_le _⟩ (Nat.le_of_ble_eq_true rfl) ?_
    have eqr : op_stands (d, k, hk, fo, tape, tp, bits, sz, num) who what = ((-1000000001), (d, k, hk, fnd fo 0, tape, tp, bits, sz, num)) := by unfold op_stands; dsimp only; rw [if_neg (fun q : _ ∧ _ => c1 (And.left q))]
    exact v_iret X r dX8_stands_28 (Nat.le_refl _) (Nat.le_refl _) ⟨by rw [eqr], by rw [eqr]; exact (MW_fo hM _)⟩
  · refine v_iload_n X dX8_stands_10 2 rfl ?_
    refine v_i2l X dX8_stands_11 ?_
    refine v_lconst X dX8_stands_12 (v := 0) (by decide) ?_
    refine v_ldc2 X dX8_stands_13 kX8_47 ?_
    refine v_cSi X [.long what.toInt64, .long (0 : Int64), .long (5 : Int64)] sX8_39 (ct_X8_in (v := what) (lo := 0) (hi := 5) ll g rfl (by decide) (by decide)) dX8_stands_16 rfl rfl ⟨rfl, rfl⟩ ⟨(Nat.le_of_ble_eq_true rfl), (Nat.le_of_ble_eq_true rfl)⟩ ⟨Nat.zero_le _, Nat.zero_le _⟩ (Nat.le_of_ble_eq_true rfl) ?_
    refine v_ifb_ne X dX8_stands_19 (tgt := 29) (by decide) (fun c2 => ?_) (fun c2 => ?_)
    · refine v_aload_n X dX8_stands_29 0 rfl ?_
      refine v_get X fX8_9 m0 rfl dX8_stands_30 ?_
      refine v_iconst X dX8_stands_33 (v := 2) (by decide) ?_
      refine v_ialdK X 2 m1 (rfl : (2 : Int32) = nI 2) (by decide) (by decide) dX8_stands_34 ?_
      refine v_if_ne X dX8_stands_35 (tgt := 45) (by decide) (fun c3 => ?_) (fun c3 => ?_)
      · obtain ⟨jw, hjw, ejw⟩ := wi_c 1 rfl (by decide) c1
        have qjw : pr who = jw := ix_cl ejw (by omega)
        have hd2 := c3
        obtain ⟨jp, hjp, ejp⟩ := hon jw (by omega)
        have qjp : pr (d (3 + jw)) = jp := ix_cl ejp (by omega)
        refine v_iload_n X dX8_stands_45 2 rfl ?_
        by_cases c4_0 : what = 0
        · refine v_tabIn X dX8_stands_46 (off := 34) (tgt := 80) 0 c4_0 (by decide) (by decide) (by decide) (by decide) ?_
          refine v_aload_n X dX8_stands_80 0 rfl ?_
          refine v_get X fX8_9 m0 rfl dX8_stands_81 ?_
          refine v_iconst X dX8_stands_84 (v := 3) (by decide) ?_
          refine v_iload_n X dX8_stands_85 1 rfl ?_
          refine v_iadd X dX8_stands_86 ?_
          refine v_ialdK X (3 + jw) m1 (ix_add (rfl : (3 : Int32) = nI 3) ejw) (by omega) (by decide) dX8_stands_87 ?_
          have eqr : op_stands (d, k, hk, fo, tape, tp, bits, sz, num) who what = (d (3 + jw), (d, k, hk, fo, tape, tp, bits, sz, num)) := by unfold op_stands; dsimp only; rw [if_pos (And.intro c1 c2), if_neg c3]; simp [qjw, qjp, c4_0]
          exact v_iret X r dX8_stands_88 (Nat.le_refl _) (Nat.le_refl _) ⟨by rw [eqr], by rw [eqr]; exact hM⟩
        by_cases c4_1 : what = 1
        · refine v_tabIn X dX8_stands_46 (off := 43) (tgt := 89) 1 c4_1 (by decide) (by decide) (by decide) (by decide) ?_
          refine v_aload_n X dX8_stands_89 0 rfl ?_
          refine v_get X fX8_9 m0 rfl dX8_stands_90 ?_
          refine v_bipush X dX8_stands_93 (v := 16) (by decide) ?_
          refine v_iload_n X dX8_stands_95 1 rfl ?_
          refine v_iadd X dX8_stands_96 ?_
          refine v_ialdK X (16 + jw) m1 (ix_add (rfl : (16 : Int32) = nI 16) ejw) (by omega) (by decide) dX8_stands_97 ?_
          have eqr : op_stands (d, k, hk, fo, tape, tp, bits, sz, num) who what = (d (16 + jw), (d, k, hk, fo, tape, tp, bits, sz, num)) := by unfold op_stands; dsimp only; rw [if_pos (And.intro c1 c2), if_neg c3]; simp [qjw, qjp, c4_0, c4_1]
          exact v_iret X r dX8_stands_98 (Nat.le_refl _) (Nat.le_refl _) ⟨by rw [eqr], by rw [eqr]; exact hM⟩
        by_cases c4_2 : what = 2
        · refine v_tabIn X dX8_stands_46 (off := 53) (tgt := 99) 2 c4_2 (by decide) (by decide) (by decide) (by decide) ?_
          refine v_aload_n X dX8_stands_99 0 rfl ?_
          refine v_get X fX8_9 m0 rfl dX8_stands_100 ?_
          refine v_bipush X dX8_stands_103 (v := 18) (by decide) ?_
          refine v_iload_n X dX8_stands_105 1 rfl ?_
          refine v_iadd X dX8_stands_106 ?_
          refine v_ialdK X (18 + jw) m1 (ix_add (rfl : (18 : Int32) = nI 18) ejw) (by omega) (by decide) dX8_stands_107 ?_
          have eqr : op_stands (d, k, hk, fo, tape, tp, bits, sz, num) who what = (d (18 + jw), (d, k, hk, fo, tape, tp, bits, sz, num)) := by unfold op_stands; dsimp only; rw [if_pos (And.intro c1 c2), if_neg c3]; simp [qjw, qjp, c4_0, c4_1, c4_2]
          exact v_iret X r dX8_stands_108 (Nat.le_refl _) (Nat.le_refl _) ⟨by rw [eqr], by rw [eqr]; exact hM⟩
        by_cases c4_3 : what = 3
        · refine v_tabIn X dX8_stands_46 (off := 63) (tgt := 109) 3 c4_3 (by decide) (by decide) (by decide) (by decide) ?_
          refine v_aload_n X dX8_stands_109 0 rfl ?_
          refine v_get X fX8_9 m0 rfl dX8_stands_110 ?_
          refine v_bipush X dX8_stands_113 (v := 20) (by decide) ?_
          refine v_iload_n X dX8_stands_115 1 rfl ?_
          refine v_iadd X dX8_stands_116 ?_
          refine v_ialdK X (20 + jw) m1 (ix_add (rfl : (20 : Int32) = nI 20) ejw) (by omega) (by decide) dX8_stands_117 ?_
          have eqr : op_stands (d, k, hk, fo, tape, tp, bits, sz, num) who what = (d (20 + jw), (d, k, hk, fo, tape, tp, bits, sz, num)) := by unfold op_stands; dsimp only; rw [if_pos (And.intro c1 c2), if_neg c3]; simp [qjw, qjp, c4_0, c4_1, c4_2, c4_3]
          exact v_iret X r dX8_stands_118 (Nat.le_refl _) (Nat.le_refl _) ⟨by rw [eqr], by rw [eqr]; exact hM⟩
        by_cases c4_4 : what = 4
        · refine v_tabIn X dX8_stands_46 (off := 73) (tgt := 119) 4 c4_4 (by decide) (by decide) (by decide) (by decide) ?_
          refine v_aload_n X dX8_stands_119 0 rfl ?_
          refine v_get X fX8_9 m0 rfl dX8_stands_120 ?_
          refine v_iload_n X dX8_stands_123 1 rfl ?_
          refine v_cSi X [.ref (A 0), .int who] sX8_104 (ct_X8_sees (sd := jw) ll g  m1 ejw (by omega) ejp hjp) dX8_stands_124 rfl rfl ⟨rfl, rfl⟩ ⟨(Nat.le_of_ble_eq_true rfl), (Nat.le_of_ble_eq_true rfl)⟩ ⟨Nat.zero_le _, Nat.zero_le _⟩ (Nat.le_of_ble_eq_true rfl) ?_
          have eqr : op_stands (d, k, hk, fo, tape, tp, bits, sz, num) who what = (seesM d jp, (d, k, hk, fo, tape, tp, bits, sz, num)) := by unfold op_stands; dsimp only; rw [if_pos (And.intro c1 c2), if_neg c3]; simp [qjw, qjp, c4_0, c4_1, c4_2, c4_3, c4_4]
          exact v_iret X r dX8_stands_127 (Nat.le_refl _) (Nat.le_refl _) ⟨by rw [eqr], by rw [eqr]; exact hM⟩
        refine v_tabOut X dX8_stands_46 (tgt := 128) (by have e0 := lv_neT (k := 0) (a := 0) c4_0 (by decide); have e1 := lv_neT (k := 1) (a := 1) c4_1 (by decide); have e2 := lv_neT (k := 2) (a := 2) c4_2 (by decide); have e3 := lv_neT (k := 3) (a := 3) c4_3 (by decide); have e4 := lv_neT (k := 4) (a := 4) c4_4 (by decide); omega) (by decide) ?_
        refine v_aload_n X dX8_stands_128 0 rfl ?_
        refine v_get X fX8_9 m0 rfl dX8_stands_129 ?_
        refine v_iload_n X dX8_stands_132 1 rfl ?_
        refine v_cSi X [.ref (A 0), .int who] sX8_116 (ct_X8_pushes (sd := jw) ll g  m1 ejw (by omega) ejp hjp (hwy hd2 jp jw hjp (by omega) ejp)) dX8_stands_133 rfl rfl ⟨rfl, rfl⟩ ⟨(Nat.le_of_ble_eq_true rfl), (Nat.le_of_ble_eq_true rfl)⟩ ⟨Nat.zero_le _, Nat.zero_le _⟩ (Nat.le_of_ble_eq_true rfl) ?_
        have eqr : op_stands (d, k, hk, fo, tape, tp, bits, sz, num) who what = (pushesM d jp jw, (d, k, hk, fo, tape, tp, bits, sz, num)) := by unfold op_stands; dsimp only; rw [if_pos (And.intro c1 c2), if_neg c3]; simp [qjw, qjp, c4_0, c4_1, c4_2, c4_3, c4_4]
        exact v_iret X r dX8_stands_136 (Nat.le_refl _) (Nat.le_refl _) ⟨by rw [eqr], by rw [eqr]; exact hM⟩
      · refine v_aload_n X dX8_stands_38 0 rfl ?_
        refine v_ldc X dX8_stands_39 kX8_73 ?_
        refine v_cVi X [.int (-1000000005)] sX8_51 (ct_X8_finds (j := 4) ll g m0 m4 (by decide) (by decide)) m0 rfl dX8_stands_41 rfl rfl ⟨rfl, rfl⟩ ⟨(Nat.le_of_ble_eq_true rfl), (Nat.le_of_ble_eq_true rfl)⟩ ⟨Nat.zero_le _, Nat.zero_le _⟩ (Nat.le_of_ble_eq_true rfl) ?_
        have eqr : op_stands (d, k, hk, fo, tape, tp, bits, sz, num) who what = ((-1000000005), (d, k, hk, fnd fo 4, tape, tp, bits, sz, num)) := by unfold op_stands; dsimp only; rw [if_pos (And.intro c1 c2), if_pos c3]
        exact v_iret X r dX8_stands_44 (Nat.le_refl _) (Nat.le_refl _) ⟨by rw [eqr], by rw [eqr]; exact (MW_fo hM _)⟩
    · refine v_aload_n X dX8_stands_22 0 rfl ?_
      refine v_ldc X dX8_stands_23 kX8_38 ?_
      refine v_cVi X [.int (-1000000001)] sX8_51 (ct_X8_finds (j := 0) ll g m0 m4 (by decide) (by decide)) m0 rfl dX8_stands_25 rfl rfl ⟨rfl, rfl⟩ ⟨(Nat.le_of_ble_eq_true rfl), (Nat.le_of_ble_eq_true rfl)⟩ ⟨Nat.zero_le _, Nat.zero_le _⟩ (Nat.le_of_ble_eq_true rfl) ?_
      have eqr : op_stands (d, k, hk, fo, tape, tp, bits, sz, num) who what = ((-1000000001), (d, k, hk, fnd fo 0, tape, tp, bits, sz, num)) := by unfold op_stands; dsimp only; rw [if_neg (fun q : _ ∧ _ => c2 (And.right q))]
      exact v_iret X r dX8_stands_28 (Nat.le_refl _) (Nat.le_refl _) ⟨by rw [eqr], by rw [eqr]; exact (MW_fo hM _)⟩
set_option maxHeartbeats 4000000 in
set_option maxRecDepth 100000 in
theorem rf_roller (ll : Launch) (g : GT) {h : Hp} {t : Nat} {A : Nat → Nat} {S : OS} {N : Nat} (kind_ : Int32) (weight_ : Int32) (hM : MW g h t A S) (hI : SOk S N) (hN : N + 400 ≤ 204800) : MC ll g yX8_roller cX8_roller 4 (some .int) { frames := 1, cells := 0, slots := 0, locals := 50 } [.ref t, .int kind_, .int weight_] h (fun r h2 => r = some (.int (op_roller S kind_ weight_).1) ∧ MW g h2 t A (op_roller S kind_ weight_).2) 0 0 := by
  obtain ⟨d, k, hk, fo, tape, tp, bits, sz, num⟩ := S
  obtain ⟨⟨np, nw, T, p0, p1, e0, hnp, e1, hnw, e6, hT, hon, e3, hp0, e4, hp1, honp, hper, h10, h11, h12, hwc⟩, hkd, hkb, ⟨tn, htn, etp⟩, hsz⟩ := hI
  exact ct_X8_roller ll g kind_ weight_ hM e0 hnp
theorem rf_of (ll : Launch) (g : GT) {h : Hp} {t : Nat} {A : Nat → Nat} {S : OS} {N : Nat} (p_ : Int32) (what_ : Int32) (hM : MW g h t A S) (hI : SOk S N) (hN : N + 400 ≤ 204800) : MC ll g yX8_of cX8_of 3 (some .int) { frames := 2, cells := 0, slots := 0, locals := 80 } [.ref t, .int p_, .int what_] h (fun r h2 => r = some (.int (op_of S p_ what_).1) ∧ MW g h2 t A (op_of S p_ what_).2) 0 0 := by
  obtain ⟨d, k, hk, fo, tape, tp, bits, sz, num⟩ := S
  obtain ⟨⟨np, nw, T, p0, p1, e0, hnp, e1, hnw, e6, hT, hon, e3, hp0, e4, hp1, honp, hper, h10, h11, h12, hwc⟩, hkd, hkb, ⟨tn, htn, etp⟩, hsz⟩ := hI
  exact ct_X8_of ll g p_ what_ hM e0 hnp
theorem rf_set (ll : Launch) (g : GT) {h : Hp} {t : Nat} {A : Nat → Nat} {S : OS} {N : Nat} (p_ : Int32) (what_ : Int32) (v_ : Int32) (hM : MW g h t A S) (hI : SOk S N) (hN : N + 400 ≤ 204800) : MC ll g yX8_set cX8_set 5 (some .int) { frames := 2, cells := 0, slots := 0, locals := 80 } [.ref t, .int p_, .int what_, .int v_] h (fun r h2 => r = some (.int (op_set S p_ what_ v_).1) ∧ MW g h2 t A (op_set S p_ what_ v_).2) 0 0 := by
  obtain ⟨d, k, hk, fo, tape, tp, bits, sz, num⟩ := S
  obtain ⟨⟨np, nw, T, p0, p1, e0, hnp, e1, hnw, e6, hT, hon, e3, hp0, e4, hp1, honp, hper, h10, h11, h12, hwc⟩, hkd, hkb, ⟨tn, htn, etp⟩, hsz⟩ := hI
  exact ct_X8_set ll g p_ what_ v_ hM e0 hnp
theorem rf_as (ll : Launch) (g : GT) {h : Hp} {t : Nat} {A : Nat → Nat} {S : OS} {N : Nat} (p_ : Int32) (kind_ : Int32) (hM : MW g h t A S) (hI : SOk S N) (hN : N + 400 ≤ 204800) : MC ll g yX8_as cX8_as 3 (some .int) { frames := 2, cells := 0, slots := 0, locals := 80 } [.ref t, .int p_, .int kind_] h (fun r h2 => r = some (.int (op_as S p_ kind_).1) ∧ MW g h2 t A (op_as S p_ kind_).2) 0 0 := by
  obtain ⟨d, k, hk, fo, tape, tp, bits, sz, num⟩ := S
  obtain ⟨⟨np, nw, T, p0, p1, e0, hnp, e1, hnw, e6, hT, hon, e3, hp0, e4, hp1, honp, hper, h10, h11, h12, hwc⟩, hkd, hkb, ⟨tn, htn, etp⟩, hsz⟩ := hI
  exact ct_X8_as ll g p_ kind_ hM e0 hnp
theorem rf_log (ll : Launch) (g : GT) {h : Hp} {t : Nat} {A : Nat → Nat} {S : OS} {N : Nat} (what_ : Int32) (v_ : Int32) (hM : MW g h t A S) (hI : SOk S N) (hN : N + 400 ≤ 204800) : MC ll g yX8_log cX8_log 6 (some .int) { frames := 1, cells := 0, slots := 0, locals := 50 } [.ref t, .int what_, .int v_] h (fun r h2 => r = some (.int (op_log S what_ v_).1) ∧ MW g h2 t A (op_log S what_ v_).2) 0 0 := by
  obtain ⟨d, k, hk, fo, tape, tp, bits, sz, num⟩ := S
  obtain ⟨⟨np, nw, T, p0, p1, e0, hnp, e1, hnw, e6, hT, hon, e3, hp0, e4, hp1, honp, hper, h10, h11, h12, hwc⟩, hkd, hkb, ⟨tn, htn, etp⟩, hsz⟩ := hI
  exact ct_X8_log ll g what_ v_ hM 
theorem rf_push (ll : Launch) (g : GT) {h : Hp} {t : Nat} {A : Nat → Nat} {S : OS} {N : Nat} (p_ : Int32) (s_ : Int32) (l_ : Int32) (e_ : Int32) (t_ : Int32) (hM : MW g h t A S) (hI : SOk S N) (hN : N + 400 ≤ 204800) : MC ll g yX8_push cX8_push 6 (some .int) { frames := 2, cells := 0, slots := 0, locals := 90 } [.ref t, .int p_, .int s_, .int l_, .int e_, .int t_] h (fun r h2 => r = some (.int (op_push S p_ s_ l_ e_ t_).1) ∧ MW g h2 t A (op_push S p_ s_ l_ e_ t_).2) 0 0 := by
  obtain ⟨d, k, hk, fo, tape, tp, bits, sz, num⟩ := S
  obtain ⟨⟨np, nw, T, p0, p1, e0, hnp, e1, hnw, e6, hT, hon, e3, hp0, e4, hp1, honp, hper, h10, h11, h12, hwc⟩, hkd, hkb, ⟨tn, htn, etp⟩, hsz⟩ := hI
  exact ct_X8_push ll g p_ s_ l_ e_ t_ hM e0 hnp (fun j hj => wayOk_D hwc hnw (hper j hj))
theorem rf_mount (ll : Launch) (g : GT) {h : Hp} {t : Nat} {A : Nat → Nat} {S : OS} {N : Nat} (a_ : Int32) (b_ : Int32) (hM : MW g h t A S) (hI : SOk S N) (hN : N + 400 ≤ 204800) : MC ll g yX8_mount cX8_mount 3 (some .int) { frames := 3, cells := 0, slots := 0, locals := 120 } [.ref t, .int a_, .int b_] h (fun r h2 => r = some (.int (op_mount S a_ b_).1) ∧ MW g h2 t A (op_mount S a_ b_).2) 0 0 := by
  obtain ⟨d, k, hk, fo, tape, tp, bits, sz, num⟩ := S
  obtain ⟨⟨np, nw, T, p0, p1, e0, hnp, e1, hnw, e6, hT, hon, e3, hp0, e4, hp1, honp, hper, h10, h11, h12, hwc⟩, hkd, hkb, ⟨tn, htn, etp⟩, hsz⟩ := hI
  exact ct_X8_mount ll g a_ b_ hM e0 hnp
theorem rf_off (ll : Launch) (g : GT) {h : Hp} {t : Nat} {A : Nat → Nat} {S : OS} {N : Nat} (hM : MW g h t A S) (hI : SOk S N) (hN : N + 400 ≤ 204800) : MC ll g yX8_off cX8_off 1 (some .int) { frames := 1, cells := 0, slots := 0, locals := 50 } [.ref t] h (fun r h2 => r = some (.int (op_off S).1) ∧ MW g h2 t A (op_off S).2) 0 0 := by
  obtain ⟨d, k, hk, fo, tape, tp, bits, sz, num⟩ := S
  obtain ⟨⟨np, nw, T, p0, p1, e0, hnp, e1, hnw, e6, hT, hon, e3, hp0, e4, hp1, honp, hper, h10, h11, h12, hwc⟩, hkd, hkb, ⟨tn, htn, etp⟩, hsz⟩ := hI
  exact ct_X8_off ll g  hM 
theorem rf_bout (ll : Launch) (g : GT) {h : Hp} {t : Nat} {A : Nat → Nat} {S : OS} {N : Nat} (n_ : Int32) (hM : MW g h t A S) (hI : SOk S N) (hN : N + 400 ≤ 204800) : MC ll g yX8_bout cX8_bout 4 (some .int) { frames := 4, cells := 0, slots := 0, locals := 160 } [.ref t, .int n_] h (fun r h2 => r = some (.int (op_bout S n_).1) ∧ MW g h2 t A (op_bout S n_).2) 0 0 := by
  obtain ⟨d, k, hk, fo, tape, tp, bits, sz, num⟩ := S
  obtain ⟨⟨np, nw, T, p0, p1, e0, hnp, e1, hnw, e6, hT, hon, e3, hp0, e4, hp1, honp, hper, h10, h11, h12, hwc⟩, hkd, hkb, ⟨tn, htn, etp⟩, hsz⟩ := hI
  exact ct_X8_bout (p0 := p0) (p1 := p1) (T := T) ll g n_ hM (fun h2 => ⟨⟨e3, e4, hp0, hp1, e6, wayOk_D hwc hnw (hper p0 (honp (hon.resolve_left h2)).1), wayOk_D hwc hnw (hper p1 (honp (hon.resolve_left h2)).2.1), mass_ne h10 (hper p0 (honp (hon.resolve_left h2)).1).2.1 (hper p1 (honp (hon.resolve_left h2)).2.1).2.1⟩, (honp (hon.resolve_left h2)).2.2⟩) (by omega)
theorem rf_stands (ll : Launch) (g : GT) {h : Hp} {t : Nat} {A : Nat → Nat} {S : OS} {N : Nat} (who_ : Int32) (what_ : Int32) (hM : MW g h t A S) (hI : SOk S N) (hN : N + 400 ≤ 204800) : MC ll g yX8_stands cX8_stands 3 (some .int) { frames := 3, cells := 0, slots := 0, locals := 140 } [.ref t, .int who_, .int what_] h (fun r h2 => r = some (.int (op_stands S who_ what_).1) ∧ MW g h2 t A (op_stands S who_ what_).2) 0 0 := by
  obtain ⟨d, k, hk, fo, tape, tp, bits, sz, num⟩ := S
  obtain ⟨⟨np, nw, T, p0, p1, e0, hnp, e1, hnw, e6, hT, hon, e3, hp0, e4, hp1, honp, hper, h10, h11, h12, hwc⟩, hkd, hkb, ⟨tn, htn, etp⟩, hsz⟩ := hI
  exact ct_X8_standz (np := np) ll g who_ what_ hM (st_hon e3 hp0 e4 hp1) (st_way hon honp e3 hp0 e4 hp1 hwc hnw hper)
theorem rf_now (ll : Launch) (g : GT) {h : Hp} {t : Nat} {A : Nat → Nat} {S : OS} {N : Nat} (what_ : Int32) (hM : MW g h t A S) (hI : SOk S N) (hN : N + 400 ≤ 204800) : MC ll g yX8_now cX8_now 2 (some .int) { frames := 1, cells := 0, slots := 0, locals := 50 } [.ref t, .int what_] h (fun r h2 => r = some (.int (op_now S what_).1) ∧ MW g h2 t A (op_now S what_).2) 0 0 := by
  obtain ⟨d, k, hk, fo, tape, tp, bits, sz, num⟩ := S
  obtain ⟨⟨np, nw, T, p0, p1, e0, hnp, e1, hnw, e6, hT, hon, e3, hp0, e4, hp1, honp, hper, h10, h11, h12, hwc⟩, hkd, hkb, ⟨tn, htn, etp⟩, hsz⟩ := hI
  exact ct_X8_now ll g what_ hM 
theorem rf_seed (ll : Launch) (g : GT) {h : Hp} {t : Nat} {A : Nat → Nat} {S : OS} {N : Nat} (v_ : Int32) (hM : MW g h t A S) (hI : SOk S N) (hN : N + 400 ≤ 204800) : MC ll g yX8_seed cX8_seed 3 (some .int) { frames := 0, cells := 0, slots := 0, locals := 0 } [.ref t, .int v_] h (fun r h2 => r = some (.int (op_seed S v_).1) ∧ MW g h2 t A (op_seed S v_).2) 0 0 := by
  obtain ⟨d, k, hk, fo, tape, tp, bits, sz, num⟩ := S
  obtain ⟨⟨np, nw, T, p0, p1, e0, hnp, e1, hnw, e6, hT, hon, e3, hp0, e4, hp1, honp, hper, h10, h11, h12, hwc⟩, hkd, hkb, ⟨tn, htn, etp⟩, hsz⟩ := hI
  exact ct_X8_seed ll g v_ hM 
theorem rf_ahead (ll : Launch) (g : GT) {h : Hp} {t : Nat} {A : Nat → Nat} {S : OS} {N : Nat} (a_ : Int32) (b_ : Int32) (n_ : Int32) (what_ : Int32) (hM : MW g h t A S) (hI : SOk S N) (hN : N + 400 ≤ 204800) : MC ll g yX8_ahead cX8_ahead 6 (some .int) { frames := 5, cells := 0, slots := 0, locals := 200 } [.ref t, .int a_, .int b_, .int n_, .int what_] h (fun r h2 => r = some (.int (op_ahead S a_ b_ n_ what_).1) ∧ MW g h2 t A (op_ahead S a_ b_ n_ what_).2) 0 0 := by
  obtain ⟨d, k, hk, fo, tape, tp, bits, sz, num⟩ := S
  obtain ⟨⟨np, nw, T, p0, p1, e0, hnp, e1, hnw, e6, hT, hon, e3, hp0, e4, hp1, honp, hper, h10, h11, h12, hwc⟩, hkd, hkb, ⟨tn, htn, etp⟩, hsz⟩ := hI
  exact ct_X8_ahead ll g a_ b_ n_ what_ hM e0 hnp (fun a b ha hb hab => AOk_D hnp hnw hwc h10 ha hb (hper a ha) (hper b hb))
theorem rf_best (ll : Launch) (g : GT) {h : Hp} {t : Nat} {A : Nat → Nat} {S : OS} {N : Nat} (a_ : Int32) (b_ : Int32) (n_ : Int32) (hM : MW g h t A S) (hI : SOk S N) (hN : N + 400 ≤ 204800) : MC ll g yX8_best cX8_best 8 (some .int) { frames := 5, cells := 0, slots := 0, locals := 200 } [.ref t, .int a_, .int b_, .int n_] h (fun r h2 => r = some (.int (op_best S a_ b_ n_).1) ∧ MW g h2 t A (op_best S a_ b_ n_).2) 0 0 := by
  obtain ⟨d, k, hk, fo, tape, tp, bits, sz, num⟩ := S
  obtain ⟨⟨np, nw, T, p0, p1, e0, hnp, e1, hnw, e6, hT, hon, e3, hp0, e4, hp1, honp, hper, h10, h11, h12, hwc⟩, hkd, hkb, ⟨tn, htn, etp⟩, hsz⟩ := hI
  exact ct_X8_best ll g a_ b_ n_ hM e0 hnp (fun a b k ha hb hab hk6 => AOk_k hnp hnw hwc h10 ha hb hab (hper a ha) (hper b hb) (Or.inl rfl))
theorem rf_light (ll : Launch) (g : GT) {h : Hp} {t : Nat} {A : Nat → Nat} {S : OS} {N : Nat} (a_ : Int32) (b_ : Int32) (n_ : Int32) (hM : MW g h t A S) (hI : SOk S N) (hN : N + 400 ≤ 204800) : MC ll g yX8_light cX8_light 5 (some .int) { frames := 5, cells := 0, slots := 0, locals := 200 } [.ref t, .int a_, .int b_, .int n_] h (fun r h2 => r = some (.int (op_light S a_ b_ n_).1) ∧ MW g h2 t A (op_light S a_ b_ n_).2) 0 0 := by
  obtain ⟨d, k, hk, fo, tape, tp, bits, sz, num⟩ := S
  obtain ⟨⟨np, nw, T, p0, p1, e0, hnp, e1, hnw, e6, hT, hon, e3, hp0, e4, hp1, honp, hper, h10, h11, h12, hwc⟩, hkd, hkb, ⟨tn, htn, etp⟩, hsz⟩ := hI
  exact ct_X8_light ll g a_ b_ n_ hM e0 hnp (fun a b k ha hb hab h1 h3 => AOk_k hnp hnw hwc h10 ha hb hab (hper a ha) (hper b hb) (Or.inr (Or.inl ⟨rfl, h1, by omega⟩)))
theorem rf_late (ll : Launch) (g : GT) {h : Hp} {t : Nat} {A : Nat → Nat} {S : OS} {N : Nat} (a_ : Int32) (b_ : Int32) (n_ : Int32) (hM : MW g h t A S) (hI : SOk S N) (hN : N + 400 ≤ 204800) : MC ll g yX8_late cX8_late 5 (some .int) { frames := 5, cells := 0, slots := 0, locals := 200 } [.ref t, .int a_, .int b_, .int n_] h (fun r h2 => r = some (.int (op_late S a_ b_ n_).1) ∧ MW g h2 t A (op_late S a_ b_ n_).2) 0 0 := by
  obtain ⟨d, k, hk, fo, tape, tp, bits, sz, num⟩ := S
  obtain ⟨⟨np, nw, T, p0, p1, e0, hnp, e1, hnw, e6, hT, hon, e3, hp0, e4, hp1, honp, hper, h10, h11, h12, hwc⟩, hkd, hkb, ⟨tn, htn, etp⟩, hsz⟩ := hI
  exact ct_X8_late ll g a_ b_ n_ hM e0 hnp (fun a b k ha hb hab hk6 => AOk_k hnp hnw hwc h10 ha hb hab (hper a ha) (hper b hb) (Or.inr (Or.inr ⟨rfl, by omega⟩)))
theorem rf_swing (ll : Launch) (g : GT) {h : Hp} {t : Nat} {A : Nat → Nat} {S : OS} {N : Nat} (a_ : Int32) (b_ : Int32) (n_ : Int32) (what_ : Int32) (hM : MW g h t A S) (hI : SOk S N) (hN : N + 400 ≤ 204800) : MC ll g yX8_swing cX8_swing 6 (some .int) { frames := 5, cells := 0, slots := 0, locals := 200 } [.ref t, .int a_, .int b_, .int n_, .int what_] h (fun r h2 => r = some (.int (op_swing S a_ b_ n_ what_).1) ∧ MW g h2 t A (op_swing S a_ b_ n_ what_).2) 0 0 := by
  obtain ⟨d, k, hk, fo, tape, tp, bits, sz, num⟩ := S
  obtain ⟨⟨np, nw, T, p0, p1, e0, hnp, e1, hnw, e6, hT, hon, e3, hp0, e4, hp1, honp, hper, h10, h11, h12, hwc⟩, hkd, hkb, ⟨tn, htn, etp⟩, hsz⟩ := hI
  exact ct_X8_swing ll g a_ b_ n_ what_ hM e0 hnp (fun a b ha hb hab => AOk_D hnp hnw hwc h10 ha hb (hper a ha) (hper b hb))
theorem rf_beats (ll : Launch) (g : GT) {h : Hp} {t : Nat} {A : Nat → Nat} {S : OS} {N : Nat} (p_ : Int32) (n_ : Int32) (hM : MW g h t A S) (hI : SOk S N) (hN : N + 400 ≤ 204800) : MC ll g yX8_beats cX8_beats 3 (some .int) { frames := 6, cells := 0, slots := 0, locals := 240 } [.ref t, .int p_, .int n_] h (fun r h2 => r = some (.int (op_beats S p_ n_).1) ∧ MW g h2 t A (op_beats S p_ n_).2) 0 0 := by
  obtain ⟨d, k, hk, fo, tape, tp, bits, sz, num⟩ := S
  obtain ⟨⟨np, nw, T, p0, p1, e0, hnp, e1, hnw, e6, hT, hon, e3, hp0, e4, hp1, honp, hper, h10, h11, h12, hwc⟩, hkd, hkb, ⟨tn, htn, etp⟩, hsz⟩ := hI
  exact ct_X8_beats ll g p_ n_ hM e0 hnp (fun a b ha hb hab => AOk_D hnp hnw hwc h10 ha hb (hper a ha) (hper b hb))
theorem rf_five (ll : Launch) (g : GT) {h : Hp} {t : Nat} {A : Nat → Nat} {S : OS} {N : Nat} (a_ : Int32) (b_ : Int32) (n_ : Int32) (hM : MW g h t A S) (hI : SOk S N) (hN : N + 400 ≤ 204800) : MC ll g yX8_five cX8_five 8 (some .int) { frames := 5, cells := 0, slots := 0, locals := 200 } [.ref t, .int a_, .int b_, .int n_] h (fun r h2 => r = some (.int (op_five S a_ b_ n_).1) ∧ MW g h2 t A (op_five S a_ b_ n_).2) 0 0 := by
  obtain ⟨d, k, hk, fo, tape, tp, bits, sz, num⟩ := S
  obtain ⟨⟨np, nw, T, p0, p1, e0, hnp, e1, hnw, e6, hT, hon, e3, hp0, e4, hp1, honp, hper, h10, h11, h12, hwc⟩, hkd, hkb, ⟨tn, htn, etp⟩, hsz⟩ := hI
  exact ct_X8_five ll g a_ b_ n_ hM e0 hnp (fun a b ha hb hab => AOk_D hnp hnw hwc h10 ha hb (hper a ha) (hper b hb))
theorem rf_champion (ll : Launch) (g : GT) {h : Hp} {t : Nat} {A : Nat → Nat} {S : OS} {N : Nat} (n_ : Int32) (hM : MW g h t A S) (hI : SOk S N) (hN : N + 400 ≤ 204800) : MC ll g yX8_champion cX8_champion 7 (some .int) { frames := 6, cells := 0, slots := 0, locals := 240 } [.ref t, .int n_] h (fun r h2 => r = some (.int (op_champion S n_).1) ∧ MW g h2 t A (op_champion S n_).2) 0 0 := by
  obtain ⟨d, k, hk, fo, tape, tp, bits, sz, num⟩ := S
  obtain ⟨⟨np, nw, T, p0, p1, e0, hnp, e1, hnw, e6, hT, hon, e3, hp0, e4, hp1, honp, hper, h10, h11, h12, hwc⟩, hkd, hkb, ⟨tn, htn, etp⟩, hsz⟩ := hI
  exact ct_X8_champion ll g n_ hM e0 hnp (fun a b ha hb hab => AOk_D hnp hnw hwc h10 ha hb (hper a ha) (hper b hb))
theorem rf_feed (ll : Launch) (g : GT) {h : Hp} {t : Nat} {A : Nat → Nat} {S : OS} {N : Nat} (bytes_ : Int32) (n_ : Int32) (hM : MW g h t A S) (hI : SOk S N) (hN : N + 400 ≤ 204800) : MC ll g yX8_feed cX8_feed 4 (some .int) { frames := 1, cells := 0, slots := 0, locals := 50 } [.ref t, .int bytes_, .int n_] h (fun r h2 => r = some (.int (op_feed S bytes_ n_).1) ∧ MW g h2 t A (op_feed S bytes_ n_).2) 0 0 := by
  obtain ⟨d, k, hk, fo, tape, tp, bits, sz, num⟩ := S
  obtain ⟨⟨np, nw, T, p0, p1, e0, hnp, e1, hnw, e6, hT, hon, e3, hp0, e4, hp1, honp, hper, h10, h11, h12, hwc⟩, hkd, hkb, ⟨tn, htn, etp⟩, hsz⟩ := hI
  exact ct_X8_feed ll g bytes_ n_ hM etp htn
theorem rf_wipe (ll : Launch) (g : GT) {h : Hp} {t : Nat} {A : Nat → Nat} {S : OS} {N : Nat} (hM : MW g h t A S) (hI : SOk S N) (hN : N + 400 ≤ 204800) : MC ll g yX8_wipe cX8_wipe 2 (some .int) { frames := 0, cells := 0, slots := 0, locals := 0 } [.ref t] h (fun r h2 => r = some (.int (op_wipe S).1) ∧ MW g h2 t A (op_wipe S).2) 0 0 := by
  obtain ⟨d, k, hk, fo, tape, tp, bits, sz, num⟩ := S
  obtain ⟨⟨np, nw, T, p0, p1, e0, hnp, e1, hnw, e6, hT, hon, e3, hp0, e4, hp1, honp, hper, h10, h11, h12, hwc⟩, hkd, hkb, ⟨tn, htn, etp⟩, hsz⟩ := hI
  exact ct_X8_wipe ll g  hM 
theorem rf_way (ll : Launch) (g : GT) {h : Hp} {t : Nat} {A : Nat → Nat} {S : OS} {N : Nat} (hM : MW g h t A S) (hI : SOk S N) (hN : N + 400 ≤ 204800) : MC ll g yX8_way cX8_way 2 (some .int) { frames := 7, cells := 0, slots := 0, locals := 280 } [.ref t] h (fun r h2 => r = some (.int (op_way S).1) ∧ MW g h2 t A (op_way S).2) 0 0 := by
  obtain ⟨d, k, hk, fo, tape, tp, bits, sz, num⟩ := S
  obtain ⟨⟨np, nw, T, p0, p1, e0, hnp, e1, hnw, e6, hT, hon, e3, hp0, e4, hp1, honp, hper, h10, h11, h12, hwc⟩, hkd, hkb, ⟨tn, htn, etp⟩, hsz⟩ := hI
  exact ct_X8_way ll g  hM e1 hnw etp htn
theorem rf_rules (ll : Launch) (g : GT) {h : Hp} {t : Nat} {A : Nat → Nat} {S : OS} {N : Nat} (w_ : Int32) (hM : MW g h t A S) (hI : SOk S N) (hN : N + 400 ≤ 204800) : MC ll g yX8_rules cX8_rules 2 (some .int) { frames := 2, cells := 0, slots := 0, locals := 80 } [.ref t, .int w_] h (fun r h2 => r = some (.int (op_rules S w_).1) ∧ MW g h2 t A (op_rules S w_).2) 0 0 := by
  obtain ⟨d, k, hk, fo, tape, tp, bits, sz, num⟩ := S
  obtain ⟨⟨np, nw, T, p0, p1, e0, hnp, e1, hnw, e6, hT, hon, e3, hp0, e4, hp1, honp, hper, h10, h11, h12, hwc⟩, hkd, hkb, ⟨tn, htn, etp⟩, hsz⟩ := hI
  exact ct_X8_rules ll g w_ hM e1 hnw
theorem rf_holds (ll : Launch) (g : GT) {h : Hp} {t : Nat} {A : Nat → Nat} {S : OS} {N : Nat} (w_ : Int32) (s_ : Int32) (l_ : Int32) (e_ : Int32) (t_ : Int32) (hM : MW g h t A S) (hI : SOk S N) (hN : N + 400 ≤ 204800) : MC ll g yX8_holds cX8_holds 7 (some .int) { frames := 2, cells := 0, slots := 0, locals := 90 } [.ref t, .int w_, .int s_, .int l_, .int e_, .int t_] h (fun r h2 => r = some (.int (op_holds S w_ s_ l_ e_ t_).1) ∧ MW g h2 t A (op_holds S w_ s_ l_ e_ t_).2) 0 0 := by
  obtain ⟨d, k, hk, fo, tape, tp, bits, sz, num⟩ := S
  obtain ⟨⟨np, nw, T, p0, p1, e0, hnp, e1, hnw, e6, hT, hon, e3, hp0, e4, hp1, honp, hper, h10, h11, h12, hwc⟩, hkd, hkb, ⟨tn, htn, etp⟩, hsz⟩ := hI
  exact ct_X8_holds ll g w_ s_ l_ e_ t_ hM e1 hnw hwc
theorem rf_sheet (ll : Launch) (g : GT) {h : Hp} {t : Nat} {A : Nat → Nat} {S : OS} {N : Nat} (s_ : Int32) (b_ : Int32) (n_ : Int32) (hM : MW g h t A S) (hI : SOk S N) (hN : N + 400 ≤ 204800) : MC ll g yX8_sheet cX8_sheet 5 (some .int) { frames := 2, cells := 0, slots := 0, locals := 90 } [.ref t, .int s_, .int b_, .int n_] h (fun r h2 => r = some (.int (op_sheet S s_ b_ n_).1) ∧ MW g h2 t A (op_sheet S s_ b_ n_).2) 0 0 := by
  obtain ⟨d, k, hk, fo, tape, tp, bits, sz, num⟩ := S
  obtain ⟨⟨np, nw, T, p0, p1, e0, hnp, e1, hnw, e6, hT, hon, e3, hp0, e4, hp1, honp, hper, h10, h11, h12, hwc⟩, hkd, hkb, ⟨tn, htn, etp⟩, hsz⟩ := hI
  exact ct_X8_sheet ll g s_ b_ n_ hM 
theorem rf_write (ll : Launch) (g : GT) {h : Hp} {t : Nat} {A : Nat → Nat} {S : OS} {N : Nat} (s_ : Int32) (q_ : Int32) (v_ : Int64) (hM : MW g h t A S) (hI : SOk S N) (hN : N + 400 ≤ 204800) : MC ll g yX8_write cX8_write 7 (some .long) { frames := 2, cells := 0, slots := 0, locals := 90 } [.ref t, .int s_, .int q_, .long v_] h (fun r h2 => r = some (.long (op_write S s_ q_ v_).1) ∧ MW g h2 t A (op_write S s_ q_ v_).2) 0 0 := by
  obtain ⟨d, k, hk, fo, tape, tp, bits, sz, num⟩ := S
  obtain ⟨⟨np, nw, T, p0, p1, e0, hnp, e1, hnw, e6, hT, hon, e3, hp0, e4, hp1, honp, hper, h10, h11, h12, hwc⟩, hkd, hkb, ⟨tn, htn, etp⟩, hsz⟩ := hI
  exact ct_X8_write ll g s_ q_ v_ hM hsz
theorem rf_copy (ll : Launch) (g : GT) {h : Hp} {t : Nat} {A : Nat → Nat} {S : OS} {N : Nat} (s_ : Int32) (f_ : Int32) (u_ : Int32) (to_ : Int32) (n_ : Int32) (hM : MW g h t A S) (hI : SOk S N) (hN : N + 400 ≤ 204800) : MC ll g yX8_copy cX8_copy 7 (some .int) { frames := 2, cells := 0, slots := 0, locals := 90 } [.ref t, .int s_, .int f_, .int u_, .int to_, .int n_] h (fun r h2 => r = some (.int (op_copy S s_ f_ u_ to_ n_).1) ∧ MW g h2 t A (op_copy S s_ f_ u_ to_ n_).2) 0 0 := by
  obtain ⟨d, k, hk, fo, tape, tp, bits, sz, num⟩ := S
  obtain ⟨⟨np, nw, T, p0, p1, e0, hnp, e1, hnw, e6, hT, hon, e3, hp0, e4, hp1, honp, hper, h10, h11, h12, hwc⟩, hkd, hkb, ⟨tn, htn, etp⟩, hsz⟩ := hI
  exact ct_X8_copy ll g s_ f_ u_ to_ n_ hM hsz
theorem rf_film (ll : Launch) (g : GT) {h : Hp} {t : Nat} {A : Nat → Nat} {S : OS} {N : Nat} (s_ : Int32) (a_ : Int32) (b_ : Int32) (hM : MW g h t A S) (hI : SOk S N) (hN : N + 400 ≤ 204800) : MC ll g yX8_film cX8_film 7 (some .int) { frames := 4, cells := 0, slots := 0, locals := 180 } [.ref t, .int s_, .int a_, .int b_] h (fun r h2 => r = some (.int (op_film S s_ a_ b_).1) ∧ MW g h2 t A (op_film S s_ a_ b_).2) 0 0 := by
  obtain ⟨d, k, hk, fo, tape, tp, bits, sz, num⟩ := S
  obtain ⟨⟨np, nw, T, p0, p1, e0, hnp, e1, hnw, e6, hT, hon, e3, hp0, e4, hp1, honp, hper, h10, h11, h12, hwc⟩, hkd, hkb, ⟨tn, htn, etp⟩, hsz⟩ := hI
  exact ct_X8_film ll g s_ a_ b_ hM e0 hnp (fun a b ha hb hab => AOk_D hnp hnw hwc h10 ha hb (hper a ha) (hper b hb)) hsz
theorem rf_read (ll : Launch) (g : GT) {h : Hp} {t : Nat} {A : Nat → Nat} {S : OS} {N : Nat} (s_ : Int32) (a_ : Int32) (b_ : Int32) (hM : MW g h t A S) (hI : SOk S N) (hN : N + 400 ≤ 204800) : MC ll g yX8_read cX8_read 7 (some .int) { frames := 4, cells := 0, slots := 0, locals := 180 } [.ref t, .int s_, .int a_, .int b_] h (fun r h2 => r = some (.int (op_read S s_ a_ b_).1) ∧ MW g h2 t A (op_read S s_ a_ b_).2) 0 0 := by
  obtain ⟨d, k, hk, fo, tape, tp, bits, sz, num⟩ := S
  obtain ⟨⟨np, nw, T, p0, p1, e0, hnp, e1, hnw, e6, hT, hon, e3, hp0, e4, hp1, honp, hper, h10, h11, h12, hwc⟩, hkd, hkb, ⟨tn, htn, etp⟩, hsz⟩ := hI
  exact ct_X8_read ll g s_ a_ b_ hM e0 hnp (fun a b ha hb hab => AOk_D hnp hnw hwc h10 ha hb (hper a ha) (hper b hb)) hsz
theorem rf_image (ll : Launch) (g : GT) {h : Hp} {t : Nat} {A : Nat → Nat} {S : OS} {N : Nat} (hM : MW g h t A S) (hI : SOk S N) (hN : N + 400 ≤ 204800) : MC ll g yX8_image cX8_image 1 (some .int) { frames := 1, cells := 0, slots := 0, locals := 40 } [.ref t] h (fun r h2 => r = some (.int (op_image S).1) ∧ MW g h2 t A (op_image S).2) 0 0 := by
  obtain ⟨d, k, hk, fo, tape, tp, bits, sz, num⟩ := S
  obtain ⟨⟨np, nw, T, p0, p1, e0, hnp, e1, hnw, e6, hT, hon, e3, hp0, e4, hp1, honp, hper, h10, h11, h12, hwc⟩, hkd, hkb, ⟨tn, htn, etp⟩, hsz⟩ := hI
  exact ct_X8_image ll g  hM 
theorem rf_undo (ll : Launch) (g : GT) {h : Hp} {t : Nat} {A : Nat → Nat} {S : OS} {N : Nat} (hM : MW g h t A S) (hI : SOk S N) (hN : N + 400 ≤ 204800) : MC ll g yX8_undo cX8_undo 1 (some .int) { frames := 1, cells := 0, slots := 0, locals := 50 } [.ref t] h (fun r h2 => r = some (.int (op_undo S).1) ∧ MW g h2 t A (op_undo S).2) 0 0 := by
  obtain ⟨d, k, hk, fo, tape, tp, bits, sz, num⟩ := S
  obtain ⟨⟨np, nw, T, p0, p1, e0, hnp, e1, hnw, e6, hT, hon, e3, hp0, e4, hp1, honp, hper, h10, h11, h12, hwc⟩, hkd, hkb, ⟨tn, htn, etp⟩, hsz⟩ := hI
  exact ct_X8_undo ll g  hM 
theorem rf_tear (ll : Launch) (g : GT) {h : Hp} {t : Nat} {A : Nat → Nat} {S : OS} {N : Nat} (hM : MW g h t A S) (hI : SOk S N) (hN : N + 400 ≤ 204800) : MC ll g yX8_tear cX8_tear 2 (some .int) { frames := 0, cells := 0, slots := 0, locals := 0 } [.ref t] h (fun r h2 => r = some (.int (op_tear S).1) ∧ MW g h2 t A (op_tear S).2) 0 0 := by
  obtain ⟨d, k, hk, fo, tape, tp, bits, sz, num⟩ := S
  obtain ⟨⟨np, nw, T, p0, p1, e0, hnp, e1, hnw, e6, hT, hon, e3, hp0, e4, hp1, honp, hper, h10, h11, h12, hwc⟩, hkd, hkb, ⟨tn, htn, etp⟩, hsz⟩ := hI
  exact ct_X8_tear ll g  hM 
theorem rf_count (ll : Launch) (g : GT) {h : Hp} {t : Nat} {A : Nat → Nat} {S : OS} {N : Nat} (what_ : Int32) (hM : MW g h t A S) (hI : SOk S N) (hN : N + 400 ≤ 204800) : MC ll g yX8_count cX8_count 2 (some .int) { frames := 2, cells := 0, slots := 0, locals := 80 } [.ref t, .int what_] h (fun r h2 => r = some (.int (op_count S what_).1) ∧ MW g h2 t A (op_count S what_).2) 0 0 := by
  obtain ⟨d, k, hk, fo, tape, tp, bits, sz, num⟩ := S
  obtain ⟨⟨np, nw, T, p0, p1, e0, hnp, e1, hnw, e6, hT, hon, e3, hp0, e4, hp1, honp, hper, h10, h11, h12, hwc⟩, hkd, hkb, ⟨tn, htn, etp⟩, hsz⟩ := hI
  exact ct_X8_count ll g what_ hM e0 hnp
theorem rf_status (ll : Launch) (g : GT) {h : Hp} {t : Nat} {A : Nat → Nat} {S : OS} {N : Nat} (w_ : Int32) (hM : MW g h t A S) (hI : SOk S N) (hN : N + 400 ≤ 204800) : MC ll g yX8_status cX8_status 4 (some .int) { frames := 1, cells := 0, slots := 0, locals := 50 } [.ref t, .int w_] h (fun r h2 => r = some (.int (op_status S w_).1) ∧ MW g h2 t A (op_status S w_).2) 0 0 := by
  obtain ⟨d, k, hk, fo, tape, tp, bits, sz, num⟩ := S
  obtain ⟨⟨np, nw, T, p0, p1, e0, hnp, e1, hnw, e6, hT, hon, e3, hp0, e4, hp1, honp, hper, h10, h11, h12, hwc⟩, hkd, hkb, ⟨tn, htn, etp⟩, hsz⟩ := hI
  exact ct_X8_status ll g w_ hM 
