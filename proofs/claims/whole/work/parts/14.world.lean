/-! ===== the reference's world ===== -/
/-- what can be seen of a state: the row, the kept one, whether it is kept, the findings, the tape and how many bytes it has, the sheets -/
abbrev OS : Type := (Nat → Int32) × (Nat → Int32) × Int32 × (Nat → Int32) × (Nat → Int32) × Int32 × (Nat → Int32) × (Nat → Int32) × (Nat → Int64)
def MW (g : GT) (h : Hp) (t : Nat) (A : Nat → Nat) (S : OS) : Prop := match S with
  | (d, k, hk, fo, tape, tp, bits, sz, num) => ∃ (e : Nat → Int32) (lf : Nat → Int64) (sw0 sw1 pp fr tk wd vl wr : Int32), h t = some (ob 8 [.ref (A 0), .ref (A 1), .ref (A 2), .int hk, .ref (A 3), .int sw0, .int sw1, .ref (A 4), .int tp, .int pp, .int fr, .int tk, .int wd, .int vl, .int wr, .ref (A 5), .ref (A 6), .ref (A 7), .ref (A 8)]) ∧ h (A 0) = some (ai g 260 d) ∧ h (A 1) = some (ai g 260 e) ∧ h (A 2) = some (ai g 260 k) ∧ h (A 3) = some (ai g 7 fo) ∧ h (A 4) = some (ai g 100 tape) ∧ h (A 5) = some (ai g 4 bits) ∧ h (A 6) = some (ai g 4 sz) ∧ h (A 7) = some (al g 160 num) ∧ h (A 8) = some (al g 40 lf) ∧ A 0 ≠ A 1 ∧ A 0 ≠ A 2 ∧ A 1 ≠ A 2 ∧ A 5 ≠ A 6
theorem MW_d {g : GT} {h : Hp} {t : Nat} {A : Nat → Nat} {d k fo tape bits sz : Nat → Int32} {num : Nat → Int64} {hk tp : Int32} (hM : MW g h t A (d, k, hk, fo, tape, tp, bits, sz, num)) (d2 : Nat → Int32) : MW g (hU h (A 0) (ai g 260 d2)) t A (d2, k, hk, fo, tape, tp, bits, sz, num) := by
  obtain ⟨e, lf, sw0, sw1, pp, fr, tk, wd, vl, wr, m0, m1, m2, m3, m4, m5, m6, m7, m8, m9, n01, n02, n12, n56⟩ := hM
  exact ⟨e, lf, sw0, sw1, pp, fr, tk, wd, vl, wr, (hU_n (hneb m0 m1 rfl)).trans m0, hU_s, (hU_n (Ne.symm n01)).trans m2, (hU_n (Ne.symm n02)).trans m3, (hU_n (hneb m4 m1 rfl)).trans m4, (hU_n (hneb m5 m1 rfl)).trans m5, (hU_n (hneb m6 m1 rfl)).trans m6, (hU_n (hneb m7 m1 rfl)).trans m7, (hU_n (hneb m8 m1 rfl)).trans m8, (hU_n (hneb m9 m1 rfl)).trans m9, n01, n02, n12, n56⟩
theorem MW_e {g : GT} {h : Hp} {t : Nat} {A : Nat → Nat} {d k fo tape bits sz : Nat → Int32} {num : Nat → Int64} {hk tp : Int32} (hM : MW g h t A (d, k, hk, fo, tape, tp, bits, sz, num)) (e2 : Nat → Int32) : MW g (hU h (A 1) (ai g 260 e2)) t A (d, k, hk, fo, tape, tp, bits, sz, num) := by
  obtain ⟨e, lf, sw0, sw1, pp, fr, tk, wd, vl, wr, m0, m1, m2, m3, m4, m5, m6, m7, m8, m9, n01, n02, n12, n56⟩ := hM
  exact ⟨e2, lf, sw0, sw1, pp, fr, tk, wd, vl, wr, (hU_n (hneb m0 m2 rfl)).trans m0, (hU_n n01).trans m1, hU_s, (hU_n (Ne.symm n12)).trans m3, (hU_n (hneb m4 m2 rfl)).trans m4, (hU_n (hneb m5 m2 rfl)).trans m5, (hU_n (hneb m6 m2 rfl)).trans m6, (hU_n (hneb m7 m2 rfl)).trans m7, (hU_n (hneb m8 m2 rfl)).trans m8, (hU_n (hneb m9 m2 rfl)).trans m9, n01, n02, n12, n56⟩
theorem MW_k {g : GT} {h : Hp} {t : Nat} {A : Nat → Nat} {d k fo tape bits sz : Nat → Int32} {num : Nat → Int64} {hk tp : Int32} (hM : MW g h t A (d, k, hk, fo, tape, tp, bits, sz, num)) (k2 : Nat → Int32) : MW g (hU h (A 2) (ai g 260 k2)) t A (d, k2, hk, fo, tape, tp, bits, sz, num) := by
  obtain ⟨e, lf, sw0, sw1, pp, fr, tk, wd, vl, wr, m0, m1, m2, m3, m4, m5, m6, m7, m8, m9, n01, n02, n12, n56⟩ := hM
  exact ⟨e, lf, sw0, sw1, pp, fr, tk, wd, vl, wr, (hU_n (hneb m0 m3 rfl)).trans m0, (hU_n n02).trans m1, (hU_n n12).trans m2, hU_s, (hU_n (hneb m4 m3 rfl)).trans m4, (hU_n (hneb m5 m3 rfl)).trans m5, (hU_n (hneb m6 m3 rfl)).trans m6, (hU_n (hneb m7 m3 rfl)).trans m7, (hU_n (hneb m8 m3 rfl)).trans m8, (hU_n (hneb m9 m3 rfl)).trans m9, n01, n02, n12, n56⟩
theorem MW_fo {g : GT} {h : Hp} {t : Nat} {A : Nat → Nat} {d k fo tape bits sz : Nat → Int32} {num : Nat → Int64} {hk tp : Int32} (hM : MW g h t A (d, k, hk, fo, tape, tp, bits, sz, num)) (fo2 : Nat → Int32) : MW g (hU h (A 3) (ai g 7 fo2)) t A (d, k, hk, fo2, tape, tp, bits, sz, num) := by
  obtain ⟨e, lf, sw0, sw1, pp, fr, tk, wd, vl, wr, m0, m1, m2, m3, m4, m5, m6, m7, m8, m9, n01, n02, n12, n56⟩ := hM
  exact ⟨e, lf, sw0, sw1, pp, fr, tk, wd, vl, wr, (hU_n (hneb m0 m4 rfl)).trans m0, (hU_n (hneb m1 m4 rfl)).trans m1, (hU_n (hneb m2 m4 rfl)).trans m2, (hU_n (hneb m3 m4 rfl)).trans m3, hU_s, (hU_n (hneb m5 m4 rfl)).trans m5, (hU_n (hneb m6 m4 rfl)).trans m6, (hU_n (hneb m7 m4 rfl)).trans m7, (hU_n (hneb m8 m4 rfl)).trans m8, (hU_n (hneb m9 m4 rfl)).trans m9, n01, n02, n12, n56⟩
theorem MW_tape {g : GT} {h : Hp} {t : Nat} {A : Nat → Nat} {d k fo tape bits sz : Nat → Int32} {num : Nat → Int64} {hk tp : Int32} (hM : MW g h t A (d, k, hk, fo, tape, tp, bits, sz, num)) (tape2 : Nat → Int32) : MW g (hU h (A 4) (ai g 100 tape2)) t A (d, k, hk, fo, tape2, tp, bits, sz, num) := by
  obtain ⟨e, lf, sw0, sw1, pp, fr, tk, wd, vl, wr, m0, m1, m2, m3, m4, m5, m6, m7, m8, m9, n01, n02, n12, n56⟩ := hM
  exact ⟨e, lf, sw0, sw1, pp, fr, tk, wd, vl, wr, (hU_n (hneb m0 m5 rfl)).trans m0, (hU_n (hneb m1 m5 rfl)).trans m1, (hU_n (hneb m2 m5 rfl)).trans m2, (hU_n (hneb m3 m5 rfl)).trans m3, (hU_n (hneb m4 m5 rfl)).trans m4, hU_s, (hU_n (hneb m6 m5 rfl)).trans m6, (hU_n (hneb m7 m5 rfl)).trans m7, (hU_n (hneb m8 m5 rfl)).trans m8, (hU_n (hneb m9 m5 rfl)).trans m9, n01, n02, n12, n56⟩
theorem MW_bits {g : GT} {h : Hp} {t : Nat} {A : Nat → Nat} {d k fo tape bits sz : Nat → Int32} {num : Nat → Int64} {hk tp : Int32} (hM : MW g h t A (d, k, hk, fo, tape, tp, bits, sz, num)) (bits2 : Nat → Int32) : MW g (hU h (A 5) (ai g 4 bits2)) t A (d, k, hk, fo, tape, tp, bits2, sz, num) := by
  obtain ⟨e, lf, sw0, sw1, pp, fr, tk, wd, vl, wr, m0, m1, m2, m3, m4, m5, m6, m7, m8, m9, n01, n02, n12, n56⟩ := hM
  exact ⟨e, lf, sw0, sw1, pp, fr, tk, wd, vl, wr, (hU_n (hneb m0 m6 rfl)).trans m0, (hU_n (hneb m1 m6 rfl)).trans m1, (hU_n (hneb m2 m6 rfl)).trans m2, (hU_n (hneb m3 m6 rfl)).trans m3, (hU_n (hneb m4 m6 rfl)).trans m4, (hU_n (hneb m5 m6 rfl)).trans m5, hU_s, (hU_n (Ne.symm n56)).trans m7, (hU_n (hneb m8 m6 rfl)).trans m8, (hU_n (hneb m9 m6 rfl)).trans m9, n01, n02, n12, n56⟩
theorem MW_sz {g : GT} {h : Hp} {t : Nat} {A : Nat → Nat} {d k fo tape bits sz : Nat → Int32} {num : Nat → Int64} {hk tp : Int32} (hM : MW g h t A (d, k, hk, fo, tape, tp, bits, sz, num)) (sz2 : Nat → Int32) : MW g (hU h (A 6) (ai g 4 sz2)) t A (d, k, hk, fo, tape, tp, bits, sz2, num) := by
  obtain ⟨e, lf, sw0, sw1, pp, fr, tk, wd, vl, wr, m0, m1, m2, m3, m4, m5, m6, m7, m8, m9, n01, n02, n12, n56⟩ := hM
  exact ⟨e, lf, sw0, sw1, pp, fr, tk, wd, vl, wr, (hU_n (hneb m0 m7 rfl)).trans m0, (hU_n (hneb m1 m7 rfl)).trans m1, (hU_n (hneb m2 m7 rfl)).trans m2, (hU_n (hneb m3 m7 rfl)).trans m3, (hU_n (hneb m4 m7 rfl)).trans m4, (hU_n (hneb m5 m7 rfl)).trans m5, (hU_n n56).trans m6, hU_s, (hU_n (hneb m8 m7 rfl)).trans m8, (hU_n (hneb m9 m7 rfl)).trans m9, n01, n02, n12, n56⟩
theorem MW_num {g : GT} {h : Hp} {t : Nat} {A : Nat → Nat} {d k fo tape bits sz : Nat → Int32} {num : Nat → Int64} {hk tp : Int32} (hM : MW g h t A (d, k, hk, fo, tape, tp, bits, sz, num)) (num2 : Nat → Int64) : MW g (hU h (A 7) (al g 160 num2)) t A (d, k, hk, fo, tape, tp, bits, sz, num2) := by
  obtain ⟨e, lf, sw0, sw1, pp, fr, tk, wd, vl, wr, m0, m1, m2, m3, m4, m5, m6, m7, m8, m9, n01, n02, n12, n56⟩ := hM
  exact ⟨e, lf, sw0, sw1, pp, fr, tk, wd, vl, wr, (hU_n (hneb m0 m8 rfl)).trans m0, (hU_n (hneb m1 m8 rfl)).trans m1, (hU_n (hneb m2 m8 rfl)).trans m2, (hU_n (hneb m3 m8 rfl)).trans m3, (hU_n (hneb m4 m8 rfl)).trans m4, (hU_n (hneb m5 m8 rfl)).trans m5, (hU_n (hneb m6 m8 rfl)).trans m6, (hU_n (hneb m7 m8 rfl)).trans m7, hU_s, (hU_n (hneb m9 m8 rfl)).trans m9, n01, n02, n12, n56⟩
theorem MW_lf {g : GT} {h : Hp} {t : Nat} {A : Nat → Nat} {d k fo tape bits sz : Nat → Int32} {num : Nat → Int64} {hk tp : Int32} (hM : MW g h t A (d, k, hk, fo, tape, tp, bits, sz, num)) (lf2 : Nat → Int64) : MW g (hU h (A 8) (al g 40 lf2)) t A (d, k, hk, fo, tape, tp, bits, sz, num) := by
  obtain ⟨e, lf, sw0, sw1, pp, fr, tk, wd, vl, wr, m0, m1, m2, m3, m4, m5, m6, m7, m8, m9, n01, n02, n12, n56⟩ := hM
  exact ⟨e, lf2, sw0, sw1, pp, fr, tk, wd, vl, wr, (hU_n (hneb m0 m9 rfl)).trans m0, (hU_n (hneb m1 m9 rfl)).trans m1, (hU_n (hneb m2 m9 rfl)).trans m2, (hU_n (hneb m3 m9 rfl)).trans m3, (hU_n (hneb m4 m9 rfl)).trans m4, (hU_n (hneb m5 m9 rfl)).trans m5, (hU_n (hneb m6 m9 rfl)).trans m6, (hU_n (hneb m7 m9 rfl)).trans m7, (hU_n (hneb m8 m9 rfl)).trans m8, hU_s, n01, n02, n12, n56⟩
theorem MW_ob {g : GT} {h : Hp} {t : Nat} {A : Nat → Nat} {d k fo tape bits sz : Nat → Int32} {num : Nat → Int64} {hk tp : Int32} (hM : MW g h t A (d, k, hk, fo, tape, tp, bits, sz, num)) (hk2 sw02 sw12 tp2 pp2 fr2 tk2 wd2 vl2 wr2 : Int32) : MW g (hU h t (ob 8 [.ref (A 0), .ref (A 1), .ref (A 2), .int hk2, .ref (A 3), .int sw02, .int sw12, .ref (A 4), .int tp2, .int pp2, .int fr2, .int tk2, .int wd2, .int vl2, .int wr2, .ref (A 5), .ref (A 6), .ref (A 7), .ref (A 8)])) t A (d, k, hk2, fo, tape, tp2, bits, sz, num) := by
  obtain ⟨e, lf, sw0, sw1, pp, fr, tk, wd, vl, wr, m0, m1, m2, m3, m4, m5, m6, m7, m8, m9, n01, n02, n12, n56⟩ := hM
  exact ⟨e, lf, sw02, sw12, pp2, fr2, tk2, wd2, vl2, wr2, hU_s, (hU_n (hneb m1 m0 rfl)).trans m1, (hU_n (hneb m2 m0 rfl)).trans m2, (hU_n (hneb m3 m0 rfl)).trans m3, (hU_n (hneb m4 m0 rfl)).trans m4, (hU_n (hneb m5 m0 rfl)).trans m5, (hU_n (hneb m6 m0 rfl)).trans m6, (hU_n (hneb m7 m0 rfl)).trans m7, (hU_n (hneb m8 m0 rfl)).trans m8, (hU_n (hneb m9 m0 rfl)).trans m9, n01, n02, n12, n56⟩
def fnd (fo : Nat → Int32) (k : Nat) : Nat → Int32 := upd fo k (fo k + 1)
theorem l64 {x y : Int32} : x.toInt64 ≤ y.toInt64 ↔ x ≤ y := by
  rw [Int64.le_iff_toInt_le, Int32.toInt_toInt64, Int32.toInt_toInt64, Int32.le_iff_toInt_le]
theorem l64lt {x y : Int32} : x.toInt64 < y.toInt64 ↔ x < y := by
  rw [Int64.lt_iff_toInt_lt, Int32.toInt_toInt64, Int32.toInt_toInt64, Int32.lt_iff_toInt_lt]
theorem lcmp_lt {x y : Int64} (h : lg_cmp x y < 0) : x < y := by
  unfold lg_cmp at h
  by_cases h1 : x > y
  · rw [if_pos h1] at h; exact absurd h (by decide)
  · rw [if_neg h1] at h
    by_cases h2 : x = y
    · rw [if_pos h2] at h; exact absurd h (by decide)
    · exact Int64.lt_of_le_of_ne (Int64.not_lt.mp h1) h2
theorem lcmp_nlt {x y : Int64} (h : ¬ lg_cmp x y < 0) : ¬ x < y := by
  intro q
  refine h ?_
  unfold lg_cmp
  rw [if_neg (Int64.not_lt.mpr (Int64.le_of_lt q)), if_neg (fun e => by subst e; exact Int64.lt_irrefl q)]
  decide
theorem lcmp_gt {x y : Int64} (h : 0 < lg_cmp x y) : y < x := by
  unfold lg_cmp at h
  by_cases h1 : x > y
  · exact h1
  · rw [if_neg h1] at h
    by_cases h2 : x = y
    · rw [if_pos h2] at h; exact absurd h (by decide)
    · rw [if_neg h2] at h; exact absurd h (by decide)
theorem lcmp_ngt {x y : Int64} (h : ¬ 0 < lg_cmp x y) : ¬ y < x := by
  intro q
  refine h ?_
  unfold lg_cmp
  rw [if_pos q]; decide
theorem lcmp_0 {x y : Int64} : lg_cmp x y = 0 ↔ x = y := by
  unfold lg_cmp
  by_cases h1 : x > y
  · rw [if_pos h1]
    exact ⟨fun q => absurd q (by decide), fun q => by subst q; exact absurd h1 (Int64.lt_irrefl)⟩
  · rw [if_neg h1]
    by_cases h2 : x = y
    · rw [if_pos h2]; exact ⟨fun _ => h2, fun _ => rfl⟩
    · rw [if_neg h2]; exact ⟨fun q => absurd q (by decide), fun q => absurd q h2⟩
