/-! ===== how far the log can turn ===== -/
def iB (x : Int32) (b : Int) : Prop := -b ≤ x.toInt ∧ x.toInt ≤ b
theorem bmd {x : Int} (h1 : -2147483648 ≤ x) (h2 : x < 2147483648) : x.bmod (2 ^ 32) = x := by simp only [Int.bmod]; omega
theorem wiI {x a b : Int32} (h : wi x a b) : a.toInt ≤ x.toInt ∧ x.toInt ≤ b.toInt := ⟨Int32.le_iff_toInt_le.mp h.1, Int32.le_iff_toInt_le.mp h.2⟩
theorem tdP {a b k : Int} (hb : 0 < b) (h0 : 0 ≤ a) (h2 : a ≤ k * b) : 0 ≤ a.tdiv b ∧ a.tdiv b ≤ k := by
  rw [Int.tdiv_eq_ediv_of_nonneg h0]
  exact ⟨Int.ediv_nonneg h0 (by omega), Int.ediv_le_of_le_mul hb h2⟩
theorem tdB {a b k : Int} (hb : 0 < b) (h1 : -(k * b) ≤ a) (h2 : a ≤ k * b) : -k ≤ a.tdiv b ∧ a.tdiv b ≤ k := by
  by_cases h0 : 0 ≤ a
  · have := tdP hb h0 h2; omega
  · have h3 := tdP (a := -a) hb (by omega) (show -a ≤ k * b by omega)
    rw [Int.neg_tdiv] at h3
    omega
theorem mulB {x y k : Int} (hy : 0 ≤ y) (h1 : -k ≤ x) (h2 : x ≤ k) : -(k * y) ≤ x * y ∧ x * y ≤ k * y := by
  have a1 := Int.mul_le_mul_of_nonneg_right h1 hy
  rw [Int.neg_mul] at a1
  exact ⟨a1, Int.mul_le_mul_of_nonneg_right h2 hy⟩
theorem t2B {t w B : Int} (hw0 : 0 ≤ w) (hw : w ≤ 100) (h1 : -B ≤ t) (h2 : t ≤ B) : -B ≤ t - (t * w).tdiv 100 ∧ t - (t * w).tdiv 100 ≤ B ∧ -(B * 100) ≤ t * w ∧ t * w ≤ B * 100 ∧ -B ≤ (t * w).tdiv 100 ∧ (t * w).tdiv 100 ≤ B := by
  by_cases h0 : 0 ≤ t
  · have a1 := Int.mul_le_mul_of_nonneg_left hw h0
    have a2 := Int.mul_nonneg h0 hw0
    have a3 := tdP (k := t) (show (0 : Int) < 100 by decide) a2 a1
    omega
  · have a1 := Int.mul_le_mul_of_nonneg_left hw (show 0 ≤ -t by omega)
    have a2 := Int.mul_nonneg (show 0 ≤ -t by omega) hw0
    have a3 := tdP (k := -t) (show (0 : Int) < 100 by decide) a2 a1
    rw [Int.neg_mul] at a1 a2 a3
    rw [Int.neg_tdiv] at a3
    omega
theorem rB {r : Int32} (h : wi r 1 99) : iB r 99 := by
  have a : (1 : Int) ≤ r.toInt ∧ r.toInt ≤ 99 := wiI h
  exact ⟨by omega, a.2⟩
theorem zB {b : Int} (h : 0 ≤ b) : iB 0 b := ⟨by show -b ≤ (0 : Int); omega, by show (0 : Int) ≤ b; omega⟩
theorem nB {r : Int32} (h : wi r 1 99) : iB (-r) 99 := by
  have a : (1 : Int) ≤ r.toInt ∧ r.toInt ≤ 99 := wiI h
  unfold iB
  rw [Int32.toInt_neg, bmd (by omega) (by omega)]
  omega
theorem heldB {v r : Int32} (h : wi r 1 99) : iB (heldS v r) 99 := by
  have a : (1 : Int) ≤ r.toInt ∧ r.toInt ≤ 99 := wiI h
  have n : (-r).toInt = -r.toInt := by rw [Int32.toInt_neg, bmd (by omega) (by omega)]
  unfold heldS
  by_cases h1 : v < -r
  · rw [if_pos h1]; exact nB h
  · rw [if_neg h1]
    by_cases h2 : r < v
    · rw [if_pos h2]; exact rB h
    · rw [if_neg h2]
      rw [Int32.lt_iff_toInt_lt] at h1 h2
      unfold iB
      omega
theorem waitB {r e t : Int32} (h : wi r 1 99) : iB (waitS r e t) 99 := by
  have a : (1 : Int) ≤ r.toInt ∧ r.toInt ≤ 99 := wiI h
  unfold waitS
  by_cases h1 : 19 < t ∧ 1 ≤ e
  · rw [if_pos h1]
    have a3 : (3 : Int32).toInt = 3 := rfl
    have b := tdP (a := r.toInt) (b := 3) (k := 99) (by decide) (by omega) (by omega)
    unfold iB
    rw [Int32.toInt_div, a3, bmd (by omega) (by omega)]
    omega
  · rw [if_neg h1]; exact zB (by decide)
theorem deedB {x r s l : Int32} (h : wi r 1 99) : iB (deedS x r s l) 99 := by
  unfold deedS
  by_cases h1 : x = 0
  · rw [if_pos h1]; exact rB h
  · rw [if_neg h1]
    by_cases h2 : x = 1
    · rw [if_pos h2]; exact heldB h
    · rw [if_neg h2]
      by_cases h3 : x = 2
      · rw [if_pos h3]; exact nB h
      · rw [if_neg h3]
        by_cases h4 : x = 4
        · rw [if_pos h4]; exact heldB h
        · rw [if_neg h4]; exact zB (by decide)
theorem iteB {P : Prop} [Decidable P] {x y : Int32} {b : Int} (h1 : iB x b) (h2 : iB y b) : iB (if P then x else y) b := by
  by_cases h : P
  · rw [if_pos h]; exact h1
  · rw [if_neg h]; exact h2
theorem pushB {m : Nat → Int32} {p : Nat} {s l e t : Int32} (h : wi (told m p 3) 1 99) : iB (pushM m p s l e t) 99 :=
  iteB (iteB (rB h) (zB (by decide))) (iteB (heldB h) (iteB (iteB (heldB h) (nB h)) (iteB (waitB h) (iteB (iteB (deedB h) (waitB h)) (zB (by decide))))))
theorem pushesB {m : Nat → Int32} {p sd : Nat} (h : wi (told m p 3) 1 99) : iB (pushesM m p sd) 99 := iteB (pushB h) (zB (by decide))
theorem turn2_B {m : Nat → Int32} {p0 p1 T : Nat} (h5 : iB (m 5) (99 * T)) (hT : T + 1 ≤ 204800) (hr0 : wi (told m p0 3) 1 99) (hr1 : wi (told m p1 3) 1 99) (hw0 : wi (told m p0 1) 1 299) (hw1 : wi (told m p1 1) 1 299) (h10 : wi (m 10) 1 99) (h11 : wi (m 11) 0 50) (h12 : wi (m 12) 0 50) : iB (turn2 m p0 p1) (99 * (T + 1 : Nat)) ∧ 0 < m 10 * m 10 + told m p0 1 + told m p1 1 := by
  have a0 : iB (pushesM m p0 0) 99 := pushesB hr0
  have a1 : iB (pushesM m p1 1) 99 := pushesB hr1
  have b0 : (1 : Int) ≤ (told m p0 1).toInt ∧ (told m p0 1).toInt ≤ 299 := wiI hw0
  have b1 : (1 : Int) ≤ (told m p1 1).toInt ∧ (told m p1 1).toInt ≤ 299 := wiI hw1
  have c10 : (1 : Int) ≤ (m 10).toInt ∧ (m 10).toInt ≤ 99 := wiI h10
  have c11 : (0 : Int) ≤ (m 11).toInt ∧ (m 11).toInt ≤ 50 := wiI h11
  have c12 : (0 : Int) ≤ (m 12).toInt ∧ (m 12).toInt ≤ 50 := wiI h12
  obtain ⟨a01, a02⟩ := a0
  obtain ⟨a11, a12⟩ := a1
  obtain ⟨h51, h52⟩ := h5
  have p0' := mulB (show (0 : Int) ≤ (told m p0 1).toInt by omega) a01 a02
  have p1' := mulB (show (0 : Int) ≤ (told m p1 1).toInt by omega) a11 a12
  have q := mulB (show (0 : Int) ≤ (m 10).toInt by omega) (show -(99 : Int) ≤ (m 10).toInt by omega) (show (m 10).toInt ≤ 99 by omega)
  have q0 := Int.mul_nonneg (show (0 : Int) ≤ (m 10).toInt by omega) (show (0 : Int) ≤ (m 10).toInt by omega)
  have e1 : (pushesM m p0 0 * told m p0 1).toInt = (pushesM m p0 0).toInt * (told m p0 1).toInt := by rw [Int32.toInt_mul, bmd (by omega) (by omega)]
  have e2 : (pushesM m p1 1 * told m p1 1).toInt = (pushesM m p1 1).toInt * (told m p1 1).toInt := by rw [Int32.toInt_mul, bmd (by omega) (by omega)]
  have e3 : (pushesM m p0 0 * told m p0 1 + pushesM m p1 1 * told m p1 1).toInt = (pushesM m p0 0).toInt * (told m p0 1).toInt + (pushesM m p1 1).toInt * (told m p1 1).toInt := by rw [Int32.toInt_add, e1, e2, bmd (by omega) (by omega)]
  have e4 : (m 10 * m 10).toInt = (m 10).toInt * (m 10).toInt := by rw [Int32.toInt_mul, bmd (by omega) (by omega)]
  have e5 : (m 10 * m 10 + told m p0 1 + told m p1 1).toInt = (m 10).toInt * (m 10).toInt + (told m p0 1).toInt + (told m p1 1).toInt := by
    have e6 : (m 10 * m 10 + told m p0 1).toInt = (m 10).toInt * (m 10).toInt + (told m p0 1).toInt := by rw [Int32.toInt_add, e4, bmd (by omega) (by omega)]
    rw [Int32.toInt_add, e6, bmd (by omega) (by omega)]
  have k := tdB (a := (pushesM m p0 0).toInt * (told m p0 1).toInt + (pushesM m p1 1).toInt * (told m p1 1).toInt) (b := (m 10).toInt * (m 10).toInt + (told m p0 1).toInt + (told m p1 1).toInt) (k := 99) (by omega) (by omega) (by omega)
  have e7 : (turn1 m p0 p1).toInt = (m 5).toInt + ((pushesM m p0 0).toInt * (told m p0 1).toInt + (pushesM m p1 1).toInt * (told m p1 1).toInt).tdiv ((m 10).toInt * (m 10).toInt + (told m p0 1).toInt + (told m p1 1).toInt) := by
    unfold turn1
    rw [Int32.toInt_add, Int32.toInt_div, e3, e5, bmd (x := Int.tdiv _ _) (by omega) (by omega), bmd (by omega) (by omega)]
  have e8 : (m 11 + m 12).toInt = (m 11).toInt + (m 12).toInt := by rw [Int32.toInt_add, bmd (by omega) (by omega)]
  have f := t2B (t := (turn1 m p0 p1).toInt) (w := (m 11).toInt + (m 12).toInt) (B := 99 * (T + 1 : Nat)) (by omega) (by omega) (by rw [e7]; omega) (by rw [e7]; omega)
  have e100 : (100 : Int32).toInt = 100 := rfl
  refine ⟨?_, ?_⟩
  · unfold iB turn2
    rw [Int32.toInt_sub, Int32.toInt_div, Int32.toInt_mul, e8, e100, bmd (x := (turn1 m p0 p1).toInt * ((m 11).toInt + (m 12).toInt)) (by omega) (by omega), bmd (x := Int.tdiv _ _) (by omega) (by omega), bmd (by omega) (by omega)]
    omega
  · rw [Int32.lt_iff_toInt_lt, e5]
    show (0 : Int) < _
    omega
def RB (T : Nat) (tr : Nat → Int32) : Prop := ∀ j, j ≤ T → T ≤ j + 9 → iB (tr (j % 10)) (99 * T)
theorem iB_up {x : Int32} {a b : Int} (h : iB x a) (hab : a ≤ b) : iB x b := ⟨by have := h.1; omega, by have := h.2; omega⟩
theorem iB_ne {x : Int32} {T : Nat} (h : iB x (99 * T)) (hT : T ≤ 204800) : ¬ x = -2147483648 := by
  intro e
  have h1 := h.1
  rw [e] at h1
  have : (-2147483648 : Int32).toInt = -2147483648 := rfl
  omega
theorem sees_B {m tr : Nat → Int32} {p T lg : Nat} (hR : RingOk m T tr) (hT : m 6 = nI T) (hT2 : T < 2 ^ 30) (hl : told m p 2 = nI lg) (hlg : lg ≤ 9) (hB : RB T tr) : iB (seesM m p) (99 * T) := by
  by_cases h0 : 0 ≤ m 6 - told m p 2
  · obtain ⟨j, hj, ej⟩ := nI_of (Int32.not_lt.mpr h0)
    rw [sees_ring hR hT hT2 hl hlg ej hj]
    have e1 : (T : Int) - lg = j := by
      rw [hT, hl] at ej
      have := congrArg Int32.toInt ej
      rw [pk_sub_toInt hT2 (by omega), nI_toInt hj] at this
      exact this
    exact hB j (by omega) (by omega)
  · rw [sees_0 h0]; exact zB (by omega)
/-- what a tick needs, and leaves -/
def TOk (g : GT) (h : Hp) (wf : Nat → Option Nat) (m : Nat → Int32) (p0 p1 T : Nat) (tr : Nat → Int32) : Prop := RingOk m T tr ∧ m 6 = nI T ∧ RB T tr ∧ (∃ l, l ≤ 9 ∧ told m p0 2 = nI l) ∧ (∃ l, l ≤ 9 ∧ told m p1 2 = nI l) ∧ HW g h wf m p0 ∧ HW g h wf m p1 ∧ wi (told m p0 3) 1 99 ∧ wi (told m p1 3) 1 99 ∧ wi (told m p0 1) 1 299 ∧ wi (told m p1 1) 1 299 ∧ wi (m 10) 1 99 ∧ wi (m 11) 0 50 ∧ wi (m 12) 0 50
theorem HW_row {g : GT} {h : Hp} {wf : Nat → Option Nat} {m m2 : Nat → Int32} {p : Nat} (hw : HW g h wf m p) (e : ∀ j, 40 ≤ j → m2 j = m j) : HW g h wf m2 p := by
  have e6 : told m2 p 6 = told m p 6 := e _ (by omega)
  rcases hw with z | ⟨w, a, h1, h2, h3, c, n1, n2, n3, n4, f1, f2, f3, f4, k0, k1, k2, k3, k4, hc, ec, hr⟩
  · exact Or.inl (e6.trans z)
  · refine Or.inr ⟨w, a, e6.trans h1, h2, h3, c, n1, n2, n3, n4, f1, f2, f3, f4, k0, k1, k2, k3, k4, hc, (e _ (by omega)).trans ec, fun k hk => ?_⟩
    unfold RuleE
    rw [e (110 + 25 * w + 1 + 4 * k) (by omega), e (110 + 25 * w + 1 + 4 * k + 1) (by omega), e (110 + 25 * w + 1 + 4 * k + 2) (by omega), e (110 + 25 * w + 1 + 4 * k + 3) (by omega)]
    exact hr k hk
theorem gbA_5 {m : Nat → Int32} {p0 p1 T : Nat} : gbA m p0 p1 T 5 = turn2 m p0 p1 := by
  unfold gbA
  rw [pk_un (by decide), pk_un (by decide), pk_un (by decide), pk_un (by decide), pk_un (by decide), pk_un (by decide), pk_un (by decide), pk_us]
theorem gbA_r {m : Nat → Int32} {p0 p1 T j : Nat} (hj : j < 10) : gbA m p0 p1 T (24 + j) = if j = T % 10 then m 5 else m (24 + j) := by
  unfold gbA
  rw [pk_un (by omega), pk_un (by omega), pk_un (by omega), pk_un (by omega), pk_un (by omega), pk_un (by omega), pk_un (by omega), pk_un (by omega)]
  by_cases h : j = T % 10
  · rw [if_pos h, h, pk_us]
  · rw [if_neg h, pk_un (by omega), pk_un (by omega), pk_un (by omega)]
theorem TOk_step {g : GT} {h : Hp} {wf : Nat → Option Nat} {m tr : Nat → Int32} {p0 p1 T : Nat} (hk : TOk g h wf m p0 p1 T tr) (hT : T + 1 ≤ 204800) : TOk g h wf (gbA m p0 p1 T) p0 p1 (T + 1) (upd tr ((T + 1) % 10) (turn2 m p0 p1)) := by
  obtain ⟨hR, h6, hB, ⟨l0, hl0, el0⟩, ⟨l1, hl1, el1⟩, hw0, hw1, r0, r1, w0, w1, q10, q11, q12⟩ := hk
  have h5 : iB (m 5) (99 * T) := by rw [← hR.1]; exact hB T (Nat.le_refl _) (by omega)
  have t2 := (turn2_B (p0 := p0) (p1 := p1) h5 hT r0 r1 w0 w1 q10 q11 q12).1
  have k40 : ∀ j, 40 ≤ j → gbA m p0 p1 T j = m j := fun j hj => gbA_keep (by omega)
  refine ⟨⟨?_, fun j hj1 hj2 => ?_⟩, by rw [gbA_6, h6, nI_1], fun j hj1 hj2 => ?_, ⟨l0, hl0, gbA_told.trans el0⟩, ⟨l1, hl1, gbA_told.trans el1⟩, HW_row hw0 k40, HW_row hw1 k40, by rw [gbA_told]; exact r0, by rw [gbA_told]; exact r1, by rw [gbA_told]; exact w0, by rw [gbA_told]; exact w1, ?_, ?_, ?_⟩
  · rw [pk_us, gbA_5]
  · rw [pk_un (by omega), gbA_r (Nat.mod_lt _ (by decide))]
    by_cases z : j = T
    · subst z; rw [if_pos rfl]; exact hR.1
    · rw [if_neg (by omega)]
      exact hR.2 j (by omega) (by omega)
  · by_cases z : j = T + 1
    · subst z; rw [pk_us]; exact t2
    · rw [pk_un (by omega)]
      exact iB_up (hB j (by omega) (by omega)) (by omega)
  · rw [gbA_keep (by decide)]; exact q10
  · rw [gbA_keep (by decide)]; exact q11
  · rw [gbA_keep (by decide)]; exact q12
