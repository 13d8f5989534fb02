/-! ===== equal numbers, equal letters ===== -/
theorem st32 {p c : Int32} (h0 : 0 ≤ p.toInt) (h1 : p.toInt < 1048576) (hc : isL c) : (32 * p + c - 97 + 1).toInt = 32 * p.toInt + c.toInt - 96 ∧ (97 : Int) ≤ c.toInt ∧ c.toInt ≤ 122 := by
  have hd : (97 : Int) ≤ c.toInt ∧ c.toInt ≤ 122 := wiI hc
  have a1 : (32 : Int32).toInt = 32 := rfl
  have a2 : (97 : Int32).toInt = 97 := rfl
  have a3 : (1 : Int32).toInt = 1 := rfl
  refine ⟨?_, hd⟩
  rw [Int32.toInt_add, Int32.toInt_sub, Int32.toInt_add, Int32.toInt_mul, a1, a2, a3, bmd (x := 32 * p.toInt) (by omega) (by omega), bmd (x := 32 * p.toInt + c.toInt) (by omega) (by omega), bmd (x := 32 * p.toInt + c.toInt - 97) (by omega) (by omega), bmd (by omega) (by omega)]
  omega
theorem pw_5 {f : Nat → Int32} {J L : Nat} (hL : L ≤ 5) (h : ∀ k, k < L → isL (f (J + k))) : ∀ k, k < L → (pw f J (k + 1)).toInt = 32 * (pw f J k).toInt + (f (J + k)).toInt - 96 ∧ (97 : Int) ≤ (f (J + k)).toInt ∧ (f (J + k)).toInt ≤ 122 ∧ 0 ≤ (pw f J k).toInt ∧ (pw f J k).toInt < 32 ^ k := by
  intro k
  induction k with
  | zero =>
    intro hk
    have z : (pw f J 0).toInt = 0 := rfl
    obtain ⟨s1, s2, s3⟩ := st32 (p := pw f J 0) (by omega) (by omega) (h 0 hk)
    exact ⟨s1, s2, s3, by omega, by rw [z]; decide⟩
  | succ k ih =>
    intro hk
    obtain ⟨i1, i2, i3, i4, i5⟩ := ih (by omega)
    have e : (32 : Int) ^ (k + 1) = 32 ^ k * 32 := Int.pow_succ 32 k
    have b : (32 : Int) ^ (k + 1) ≤ 1048576 := by
      rcases (show k = 0 ∨ k = 1 ∨ k = 2 ∨ k = 3 by omega) with z | z | z | z <;> subst z <;> decide
    have g5 : (pw f J (k + 1)).toInt < 32 ^ (k + 1) := by omega
    obtain ⟨s1, s2, s3⟩ := st32 (p := pw f J (k + 1)) (by omega) (by omega) (h (k + 1) hk)
    exact ⟨s1, s2, s3, by omega, g5⟩
