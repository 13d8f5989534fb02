/-! ===== the ten words by their numbers ===== -/
theorem hw_0 {f : Nat → Int32} {J L : Nat} (hL : L ≤ 5) (h1 : 1 ≤ L) (h : ∀ k, k < L → isL (f (J + k))) (e : pw f J L = wcN 0) : L = 4 ∧ ∀ k, k < 4 → f (J + k) = chS 0 k := by
  have q := pw_5 hL h
  have eI : (pw f J L).toInt = 677454 := by rw [e]; decide +kernel
  have z0 : (pw f J 0).toInt = 0 := rfl
  rcases (show L = 1 ∨ L = 2 ∨ L = 3 ∨ L = 4 ∨ L = 5 by omega) with z | z | z | z | z
  · subst z
    have q0 : (pw f J 1).toInt = 32 * (pw f J 0).toInt + (f (J + 0)).toInt - 96 ∧ (97 : Int) ≤ (f (J + 0)).toInt ∧ (f (J + 0)).toInt ≤ 122 := ⟨(q 0 (by omega)).1, (q 0 (by omega)).2.1, (q 0 (by omega)).2.2.1⟩
    exfalso; omega
  · subst z
    have q0 : (pw f J 1).toInt = 32 * (pw f J 0).toInt + (f (J + 0)).toInt - 96 ∧ (97 : Int) ≤ (f (J + 0)).toInt ∧ (f (J + 0)).toInt ≤ 122 := ⟨(q 0 (by omega)).1, (q 0 (by omega)).2.1, (q 0 (by omega)).2.2.1⟩
    have q1 : (pw f J 2).toInt = 32 * (pw f J 1).toInt + (f (J + 1)).toInt - 96 ∧ (97 : Int) ≤ (f (J + 1)).toInt ∧ (f (J + 1)).toInt ≤ 122 := ⟨(q 1 (by omega)).1, (q 1 (by omega)).2.1, (q 1 (by omega)).2.2.1⟩
    exfalso; omega
  · subst z
    have q0 : (pw f J 1).toInt = 32 * (pw f J 0).toInt + (f (J + 0)).toInt - 96 ∧ (97 : Int) ≤ (f (J + 0)).toInt ∧ (f (J + 0)).toInt ≤ 122 := ⟨(q 0 (by omega)).1, (q 0 (by omega)).2.1, (q 0 (by omega)).2.2.1⟩
    have q1 : (pw f J 2).toInt = 32 * (pw f J 1).toInt + (f (J + 1)).toInt - 96 ∧ (97 : Int) ≤ (f (J + 1)).toInt ∧ (f (J + 1)).toInt ≤ 122 := ⟨(q 1 (by omega)).1, (q 1 (by omega)).2.1, (q 1 (by omega)).2.2.1⟩
    have q2 : (pw f J 3).toInt = 32 * (pw f J 2).toInt + (f (J + 2)).toInt - 96 ∧ (97 : Int) ≤ (f (J + 2)).toInt ∧ (f (J + 2)).toInt ≤ 122 := ⟨(q 2 (by omega)).1, (q 2 (by omega)).2.1, (q 2 (by omega)).2.2.1⟩
    exfalso; omega
  · subst z
    have q0 : (pw f J 1).toInt = 32 * (pw f J 0).toInt + (f (J + 0)).toInt - 96 ∧ (97 : Int) ≤ (f (J + 0)).toInt ∧ (f (J + 0)).toInt ≤ 122 := ⟨(q 0 (by omega)).1, (q 0 (by omega)).2.1, (q 0 (by omega)).2.2.1⟩
    have q1 : (pw f J 2).toInt = 32 * (pw f J 1).toInt + (f (J + 1)).toInt - 96 ∧ (97 : Int) ≤ (f (J + 1)).toInt ∧ (f (J + 1)).toInt ≤ 122 := ⟨(q 1 (by omega)).1, (q 1 (by omega)).2.1, (q 1 (by omega)).2.2.1⟩
    have q2 : (pw f J 3).toInt = 32 * (pw f J 2).toInt + (f (J + 2)).toInt - 96 ∧ (97 : Int) ≤ (f (J + 2)).toInt ∧ (f (J + 2)).toInt ≤ 122 := ⟨(q 2 (by omega)).1, (q 2 (by omega)).2.1, (q 2 (by omega)).2.2.1⟩
    have q3 : (pw f J 4).toInt = 32 * (pw f J 3).toInt + (f (J + 3)).toInt - 96 ∧ (97 : Int) ≤ (f (J + 3)).toInt ∧ (f (J + 3)).toInt ≤ 122 := ⟨(q 3 (by omega)).1, (q 3 (by omega)).2.1, (q 3 (by omega)).2.2.1⟩
    refine ⟨rfl, fun k hk => Int32.toInt_inj.mp ?_⟩
    rcases (show k = 0 ∨ k = 1 ∨ k = 2 ∨ k = 3 by omega) with z | z | z | z
    · subst z; show (f (J + 0)).toInt = 116; omega
    · subst z; show (f (J + 1)).toInt = 117; omega
    · subst z; show (f (J + 2)).toInt = 114; omega
    · subst z; show (f (J + 3)).toInt = 110; omega
  · subst z
    have q0 : (pw f J 1).toInt = 32 * (pw f J 0).toInt + (f (J + 0)).toInt - 96 ∧ (97 : Int) ≤ (f (J + 0)).toInt ∧ (f (J + 0)).toInt ≤ 122 := ⟨(q 0 (by omega)).1, (q 0 (by omega)).2.1, (q 0 (by omega)).2.2.1⟩
    have q1 : (pw f J 2).toInt = 32 * (pw f J 1).toInt + (f (J + 1)).toInt - 96 ∧ (97 : Int) ≤ (f (J + 1)).toInt ∧ (f (J + 1)).toInt ≤ 122 := ⟨(q 1 (by omega)).1, (q 1 (by omega)).2.1, (q 1 (by omega)).2.2.1⟩
    have q2 : (pw f J 3).toInt = 32 * (pw f J 2).toInt + (f (J + 2)).toInt - 96 ∧ (97 : Int) ≤ (f (J + 2)).toInt ∧ (f (J + 2)).toInt ≤ 122 := ⟨(q 2 (by omega)).1, (q 2 (by omega)).2.1, (q 2 (by omega)).2.2.1⟩
    have q3 : (pw f J 4).toInt = 32 * (pw f J 3).toInt + (f (J + 3)).toInt - 96 ∧ (97 : Int) ≤ (f (J + 3)).toInt ∧ (f (J + 3)).toInt ≤ 122 := ⟨(q 3 (by omega)).1, (q 3 (by omega)).2.1, (q 3 (by omega)).2.2.1⟩
    have q4 : (pw f J 5).toInt = 32 * (pw f J 4).toInt + (f (J + 4)).toInt - 96 ∧ (97 : Int) ≤ (f (J + 4)).toInt ∧ (f (J + 4)).toInt ≤ 122 := ⟨(q 4 (by omega)).1, (q 4 (by omega)).2.1, (q 4 (by omega)).2.2.1⟩
    exfalso; omega
theorem hw_1 {f : Nat → Int32} {J L : Nat} (hL : L ≤ 5) (h1 : 1 ≤ L) (h : ∀ k, k < L → isL (f (J + k))) (e : pw f J L = wcN 1) : L = 4 ∧ ∀ k, k < 4 → f (J + k) = chS 1 k := by
  have q := pw_5 hL h
  have eI : (pw f J L).toInt = 398382 := by rw [e]; decide +kernel
  have z0 : (pw f J 0).toInt = 0 := rfl
  rcases (show L = 1 ∨ L = 2 ∨ L = 3 ∨ L = 4 ∨ L = 5 by omega) with z | z | z | z | z
  · subst z
    have q0 : (pw f J 1).toInt = 32 * (pw f J 0).toInt + (f (J + 0)).toInt - 96 ∧ (97 : Int) ≤ (f (J + 0)).toInt ∧ (f (J + 0)).toInt ≤ 122 := ⟨(q 0 (by omega)).1, (q 0 (by omega)).2.1, (q 0 (by omega)).2.2.1⟩
    exfalso; omega
  · subst z
    have q0 : (pw f J 1).toInt = 32 * (pw f J 0).toInt + (f (J + 0)).toInt - 96 ∧ (97 : Int) ≤ (f (J + 0)).toInt ∧ (f (J + 0)).toInt ≤ 122 := ⟨(q 0 (by omega)).1, (q 0 (by omega)).2.1, (q 0 (by omega)).2.2.1⟩
    have q1 : (pw f J 2).toInt = 32 * (pw f J 1).toInt + (f (J + 1)).toInt - 96 ∧ (97 : Int) ≤ (f (J + 1)).toInt ∧ (f (J + 1)).toInt ≤ 122 := ⟨(q 1 (by omega)).1, (q 1 (by omega)).2.1, (q 1 (by omega)).2.2.1⟩
    exfalso; omega
  · subst z
    have q0 : (pw f J 1).toInt = 32 * (pw f J 0).toInt + (f (J + 0)).toInt - 96 ∧ (97 : Int) ≤ (f (J + 0)).toInt ∧ (f (J + 0)).toInt ≤ 122 := ⟨(q 0 (by omega)).1, (q 0 (by omega)).2.1, (q 0 (by omega)).2.2.1⟩
    have q1 : (pw f J 2).toInt = 32 * (pw f J 1).toInt + (f (J + 1)).toInt - 96 ∧ (97 : Int) ≤ (f (J + 1)).toInt ∧ (f (J + 1)).toInt ≤ 122 := ⟨(q 1 (by omega)).1, (q 1 (by omega)).2.1, (q 1 (by omega)).2.2.1⟩
    have q2 : (pw f J 3).toInt = 32 * (pw f J 2).toInt + (f (J + 2)).toInt - 96 ∧ (97 : Int) ≤ (f (J + 2)).toInt ∧ (f (J + 2)).toInt ≤ 122 := ⟨(q 2 (by omega)).1, (q 2 (by omega)).2.1, (q 2 (by omega)).2.2.1⟩
    exfalso; omega
  · subst z
    have q0 : (pw f J 1).toInt = 32 * (pw f J 0).toInt + (f (J + 0)).toInt - 96 ∧ (97 : Int) ≤ (f (J + 0)).toInt ∧ (f (J + 0)).toInt ≤ 122 := ⟨(q 0 (by omega)).1, (q 0 (by omega)).2.1, (q 0 (by omega)).2.2.1⟩
    have q1 : (pw f J 2).toInt = 32 * (pw f J 1).toInt + (f (J + 1)).toInt - 96 ∧ (97 : Int) ≤ (f (J + 1)).toInt ∧ (f (J + 1)).toInt ≤ 122 := ⟨(q 1 (by omega)).1, (q 1 (by omega)).2.1, (q 1 (by omega)).2.2.1⟩
    have q2 : (pw f J 3).toInt = 32 * (pw f J 2).toInt + (f (J + 2)).toInt - 96 ∧ (97 : Int) ≤ (f (J + 2)).toInt ∧ (f (J + 2)).toInt ≤ 122 := ⟨(q 2 (by omega)).1, (q 2 (by omega)).2.1, (q 2 (by omega)).2.2.1⟩
    have q3 : (pw f J 4).toInt = 32 * (pw f J 3).toInt + (f (J + 3)).toInt - 96 ∧ (97 : Int) ≤ (f (J + 3)).toInt ∧ (f (J + 3)).toInt ≤ 122 := ⟨(q 3 (by omega)).1, (q 3 (by omega)).2.1, (q 3 (by omega)).2.2.1⟩
    refine ⟨rfl, fun k hk => Int32.toInt_inj.mp ?_⟩
    rcases (show k = 0 ∨ k = 1 ∨ k = 2 ∨ k = 3 by omega) with z | z | z | z
    · subst z; show (f (J + 0)).toInt = 108; omega
    · subst z; show (f (J + 1)).toInt = 101; omega
    · subst z; show (f (J + 2)).toInt = 97; omega
    · subst z; show (f (J + 3)).toInt = 110; omega
  · subst z
    have q0 : (pw f J 1).toInt = 32 * (pw f J 0).toInt + (f (J + 0)).toInt - 96 ∧ (97 : Int) ≤ (f (J + 0)).toInt ∧ (f (J + 0)).toInt ≤ 122 := ⟨(q 0 (by omega)).1, (q 0 (by omega)).2.1, (q 0 (by omega)).2.2.1⟩
    have q1 : (pw f J 2).toInt = 32 * (pw f J 1).toInt + (f (J + 1)).toInt - 96 ∧ (97 : Int) ≤ (f (J + 1)).toInt ∧ (f (J + 1)).toInt ≤ 122 := ⟨(q 1 (by omega)).1, (q 1 (by omega)).2.1, (q 1 (by omega)).2.2.1⟩
    have q2 : (pw f J 3).toInt = 32 * (pw f J 2).toInt + (f (J + 2)).toInt - 96 ∧ (97 : Int) ≤ (f (J + 2)).toInt ∧ (f (J + 2)).toInt ≤ 122 := ⟨(q 2 (by omega)).1, (q 2 (by omega)).2.1, (q 2 (by omega)).2.2.1⟩
    have q3 : (pw f J 4).toInt = 32 * (pw f J 3).toInt + (f (J + 3)).toInt - 96 ∧ (97 : Int) ≤ (f (J + 3)).toInt ∧ (f (J + 3)).toInt ≤ 122 := ⟨(q 3 (by omega)).1, (q 3 (by omega)).2.1, (q 3 (by omega)).2.2.1⟩
    have q4 : (pw f J 5).toInt = 32 * (pw f J 4).toInt + (f (J + 4)).toInt - 96 ∧ (97 : Int) ≤ (f (J + 4)).toInt ∧ (f (J + 4)).toInt ≤ 122 := ⟨(q 4 (by omega)).1, (q 4 (by omega)).2.1, (q 4 (by omega)).2.2.1⟩
    exfalso; omega
theorem hw_2 {f : Nat → Int32} {J L : Nat} (hL : L ≤ 5) (h1 : 1 ≤ L) (h : ∀ k, k < L → isL (f (J + k))) (e : pw f J L = wcN 2) : L = 4 ∧ ∀ k, k < 4 → f (J + k) = chS 2 k := by
  have q := pw_5 hL h
  have eI : (pw f J L).toInt = 398548 := by rw [e]; decide +kernel
  have z0 : (pw f J 0).toInt = 0 := rfl
  rcases (show L = 1 ∨ L = 2 ∨ L = 3 ∨ L = 4 ∨ L = 5 by omega) with z | z | z | z | z
  · subst z
    have q0 : (pw f J 1).toInt = 32 * (pw f J 0).toInt + (f (J + 0)).toInt - 96 ∧ (97 : Int) ≤ (f (J + 0)).toInt ∧ (f (J + 0)).toInt ≤ 122 := ⟨(q 0 (by omega)).1, (q 0 (by omega)).2.1, (q 0 (by omega)).2.2.1⟩
    exfalso; omega
  · subst z
    have q0 : (pw f J 1).toInt = 32 * (pw f J 0).toInt + (f (J + 0)).toInt - 96 ∧ (97 : Int) ≤ (f (J + 0)).toInt ∧ (f (J + 0)).toInt ≤ 122 := ⟨(q 0 (by omega)).1, (q 0 (by omega)).2.1, (q 0 (by omega)).2.2.1⟩
    have q1 : (pw f J 2).toInt = 32 * (pw f J 1).toInt + (f (J + 1)).toInt - 96 ∧ (97 : Int) ≤ (f (J + 1)).toInt ∧ (f (J + 1)).toInt ≤ 122 := ⟨(q 1 (by omega)).1, (q 1 (by omega)).2.1, (q 1 (by omega)).2.2.1⟩
    exfalso; omega
  · subst z
    have q0 : (pw f J 1).toInt = 32 * (pw f J 0).toInt + (f (J + 0)).toInt - 96 ∧ (97 : Int) ≤ (f (J + 0)).toInt ∧ (f (J + 0)).toInt ≤ 122 := ⟨(q 0 (by omega)).1, (q 0 (by omega)).2.1, (q 0 (by omega)).2.2.1⟩
    have q1 : (pw f J 2).toInt = 32 * (pw f J 1).toInt + (f (J + 1)).toInt - 96 ∧ (97 : Int) ≤ (f (J + 1)).toInt ∧ (f (J + 1)).toInt ≤ 122 := ⟨(q 1 (by omega)).1, (q 1 (by omega)).2.1, (q 1 (by omega)).2.2.1⟩
    have q2 : (pw f J 3).toInt = 32 * (pw f J 2).toInt + (f (J + 2)).toInt - 96 ∧ (97 : Int) ≤ (f (J + 2)).toInt ∧ (f (J + 2)).toInt ≤ 122 := ⟨(q 2 (by omega)).1, (q 2 (by omega)).2.1, (q 2 (by omega)).2.2.1⟩
    exfalso; omega
  · subst z
    have q0 : (pw f J 1).toInt = 32 * (pw f J 0).toInt + (f (J + 0)).toInt - 96 ∧ (97 : Int) ≤ (f (J + 0)).toInt ∧ (f (J + 0)).toInt ≤ 122 := ⟨(q 0 (by omega)).1, (q 0 (by omega)).2.1, (q 0 (by omega)).2.2.1⟩
    have q1 : (pw f J 2).toInt = 32 * (pw f J 1).toInt + (f (J + 1)).toInt - 96 ∧ (97 : Int) ≤ (f (J + 1)).toInt ∧ (f (J + 1)).toInt ≤ 122 := ⟨(q 1 (by omega)).1, (q 1 (by omega)).2.1, (q 1 (by omega)).2.2.1⟩
    have q2 : (pw f J 3).toInt = 32 * (pw f J 2).toInt + (f (J + 2)).toInt - 96 ∧ (97 : Int) ≤ (f (J + 2)).toInt ∧ (f (J + 2)).toInt ≤ 122 := ⟨(q 2 (by omega)).1, (q 2 (by omega)).2.1, (q 2 (by omega)).2.2.1⟩
    have q3 : (pw f J 4).toInt = 32 * (pw f J 3).toInt + (f (J + 3)).toInt - 96 ∧ (97 : Int) ≤ (f (J + 3)).toInt ∧ (f (J + 3)).toInt ≤ 122 := ⟨(q 3 (by omega)).1, (q 3 (by omega)).2.1, (q 3 (by omega)).2.2.1⟩
    refine ⟨rfl, fun k hk => Int32.toInt_inj.mp ?_⟩
    rcases (show k = 0 ∨ k = 1 ∨ k = 2 ∨ k = 3 by omega) with z | z | z | z
    · subst z; show (f (J + 0)).toInt = 108; omega
    · subst z; show (f (J + 1)).toInt = 101; omega
    · subst z; show (f (J + 2)).toInt = 102; omega
    · subst z; show (f (J + 3)).toInt = 116; omega
  · subst z
    have q0 : (pw f J 1).toInt = 32 * (pw f J 0).toInt + (f (J + 0)).toInt - 96 ∧ (97 : Int) ≤ (f (J + 0)).toInt ∧ (f (J + 0)).toInt ≤ 122 := ⟨(q 0 (by omega)).1, (q 0 (by omega)).2.1, (q 0 (by omega)).2.2.1⟩
    have q1 : (pw f J 2).toInt = 32 * (pw f J 1).toInt + (f (J + 1)).toInt - 96 ∧ (97 : Int) ≤ (f (J + 1)).toInt ∧ (f (J + 1)).toInt ≤ 122 := ⟨(q 1 (by omega)).1, (q 1 (by omega)).2.1, (q 1 (by omega)).2.2.1⟩
    have q2 : (pw f J 3).toInt = 32 * (pw f J 2).toInt + (f (J + 2)).toInt - 96 ∧ (97 : Int) ≤ (f (J + 2)).toInt ∧ (f (J + 2)).toInt ≤ 122 := ⟨(q 2 (by omega)).1, (q 2 (by omega)).2.1, (q 2 (by omega)).2.2.1⟩
    have q3 : (pw f J 4).toInt = 32 * (pw f J 3).toInt + (f (J + 3)).toInt - 96 ∧ (97 : Int) ≤ (f (J + 3)).toInt ∧ (f (J + 3)).toInt ≤ 122 := ⟨(q 3 (by omega)).1, (q 3 (by omega)).2.1, (q 3 (by omega)).2.2.1⟩
    have q4 : (pw f J 5).toInt = 32 * (pw f J 4).toInt + (f (J + 4)).toInt - 96 ∧ (97 : Int) ≤ (f (J + 4)).toInt ∧ (f (J + 4)).toInt ≤ 122 := ⟨(q 4 (by omega)).1, (q 4 (by omega)).2.1, (q 4 (by omega)).2.2.1⟩
    exfalso; omega
theorem hw_3 {f : Nat → Int32} {J L : Nat} (hL : L ≤ 5) (h1 : 1 ≤ L) (h : ∀ k, k < L → isL (f (J + k))) (e : pw f J L = wcN 3) : L = 4 ∧ ∀ k, k < 4 → f (J + k) = chS 3 k := by
  have q := pw_5 hL h
  have eI : (pw f J L).toInt = 664683 := by rw [e]; decide +kernel
  have z0 : (pw f J 0).toInt = 0 := rfl
  rcases (show L = 1 ∨ L = 2 ∨ L = 3 ∨ L = 4 ∨ L = 5 by omega) with z | z | z | z | z
  · subst z
    have q0 : (pw f J 1).toInt = 32 * (pw f J 0).toInt + (f (J + 0)).toInt - 96 ∧ (97 : Int) ≤ (f (J + 0)).toInt ∧ (f (J + 0)).toInt ≤ 122 := ⟨(q 0 (by omega)).1, (q 0 (by omega)).2.1, (q 0 (by omega)).2.2.1⟩
    exfalso; omega
  · subst z
    have q0 : (pw f J 1).toInt = 32 * (pw f J 0).toInt + (f (J + 0)).toInt - 96 ∧ (97 : Int) ≤ (f (J + 0)).toInt ∧ (f (J + 0)).toInt ≤ 122 := ⟨(q 0 (by omega)).1, (q 0 (by omega)).2.1, (q 0 (by omega)).2.2.1⟩
    have q1 : (pw f J 2).toInt = 32 * (pw f J 1).toInt + (f (J + 1)).toInt - 96 ∧ (97 : Int) ≤ (f (J + 1)).toInt ∧ (f (J + 1)).toInt ≤ 122 := ⟨(q 1 (by omega)).1, (q 1 (by omega)).2.1, (q 1 (by omega)).2.2.1⟩
    exfalso; omega
  · subst z
    have q0 : (pw f J 1).toInt = 32 * (pw f J 0).toInt + (f (J + 0)).toInt - 96 ∧ (97 : Int) ≤ (f (J + 0)).toInt ∧ (f (J + 0)).toInt ≤ 122 := ⟨(q 0 (by omega)).1, (q 0 (by omega)).2.1, (q 0 (by omega)).2.2.1⟩
    have q1 : (pw f J 2).toInt = 32 * (pw f J 1).toInt + (f (J + 1)).toInt - 96 ∧ (97 : Int) ≤ (f (J + 1)).toInt ∧ (f (J + 1)).toInt ≤ 122 := ⟨(q 1 (by omega)).1, (q 1 (by omega)).2.1, (q 1 (by omega)).2.2.1⟩
    have q2 : (pw f J 3).toInt = 32 * (pw f J 2).toInt + (f (J + 2)).toInt - 96 ∧ (97 : Int) ≤ (f (J + 2)).toInt ∧ (f (J + 2)).toInt ≤ 122 := ⟨(q 2 (by omega)).1, (q 2 (by omega)).2.1, (q 2 (by omega)).2.2.1⟩
    exfalso; omega
  · subst z
    have q0 : (pw f J 1).toInt = 32 * (pw f J 0).toInt + (f (J + 0)).toInt - 96 ∧ (97 : Int) ≤ (f (J + 0)).toInt ∧ (f (J + 0)).toInt ≤ 122 := ⟨(q 0 (by omega)).1, (q 0 (by omega)).2.1, (q 0 (by omega)).2.2.1⟩
    have q1 : (pw f J 2).toInt = 32 * (pw f J 1).toInt + (f (J + 1)).toInt - 96 ∧ (97 : Int) ≤ (f (J + 1)).toInt ∧ (f (J + 1)).toInt ≤ 122 := ⟨(q 1 (by omega)).1, (q 1 (by omega)).2.1, (q 1 (by omega)).2.2.1⟩
    have q2 : (pw f J 3).toInt = 32 * (pw f J 2).toInt + (f (J + 2)).toInt - 96 ∧ (97 : Int) ≤ (f (J + 2)).toInt ∧ (f (J + 2)).toInt ≤ 122 := ⟨(q 2 (by omega)).1, (q 2 (by omega)).2.1, (q 2 (by omega)).2.2.1⟩
    have q3 : (pw f J 4).toInt = 32 * (pw f J 3).toInt + (f (J + 3)).toInt - 96 ∧ (97 : Int) ≤ (f (J + 3)).toInt ∧ (f (J + 3)).toInt ≤ 122 := ⟨(q 3 (by omega)).1, (q 3 (by omega)).2.1, (q 3 (by omega)).2.2.1⟩
    refine ⟨rfl, fun k hk => Int32.toInt_inj.mp ?_⟩
    rcases (show k = 0 ∨ k = 1 ∨ k = 2 ∨ k = 3 by omega) with z | z | z | z
    · subst z; show (f (J + 0)).toInt = 116; omega
    · subst z; show (f (J + 1)).toInt = 105; omega
    · subst z; show (f (J + 2)).toInt = 99; omega
    · subst z; show (f (J + 3)).toInt = 107; omega
  · subst z
    have q0 : (pw f J 1).toInt = 32 * (pw f J 0).toInt + (f (J + 0)).toInt - 96 ∧ (97 : Int) ≤ (f (J + 0)).toInt ∧ (f (J + 0)).toInt ≤ 122 := ⟨(q 0 (by omega)).1, (q 0 (by omega)).2.1, (q 0 (by omega)).2.2.1⟩
    have q1 : (pw f J 2).toInt = 32 * (pw f J 1).toInt + (f (J + 1)).toInt - 96 ∧ (97 : Int) ≤ (f (J + 1)).toInt ∧ (f (J + 1)).toInt ≤ 122 := ⟨(q 1 (by omega)).1, (q 1 (by omega)).2.1, (q 1 (by omega)).2.2.1⟩
    have q2 : (pw f J 3).toInt = 32 * (pw f J 2).toInt + (f (J + 2)).toInt - 96 ∧ (97 : Int) ≤ (f (J + 2)).toInt ∧ (f (J + 2)).toInt ≤ 122 := ⟨(q 2 (by omega)).1, (q 2 (by omega)).2.1, (q 2 (by omega)).2.2.1⟩
    have q3 : (pw f J 4).toInt = 32 * (pw f J 3).toInt + (f (J + 3)).toInt - 96 ∧ (97 : Int) ≤ (f (J + 3)).toInt ∧ (f (J + 3)).toInt ≤ 122 := ⟨(q 3 (by omega)).1, (q 3 (by omega)).2.1, (q 3 (by omega)).2.2.1⟩
    have q4 : (pw f J 5).toInt = 32 * (pw f J 4).toInt + (f (J + 4)).toInt - 96 ∧ (97 : Int) ≤ (f (J + 4)).toInt ∧ (f (J + 4)).toInt ≤ 122 := ⟨(q 4 (by omega)).1, (q 4 (by omega)).2.1, (q 4 (by omega)).2.2.1⟩
    exfalso; omega
theorem hw_4 {f : Nat → Int32} {J L : Nat} (hL : L ≤ 5) (h1 : 1 ≤ L) (h : ∀ k, k < L → isL (f (J + k))) (e : pw f J L = wcN 4) : L = 4 ∧ ∀ k, k < 4 → f (J + k) = chS 4 k := by
  have q := pw_5 hL h
  have eI : (pw f J L).toInt = 176741 := by rw [e]; decide +kernel
  have z0 : (pw f J 0).toInt = 0 := rfl
  rcases (show L = 1 ∨ L = 2 ∨ L = 3 ∨ L = 4 ∨ L = 5 by omega) with z | z | z | z | z
  · subst z
    have q0 : (pw f J 1).toInt = 32 * (pw f J 0).toInt + (f (J + 0)).toInt - 96 ∧ (97 : Int) ≤ (f (J + 0)).toInt ∧ (f (J + 0)).toInt ≤ 122 := ⟨(q 0 (by omega)).1, (q 0 (by omega)).2.1, (q 0 (by omega)).2.2.1⟩
    exfalso; omega
  · subst z
    have q0 : (pw f J 1).toInt = 32 * (pw f J 0).toInt + (f (J + 0)).toInt - 96 ∧ (97 : Int) ≤ (f (J + 0)).toInt ∧ (f (J + 0)).toInt ≤ 122 := ⟨(q 0 (by omega)).1, (q 0 (by omega)).2.1, (q 0 (by omega)).2.2.1⟩
    have q1 : (pw f J 2).toInt = 32 * (pw f J 1).toInt + (f (J + 1)).toInt - 96 ∧ (97 : Int) ≤ (f (J + 1)).toInt ∧ (f (J + 1)).toInt ≤ 122 := ⟨(q 1 (by omega)).1, (q 1 (by omega)).2.1, (q 1 (by omega)).2.2.1⟩
    exfalso; omega
  · subst z
    have q0 : (pw f J 1).toInt = 32 * (pw f J 0).toInt + (f (J + 0)).toInt - 96 ∧ (97 : Int) ≤ (f (J + 0)).toInt ∧ (f (J + 0)).toInt ≤ 122 := ⟨(q 0 (by omega)).1, (q 0 (by omega)).2.1, (q 0 (by omega)).2.2.1⟩
    have q1 : (pw f J 2).toInt = 32 * (pw f J 1).toInt + (f (J + 1)).toInt - 96 ∧ (97 : Int) ≤ (f (J + 1)).toInt ∧ (f (J + 1)).toInt ≤ 122 := ⟨(q 1 (by omega)).1, (q 1 (by omega)).2.1, (q 1 (by omega)).2.2.1⟩
    have q2 : (pw f J 3).toInt = 32 * (pw f J 2).toInt + (f (J + 2)).toInt - 96 ∧ (97 : Int) ≤ (f (J + 2)).toInt ∧ (f (J + 2)).toInt ≤ 122 := ⟨(q 2 (by omega)).1, (q 2 (by omega)).2.1, (q 2 (by omega)).2.2.1⟩
    exfalso; omega
  · subst z
    have q0 : (pw f J 1).toInt = 32 * (pw f J 0).toInt + (f (J + 0)).toInt - 96 ∧ (97 : Int) ≤ (f (J + 0)).toInt ∧ (f (J + 0)).toInt ≤ 122 := ⟨(q 0 (by omega)).1, (q 0 (by omega)).2.1, (q 0 (by omega)).2.2.1⟩
    have q1 : (pw f J 2).toInt = 32 * (pw f J 1).toInt + (f (J + 1)).toInt - 96 ∧ (97 : Int) ≤ (f (J + 1)).toInt ∧ (f (J + 1)).toInt ≤ 122 := ⟨(q 1 (by omega)).1, (q 1 (by omega)).2.1, (q 1 (by omega)).2.2.1⟩
    have q2 : (pw f J 3).toInt = 32 * (pw f J 2).toInt + (f (J + 2)).toInt - 96 ∧ (97 : Int) ≤ (f (J + 2)).toInt ∧ (f (J + 2)).toInt ≤ 122 := ⟨(q 2 (by omega)).1, (q 2 (by omega)).2.1, (q 2 (by omega)).2.2.1⟩
    have q3 : (pw f J 4).toInt = 32 * (pw f J 3).toInt + (f (J + 3)).toInt - 96 ∧ (97 : Int) ≤ (f (J + 3)).toInt ∧ (f (J + 3)).toInt ≤ 122 := ⟨(q 3 (by omega)).1, (q 3 (by omega)).2.1, (q 3 (by omega)).2.2.1⟩
    refine ⟨rfl, fun k hk => Int32.toInt_inj.mp ?_⟩
    rcases (show k = 0 ∨ k = 1 ∨ k = 2 ∨ k = 3 by omega) with z | z | z | z
    · subst z; show (f (J + 0)).toInt = 101; omega
    · subst z; show (f (J + 1)).toInt = 108; omega
    · subst z; show (f (J + 2)).toInt = 115; omega
    · subst z; show (f (J + 3)).toInt = 101; omega
  · subst z
    have q0 : (pw f J 1).toInt = 32 * (pw f J 0).toInt + (f (J + 0)).toInt - 96 ∧ (97 : Int) ≤ (f (J + 0)).toInt ∧ (f (J + 0)).toInt ≤ 122 := ⟨(q 0 (by omega)).1, (q 0 (by omega)).2.1, (q 0 (by omega)).2.2.1⟩
    have q1 : (pw f J 2).toInt = 32 * (pw f J 1).toInt + (f (J + 1)).toInt - 96 ∧ (97 : Int) ≤ (f (J + 1)).toInt ∧ (f (J + 1)).toInt ≤ 122 := ⟨(q 1 (by omega)).1, (q 1 (by omega)).2.1, (q 1 (by omega)).2.2.1⟩
    have q2 : (pw f J 3).toInt = 32 * (pw f J 2).toInt + (f (J + 2)).toInt - 96 ∧ (97 : Int) ≤ (f (J + 2)).toInt ∧ (f (J + 2)).toInt ≤ 122 := ⟨(q 2 (by omega)).1, (q 2 (by omega)).2.1, (q 2 (by omega)).2.2.1⟩
    have q3 : (pw f J 4).toInt = 32 * (pw f J 3).toInt + (f (J + 3)).toInt - 96 ∧ (97 : Int) ≤ (f (J + 3)).toInt ∧ (f (J + 3)).toInt ≤ 122 := ⟨(q 3 (by omega)).1, (q 3 (by omega)).2.1, (q 3 (by omega)).2.2.1⟩
    have q4 : (pw f J 5).toInt = 32 * (pw f J 4).toInt + (f (J + 4)).toInt - 96 ∧ (97 : Int) ≤ (f (J + 4)).toInt ∧ (f (J + 4)).toInt ≤ 122 := ⟨(q 4 (by omega)).1, (q 4 (by omega)).2.1, (q 4 (by omega)).2.2.1⟩
    exfalso; omega
theorem hw_5 {f : Nat → Int32} {J L : Nat} (hL : L ≤ 5) (h1 : 1 ≤ L) (h : ∀ k, k < L → isL (f (J + k))) (e : pw f J L = wcN 5) : L = 3 ∧ ∀ k, k < 3 → f (J + k) = chS 5 k := by
  have q := pw_5 hL h
  have eI : (pw f J L).toInt = 19118 := by rw [e]; decide +kernel
  have z0 : (pw f J 0).toInt = 0 := rfl
  rcases (show L = 1 ∨ L = 2 ∨ L = 3 ∨ L = 4 ∨ L = 5 by omega) with z | z | z | z | z
  · subst z
    have q0 : (pw f J 1).toInt = 32 * (pw f J 0).toInt + (f (J + 0)).toInt - 96 ∧ (97 : Int) ≤ (f (J + 0)).toInt ∧ (f (J + 0)).toInt ≤ 122 := ⟨(q 0 (by omega)).1, (q 0 (by omega)).2.1, (q 0 (by omega)).2.2.1⟩
    exfalso; omega
  · subst z
    have q0 : (pw f J 1).toInt = 32 * (pw f J 0).toInt + (f (J + 0)).toInt - 96 ∧ (97 : Int) ≤ (f (J + 0)).toInt ∧ (f (J + 0)).toInt ≤ 122 := ⟨(q 0 (by omega)).1, (q 0 (by omega)).2.1, (q 0 (by omega)).2.2.1⟩
    have q1 : (pw f J 2).toInt = 32 * (pw f J 1).toInt + (f (J + 1)).toInt - 96 ∧ (97 : Int) ≤ (f (J + 1)).toInt ∧ (f (J + 1)).toInt ≤ 122 := ⟨(q 1 (by omega)).1, (q 1 (by omega)).2.1, (q 1 (by omega)).2.2.1⟩
    exfalso; omega
  · subst z
    have q0 : (pw f J 1).toInt = 32 * (pw f J 0).toInt + (f (J + 0)).toInt - 96 ∧ (97 : Int) ≤ (f (J + 0)).toInt ∧ (f (J + 0)).toInt ≤ 122 := ⟨(q 0 (by omega)).1, (q 0 (by omega)).2.1, (q 0 (by omega)).2.2.1⟩
    have q1 : (pw f J 2).toInt = 32 * (pw f J 1).toInt + (f (J + 1)).toInt - 96 ∧ (97 : Int) ≤ (f (J + 1)).toInt ∧ (f (J + 1)).toInt ≤ 122 := ⟨(q 1 (by omega)).1, (q 1 (by omega)).2.1, (q 1 (by omega)).2.2.1⟩
    have q2 : (pw f J 3).toInt = 32 * (pw f J 2).toInt + (f (J + 2)).toInt - 96 ∧ (97 : Int) ≤ (f (J + 2)).toInt ∧ (f (J + 2)).toInt ≤ 122 := ⟨(q 2 (by omega)).1, (q 2 (by omega)).2.1, (q 2 (by omega)).2.2.1⟩
    refine ⟨rfl, fun k hk => Int32.toInt_inj.mp ?_⟩
    rcases (show k = 0 ∨ k = 1 ∨ k = 2 by omega) with z | z | z
    · subst z; show (f (J + 0)).toInt = 114; omega
    · subst z; show (f (J + 1)).toInt = 117; omega
    · subst z; show (f (J + 2)).toInt = 110; omega
  · subst z
    have q0 : (pw f J 1).toInt = 32 * (pw f J 0).toInt + (f (J + 0)).toInt - 96 ∧ (97 : Int) ≤ (f (J + 0)).toInt ∧ (f (J + 0)).toInt ≤ 122 := ⟨(q 0 (by omega)).1, (q 0 (by omega)).2.1, (q 0 (by omega)).2.2.1⟩
    have q1 : (pw f J 2).toInt = 32 * (pw f J 1).toInt + (f (J + 1)).toInt - 96 ∧ (97 : Int) ≤ (f (J + 1)).toInt ∧ (f (J + 1)).toInt ≤ 122 := ⟨(q 1 (by omega)).1, (q 1 (by omega)).2.1, (q 1 (by omega)).2.2.1⟩
    have q2 : (pw f J 3).toInt = 32 * (pw f J 2).toInt + (f (J + 2)).toInt - 96 ∧ (97 : Int) ≤ (f (J + 2)).toInt ∧ (f (J + 2)).toInt ≤ 122 := ⟨(q 2 (by omega)).1, (q 2 (by omega)).2.1, (q 2 (by omega)).2.2.1⟩
    have q3 : (pw f J 4).toInt = 32 * (pw f J 3).toInt + (f (J + 3)).toInt - 96 ∧ (97 : Int) ≤ (f (J + 3)).toInt ∧ (f (J + 3)).toInt ≤ 122 := ⟨(q 3 (by omega)).1, (q 3 (by omega)).2.1, (q 3 (by omega)).2.2.1⟩
    exfalso; omega
  · subst z
    have q0 : (pw f J 1).toInt = 32 * (pw f J 0).toInt + (f (J + 0)).toInt - 96 ∧ (97 : Int) ≤ (f (J + 0)).toInt ∧ (f (J + 0)).toInt ≤ 122 := ⟨(q 0 (by omega)).1, (q 0 (by omega)).2.1, (q 0 (by omega)).2.2.1⟩
    have q1 : (pw f J 2).toInt = 32 * (pw f J 1).toInt + (f (J + 1)).toInt - 96 ∧ (97 : Int) ≤ (f (J + 1)).toInt ∧ (f (J + 1)).toInt ≤ 122 := ⟨(q 1 (by omega)).1, (q 1 (by omega)).2.1, (q 1 (by omega)).2.2.1⟩
    have q2 : (pw f J 3).toInt = 32 * (pw f J 2).toInt + (f (J + 2)).toInt - 96 ∧ (97 : Int) ≤ (f (J + 2)).toInt ∧ (f (J + 2)).toInt ≤ 122 := ⟨(q 2 (by omega)).1, (q 2 (by omega)).2.1, (q 2 (by omega)).2.2.1⟩
    have q3 : (pw f J 4).toInt = 32 * (pw f J 3).toInt + (f (J + 3)).toInt - 96 ∧ (97 : Int) ≤ (f (J + 3)).toInt ∧ (f (J + 3)).toInt ≤ 122 := ⟨(q 3 (by omega)).1, (q 3 (by omega)).2.1, (q 3 (by omega)).2.2.1⟩
    have q4 : (pw f J 5).toInt = 32 * (pw f J 4).toInt + (f (J + 4)).toInt - 96 ∧ (97 : Int) ≤ (f (J + 4)).toInt ∧ (f (J + 4)).toInt ≤ 122 := ⟨(q 4 (by omega)).1, (q 4 (by omega)).2.1, (q 4 (by omega)).2.2.1⟩
    exfalso; omega
theorem hw_6 {f : Nat → Int32} {J L : Nat} (hL : L ≤ 5) (h1 : 1 ≤ L) (h : ∀ k, k < L → isL (f (J + k))) (e : pw f J L = wcN 6) : L = 5 ∧ ∀ k, k < 5 → f (J + k) = chS 6 k := by
  have q := pw_5 hL h
  have eI : (pw f J L).toInt = 3413099 := by rw [e]; decide +kernel
  have z0 : (pw f J 0).toInt = 0 := rfl
  rcases (show L = 1 ∨ L = 2 ∨ L = 3 ∨ L = 4 ∨ L = 5 by omega) with z | z | z | z | z
  · subst z
    have q0 : (pw f J 1).toInt = 32 * (pw f J 0).toInt + (f (J + 0)).toInt - 96 ∧ (97 : Int) ≤ (f (J + 0)).toInt ∧ (f (J + 0)).toInt ≤ 122 := ⟨(q 0 (by omega)).1, (q 0 (by omega)).2.1, (q 0 (by omega)).2.2.1⟩
    exfalso; omega
  · subst z
    have q0 : (pw f J 1).toInt = 32 * (pw f J 0).toInt + (f (J + 0)).toInt - 96 ∧ (97 : Int) ≤ (f (J + 0)).toInt ∧ (f (J + 0)).toInt ≤ 122 := ⟨(q 0 (by omega)).1, (q 0 (by omega)).2.1, (q 0 (by omega)).2.2.1⟩
    have q1 : (pw f J 2).toInt = 32 * (pw f J 1).toInt + (f (J + 1)).toInt - 96 ∧ (97 : Int) ≤ (f (J + 1)).toInt ∧ (f (J + 1)).toInt ≤ 122 := ⟨(q 1 (by omega)).1, (q 1 (by omega)).2.1, (q 1 (by omega)).2.2.1⟩
    exfalso; omega
  · subst z
    have q0 : (pw f J 1).toInt = 32 * (pw f J 0).toInt + (f (J + 0)).toInt - 96 ∧ (97 : Int) ≤ (f (J + 0)).toInt ∧ (f (J + 0)).toInt ≤ 122 := ⟨(q 0 (by omega)).1, (q 0 (by omega)).2.1, (q 0 (by omega)).2.2.1⟩
    have q1 : (pw f J 2).toInt = 32 * (pw f J 1).toInt + (f (J + 1)).toInt - 96 ∧ (97 : Int) ≤ (f (J + 1)).toInt ∧ (f (J + 1)).toInt ≤ 122 := ⟨(q 1 (by omega)).1, (q 1 (by omega)).2.1, (q 1 (by omega)).2.2.1⟩
    have q2 : (pw f J 3).toInt = 32 * (pw f J 2).toInt + (f (J + 2)).toInt - 96 ∧ (97 : Int) ≤ (f (J + 2)).toInt ∧ (f (J + 2)).toInt ≤ 122 := ⟨(q 2 (by omega)).1, (q 2 (by omega)).2.1, (q 2 (by omega)).2.2.1⟩
    exfalso; omega
  · subst z
    have q0 : (pw f J 1).toInt = 32 * (pw f J 0).toInt + (f (J + 0)).toInt - 96 ∧ (97 : Int) ≤ (f (J + 0)).toInt ∧ (f (J + 0)).toInt ≤ 122 := ⟨(q 0 (by omega)).1, (q 0 (by omega)).2.1, (q 0 (by omega)).2.2.1⟩
    have q1 : (pw f J 2).toInt = 32 * (pw f J 1).toInt + (f (J + 1)).toInt - 96 ∧ (97 : Int) ≤ (f (J + 1)).toInt ∧ (f (J + 1)).toInt ≤ 122 := ⟨(q 1 (by omega)).1, (q 1 (by omega)).2.1, (q 1 (by omega)).2.2.1⟩
    have q2 : (pw f J 3).toInt = 32 * (pw f J 2).toInt + (f (J + 2)).toInt - 96 ∧ (97 : Int) ≤ (f (J + 2)).toInt ∧ (f (J + 2)).toInt ≤ 122 := ⟨(q 2 (by omega)).1, (q 2 (by omega)).2.1, (q 2 (by omega)).2.2.1⟩
    have q3 : (pw f J 4).toInt = 32 * (pw f J 3).toInt + (f (J + 3)).toInt - 96 ∧ (97 : Int) ≤ (f (J + 3)).toInt ∧ (f (J + 3)).toInt ≤ 122 := ⟨(q 3 (by omega)).1, (q 3 (by omega)).2.1, (q 3 (by omega)).2.2.1⟩
    exfalso; omega
  · subst z
    have q0 : (pw f J 1).toInt = 32 * (pw f J 0).toInt + (f (J + 0)).toInt - 96 ∧ (97 : Int) ≤ (f (J + 0)).toInt ∧ (f (J + 0)).toInt ≤ 122 := ⟨(q 0 (by omega)).1, (q 0 (by omega)).2.1, (q 0 (by omega)).2.2.1⟩
    have q1 : (pw f J 2).toInt = 32 * (pw f J 1).toInt + (f (J + 1)).toInt - 96 ∧ (97 : Int) ≤ (f (J + 1)).toInt ∧ (f (J + 1)).toInt ≤ 122 := ⟨(q 1 (by omega)).1, (q 1 (by omega)).2.1, (q 1 (by omega)).2.2.1⟩
    have q2 : (pw f J 3).toInt = 32 * (pw f J 2).toInt + (f (J + 2)).toInt - 96 ∧ (97 : Int) ≤ (f (J + 2)).toInt ∧ (f (J + 2)).toInt ≤ 122 := ⟨(q 2 (by omega)).1, (q 2 (by omega)).2.1, (q 2 (by omega)).2.2.1⟩
    have q3 : (pw f J 4).toInt = 32 * (pw f J 3).toInt + (f (J + 3)).toInt - 96 ∧ (97 : Int) ≤ (f (J + 3)).toInt ∧ (f (J + 3)).toInt ≤ 122 := ⟨(q 3 (by omega)).1, (q 3 (by omega)).2.1, (q 3 (by omega)).2.2.1⟩
    have q4 : (pw f J 5).toInt = 32 * (pw f J 4).toInt + (f (J + 4)).toInt - 96 ∧ (97 : Int) ≤ (f (J + 4)).toInt ∧ (f (J + 4)).toInt ≤ 122 := ⟨(q 4 (by omega)).1, (q 4 (by omega)).2.1, (q 4 (by omega)).2.2.1⟩
    refine ⟨rfl, fun k hk => Int32.toInt_inj.mp ?_⟩
    rcases (show k = 0 ∨ k = 1 ∨ k = 2 ∨ k = 3 ∨ k = 4 by omega) with z | z | z | z | z
    · subst z; show (f (J + 0)).toInt = 99; omega
    · subst z; show (f (J + 1)).toInt = 104; omega
    · subst z; show (f (J + 2)).toInt = 101; omega
    · subst z; show (f (J + 3)).toInt = 99; omega
    · subst z; show (f (J + 4)).toInt = 107; omega
theorem hw_7 {f : Nat → Int32} {J L : Nat} (hL : L ≤ 5) (h1 : 1 ≤ L) (h : ∀ k, k < L → isL (f (J + k))) (e : pw f J L = wcN 7) : L = 4 ∧ ∀ k, k < 4 → f (J + k) = chS 7 k := by
  have q := pw_5 hL h
  have eI : (pw f J L).toInt = 66667 := by rw [e]; decide +kernel
  have z0 : (pw f J 0).toInt = 0 := rfl
  rcases (show L = 1 ∨ L = 2 ∨ L = 3 ∨ L = 4 ∨ L = 5 by omega) with z | z | z | z | z
  · subst z
    have q0 : (pw f J 1).toInt = 32 * (pw f J 0).toInt + (f (J + 0)).toInt - 96 ∧ (97 : Int) ≤ (f (J + 0)).toInt ∧ (f (J + 0)).toInt ≤ 122 := ⟨(q 0 (by omega)).1, (q 0 (by omega)).2.1, (q 0 (by omega)).2.2.1⟩
    exfalso; omega
  · subst z
    have q0 : (pw f J 1).toInt = 32 * (pw f J 0).toInt + (f (J + 0)).toInt - 96 ∧ (97 : Int) ≤ (f (J + 0)).toInt ∧ (f (J + 0)).toInt ≤ 122 := ⟨(q 0 (by omega)).1, (q 0 (by omega)).2.1, (q 0 (by omega)).2.2.1⟩
    have q1 : (pw f J 2).toInt = 32 * (pw f J 1).toInt + (f (J + 1)).toInt - 96 ∧ (97 : Int) ≤ (f (J + 1)).toInt ∧ (f (J + 1)).toInt ≤ 122 := ⟨(q 1 (by omega)).1, (q 1 (by omega)).2.1, (q 1 (by omega)).2.2.1⟩
    exfalso; omega
  · subst z
    have q0 : (pw f J 1).toInt = 32 * (pw f J 0).toInt + (f (J + 0)).toInt - 96 ∧ (97 : Int) ≤ (f (J + 0)).toInt ∧ (f (J + 0)).toInt ≤ 122 := ⟨(q 0 (by omega)).1, (q 0 (by omega)).2.1, (q 0 (by omega)).2.2.1⟩
    have q1 : (pw f J 2).toInt = 32 * (pw f J 1).toInt + (f (J + 1)).toInt - 96 ∧ (97 : Int) ≤ (f (J + 1)).toInt ∧ (f (J + 1)).toInt ≤ 122 := ⟨(q 1 (by omega)).1, (q 1 (by omega)).2.1, (q 1 (by omega)).2.2.1⟩
    have q2 : (pw f J 3).toInt = 32 * (pw f J 2).toInt + (f (J + 2)).toInt - 96 ∧ (97 : Int) ≤ (f (J + 2)).toInt ∧ (f (J + 2)).toInt ≤ 122 := ⟨(q 2 (by omega)).1, (q 2 (by omega)).2.1, (q 2 (by omega)).2.2.1⟩
    exfalso; omega
  · subst z
    have q0 : (pw f J 1).toInt = 32 * (pw f J 0).toInt + (f (J + 0)).toInt - 96 ∧ (97 : Int) ≤ (f (J + 0)).toInt ∧ (f (J + 0)).toInt ≤ 122 := ⟨(q 0 (by omega)).1, (q 0 (by omega)).2.1, (q 0 (by omega)).2.2.1⟩
    have q1 : (pw f J 2).toInt = 32 * (pw f J 1).toInt + (f (J + 1)).toInt - 96 ∧ (97 : Int) ≤ (f (J + 1)).toInt ∧ (f (J + 1)).toInt ≤ 122 := ⟨(q 1 (by omega)).1, (q 1 (by omega)).2.1, (q 1 (by omega)).2.2.1⟩
    have q2 : (pw f J 3).toInt = 32 * (pw f J 2).toInt + (f (J + 2)).toInt - 96 ∧ (97 : Int) ≤ (f (J + 2)).toInt ∧ (f (J + 2)).toInt ≤ 122 := ⟨(q 2 (by omega)).1, (q 2 (by omega)).2.1, (q 2 (by omega)).2.2.1⟩
    have q3 : (pw f J 4).toInt = 32 * (pw f J 3).toInt + (f (J + 3)).toInt - 96 ∧ (97 : Int) ≤ (f (J + 3)).toInt ∧ (f (J + 3)).toInt ≤ 122 := ⟨(q 3 (by omega)).1, (q 3 (by omega)).2.1, (q 3 (by omega)).2.2.1⟩
    refine ⟨rfl, fun k hk => Int32.toInt_inj.mp ?_⟩
    rcases (show k = 0 ∨ k = 1 ∨ k = 2 ∨ k = 3 by omega) with z | z | z | z
    · subst z; show (f (J + 0)).toInt = 98; omega
    · subst z; show (f (J + 1)).toInt = 97; omega
    · subst z; show (f (J + 2)).toInt = 99; omega
    · subst z; show (f (J + 3)).toInt = 107; omega
  · subst z
    have q0 : (pw f J 1).toInt = 32 * (pw f J 0).toInt + (f (J + 0)).toInt - 96 ∧ (97 : Int) ≤ (f (J + 0)).toInt ∧ (f (J + 0)).toInt ≤ 122 := ⟨(q 0 (by omega)).1, (q 0 (by omega)).2.1, (q 0 (by omega)).2.2.1⟩
    have q1 : (pw f J 2).toInt = 32 * (pw f J 1).toInt + (f (J + 1)).toInt - 96 ∧ (97 : Int) ≤ (f (J + 1)).toInt ∧ (f (J + 1)).toInt ≤ 122 := ⟨(q 1 (by omega)).1, (q 1 (by omega)).2.1, (q 1 (by omega)).2.2.1⟩
    have q2 : (pw f J 3).toInt = 32 * (pw f J 2).toInt + (f (J + 2)).toInt - 96 ∧ (97 : Int) ≤ (f (J + 2)).toInt ∧ (f (J + 2)).toInt ≤ 122 := ⟨(q 2 (by omega)).1, (q 2 (by omega)).2.1, (q 2 (by omega)).2.2.1⟩
    have q3 : (pw f J 4).toInt = 32 * (pw f J 3).toInt + (f (J + 3)).toInt - 96 ∧ (97 : Int) ≤ (f (J + 3)).toInt ∧ (f (J + 3)).toInt ≤ 122 := ⟨(q 3 (by omega)).1, (q 3 (by omega)).2.1, (q 3 (by omega)).2.2.1⟩
    have q4 : (pw f J 5).toInt = 32 * (pw f J 4).toInt + (f (J + 4)).toInt - 96 ∧ (97 : Int) ≤ (f (J + 4)).toInt ∧ (f (J + 4)).toInt ≤ 122 := ⟨(q 4 (by omega)).1, (q 4 (by omega)).2.1, (q 4 (by omega)).2.2.1⟩
    exfalso; omega
theorem hw_8 {f : Nat → Int32} {J L : Nat} (hL : L ≤ 5) (h1 : 1 ≤ L) (h : ∀ k, k < L → isL (f (J + k))) (e : pw f J L = wcN 8) : L = 4 ∧ ∀ k, k < 4 → f (J + k) = chS 8 k := by
  have q := pw_5 hL h
  have eI : (pw f J L).toInt = 754996 := by rw [e]; decide +kernel
  have z0 : (pw f J 0).toInt = 0 := rfl
  rcases (show L = 1 ∨ L = 2 ∨ L = 3 ∨ L = 4 ∨ L = 5 by omega) with z | z | z | z | z
  · subst z
    have q0 : (pw f J 1).toInt = 32 * (pw f J 0).toInt + (f (J + 0)).toInt - 96 ∧ (97 : Int) ≤ (f (J + 0)).toInt ∧ (f (J + 0)).toInt ≤ 122 := ⟨(q 0 (by omega)).1, (q 0 (by omega)).2.1, (q 0 (by omega)).2.2.1⟩
    exfalso; omega
  · subst z
    have q0 : (pw f J 1).toInt = 32 * (pw f J 0).toInt + (f (J + 0)).toInt - 96 ∧ (97 : Int) ≤ (f (J + 0)).toInt ∧ (f (J + 0)).toInt ≤ 122 := ⟨(q 0 (by omega)).1, (q 0 (by omega)).2.1, (q 0 (by omega)).2.2.1⟩
    have q1 : (pw f J 2).toInt = 32 * (pw f J 1).toInt + (f (J + 1)).toInt - 96 ∧ (97 : Int) ≤ (f (J + 1)).toInt ∧ (f (J + 1)).toInt ≤ 122 := ⟨(q 1 (by omega)).1, (q 1 (by omega)).2.1, (q 1 (by omega)).2.2.1⟩
    exfalso; omega
  · subst z
    have q0 : (pw f J 1).toInt = 32 * (pw f J 0).toInt + (f (J + 0)).toInt - 96 ∧ (97 : Int) ≤ (f (J + 0)).toInt ∧ (f (J + 0)).toInt ≤ 122 := ⟨(q 0 (by omega)).1, (q 0 (by omega)).2.1, (q 0 (by omega)).2.2.1⟩
    have q1 : (pw f J 2).toInt = 32 * (pw f J 1).toInt + (f (J + 1)).toInt - 96 ∧ (97 : Int) ≤ (f (J + 1)).toInt ∧ (f (J + 1)).toInt ≤ 122 := ⟨(q 1 (by omega)).1, (q 1 (by omega)).2.1, (q 1 (by omega)).2.2.1⟩
    have q2 : (pw f J 3).toInt = 32 * (pw f J 2).toInt + (f (J + 2)).toInt - 96 ∧ (97 : Int) ≤ (f (J + 2)).toInt ∧ (f (J + 2)).toInt ≤ 122 := ⟨(q 2 (by omega)).1, (q 2 (by omega)).2.1, (q 2 (by omega)).2.2.1⟩
    exfalso; omega
  · subst z
    have q0 : (pw f J 1).toInt = 32 * (pw f J 0).toInt + (f (J + 0)).toInt - 96 ∧ (97 : Int) ≤ (f (J + 0)).toInt ∧ (f (J + 0)).toInt ≤ 122 := ⟨(q 0 (by omega)).1, (q 0 (by omega)).2.1, (q 0 (by omega)).2.2.1⟩
    have q1 : (pw f J 2).toInt = 32 * (pw f J 1).toInt + (f (J + 1)).toInt - 96 ∧ (97 : Int) ≤ (f (J + 1)).toInt ∧ (f (J + 1)).toInt ≤ 122 := ⟨(q 1 (by omega)).1, (q 1 (by omega)).2.1, (q 1 (by omega)).2.2.1⟩
    have q2 : (pw f J 3).toInt = 32 * (pw f J 2).toInt + (f (J + 2)).toInt - 96 ∧ (97 : Int) ≤ (f (J + 2)).toInt ∧ (f (J + 2)).toInt ≤ 122 := ⟨(q 2 (by omega)).1, (q 2 (by omega)).2.1, (q 2 (by omega)).2.2.1⟩
    have q3 : (pw f J 4).toInt = 32 * (pw f J 3).toInt + (f (J + 3)).toInt - 96 ∧ (97 : Int) ≤ (f (J + 3)).toInt ∧ (f (J + 3)).toInt ≤ 122 := ⟨(q 3 (by omega)).1, (q 3 (by omega)).2.1, (q 3 (by omega)).2.2.1⟩
    refine ⟨rfl, fun k hk => Int32.toInt_inj.mp ?_⟩
    rcases (show k = 0 ∨ k = 1 ∨ k = 2 ∨ k = 3 by omega) with z | z | z | z
    · subst z; show (f (J + 0)).toInt = 119; omega
    · subst z; show (f (J + 1)).toInt = 97; omega
    · subst z; show (f (J + 2)).toInt = 105; omega
    · subst z; show (f (J + 3)).toInt = 116; omega
  · subst z
    have q0 : (pw f J 1).toInt = 32 * (pw f J 0).toInt + (f (J + 0)).toInt - 96 ∧ (97 : Int) ≤ (f (J + 0)).toInt ∧ (f (J + 0)).toInt ≤ 122 := ⟨(q 0 (by omega)).1, (q 0 (by omega)).2.1, (q 0 (by omega)).2.2.1⟩
    have q1 : (pw f J 2).toInt = 32 * (pw f J 1).toInt + (f (J + 1)).toInt - 96 ∧ (97 : Int) ≤ (f (J + 1)).toInt ∧ (f (J + 1)).toInt ≤ 122 := ⟨(q 1 (by omega)).1, (q 1 (by omega)).2.1, (q 1 (by omega)).2.2.1⟩
    have q2 : (pw f J 3).toInt = 32 * (pw f J 2).toInt + (f (J + 2)).toInt - 96 ∧ (97 : Int) ≤ (f (J + 2)).toInt ∧ (f (J + 2)).toInt ≤ 122 := ⟨(q 2 (by omega)).1, (q 2 (by omega)).2.1, (q 2 (by omega)).2.2.1⟩
    have q3 : (pw f J 4).toInt = 32 * (pw f J 3).toInt + (f (J + 3)).toInt - 96 ∧ (97 : Int) ≤ (f (J + 3)).toInt ∧ (f (J + 3)).toInt ≤ 122 := ⟨(q 3 (by omega)).1, (q 3 (by omega)).2.1, (q 3 (by omega)).2.2.1⟩
    have q4 : (pw f J 5).toInt = 32 * (pw f J 4).toInt + (f (J + 4)).toInt - 96 ∧ (97 : Int) ≤ (f (J + 4)).toInt ∧ (f (J + 4)).toInt ≤ 122 := ⟨(q 4 (by omega)).1, (q 4 (by omega)).2.1, (q 4 (by omega)).2.2.1⟩
    exfalso; omega
theorem hw_9 {f : Nat → Int32} {J L : Nat} (hL : L ≤ 5) (h1 : 1 ≤ L) (h : ∀ k, k < L → isL (f (J + k))) (e : pw f J L = wcN 9) : L = 3 ∧ ∀ k, k < 3 → f (J + k) = chS 9 k := by
  have q := pw_5 hL h
  have eI : (pw f J L).toInt = 8688 := by rw [e]; decide +kernel
  have z0 : (pw f J 0).toInt = 0 := rfl
  rcases (show L = 1 ∨ L = 2 ∨ L = 3 ∨ L = 4 ∨ L = 5 by omega) with z | z | z | z | z
  · subst z
    have q0 : (pw f J 1).toInt = 32 * (pw f J 0).toInt + (f (J + 0)).toInt - 96 ∧ (97 : Int) ≤ (f (J + 0)).toInt ∧ (f (J + 0)).toInt ≤ 122 := ⟨(q 0 (by omega)).1, (q 0 (by omega)).2.1, (q 0 (by omega)).2.2.1⟩
    exfalso; omega
  · subst z
    have q0 : (pw f J 1).toInt = 32 * (pw f J 0).toInt + (f (J + 0)).toInt - 96 ∧ (97 : Int) ≤ (f (J + 0)).toInt ∧ (f (J + 0)).toInt ≤ 122 := ⟨(q 0 (by omega)).1, (q 0 (by omega)).2.1, (q 0 (by omega)).2.2.1⟩
    have q1 : (pw f J 2).toInt = 32 * (pw f J 1).toInt + (f (J + 1)).toInt - 96 ∧ (97 : Int) ≤ (f (J + 1)).toInt ∧ (f (J + 1)).toInt ≤ 122 := ⟨(q 1 (by omega)).1, (q 1 (by omega)).2.1, (q 1 (by omega)).2.2.1⟩
    exfalso; omega
  · subst z
    have q0 : (pw f J 1).toInt = 32 * (pw f J 0).toInt + (f (J + 0)).toInt - 96 ∧ (97 : Int) ≤ (f (J + 0)).toInt ∧ (f (J + 0)).toInt ≤ 122 := ⟨(q 0 (by omega)).1, (q 0 (by omega)).2.1, (q 0 (by omega)).2.2.1⟩
    have q1 : (pw f J 2).toInt = 32 * (pw f J 1).toInt + (f (J + 1)).toInt - 96 ∧ (97 : Int) ≤ (f (J + 1)).toInt ∧ (f (J + 1)).toInt ≤ 122 := ⟨(q 1 (by omega)).1, (q 1 (by omega)).2.1, (q 1 (by omega)).2.2.1⟩
    have q2 : (pw f J 3).toInt = 32 * (pw f J 2).toInt + (f (J + 2)).toInt - 96 ∧ (97 : Int) ≤ (f (J + 2)).toInt ∧ (f (J + 2)).toInt ≤ 122 := ⟨(q 2 (by omega)).1, (q 2 (by omega)).2.1, (q 2 (by omega)).2.2.1⟩
    refine ⟨rfl, fun k hk => Int32.toInt_inj.mp ?_⟩
    rcases (show k = 0 ∨ k = 1 ∨ k = 2 by omega) with z | z | z
    · subst z; show (f (J + 0)).toInt = 104; omega
    · subst z; show (f (J + 1)).toInt = 111; omega
    · subst z; show (f (J + 2)).toInt = 112; omega
  · subst z
    have q0 : (pw f J 1).toInt = 32 * (pw f J 0).toInt + (f (J + 0)).toInt - 96 ∧ (97 : Int) ≤ (f (J + 0)).toInt ∧ (f (J + 0)).toInt ≤ 122 := ⟨(q 0 (by omega)).1, (q 0 (by omega)).2.1, (q 0 (by omega)).2.2.1⟩
    have q1 : (pw f J 2).toInt = 32 * (pw f J 1).toInt + (f (J + 1)).toInt - 96 ∧ (97 : Int) ≤ (f (J + 1)).toInt ∧ (f (J + 1)).toInt ≤ 122 := ⟨(q 1 (by omega)).1, (q 1 (by omega)).2.1, (q 1 (by omega)).2.2.1⟩
    have q2 : (pw f J 3).toInt = 32 * (pw f J 2).toInt + (f (J + 2)).toInt - 96 ∧ (97 : Int) ≤ (f (J + 2)).toInt ∧ (f (J + 2)).toInt ≤ 122 := ⟨(q 2 (by omega)).1, (q 2 (by omega)).2.1, (q 2 (by omega)).2.2.1⟩
    have q3 : (pw f J 4).toInt = 32 * (pw f J 3).toInt + (f (J + 3)).toInt - 96 ∧ (97 : Int) ≤ (f (J + 3)).toInt ∧ (f (J + 3)).toInt ≤ 122 := ⟨(q 3 (by omega)).1, (q 3 (by omega)).2.1, (q 3 (by omega)).2.2.1⟩
    exfalso; omega
  · subst z
    have q0 : (pw f J 1).toInt = 32 * (pw f J 0).toInt + (f (J + 0)).toInt - 96 ∧ (97 : Int) ≤ (f (J + 0)).toInt ∧ (f (J + 0)).toInt ≤ 122 := ⟨(q 0 (by omega)).1, (q 0 (by omega)).2.1, (q 0 (by omega)).2.2.1⟩
    have q1 : (pw f J 2).toInt = 32 * (pw f J 1).toInt + (f (J + 1)).toInt - 96 ∧ (97 : Int) ≤ (f (J + 1)).toInt ∧ (f (J + 1)).toInt ≤ 122 := ⟨(q 1 (by omega)).1, (q 1 (by omega)).2.1, (q 1 (by omega)).2.2.1⟩
    have q2 : (pw f J 3).toInt = 32 * (pw f J 2).toInt + (f (J + 2)).toInt - 96 ∧ (97 : Int) ≤ (f (J + 2)).toInt ∧ (f (J + 2)).toInt ≤ 122 := ⟨(q 2 (by omega)).1, (q 2 (by omega)).2.1, (q 2 (by omega)).2.2.1⟩
    have q3 : (pw f J 4).toInt = 32 * (pw f J 3).toInt + (f (J + 3)).toInt - 96 ∧ (97 : Int) ≤ (f (J + 3)).toInt ∧ (f (J + 3)).toInt ≤ 122 := ⟨(q 3 (by omega)).1, (q 3 (by omega)).2.1, (q 3 (by omega)).2.2.1⟩
    have q4 : (pw f J 5).toInt = 32 * (pw f J 4).toInt + (f (J + 4)).toInt - 96 ∧ (97 : Int) ≤ (f (J + 4)).toInt ∧ (f (J + 4)).toInt ≤ 122 := ⟨(q 4 (by omega)).1, (q 4 (by omega)).2.1, (q 4 (by omega)).2.2.1⟩
    exfalso; omega
theorem hw_all {f : Nat → Int32} {J L w : Nat} (hw : w < 10) (hL : L ≤ 5) (h1 : 1 ≤ L) (h : ∀ k, k < L → isL (f (J + k))) (e : pw f J L = wcN w) : L = slN w ∧ ∀ k, k < slN w → f (J + k) = chS w k := by
  match w, hw, e with
  | 0, _, e => exact hw_0 hL h1 h e
  | 1, _, e => exact hw_1 hL h1 h e
  | 2, _, e => exact hw_2 hL h1 h e
  | 3, _, e => exact hw_3 hL h1 h e
  | 4, _, e => exact hw_4 hL h1 h e
  | 5, _, e => exact hw_5 hL h1 h e
  | 6, _, e => exact hw_6 hL h1 h e
  | 7, _, e => exact hw_7 hL h1 h e
  | 8, _, e => exact hw_8 hL h1 h e
  | 9, _, e => exact hw_9 hL h1 h e
