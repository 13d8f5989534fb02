/-! ===== tokens of the class and of the reference ===== -/
theorem sgT {f : Nat → Int32} {n e : Nat} {c : Int32} (hc : ¬ (-1 : Int32) = c ∧ ¬ (-2 : Int32) = c ∧ ¬ (-3 : Int32) = c ∧ ¬ (-4 : Int32) = c) (hs : isSg c) : tkC f n e = c ↔ sgAt f n e c := by
  obtain ⟨c1, c2, c3, c4⟩ := hc
  unfold tkC sgAt lkT lkV
  by_cases h1 : lkJ f n e = n
  · rw [if_pos h1, if_pos h1]; exact ⟨fun q => absurd q c1, fun q => absurd q.1 (by decide)⟩
  · rw [if_neg h1, if_neg h1, if_neg h1]
    by_cases h2 : isL (f (lkJ f n e))
    · rw [if_pos h2, if_pos h2]; exact ⟨fun q => absurd q c2, fun q => absurd q.1 (by decide)⟩
    · rw [if_neg h2, if_neg h2, if_neg h2]
      by_cases h3 : isDg (f (lkJ f n e))
      · rw [if_pos h3, if_pos h3]
        refine ⟨fun q => ?_, fun q => absurd q.1 (by decide)⟩
        by_cases h4 : 999 < imin (numM f (lkJ f n e) 0 (n - lkJ f n e)) 1000
        · rw [if_pos h4] at q; exact absurd q c4
        · rw [if_neg h4] at q; exact absurd q c3
      · rw [if_neg h3, if_neg h3, if_neg h3]
        by_cases h4 : isSg (f (lkJ f n e))
        · rw [if_pos h4, if_pos h4]; exact ⟨fun q => ⟨rfl, q⟩, fun q => q.2⟩
        · rw [if_neg h4, if_neg h4]; exact ⟨fun q => absurd q c4, fun q => absurd q.1 (by decide)⟩
theorem tk3 {f : Nat → Int32} {n e : Nat} : tkC f n e = -3 ↔ (lkT f n e = 2 ∧ lkV f n e ≤ 999) := by
  unfold tkC lkT lkV
  by_cases h1 : lkJ f n e = n
  · rw [if_pos h1, if_pos h1]; exact ⟨fun q => absurd q (by decide), fun q => absurd q.1 (by decide)⟩
  · rw [if_neg h1, if_neg h1, if_neg h1]
    by_cases h2 : isL (f (lkJ f n e))
    · rw [if_pos h2, if_pos h2]; exact ⟨fun q => absurd q (by decide), fun q => absurd q.1 (by decide)⟩
    · rw [if_neg h2, if_neg h2, if_neg h2]
      by_cases h3 : isDg (f (lkJ f n e))
      · rw [if_pos h3, if_pos h3, if_pos h3]
        by_cases h4 : 999 < numM f (lkJ f n e) 0 (n - lkJ f n e)
        · rw [imin_2 h4, if_pos (by decide)]; exact ⟨fun q => absurd q (by decide), fun q => absurd q.2 (Int32.not_le.mpr h4)⟩
        · rw [imin_1 h4, if_neg h4]; exact ⟨fun _ => ⟨rfl, Int32.not_lt.mp h4⟩, fun _ => rfl⟩
      · rw [if_neg h3, if_neg h3, if_neg h3]
        by_cases h4 : isSg (f (lkJ f n e))
        · rw [if_pos h4, if_pos h4]
          refine ⟨fun q => ?_, fun q => absurd q.1 (by decide)⟩
          rw [q] at h4; exact absurd h4 (by decide)
        · rw [if_neg h4, if_neg h4]; exact ⟨fun q => absurd q (by decide), fun q => absurd q.1 (by decide)⟩
theorem vl3 {f : Nat → Int32} {n e : Nat} {vl : Int32} (h : lkT f n e = 2 ∧ lkV f n e ≤ 999) : vlC vl f n e = lkV f n e := by
  have h' := h
  unfold lkT lkV at h'
  unfold vlC lkV
  by_cases h1 : lkJ f n e = n
  · rw [if_pos h1] at h'; exact absurd h'.1 (by decide)
  · rw [if_neg h1, if_neg h1] at h'
    rw [if_neg h1, if_neg h1]
    by_cases h2 : isL (f (lkJ f n e))
    · rw [if_pos h2] at h'; exact absurd h'.1 (by decide)
    · rw [if_neg h2, if_neg h2] at h'
      rw [if_neg h2, if_neg h2]
      by_cases h3 : isDg (f (lkJ f n e))
      · rw [if_pos h3, if_pos h3] at h'
        rw [if_pos h3, if_pos h3]
        exact imin_1 (Int32.not_lt.mpr h'.2)
      · rw [if_neg h3] at h'
        by_cases h4 : isSg (f (lkJ f n e))
        · rw [if_pos h4] at h'; exact absurd h'.1 (by decide)
        · rw [if_neg h4] at h'; exact absurd h'.1 (by decide)
