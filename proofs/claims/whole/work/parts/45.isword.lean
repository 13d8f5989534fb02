/-! ===== the class: isWord ===== -/
theorem tk2 {f : Nat → Int32} {n e : Nat} : tkC f n e = -2 ↔ (¬ lkJ f n e = n ∧ isL (f (lkJ f n e))) := by
  unfold tkC
  by_cases h1 : lkJ f n e = n
  · rw [if_pos h1]; exact ⟨fun q => absurd q (by decide), fun q => absurd h1 q.1⟩
  · rw [if_neg h1]
    by_cases h2 : isL (f (lkJ f n e))
    · rw [if_pos h2]; exact ⟨fun _ => ⟨h1, h2⟩, fun _ => rfl⟩
    · rw [if_neg h2]
      refine ⟨fun q => ?_, fun q => absurd q.2 h2⟩
      by_cases h3 : isDg (f (lkJ f n e))
      · rw [if_pos h3] at q
        by_cases h4 : 999 < imin (numM f (lkJ f n e) 0 (n - lkJ f n e)) 1000
        · rw [if_pos h4] at q; exact absurd q (by decide)
        · rw [if_neg h4] at q; exact absurd q (by decide)
      · rw [if_neg h3] at q
        by_cases h4 : isSg (f (lkJ f n e))
        · rw [if_pos h4] at q
          rw [q] at h4
          exact absurd h4 (by decide)
        · rw [if_neg h4] at q; exact absurd q (by decide)
theorem lk1 {f : Nat → Int32} {n e : Nat} : lkT f n e = 1 ↔ (¬ lkJ f n e = n ∧ isL (f (lkJ f n e))) := by
  unfold lkT
  by_cases h1 : lkJ f n e = n
  · rw [if_pos h1]; exact ⟨fun q => absurd q (by decide), fun q => absurd h1 q.1⟩
  · rw [if_neg h1]
    by_cases h2 : isL (f (lkJ f n e))
    · rw [if_pos h2]; exact ⟨fun _ => ⟨h1, h2⟩, fun _ => rfl⟩
    · rw [if_neg h2]
      refine ⟨fun q => ?_, fun q => absurd q.2 h2⟩
      by_cases h3 : isDg (f (lkJ f n e))
      · rw [if_pos h3] at q; exact absurd q (by decide)
      · rw [if_neg h3] at q
        by_cases h4 : isSg (f (lkJ f n e))
        · rw [if_pos h4] at q; exact absurd q (by decide)
        · rw [if_neg h4] at q; exact absurd q (by decide)
