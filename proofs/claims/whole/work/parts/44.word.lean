/-! ===== a word of the class is a word of the reference ===== -/
theorem pw_eq {f : Nat → Int32} {J w : Nat} : ∀ m : Nat, (∀ k, k < m → f (J + k) = chS w k) → pw f J m = wcK w m
  | 0, _ => rfl
  | m + 1, h => by
    show 32 * pw f J m + f (J + m) - 97 + 1 = 32 * wcK w m + chS w m - 97 + 1
    rw [pw_eq m (fun k hk => h k (by omega)), h m (by omega)]
theorem wcN_ne {w : Nat} (hw : w < 10) : ¬ wcN w = -1 := by
  match w, hw with
  | 0, _ => decide +kernel
  | 1, _ => decide +kernel
  | 2, _ => decide +kernel
  | 3, _ => decide +kernel
  | 4, _ => decide +kernel
  | 5, _ => decide +kernel
  | 6, _ => decide +kernel
  | 7, _ => decide +kernel
  | 8, _ => decide +kernel
  | 9, _ => decide +kernel
theorem wd_iff {f : Nat → Int32} {n e w : Nat} (hw : w < 10) (hen : e ≤ n) (hn : n ≤ 100) (hJ : ¬ lkJ f n e = n) (hl : isL (f (lkJ f n e))) : lkW f n e = wcN w ↔ (lkE f n e - lkJ f n e = slN w ∧ ∀ k, k < slN w → f (lkJ f n e + k) = chS w k) := by
  have hJ2 := (lkJ_le (f := f) hen).2
  have e1 : lkW f n e = wm f (lkJ f n e) 0 0 (lkE f n e - lkJ f n e) := by
    unfold lkW lkE
    rw [if_neg hJ, if_pos hl, if_neg hJ, if_pos hl]
    exact wM_wm (f := f) (J := lkJ f n e) (n - lkJ f n e) 0 0
  have e2 : lkE f n e = wordE f (lkJ f n e) (n - lkJ f n e) := by
    unfold lkE
    rw [if_neg hJ, if_pos hl]
  have hge : lkJ f n e + 1 ≤ lkE f n e := by
    rw [e2, show n - lkJ f n e = (n - lkJ f n e - 1) + 1 by omega]
    unfold wordE
    rw [if_pos hl]
    exact (wordE_le (f := f) _ _).1
  have hle := lkE_le (f := f) hen
  have hlet : ∀ k, k < lkE f n e - lkJ f n e → isL (f (lkJ f n e + k)) := fun k hk => wordE_L (n - lkJ f n e) (lkJ f n e) _ (by omega) (by rw [← e2]; omega)
  rw [e1]
  rcases Nat.lt_or_ge 5 (lkE f n e - lkJ f n e) with z | z
  · rw [show lkE f n e - lkJ f n e = (lkE f n e - lkJ f n e - 1) + 1 by omega, wm_l _ 0 _ (by omega) (by omega)]
    have h5 := slN_5 w hw
    exact ⟨fun q => absurd q.symm (wcN_ne hw), fun q => by omega⟩
  · have e3 : wm f (lkJ f n e) 0 0 (lkE f n e - lkJ f n e) = pw f (lkJ f n e) (lkE f n e - lkJ f n e) := by
      have := wm_s (f := f) (J := lkJ f n e) (lkE f n e - lkJ f n e) 0 (by omega) (by omega)
      rw [Nat.zero_add] at this
      exact this
    rw [e3]
    refine ⟨fun q => hw_all hw z (by omega) hlet q, fun q => ?_⟩
    rw [q.1]
    exact pw_eq _ q.2
