/-! ===== a word's number and its letters ===== -/
def wm (f : Nat → Int32) (J : Nat) : Nat → Int32 → Nat → Int32
  | _, w, 0 => w
  | i, w, r + 1 => wm f J (i + 1) (wdN f J (J + i) w) r
theorem wM_wm {f : Nat → Int32} {J : Nat} : ∀ (k i : Nat) (w : Int32), wordM f J (J + i) w k = wm f J i w (wordE f (J + i) k - (J + i))
  | 0, i, w => by
    unfold wordM wordE
    rw [Nat.sub_self]; rfl
  | k + 1, i, w => by
    unfold wordM wordE
    by_cases h : isL (f (J + i))
    · rw [if_pos h, if_pos h]
      have h2 := wM_wm (f := f) (J := J) k (i + 1) (wdN f J (J + i) w)
      have h3 := (wordE_le (f := f) k (J + i + 1)).1
      rw [show J + (i + 1) = J + i + 1 from rfl] at h2
      rw [h2, show wordE f (J + i + 1) k - (J + i) = (wordE f (J + i + 1) k - (J + i + 1)) + 1 by omega]
      rfl
    · rw [if_neg h, if_neg h, Nat.sub_self]; rfl
def pw (f : Nat → Int32) (J : Nat) : Nat → Int32
  | 0 => 0
  | k + 1 => 32 * pw f J k + f (J + k) - 97 + 1
theorem wm_s {f : Nat → Int32} {J : Nat} : ∀ (r i : Nat), i + r ≤ 5 → J + i + r < 2 ^ 30 → wm f J i (pw f J i) r = pw f J (i + r)
  | 0, i, _, _ => rfl
  | r + 1, i, h, hJ => by
    have e : wdN f J (J + i) (pw f J i) = pw f J (i + 1) := by
      unfold wdN
      have hl : nI (J + i) - nI J < 5 := by
        rw [pk_sub (by omega), show J + i - J = i by omega]
        exact nI_lt (show i < 5 by omega) (by decide)
      rw [if_pos hl]; rfl
    unfold wm
    rw [e, wm_s r (i + 1) (by omega) (by omega), show i + 1 + r = i + (r + 1) by omega]
theorem wm_l {f : Nat → Int32} {J : Nat} : ∀ (r i : Nat) (w : Int32), 6 ≤ i + (r + 1) → J + i + r + 1 < 2 ^ 30 → wm f J i w (r + 1) = -1
  | 0, i, w, h, hJ => by
    have hl : ¬ nI (J + i) - nI J < 5 := by
      rw [pk_sub (by omega), show J + i - J = i by omega]
      exact Int32.not_lt.mpr (nI_le (show 5 ≤ i by omega) (by omega))
    show wdN f J (J + i) w = -1
    unfold wdN
    rw [if_neg hl]
  | r + 1, i, w, h, hJ => wm_l r (i + 1) _ (by omega) (by omega)
theorem wordE_L {f : Nat → Int32} : ∀ (k q j : Nat), q ≤ j → j < wordE f q k → isL (f j)
  | 0, q, j, h1, h2 => absurd h2 (Nat.not_lt.mpr h1)
  | k + 1, q, j, h1, h2 => by
    unfold wordE at h2
    by_cases h : isL (f q)
    · rw [if_pos h] at h2
      rcases Nat.lt_or_ge q j with z | z
      · exact wordE_L k (q + 1) j z h2
      · rw [show j = q by omega]; exact h
    · rw [if_neg h] at h2; omega
