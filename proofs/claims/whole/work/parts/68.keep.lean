/-! ===== what every call keeps ===== -/
theorem PerOk_c {d d2 : Nat → Int32} {nw n2 p : Nat} (hn : nw ≤ n2) (q : ∀ w, w < 7 → told d2 p w = told d p w) (H : PerOk d nw p) : PerOk d2 n2 p := by
  obtain ⟨a, b, c, e, f⟩ := H
  unfold PerOk
  rw [q 0 (by decide), q 1 (by decide), q 2 (by decide), q 3 (by decide), q 6 (by decide)]
  refine ⟨a, b, c, e, f.imp id (fun z => ?_)⟩
  obtain ⟨w, h1, h2⟩ := z
  exact ⟨w, by omega, h2⟩
theorem DOk_m {d : Nat → Int32} {N : Nat} (H : DOk d N) : DOk d (N + 400) := by
  obtain ⟨np, nw, T, p0, p1, e0, hnp, e1, hnw, e6, hT, hon, e3, hp0, e4, hp1, honp, hper, h10, h11, h12, hwc⟩ := H
  exact ⟨np, nw, T, p0, p1, e0, hnp, e1, hnw, e6, by omega, hon, e3, hp0, e4, hp1, honp, hper, h10, h11, h12, hwc⟩
theorem DOk_c {d d2 : Nat → Int32} {N : Nat} (q : ∀ j, (j ≤ 4 ∨ j = 6 ∨ (10 ≤ j ∧ j ≤ 12) ∨ 40 ≤ j) → d2 j = d j) (H : DOk d N) : DOk d2 N := by
  obtain ⟨np, nw, T, p0, p1, e0, hnp, e1, hnw, e6, hT, hon, e3, hp0, e4, hp1, honp, hper, h10, h11, h12, hwc⟩ := H
  refine ⟨np, nw, T, p0, p1, ?_, hnp, ?_, hnw, ?_, hT, ?_, ?_, hp0, ?_, hp1, ?_, fun p hp => PerOk_c (Nat.le_refl _) (fun w hw => q _ (by omega)) (hper p hp), ?_, ?_, ?_, fun w hw => ?_⟩
  · rw [q 0 (by omega)]; exact e0
  · rw [q 1 (by omega)]; exact e1
  · rw [q 6 (by omega)]; exact e6
  · rw [q 2 (by omega)]; exact hon
  · rw [q 3 (by omega)]; exact e3
  · rw [q 4 (by omega)]; exact e4
  · rw [q 2 (by omega)]; exact honp
  · rw [q 10 (by omega)]; exact h10
  · rw [q 11 (by omega)]; exact h11
  · rw [q 12 (by omega)]; exact h12
  · rw [q _ (by omega)]; exact hwc w hw
theorem SOk_m {d k fo tape bits sz fo2 tape2 bits2 : Nat → Int32} {num num2 : Nat → Int64} {hk tp : Int32} {N : Nat} (H : SOk (d, k, hk, fo, tape, tp, bits, sz, num) N) : SOk (d, k, hk, fo2, tape2, tp, bits2, sz, num2) (N + 400) := by
  obtain ⟨a, b, c, e, f⟩ := H
  exact ⟨DOk_m a, fun z => DOk_m (b z), c, e, f⟩
theorem SOk_d {d d2 k fo tape bits sz : Nat → Int32} {num : Nat → Int64} {hk tp : Int32} {N : Nat} (H : SOk (d, k, hk, fo, tape, tp, bits, sz, num) N) (h : DOk d2 (N + 400)) : SOk (d2, k, hk, fo, tape, tp, bits, sz, num) (N + 400) := by
  obtain ⟨a, b, c, e, f⟩ := H
  exact ⟨h, fun z => DOk_m (b z), c, e, f⟩
theorem DOk_newP {d : Nat → Int32} {N : Nat} {kind weight : Int32} (H : DOk d N) (h8 : ¬ d 0 = 8) (hk : wi kind 0 5) (hw : wi weight 1 299) : DOk (newP d (pr (d 0)) kind weight) N := by
  obtain ⟨np, nw, T, p0, p1, e0, hnp, e1, hnw, e6, hT, hon, e3, hp0, e4, hp1, honp, hper, h10, h11, h12, hwc⟩ := H
  have qn : pr (d 0) = np := ix_cl e0 (by omega)
  rw [qn]
  have hn8 : np < 8 := by
    rcases Nat.lt_or_ge np 8 with z | z
    · exact z
    · exact absurd (by rw [e0, show np = 8 by omega]; rfl) h8
  have nn : ∀ j, j ≠ 0 → (j < 40 + 8 * np ∨ 40 + 8 * np + 7 ≤ j) → newP d np kind weight j = d j := fun j a b => newP_n a b
  refine ⟨np + 1, nw, T, p0, p1, ?_, by omega, ?_, hnw, ?_, hT, ?_, ?_, hp0, ?_, hp1, ?_, fun p hp => ?_, ?_, ?_, ?_, fun w hw => ?_⟩
  · show upd _ 0 (d 0 + 1) 0 = _
    rw [pk_us, e0, nI_1]
  · rw [nn 1 (by omega) (by omega)]; exact e1
  · rw [nn 6 (by omega) (by omega)]; exact e6
  · rw [nn 2 (by omega) (by omega)]; exact hon
  · rw [nn 3 (by omega) (by omega)]; exact e3
  · rw [nn 4 (by omega) (by omega)]; exact e4
  · rw [nn 2 (by omega) (by omega)]; intro z; have := honp z; omega
  · by_cases y : p = np
    · subst y
      unfold PerOk
      rw [newP_0, newP_1, newP_2, newP_3, newP_6]
      exact ⟨hk, hw, ⟨2, by decide, rfl⟩, by decide, Or.inl rfl⟩
    · exact PerOk_c (Nat.le_refl _) (fun w hw => nn (40 + 8 * p + w) (by omega) (by omega)) (hper p (by omega))
  · rw [nn 10 (by omega) (by omega)]; exact h10
  · rw [nn 11 (by omega) (by omega)]; exact h11
  · rw [nn 12 (by omega) (by omega)]; exact h12
  · rw [nn _ (by omega) (by omega)]; exact hwc w hw
theorem told_u {d : Nat → Int32} {p w y : Nat} {v : Int32} : told (upd d (40 + 8 * p + w) v) p y = if y = w then v else told d p y := by
  unfold told
  by_cases z : y = w
  · rw [if_pos z, z, pk_us]
  · rw [if_neg z, pk_un (by omega)]
theorem DOk_set {d : Nat → Int32} {N : Nat} {p what v : Int32} (H : DOk d N) (hp : okP d p) (hs : okSet d what v) : DOk (upd d (40 + 8 * pr p + pr what) v) N := by
  obtain ⟨np, nw, T, p0, p1, e0, hnp, e1, hnw, e6, hT, hon, e3, hp0, e4, hp1, honp, hper, h10, h11, h12, hwc⟩ := H
  obtain ⟨jp, hjp, ejp⟩ := wi_n e0 (by omega) hp
  rw [show pr p = jp from ix_cl ejp (by omega)]
  have hw : ∃ jw, pr what = jw ∧ ((jw = 1 ∧ wi v 1 299) ∨ (jw = 2 ∧ wi v 0 9) ∨ (jw = 3 ∧ wi v 1 99) ∨ jw = 4 ∨ (jw = 6 ∧ (v = -1 ∨ ∃ w, w < nw ∧ v = nI w))) := by
    rcases hs with q | q | q | q | q
    · exact ⟨1, by rw [q.1]; rfl, Or.inl ⟨rfl, q.2⟩⟩
    · exact ⟨2, by rw [q.1]; rfl, Or.inr (Or.inl ⟨rfl, q.2⟩)⟩
    · exact ⟨3, by rw [q.1]; rfl, Or.inr (Or.inr (Or.inl ⟨rfl, q.2⟩))⟩
    · exact ⟨4, by rw [q.1]; rfl, Or.inr (Or.inr (Or.inr (Or.inl rfl)))⟩
    · refine ⟨6, by rw [q.1]; rfl, Or.inr (Or.inr (Or.inr (Or.inr ⟨rfl, ?_⟩)))⟩
      by_cases z : v < 0
      · exact Or.inl (wi_m1 q.2 z)
      · obtain ⟨w, h1, h2⟩ := wi_n e1 (by omega) ⟨Int32.not_lt.mp z, q.2.2⟩
        exact Or.inr ⟨w, h1, h2⟩
  obtain ⟨jw, ejw, hc⟩ := hw
  rw [ejw]
  have hj7 : jw < 7 := by omega
  have nn : ∀ j, (j < 40 ∨ 104 ≤ j) → upd d (40 + 8 * jp + jw) v j = d j := fun j a => pk_un (by omega)
  refine ⟨np, nw, T, p0, p1, ?_, hnp, ?_, hnw, ?_, hT, ?_, ?_, hp0, ?_, hp1, ?_, fun p hp => ?_, ?_, ?_, ?_, fun w hw => ?_⟩
  · rw [nn 0 (by omega)]; exact e0
  · rw [nn 1 (by omega)]; exact e1
  · rw [nn 6 (by omega)]; exact e6
  · rw [nn 2 (by omega)]; exact hon
  · rw [nn 3 (by omega)]; exact e3
  · rw [nn 4 (by omega)]; exact e4
  · rw [nn 2 (by omega)]; exact honp
  · by_cases y : p = jp
    · subst y
      obtain ⟨a, b, c, e, f⟩ := hper p hp
      unfold PerOk
      rw [told_u, told_u, told_u, told_u, told_u]
      rcases hc with ⟨rfl, h⟩ | ⟨rfl, h⟩ | ⟨rfl, h⟩ | rfl | ⟨rfl, h⟩
      · exact ⟨a, h, c, e, f⟩
      · obtain ⟨l, hl, el⟩ := wi_c 9 rfl (by decide) h
        exact ⟨a, b, ⟨l, hl, el⟩, e, f⟩
      · exact ⟨a, b, c, h, f⟩
      · exact ⟨a, b, c, e, f⟩
      · exact ⟨a, b, c, e, h⟩
    · exact PerOk_c (Nat.le_refl _) (fun w hw => pk_un (by omega)) (hper p hp)
  · rw [nn 10 (by omega)]; exact h10
  · rw [nn 11 (by omega)]; exact h11
  · rw [nn 12 (by omega)]; exact h12
  · rw [nn _ (by omega)]; exact hwc w hw
theorem DOk_log {d : Nat → Int32} {N : Nat} {what v : Int32} (H : DOk d N) (hw : wi what 0 4) (hv : wi v (leastS what) (mostS what)) : DOk (upd d (10 + pr what) v) N := by
  obtain ⟨j, hj, ej⟩ := wi_c 4 rfl (by decide) hw
  rw [show pr what = j from ix_cl ej (by omega)]
  rw [ej] at hv
  obtain ⟨np, nw, T, p0, p1, e0, hnp, e1, hnw, e6, hT, hon, e3, hp0, e4, hp1, honp, hper, h10, h11, h12, hwc⟩ := H
  have nn : ∀ x, (x < 10 ∨ 15 ≤ x) → upd d (10 + j) v x = d x := fun x a => pk_un (by omega)
  refine ⟨np, nw, T, p0, p1, ?_, hnp, ?_, hnw, ?_, hT, ?_, ?_, hp0, ?_, hp1, ?_, fun p hp => PerOk_c (Nat.le_refl _) (fun w hw => nn _ (by omega)) (hper p hp), ?_, ?_, ?_, fun w hw => ?_⟩
  · rw [nn 0 (by omega)]; exact e0
  · rw [nn 1 (by omega)]; exact e1
  · rw [nn 6 (by omega)]; exact e6
  · rw [nn 2 (by omega)]; exact hon
  · rw [nn 3 (by omega)]; exact e3
  · rw [nn 4 (by omega)]; exact e4
  · rw [nn 2 (by omega)]; exact honp
  · by_cases z : j = 0
    · subst z; rw [pk_us]; exact hv
    · rw [pk_un (by omega)]; exact h10
  · by_cases z : j = 1
    · subst z; rw [pk_us]; exact hv
    · rw [pk_un (by omega)]; exact h11
  · by_cases z : j = 2
    · subst z; rw [pk_us]; exact hv
    · rw [pk_un (by omega)]; exact h12
  · rw [nn _ (by omega)]; exact hwc w hw
theorem DOk_mount {d : Nat → Int32} {N : Nat} {a b : Int32} (H : DOk d N) (h : two d a b) : DOk (getsA d (pr a) (pr b)) N := by
  obtain ⟨np, nw, T, p0, p1, e0, hnp, e1, hnw, e6, hT, hon, e3, hp0, e4, hp1, honp, hper, h10, h11, h12, hwc⟩ := H
  obtain ⟨ja, hja, eja⟩ := wi_n e0 (by omega) h.1
  obtain ⟨jb, hjb, ejb⟩ := wi_n e0 (by omega) h.2.1
  rw [show pr a = ja from ix_cl eja (by omega), show pr b = jb from ix_cl ejb (by omega)]
  refine ⟨np, nw, 0, ja, jb, (gA_n (by omega)).trans e0, hnp, (gA_n (by omega)).trans e1, hnw, gA_6, by omega, Or.inr gA_2, gA_3, by omega, gA_4, by omega, fun _ => ⟨hja, hjb, fun z => h.2.2 (by rw [eja, ejb, z])⟩, fun p hp => PerOk_c (Nat.le_refl _) (fun w hw => by rw [gA_told]) (hper p hp), ?_, ?_, ?_, fun w hw => ?_⟩
  · rw [gA_n (by omega)]; exact h10
  · rw [gA_n (by omega)]; exact h11
  · rw [gA_n (by omega)]; exact h12
  · rw [gA_n (by omega)]; exact hwc w hw
theorem DOk_off {d : Nat → Int32} {N : Nat} (H : DOk d N) : DOk (upd d 2 0) N := by
  obtain ⟨np, nw, T, p0, p1, e0, hnp, e1, hnw, e6, hT, hon, e3, hp0, e4, hp1, honp, hper, h10, h11, h12, hwc⟩ := H
  have nn : ∀ x, x ≠ 2 → upd d 2 0 x = d x := fun x a => pk_un a
  refine ⟨np, nw, T, p0, p1, ?_, hnp, ?_, hnw, ?_, hT, Or.inl pk_us, ?_, hp0, ?_, hp1, fun z => absurd (z.symm.trans pk_us) (by decide), fun p hp => PerOk_c (Nat.le_refl _) (fun w hw => nn _ (by omega)) (hper p hp), ?_, ?_, ?_, fun w hw => ?_⟩
  · rw [nn 0 (by omega)]; exact e0
  · rw [nn 1 (by omega)]; exact e1
  · rw [nn 6 (by omega)]; exact e6
  · rw [nn 3 (by omega)]; exact e3
  · rw [nn 4 (by omega)]; exact e4
  · rw [nn 10 (by omega)]; exact h10
  · rw [nn 11 (by omega)]; exact h11
  · rw [nn 12 (by omega)]; exact h12
  · rw [nn _ (by omega)]; exact hwc w hw
theorem rA_6 {p0 p1 : Nat} : ∀ (n : Nat) (m : Nat → Int32) (T : Nat), m 6 = nI T → ∃ T2, (runA m p0 p1 T n).1 6 = nI T2 ∧ T2 ≤ T + n := by
  intro n
  induction n with
  | zero => intro m T e; exact ⟨T, e, Nat.le_refl _⟩
  | succ n ih =>
    intro m T e
    have e2 : gbA m p0 p1 T 6 = nI (T + 1) := by rw [gbA_6, e, nI_1]
    unfold runA
    by_cases z : gbO m p0 p1 = 0
    · rw [if_pos z]
      obtain ⟨T2, h1, h2⟩ := ih _ _ e2
      exact ⟨T2, h1, by omega⟩
    · rw [if_neg z]; exact ⟨T + 1, e2, by omega⟩
theorem DOk_bout {d : Nat → Int32} {N : Nat} {n : Int32} (H : DOk d N) (hn : wi n 1 400) (h2 : ¬ d 2 = 0) (hN : N + 400 ≤ 204800) : DOk (boutE d n.toNatClampNeg) (N + 400) := by
  obtain ⟨np, nw, T, p0, p1, e0, hnp, e1, hnw, e6, hT, hon, e3, hp0, e4, hp1, honp, hper, h10, h11, h12, hwc⟩ := H
  obtain ⟨nn, hn1, hn4, en⟩ := wi_1 400 rfl (by decide) hn
  have hd2 := hon.resolve_left h2
  have hab := honp hd2
  have hR : boutR d n.toNatClampNeg = runA d p0 p1 (d 6).toNatClampNeg nn := by unfold boutR; rw [ix_cl en (by omega), ix_cl e3 (by omega), ix_cl e4 (by omega)]
  have hK : ∀ j, (j ≠ 5 ∧ j ≠ 6 ∧ j ≠ 8 ∧ (j < 16 ∨ 22 ≤ j) ∧ (j < 24 ∨ 34 ≤ j)) → (boutR d n.toNatClampNeg).1 j = d j := fun j hj => by rw [hR]; exact rA_keep hj _ _ _
  have h6 : ∃ T2, (boutR d n.toNatClampNeg).1 6 = nI T2 ∧ T2 ≤ N + 400 := by
    obtain ⟨T2, a, b⟩ := rA_6 (p0 := p0) (p1 := p1) nn d T e6
    refine ⟨T2, ?_, by omega⟩
    rw [hR, ix_cl e6 (by omega)]; exact a
  obtain ⟨T2, eT, hT2⟩ := h6
  have base : DOk (boutR d n.toNatClampNeg).1 (N + 400) := by
    refine ⟨np, nw, T2, p0, p1, (hK 0 (by omega)).trans e0, hnp, (hK 1 (by omega)).trans e1, hnw, eT, hT2, by rw [hK 2 (by omega)]; exact hon, (hK 3 (by omega)).trans e3, hp0, (hK 4 (by omega)).trans e4, hp1, by rw [hK 2 (by omega)]; exact honp, fun p hp => PerOk_c (Nat.le_refl _) (fun w hw => hK _ (by omega)) (hper p hp), by rw [hK 10 (by omega)]; exact h10, by rw [hK 11 (by omega)]; exact h11, by rw [hK 12 (by omega)]; exact h12, fun w hw => by rw [hK _ (by omega)]; exact hwc w hw⟩
  unfold boutE
  by_cases z : 0 < (boutR d n.toNatClampNeg).2
  · rw [if_pos z, show (d 3).toNatClampNeg = p0 from ix_cl e3 (by omega), show (d 4).toNatClampNeg = p1 from ix_cl e4 (by omega)]
    generalize (boutR d n.toNatClampNeg).1 = r at *
    have nx : ∀ j, (j ≠ 2 ∧ j ≠ 7 ∧ j ≠ 40 + 8 * p0 + 5 ∧ j ≠ 40 + 8 * p1 + 5) → endA r (boutR d n.toNatClampNeg).2 p0 p1 j = d j ∨ j = 5 ∨ j = 6 ∨ j = 8 ∨ (16 ≤ j ∧ j < 22) ∨ (24 ≤ j ∧ j < 34) := fun j hj => by
      by_cases y : j = 5 ∨ j = 6 ∨ j = 8 ∨ (16 ≤ j ∧ j < 22) ∨ (24 ≤ j ∧ j < 34)
      · exact Or.inr y
      · exact Or.inl ((endA_n hj).trans (hK j (by omega)))
    have nz : ∀ j, (j ≠ 2 ∧ j ≠ 7 ∧ j ≠ 40 + 8 * p0 + 5 ∧ j ≠ 40 + 8 * p1 + 5) → (j ≠ 5 ∧ j ≠ 6 ∧ j ≠ 8 ∧ (j < 16 ∨ 22 ≤ j) ∧ (j < 24 ∨ 34 ≤ j)) → endA r (boutR d n.toNatClampNeg).2 p0 p1 j = d j := fun j a b => (endA_n a).trans (hK j b)
    refine ⟨np, nw, T2, p0, p1, (nz 0 (by omega) (by omega)).trans e0, hnp, (nz 1 (by omega) (by omega)).trans e1, hnw, (endA_n (by omega)).trans eT, hT2, Or.inl endA_2, (nz 3 (by omega) (by omega)).trans e3, hp0, (nz 4 (by omega) (by omega)).trans e4, hp1, fun y => absurd (endA_2.symm.trans y) (by decide), fun p hp => ?_, by rw [nz 10 (by omega) (by omega)]; exact h10, by rw [nz 11 (by omega) (by omega)]; exact h11, by rw [nz 12 (by omega) (by omega)]; exact h12, fun w hw => by rw [nz _ (by omega) (by omega)]; exact hwc w hw⟩
    obtain ⟨a, b, c, e, f⟩ := hper p hp
    have nt : ∀ w, w < 7 → w ≠ 5 → told (endA r (boutR d n.toNatClampNeg).2 p0 p1) p w = told d p w := fun w hw h5 => nz (40 + 8 * p + w) (by omega) (by omega)
    unfold PerOk
    rw [nt 0 (by decide) (by decide), nt 1 (by decide) (by decide), nt 2 (by decide) (by decide), nt 3 (by decide) (by decide), nt 6 (by decide) (by decide)]
    exact ⟨a, b, c, e, f⟩
  · rw [if_neg z]; exact base
theorem wyF_c {f : Nat → Int32} {n W : Nat} : ∀ (q m : Nat) (D : Nat → Int32) (a : Nat), D W = nI m → m ≤ 6 → (wyF f n W q m D a).1 = true → ∃ c, (wyF f n W q m D a).2.2 W = nI c ∧ c ≤ 6 := by
  intro q
  induction q with
  | zero => intro m D a e hm h; exact absurd (show false = true from h) (by decide)
  | succ q ih =>
    intro m D a e hm
    unfold wyF
    by_cases z : rdOk f n a D W
    · rw [if_pos z]
      have h6 : m < 6 := dlt6 e hm z.1.2
      by_cases y : lkT f n (rdA f n a D W) = 0
      · rw [if_pos y]; intro _; exact ⟨m + 1, rdD_w (by omega) e z, by omega⟩
      · rw [if_neg y]
        by_cases x : sgAt f n (rdA f n a D W) 59
        · rw [if_pos x]; exact ih (m + 1) _ _ (rdD_w (by omega) e z) (by omega)
        · rw [if_neg x]; intro h; exact absurd (show false = true from h) (by decide)
    · rw [if_neg z]; intro h; exact absurd (show false = true from h) (by decide)
theorem so_roller {S : OS} {N : Nat} (kind : Int32) (weight : Int32) (H : SOk S N) (hN : N + 400 ≤ 204800) : SOk (op_roller S kind weight).2 (N + 400) := by
  obtain ⟨d, k, hk, fo, tape, tp, bits, sz, num⟩ := S
  unfold op_roller
  dsimp only
  by_cases h1 : wi kind 0 5 ∧ wi weight 1 299
  · rw [if_pos h1]
    by_cases h2 : d 0 = 8
    · rw [if_pos h2]; exact SOk_m H
    · rw [if_neg h2]; exact SOk_d H (DOk_m (DOk_newP H.1 h2 h1.1 h1.2))
  · rw [if_neg h1]; exact SOk_m H
theorem so_of {S : OS} {N : Nat} (p : Int32) (what : Int32) (H : SOk S N) (hN : N + 400 ≤ 204800) : SOk (op_of S p what).2 (N + 400) := by
  obtain ⟨d, k, hk, fo, tape, tp, bits, sz, num⟩ := S
  unfold op_of
  dsimp only
  repeat' (first | exact SOk_m H | split)
theorem so_set {S : OS} {N : Nat} (p : Int32) (what : Int32) (v : Int32) (H : SOk S N) (hN : N + 400 ≤ 204800) : SOk (op_set S p what v).2 (N + 400) := by
  obtain ⟨d, k, hk, fo, tape, tp, bits, sz, num⟩ := S
  unfold op_set
  dsimp only
  by_cases h1 : okP d p ∧ okSet d what v
  · rw [if_pos h1]
    by_cases h2 : onLog d p
    · rw [if_pos h2]; exact SOk_m H
    · rw [if_neg h2]; exact SOk_d H (DOk_m (DOk_set H.1 h1.1 h1.2))
  · rw [if_neg h1]; exact SOk_m H
theorem so_as {S : OS} {N : Nat} (p : Int32) (kind : Int32) (H : SOk S N) (hN : N + 400 ≤ 204800) : SOk (op_as S p kind).2 (N + 400) := by
  obtain ⟨d, k, hk, fo, tape, tp, bits, sz, num⟩ := S
  unfold op_as
  dsimp only
  repeat' (first | exact SOk_m H | split)
theorem so_log {S : OS} {N : Nat} (what : Int32) (v : Int32) (H : SOk S N) (hN : N + 400 ≤ 204800) : SOk (op_log S what v).2 (N + 400) := by
  obtain ⟨d, k, hk, fo, tape, tp, bits, sz, num⟩ := S
  unfold op_log
  dsimp only
  by_cases h1 : wi what 0 4
  · rw [if_pos h1]
    by_cases h2 : wi v (leastS what) (mostS what)
    · rw [if_pos h2]; exact SOk_d H (DOk_m (DOk_log H.1 h1 h2))
    · rw [if_neg h2]; exact SOk_m H
  · rw [if_neg h1]; exact SOk_m H
theorem so_push {S : OS} {N : Nat} (p : Int32) (s : Int32) (l : Int32) (e : Int32) (t : Int32) (H : SOk S N) (hN : N + 400 ≤ 204800) : SOk (op_push S p s l e t).2 (N + 400) := by
  obtain ⟨d, k, hk, fo, tape, tp, bits, sz, num⟩ := S
  unfold op_push
  dsimp only
  repeat' (first | exact SOk_m H | split)
theorem so_mount {S : OS} {N : Nat} (a : Int32) (b : Int32) (H : SOk S N) (hN : N + 400 ≤ 204800) : SOk (op_mount S a b).2 (N + 400) := by
  obtain ⟨d, k, hk, fo, tape, tp, bits, sz, num⟩ := S
  unfold op_mount
  dsimp only
  by_cases h1 : two d a b
  · rw [if_pos h1]
    by_cases h2 : d 2 = 1
    · rw [if_pos h2]; exact SOk_m H
    · rw [if_neg h2]; exact SOk_d H (DOk_m (DOk_mount H.1 h1))
  · rw [if_neg h1]; exact SOk_m H
theorem so_off {S : OS} {N : Nat} (H : SOk S N) (hN : N + 400 ≤ 204800) : SOk (op_off S).2 (N + 400) := by
  obtain ⟨d, k, hk, fo, tape, tp, bits, sz, num⟩ := S
  unfold op_off
  dsimp only
  by_cases h2 : d 2 = 0
  · rw [if_pos h2]; exact SOk_m H
  · rw [if_neg h2]; exact SOk_d H (DOk_m (DOk_off H.1))
theorem so_bout {S : OS} {N : Nat} (n : Int32) (H : SOk S N) (hN : N + 400 ≤ 204800) : SOk (op_bout S n).2 (N + 400) := by
  obtain ⟨d, k, hk, fo, tape, tp, bits, sz, num⟩ := S
  unfold op_bout
  dsimp only
  by_cases h1 : wi n 1 400
  · rw [if_pos h1]
    by_cases h2 : d 2 = 0
    · rw [if_pos h2]; exact SOk_m H
    · rw [if_neg h2]; exact SOk_d H (DOk_bout H.1 h1 h2 hN)
  · rw [if_neg h1]; exact SOk_m H
theorem so_stands {S : OS} {N : Nat} (who : Int32) (what : Int32) (H : SOk S N) (hN : N + 400 ≤ 204800) : SOk (op_stands S who what).2 (N + 400) := by
  obtain ⟨d, k, hk, fo, tape, tp, bits, sz, num⟩ := S
  unfold op_stands
  dsimp only
  repeat' (first | exact SOk_m H | split)
theorem so_now {S : OS} {N : Nat} (what : Int32) (H : SOk S N) (hN : N + 400 ≤ 204800) : SOk (op_now S what).2 (N + 400) := by
  obtain ⟨d, k, hk, fo, tape, tp, bits, sz, num⟩ := S
  unfold op_now
  dsimp only
  repeat' (first | exact SOk_m H | split)
theorem so_seed {S : OS} {N : Nat} (v : Int32) (H : SOk S N) (hN : N + 400 ≤ 204800) : SOk (op_seed S v).2 (N + 400) := by
  obtain ⟨d, k, hk, fo, tape, tp, bits, sz, num⟩ := S
  unfold op_seed
  dsimp only
  exact SOk_d H (DOk_m (DOk_c (fun j hj => pk_un (by omega)) H.1))
theorem so_ahead {S : OS} {N : Nat} (a : Int32) (b : Int32) (n : Int32) (what : Int32) (H : SOk S N) (hN : N + 400 ≤ 204800) : SOk (op_ahead S a b n what).2 (N + 400) := by
  obtain ⟨d, k, hk, fo, tape, tp, bits, sz, num⟩ := S
  unfold op_ahead
  dsimp only
  repeat' (first | exact SOk_m H | split)
theorem so_best {S : OS} {N : Nat} (a : Int32) (b : Int32) (n : Int32) (H : SOk S N) (hN : N + 400 ≤ 204800) : SOk (op_best S a b n).2 (N + 400) := by
  obtain ⟨d, k, hk, fo, tape, tp, bits, sz, num⟩ := S
  unfold op_best
  dsimp only
  repeat' (first | exact SOk_m H | split)
theorem so_light {S : OS} {N : Nat} (a : Int32) (b : Int32) (n : Int32) (H : SOk S N) (hN : N + 400 ≤ 204800) : SOk (op_light S a b n).2 (N + 400) := by
  obtain ⟨d, k, hk, fo, tape, tp, bits, sz, num⟩ := S
  unfold op_light
  dsimp only
  repeat' (first | exact SOk_m H | split)
theorem so_late {S : OS} {N : Nat} (a : Int32) (b : Int32) (n : Int32) (H : SOk S N) (hN : N + 400 ≤ 204800) : SOk (op_late S a b n).2 (N + 400) := by
  obtain ⟨d, k, hk, fo, tape, tp, bits, sz, num⟩ := S
  unfold op_late
  dsimp only
  repeat' (first | exact SOk_m H | split)
theorem so_swing {S : OS} {N : Nat} (a : Int32) (b : Int32) (n : Int32) (what : Int32) (H : SOk S N) (hN : N + 400 ≤ 204800) : SOk (op_swing S a b n what).2 (N + 400) := by
  obtain ⟨d, k, hk, fo, tape, tp, bits, sz, num⟩ := S
  unfold op_swing
  dsimp only
  repeat' (first | exact SOk_m H | split)
theorem so_beats {S : OS} {N : Nat} (p : Int32) (n : Int32) (H : SOk S N) (hN : N + 400 ≤ 204800) : SOk (op_beats S p n).2 (N + 400) := by
  obtain ⟨d, k, hk, fo, tape, tp, bits, sz, num⟩ := S
  unfold op_beats
  dsimp only
  repeat' (first | exact SOk_m H | split)
theorem so_five {S : OS} {N : Nat} (a : Int32) (b : Int32) (n : Int32) (H : SOk S N) (hN : N + 400 ≤ 204800) : SOk (op_five S a b n).2 (N + 400) := by
  obtain ⟨d, k, hk, fo, tape, tp, bits, sz, num⟩ := S
  unfold op_five
  dsimp only
  repeat' (first | exact SOk_m H | split)
theorem so_champion {S : OS} {N : Nat} (n : Int32) (H : SOk S N) (hN : N + 400 ≤ 204800) : SOk (op_champion S n).2 (N + 400) := by
  obtain ⟨d, k, hk, fo, tape, tp, bits, sz, num⟩ := S
  unfold op_champion
  dsimp only
  repeat' (first | exact SOk_m H | split)
theorem so_feed {S : OS} {N : Nat} (bytes : Int32) (n : Int32) (H : SOk S N) (hN : N + 400 ≤ 204800) : SOk (op_feed S bytes n).2 (N + 400) := by
  obtain ⟨d, k, hk, fo, tape, tp, bits, sz, num⟩ := S
  unfold op_feed
  dsimp only
  by_cases h1 : wi n 1 4
  · rw [if_pos h1]
    by_cases h2 : tp + n ≤ 100
    · rw [if_pos h2]
      obtain ⟨a, b, c, ⟨tn, htn, etp⟩, f⟩ := H
      obtain ⟨nn, hn1, hn4, en⟩ := wi_1 4 rfl (by decide) h1
      refine ⟨DOk_m a, fun z => DOk_m (b z), c, ⟨tn + nn, ?_, by rw [etp, en, nI_add]⟩, f⟩
      rw [etp, en, nI_add] at h2
      exact (nI_leI (b := 100) (by omega) (by decide)).mp h2
    · rw [if_neg h2]; exact SOk_m H
  · rw [if_neg h1]; exact SOk_m H
theorem so_wipe {S : OS} {N : Nat} (H : SOk S N) (hN : N + 400 ≤ 204800) : SOk (op_wipe S).2 (N + 400) := by
  obtain ⟨d, k, hk, fo, tape, tp, bits, sz, num⟩ := S
  unfold op_wipe
  dsimp only
  obtain ⟨a, b, c, e, f⟩ := H
  exact ⟨DOk_m a, fun z => DOk_m (b z), c, ⟨0, by decide, rfl⟩, f⟩
theorem so_way {S : OS} {N : Nat} (H : SOk S N) (hN : N + 400 ≤ 204800) : SOk (op_way S).2 (N + 400) := by
  obtain ⟨d, k, hk, fo, tape, tp, bits, sz, num⟩ := S
  unfold op_way
  dsimp only
  by_cases h6 : d 1 = 6
  · rw [if_pos h6]; exact SOk_m H
  · rw [if_neg h6]
    obtain ⟨a, b, c, e, f⟩ := H
    obtain ⟨np, nw, T, p0, p1, e0, hnp, e1, hnw, e6, hT, hon, e3, hp0, e4, hp1, honp, hper, h10, h11, h12, hwc⟩ := a
    have hn6 : nw < 6 := by
      rcases Nat.lt_or_ge nw 6 with z | z
      · exact z
      · exact absurd (by rw [e1, show nw = 6 by omega]; rfl) h6
    rw [show pr (d 1) = nw from ix_cl e1 (by omega)]
    have hK : ∀ j, (j < 110 + 25 * nw ∨ 110 + 25 * nw + 25 ≤ j) → (wyF tape (pr tp) (110 + 25 * nw) 7 0 (upd d (110 + 25 * nw) 0) 0).2.2 j = d j := fun j hj => (wyF_n 7 0 (upd d (110 + 25 * nw) 0) 0 (show upd d (110 + 25 * nw) 0 (110 + 25 * nw) = nI 0 from pk_us) (by decide) j hj).trans (pk_un (by omega))
    have hC := wyF_c (f := tape) (n := pr tp) 7 0 (upd d (110 + 25 * nw) 0) 0 (show upd d (110 + 25 * nw) 0 (110 + 25 * nw) = nI 0 from pk_us) (by decide)
    generalize wyF tape (pr tp) (110 + 25 * nw) 7 0 (upd d (110 + 25 * nw) 0) 0 = R at *
    by_cases h1 : R.1 = true
    · rw [if_pos h1]
      have nn : ∀ j, j ≠ 1 → (j < 110 + 25 * nw ∨ 110 + 25 * nw + 25 ≤ j) → upd R.2.2 1 (R.2.2 1 + 1) j = d j := fun j z1 z2 => (pk_un z1).trans (hK j z2)
      refine ⟨⟨np, nw + 1, T, p0, p1, (nn 0 (by omega) (by omega)).trans e0, hnp, ?_, by omega, (nn 6 (by omega) (by omega)).trans e6, by omega, by rw [nn 2 (by omega) (by omega)]; exact hon, (nn 3 (by omega) (by omega)).trans e3, hp0, (nn 4 (by omega) (by omega)).trans e4, hp1, by rw [nn 2 (by omega) (by omega)]; exact honp, fun p hp => PerOk_c (Nat.le_succ _) (fun w hw => nn _ (by omega) (by omega)) (hper p hp), by rw [nn 10 (by omega) (by omega)]; exact h10, by rw [nn 11 (by omega) (by omega)]; exact h11, by rw [nn 12 (by omega) (by omega)]; exact h12, fun w hw => ?_⟩, fun z => DOk_m (b z), c, ⟨0, by decide, rfl⟩, f⟩
      · show upd R.2.2 1 (R.2.2 1 + 1) 1 = _
        rw [pk_us, hK 1 (by omega), e1, nI_1]
      · by_cases y : w = nw
        · subst y
          obtain ⟨cc, q1, q2⟩ := hC h1
          exact ⟨cc, (pk_un (by omega)).trans q1, q2⟩
        · rw [nn _ (by omega) (by omega)]; exact hwc w (by omega)
    · rw [if_neg h1]
      refine ⟨⟨np, nw, T, p0, p1, (hK 0 (by omega)).trans e0, hnp, (hK 1 (by omega)).trans e1, hnw, (hK 6 (by omega)).trans e6, by omega, by rw [hK 2 (by omega)]; exact hon, (hK 3 (by omega)).trans e3, hp0, (hK 4 (by omega)).trans e4, hp1, by rw [hK 2 (by omega)]; exact honp, fun p hp => PerOk_c (Nat.le_refl _) (fun w hw => hK _ (by omega)) (hper p hp), by rw [hK 10 (by omega)]; exact h10, by rw [hK 11 (by omega)]; exact h11, by rw [hK 12 (by omega)]; exact h12, fun w hw => by rw [hK _ (by omega)]; exact hwc w hw⟩, fun z => DOk_m (b z), c, ⟨0, by decide, rfl⟩, f⟩
theorem so_rules {S : OS} {N : Nat} (w : Int32) (H : SOk S N) (hN : N + 400 ≤ 204800) : SOk (op_rules S w).2 (N + 400) := by
  obtain ⟨d, k, hk, fo, tape, tp, bits, sz, num⟩ := S
  unfold op_rules
  dsimp only
  repeat' (first | exact SOk_m H | split)
theorem so_holds {S : OS} {N : Nat} (w : Int32) (s : Int32) (l : Int32) (e : Int32) (t : Int32) (H : SOk S N) (hN : N + 400 ≤ 204800) : SOk (op_holds S w s l e t).2 (N + 400) := by
  obtain ⟨d, k, hk, fo, tape, tp, bits, sz, num⟩ := S
  unfold op_holds
  dsimp only
  repeat' (first | exact SOk_m H | split)
theorem so_sheet {S : OS} {N : Nat} (s : Int32) (b : Int32) (n : Int32) (H : SOk S N) (hN : N + 400 ≤ 204800) : SOk (op_sheet S s b n).2 (N + 400) := by
  obtain ⟨d, k, hk, fo, tape, tp, bits, sz, num⟩ := S
  unfold op_sheet
  dsimp only
  by_cases h1 : wi s 0 3 ∧ okBits b
  · rw [if_pos h1]
    by_cases h2 : n < 0
    · rw [if_pos h2]; exact SOk_m H
    · rw [if_neg h2]
      by_cases h3 : 40 < n
      · rw [if_pos h3]; exact SOk_m H
      · rw [if_neg h3]
        obtain ⟨a, b2, c, e, f⟩ := H
        refine ⟨DOk_m a, fun z => DOk_m (b2 z), c, e, fun x hx => ?_⟩
        by_cases y : x = pr s
        · rw [y, pk_us]
          by_cases w : b = 0
          · rw [if_pos w]; exact ⟨0, by decide, rfl⟩
          · rw [if_neg w]
            obtain ⟨j, hj, ej⟩ := nI_of2 (M := 40) (n := 40) rfl h2 (Int32.not_lt.mp h3)
            exact ⟨j, hj, ej⟩
        · rw [pk_un y]; exact f x hx
  · rw [if_neg h1]; exact SOk_m H
theorem so_write {S : OS} {N : Nat} (s : Int32) (q : Int32) (v : Int64) (H : SOk S N) (hN : N + 400 ≤ 204800) : SOk (op_write S s q v).2 (N + 400) := by
  obtain ⟨d, k, hk, fo, tape, tp, bits, sz, num⟩ := S
  unfold op_write
  dsimp only
  repeat' (first | exact SOk_m H | split)
theorem so_copy {S : OS} {N : Nat} (s : Int32) (f : Int32) (u : Int32) (to : Int32) (n : Int32) (H : SOk S N) (hN : N + 400 ≤ 204800) : SOk (op_copy S s f u to n).2 (N + 400) := by
  obtain ⟨d, k, hk, fo, tape, tp, bits, sz, num⟩ := S
  unfold op_copy
  dsimp only
  repeat' (first | exact SOk_m H | split)
theorem so_film {S : OS} {N : Nat} (s : Int32) (a : Int32) (b : Int32) (H : SOk S N) (hN : N + 400 ≤ 204800) : SOk (op_film S s a b).2 (N + 400) := by
  obtain ⟨d, k, hk, fo, tape, tp, bits, sz, num⟩ := S
  unfold op_film
  dsimp only
  repeat' (first | exact SOk_m H | split)
theorem so_read {S : OS} {N : Nat} (s : Int32) (a : Int32) (b : Int32) (H : SOk S N) (hN : N + 400 ≤ 204800) : SOk (op_read S s a b).2 (N + 400) := by
  obtain ⟨d, k, hk, fo, tape, tp, bits, sz, num⟩ := S
  unfold op_read
  dsimp only
  repeat' (first | exact SOk_m H | split)
theorem so_image {S : OS} {N : Nat} (H : SOk S N) (hN : N + 400 ≤ 204800) : SOk (op_image S).2 (N + 400) := by
  obtain ⟨d, k, hk, fo, tape, tp, bits, sz, num⟩ := S
  unfold op_image
  dsimp only
  obtain ⟨a, b, c, e, f⟩ := H
  exact ⟨DOk_m a, fun _ => DOk_m a, Or.inr rfl, e, f⟩
theorem so_undo {S : OS} {N : Nat} (H : SOk S N) (hN : N + 400 ≤ 204800) : SOk (op_undo S).2 (N + 400) := by
  obtain ⟨d, k, hk, fo, tape, tp, bits, sz, num⟩ := S
  unfold op_undo
  dsimp only
  by_cases h : hk = 0
  · rw [if_pos h]; exact SOk_m H
  · rw [if_neg h]
    obtain ⟨a, b, c, e, f⟩ := H
    exact ⟨DOk_m (b (c.resolve_left h)), fun z => DOk_m (b z), c, e, f⟩
theorem so_tear {S : OS} {N : Nat} (H : SOk S N) (hN : N + 400 ≤ 204800) : SOk (op_tear S).2 (N + 400) := by
  obtain ⟨d, k, hk, fo, tape, tp, bits, sz, num⟩ := S
  unfold op_tear
  dsimp only
  obtain ⟨a, b, c, e, f⟩ := H
  exact ⟨DOk_m a, fun z => absurd z (by decide), Or.inl rfl, e, f⟩
theorem so_count {S : OS} {N : Nat} (what : Int32) (H : SOk S N) (hN : N + 400 ≤ 204800) : SOk (op_count S what).2 (N + 400) := by
  obtain ⟨d, k, hk, fo, tape, tp, bits, sz, num⟩ := S
  unfold op_count
  dsimp only
  repeat' (first | exact SOk_m H | split)
theorem so_status {S : OS} {N : Nat} (w : Int32) (H : SOk S N) (hN : N + 400 ≤ 204800) : SOk (op_status S w).2 (N + 400) := by
  obtain ⟨d, k, hk, fo, tape, tp, bits, sz, num⟩ := S
  unfold op_status
  dsimp only
  repeat' (first | exact SOk_m H | split)
