/-! ===== the class's world: its cells by their order of making ===== -/
def Inj (B : Nat → Nat) : Prop := ∀ i j, i < 50 → j < 50 → i ≠ j → B i ≠ B j
def gX (h : Hp) (B : Nat → Nat) (hk : Int32) : Prop := h (B 0) = some (ob 7 [.ref (B 1), .ref (B 17), .int hk, .ref (B 33), .ref (B 37), .ref (B 38), .ref (B 40), .ref (B 41)])
def gW (h : Hp) (C : Nat → Nat) (d : Nat → Int32) : Prop := h (C 1) = some (ob 6 [.ref (C 2), .int (d 0), .ref (C 3), .int (d 1), .ref (C 4), .ref (C 5), .int (bI (d 2 = 1)), .int (d 3), .int (d 4), .int (d 7)])
def gP (g : GT) (h : Hp) (C : Nat → Nat) (d : Nat → Int32) : Prop := ∃ (pf : Nat → Option Nat) (F : Nat → Nat → Int32), h (C 2) = some (ar g 2 8 pf) ∧ (∀ p, p < 8 → pf p = some (C (9 + p))) ∧ (∀ p, p < 8 → h (C (9 + p)) = some (ob 1 [.int (F p 0), .int (F p 1), .int (F p 2), .int (F p 3), .int (F p 4), .int (F p 5), .int (F p 6)])) ∧ ∀ p, p < 8 → p < (d 0).toNatClampNeg → ∀ w, w < 7 → F p w = told d p w
def gY (g : GT) (h : Hp) (C : Nat → Nat) (d : Nat → Int32) : Prop := ∃ wf : Nat → Option Nat, h (C 3) = some (ar g 4 6 wf) ∧ (∀ j a, j < 6 → wf j = some a → ∃ fs, h a = some (ob 5 fs)) ∧ ∀ w, w < 6 → w < (d 1).toNatClampNeg → ∃ a, wf w = some a ∧ WayC g h a d w
def gT (g : GT) (h : Hp) (C : Nat → Nat) (d : Nat → Int32) : Prop := h (C 4) = some (ai g 5 (ptF d))
def gM (g : GT) (h : Hp) (C : Nat → Nat) (d : Nat → Int32) : Prop := ∃ (tr : Nat → Int32) (T : Nat) (s0 v0 s1 v1 : Int32), h (C 5) = some (ob 0 [.ref (C 4), .ref (C 3), .ref (C 6), .ref (C 7), .ref (C 8), .int (d 5), .int (d 6), .int (d 8)]) ∧ h (C 6) = some (ai g 10 tr) ∧ h (C 7) = some (ob 3 [.int (d 16), .int (d 18), .int (d 20), .int s0, .int v0]) ∧ h (C 8) = some (ob 3 [.int (d 17), .int (d 19), .int (d 21), .int s1, .int v1]) ∧ d 6 = nI T ∧ T < 2 ^ 30 ∧ RingOk d T tr ∧ RB T tr
def gWd (g : GT) (h : Hp) (C : Nat → Nat) (d : Nat → Int32) : Prop := gW h C d ∧ gP g h C d ∧ gY g h C d ∧ gT g h C d ∧ gM g h C d
def gO (g : GT) (h : Hp) (B : Nat → Nat) : Prop := ∃ (tr : Nat → Int32) (u5 u6 u8 a0 a1 a2 a3 a4 b0 b1 b2 b3 b4 : Int32), h (B 33) = some (ob 0 [.ref (B 4), .ref (B 3), .ref (B 34), .ref (B 35), .ref (B 36), .int u5, .int u6, .int u8]) ∧ h (B 34) = some (ai g 10 tr) ∧ h (B 35) = some (ob 3 [.int a0, .int a1, .int a2, .int a3, .int a4]) ∧ h (B 36) = some (ob 3 [.int b0, .int b1, .int b2, .int b3, .int b4])
def gR (h : Hp) (B : Nat → Nat) : Prop := ∃ f : Nat → Int32, h (B 37) = some (ob 1 [.int (f 0), .int (f 1), .int (f 2), .int (f 3), .int (f 4), .int (f 5), .int (f 6)])
def gA (g : GT) (h : Hp) (B : Nat → Nat) (tape : Nat → Int32) (tp : Int32) : Prop := ∃ st en tk vl : Int32, h (B 38) = some (ob 4 [.ref (B 39), .int tp, .int st, .int en, .int tk, .int vl]) ∧ h (B 39) = some (ai g 100 tape)
def gS (g : GT) (h : Hp) (B : Nat → Nat) (bits sz : Nat → Int32) (num : Nat → Int64) : Prop := ∃ (sf : Nat → Option Nat) (nf : Nat → Nat → Int64), h (B 40) = some (ar g 3 4 sf) ∧ (∀ s, s < 4 → sf s = some (B (42 + 2 * s))) ∧ (∀ s, s < 4 → h (B (42 + 2 * s)) = some (ob 2 [.int (bits s), .int (sz s), .ref (B (43 + 2 * s))])) ∧ (∀ s, s < 4 → h (B (43 + 2 * s)) = some (al g 40 (nf s))) ∧ ∀ s j, s < 4 → j < 40 → nf s j = num (40 * s + j)
def gF (g : GT) (h : Hp) (B : Nat → Nat) (fo : Nat → Int32) : Prop := h (B 41) = some (ai g 7 fo)
def CR (g : GT) (h : Hp) (B : Nat → Nat) (S : OS) : Prop := match S with
  | (d, k, hk, fo, tape, tp, bits, sz, num) => Inj B ∧ gX h B hk ∧ gWd g h B d ∧ (∃ k2, gWd g h (fun j => B (j + 16)) k2 ∧ (hk = 1 → k2 = k)) ∧ gO g h B ∧ gR h B ∧ gA g h B tape tp ∧ gS g h B bits sz num ∧ gF g h B fo
/-- what holds of a person's numbers -/
def PerOk (d : Nat → Int32) (nw p : Nat) : Prop := wi (told d p 0) 0 5 ∧ wi (told d p 1) 1 299 ∧ (∃ l, l ≤ 9 ∧ told d p 2 = nI l) ∧ wi (told d p 3) 1 99 ∧ (told d p 6 = -1 ∨ ∃ w, w < nw ∧ told d p 6 = nI w)
/-- what holds of a row of numbers after calls of at most N ticks -/
def DOk (d : Nat → Int32) (N : Nat) : Prop := ∃ np nw T p0 p1 : Nat, d 0 = nI np ∧ np ≤ 8 ∧ d 1 = nI nw ∧ nw ≤ 6 ∧ d 6 = nI T ∧ T ≤ N ∧ (d 2 = 0 ∨ d 2 = 1) ∧ d 3 = nI p0 ∧ p0 < 8 ∧ d 4 = nI p1 ∧ p1 < 8 ∧ (d 2 = 1 → p0 < np ∧ p1 < np ∧ p0 ≠ p1) ∧ (∀ p, p < np → PerOk d nw p) ∧ wi (d 10) 1 99 ∧ wi (d 11) 0 50 ∧ wi (d 12) 0 50 ∧ ∀ w, w < nw → ∃ c, d (110 + 25 * w) = nI c ∧ c ≤ 6
def SOk (S : OS) (N : Nat) : Prop := match S with
  | (d, k, hk, fo, tape, tp, bits, sz, num) => DOk d N ∧ (hk = 1 → DOk k N) ∧ (hk = 0 ∨ hk = 1) ∧ (∃ n, n ≤ 100 ∧ tp = nI n) ∧ ∀ s, s < 4 → ∃ z, z ≤ 40 ∧ sz s = nI z
section GE
variable {g : GT} {h h2 : Hp} {B C : Nat → Nat} {d d2 : Nat → Int32}
theorem gX_e {hk : Int32} (e : h2 (B 0) = h (B 0)) (H : gX h B hk) : gX h2 B hk := e.trans H
theorem gW_e (e : h2 (C 1) = h (C 1)) (q : d2 0 = d 0 ∧ d2 1 = d 1 ∧ d2 2 = d 2 ∧ d2 3 = d 3 ∧ d2 4 = d 4 ∧ d2 7 = d 7) (H : gW h C d) : gW h2 C d2 := by
  unfold gW at *
  obtain ⟨q0, q1, q2, q3, q4, q7⟩ := q
  rw [q0, q1, q3, q4, q7, bI_congr (show d2 2 = 1 ↔ d 2 = 1 by rw [q2])]
  exact e.trans H
theorem gP_e (e : ∀ j, j = 2 ∨ (9 ≤ j ∧ j ≤ 16) → h2 (C j) = h (C j)) (q0 : d2 0 = d 0) (q : ∀ j, 40 ≤ j → j < 104 → d2 j = d j) (H : gP g h C d) : gP g h2 C d2 := by
  obtain ⟨pf, F, a1, a2, a3, a4⟩ := H
  refine ⟨pf, F, (e 2 (Or.inl rfl)).trans a1, a2, fun p hp => (e (9 + p) (Or.inr (by omega))).trans (a3 p hp), fun p hp hn w hw => ?_⟩
  rw [q0] at hn
  rw [a4 p hp hn w hw]
  exact (q (40 + 8 * p + w) (by omega) (by omega)).symm
theorem WayC_e {a w : Nat} (ew : ∀ x c, h x = some c → wayKd (kd c) = true → h2 x = h x) (hw : w < 6) (q : ∀ j, 110 ≤ j → j < 260 → d2 j = d j) (H : WayC g h a d w) : WayC g h2 a d2 w := by
  obtain ⟨c, n1, n2, n3, n4, f1, f2, f3, f4, a0, a1, a2, a3, a4, hc, e0, hr⟩ := H
  exact ⟨c, n1, n2, n3, n4, f1, f2, f3, f4, (ew _ _ a0 rfl).trans a0, (ew _ _ a1 rfl).trans a1, (ew _ _ a2 rfl).trans a2, (ew _ _ a3 rfl).trans a3, (ew _ _ a4 rfl).trans a4, hc, (q _ (by omega) (by omega)).trans e0, fun k hk => RuleE_c (fun j h1 h2 => q j (by omega) (by omega)) (hr k hk)⟩
theorem gY_e (e : h2 (C 3) = h (C 3)) (ew : ∀ x c, h x = some c → wayKd (kd c) = true → h2 x = h x) (q1 : d2 1 = d 1) (q : ∀ j, 110 ≤ j → j < 260 → d2 j = d j) (H : gY g h C d) : gY g h2 C d2 := by
  obtain ⟨wf, a1, a2, a3⟩ := H
  refine ⟨wf, e.trans a1, fun j a hj hf => ?_, fun w h6 hw => ?_⟩
  · obtain ⟨fs, hfs⟩ := a2 j a hj hf
    exact ⟨fs, (ew _ _ hfs rfl).trans hfs⟩
  · rw [q1] at hw
    obtain ⟨a, b1, b2⟩ := a3 w h6 hw
    exact ⟨a, b1, WayC_e ew h6 q b2⟩
theorem ptF_c (q : ∀ j, 10 ≤ j → j < 15 → d2 j = d j) : ptF d2 = ptF d := by
  funext j; unfold ptF
  by_cases z : j < 5
  · rw [if_pos z, if_pos z, q _ (by omega) (by omega)]
  · rw [if_neg z, if_neg z]
theorem gT_e (e : h2 (C 4) = h (C 4)) (q : ∀ j, 10 ≤ j → j < 15 → d2 j = d j) (H : gT g h C d) : gT g h2 C d2 := by
  unfold gT at *
  rw [ptF_c q]; exact e.trans H
theorem RingOk_c {T : Nat} {tr : Nat → Int32} (q5 : d2 5 = d 5) (q : ∀ j, 24 ≤ j → j < 34 → d2 j = d j) (H : RingOk d T tr) : RingOk d2 T tr := by
  refine ⟨by rw [q5]; exact H.1, fun j h1 h2 => ?_⟩
  have := Nat.mod_lt j (show 0 < 10 by decide)
  rw [q _ (by omega) (by omega)]; exact H.2 j h1 h2
theorem gM_e (e : ∀ j, 5 ≤ j → j ≤ 8 → h2 (C j) = h (C j)) (q : ∀ j, j < 40 → (j = 5 ∨ j = 6 ∨ j = 8 ∨ 16 ≤ j) → d2 j = d j) (H : gM g h C d) : gM g h2 C d2 := by
  obtain ⟨tr, T, s0, v0, s1, v1, a5, a6, a7, a8, e6, hT, hR, hB⟩ := H
  refine ⟨tr, T, s0, v0, s1, v1, ?_, (e 6 (by decide) (by decide)).trans a6, ?_, ?_, ?_, hT, RingOk_c (q 5 (by decide) (by decide)) (fun j h1 h2 => q j (by omega) (by omega)) hR, hB⟩
  · rw [q 5 (by decide) (by decide), q 6 (by decide) (by decide), q 8 (by decide) (by decide)]; exact (e 5 (by decide) (by decide)).trans a5
  · rw [q 16 (by decide) (by decide), q 18 (by decide) (by decide), q 20 (by decide) (by decide)]; exact (e 7 (by decide) (by decide)).trans a7
  · rw [q 17 (by decide) (by decide), q 19 (by decide) (by decide), q 21 (by decide) (by decide)]; exact (e 8 (by decide) (by decide)).trans a8
  · rw [q 6 (by decide) (by decide)]; exact e6
theorem gWd_e (e : ∀ j, 1 ≤ j → j ≤ 16 → h2 (C j) = h (C j)) (ew : ∀ x c, h x = some c → wayKd (kd c) = true → h2 x = h x) (H : gWd g h C d) : gWd g h2 C d := by
  obtain ⟨a, b, c, d1, e1⟩ := H
  exact ⟨gW_e (e 1 (by decide) (by decide)) ⟨rfl, rfl, rfl, rfl, rfl, rfl⟩ a, gP_e (fun j hj => e j (by omega) (by omega)) rfl (fun _ _ _ => rfl) b, gY_e (e 3 (by decide) (by decide)) ew rfl (fun _ _ _ => rfl) c, gT_e (e 4 (by decide) (by decide)) (fun _ _ _ => rfl) d1, gM_e (fun j h1 h2 => e j (by omega) (by omega)) (fun _ _ _ => rfl) e1⟩
theorem gO_e (e : ∀ j, 33 ≤ j → j ≤ 36 → h2 (B j) = h (B j)) (H : gO g h B) : gO g h2 B := by
  obtain ⟨tr, u5, u6, u8, a0, a1, a2, a3, a4, b0, b1, b2, b3, b4, x1, x2, x3, x4⟩ := H
  exact ⟨tr, u5, u6, u8, a0, a1, a2, a3, a4, b0, b1, b2, b3, b4, (e 33 (by decide) (by decide)).trans x1, (e 34 (by decide) (by decide)).trans x2, (e 35 (by decide) (by decide)).trans x3, (e 36 (by decide) (by decide)).trans x4⟩
theorem gR_e (e : h2 (B 37) = h (B 37)) (H : gR h B) : gR h2 B := by
  obtain ⟨f, hf⟩ := H
  exact ⟨f, e.trans hf⟩
theorem gA_e {tape : Nat → Int32} {tp : Int32} (e : ∀ j, 38 ≤ j → j ≤ 39 → h2 (B j) = h (B j)) (H : gA g h B tape tp) : gA g h2 B tape tp := by
  obtain ⟨st, en, tk, vl, a, b⟩ := H
  exact ⟨st, en, tk, vl, (e 38 (by decide) (by decide)).trans a, (e 39 (by decide) (by decide)).trans b⟩
theorem gS_e {bits sz : Nat → Int32} {num : Nat → Int64} (e : ∀ j, j < 50 → (j = 40 ∨ 42 ≤ j) → h2 (B j) = h (B j)) (H : gS g h B bits sz num) : gS g h2 B bits sz num := by
  obtain ⟨sf, nf, a1, a2, a3, a4, a5⟩ := H
  exact ⟨sf, nf, (e 40 (by decide) (by decide)).trans a1, a2, fun s hs => (e _ (by omega) (by omega)).trans (a3 s hs), fun s hs => (e _ (by omega) (by omega)).trans (a4 s hs), a5⟩
theorem gF_e {fo : Nat → Int32} (e : h2 (B 41) = h (B 41)) (H : gF g h B fo) : gF g h2 B fo := e.trans H
theorem gP_at {p : Nat} (hp : p < 8) (hn : p < (d 0).toNatClampNeg) (H : gP g h C d) : h (C (9 + p)) = some (ob 1 [.int ((told d p) 0), .int ((told d p) 1), .int ((told d p) 2), .int ((told d p) 3), .int ((told d p) 4), .int ((told d p) 5), .int ((told d p) 6)]) := by
  obtain ⟨pf, F, a1, a2, a3, a4⟩ := H
  rw [a3 p hp, a4 p hp hn 0 (by decide), a4 p hp hn 1 (by decide), a4 p hp hn 2 (by decide), a4 p hp hn 3 (by decide), a4 p hp hn 4 (by decide), a4 p hp hn 5 (by decide), a4 p hp hn 6 (by decide)]
end GE
