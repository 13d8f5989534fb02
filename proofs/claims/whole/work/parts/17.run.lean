/-! ===== bouts: the real one, and those ahead ===== -/
def BOk (m : Nat → Int32) (p0 p1 T : Nat) : Prop := m 3 = nI p0 ∧ m 4 = nI p1 ∧ p0 < 8 ∧ p1 < 8 ∧ m 6 = nI T ∧ wayOk m p0 ∧ wayOk m p1 ∧ ¬ m 10 * m 10 + told m p0 1 + told m p1 1 = 0
theorem gbA_keep {m : Nat → Int32} {p0 p1 T j : Nat} (h : j ≠ 5 ∧ j ≠ 6 ∧ j ≠ 8 ∧ (j < 16 ∨ 22 ≤ j) ∧ (j < 24 ∨ 34 ≤ j)) : gbA m p0 p1 T j = m j := by
  obtain ⟨h1, h2, h3, h4, h5⟩ := h
  unfold gbA
  rw [pk_un (by omega), pk_un (by omega), pk_un (by omega), pk_un (by omega), pk_un (by omega), pk_un (by omega), pk_un (by omega), pk_un (by omega), pk_un (by omega), pk_un (by omega), pk_un (by omega)]
theorem gbA_told {m : Nat → Int32} {p0 p1 T p w : Nat} : told (gbA m p0 p1 T) p w = told m p w := gbA_keep (by omega)
theorem wayOk_of {m m2 : Nat → Int32} {p : Nat} (h : wayOk m p) (e : ∀ j, 40 ≤ j → m2 j = m j) : wayOk m2 p := by
  intro hq
  have e1 : told m2 p 6 = told m p 6 := e _ (by omega)
  rw [e1] at hq
  obtain ⟨w, c, h1, h2, h3, h4⟩ := h hq
  exact ⟨w, c, e1.trans h1, h2, (e _ (by omega)).trans h3, h4⟩
theorem gbA_6 {m : Nat → Int32} {p0 p1 T : Nat} : gbA m p0 p1 T 6 = m 6 + 1 := pk_us
theorem BOk_step {m : Nat → Int32} {p0 p1 T : Nat} (h : BOk m p0 p1 T) : BOk (gbA m p0 p1 T) p0 p1 (T + 1) := by
  obtain ⟨h1, h2, h3, h4, h5, h6, h7, h8⟩ := h
  refine ⟨(gbA_keep (by decide)).trans h1, (gbA_keep (by decide)).trans h2, h3, h4, ?_, wayOk_of h6 (fun j hj => gbA_keep (by omega)), wayOk_of h7 (fun j hj => gbA_keep (by omega)), ?_⟩
  · rw [gbA_6, h5, nI_1]
  · rw [gbA_keep (show 10 ≠ 5 ∧ 10 ≠ 6 ∧ 10 ≠ 8 ∧ (10 < 16 ∨ 22 ≤ 10) ∧ (10 < 24 ∨ 34 ≤ 10) by decide), gbA_told, gbA_told]
    exact h8
def runA (m : Nat → Int32) (p0 p1 T : Nat) : Nat → (Nat → Int32) × Int32
  | 0 => (m, 0)
  | n + 1 => if gbO m p0 p1 = 0 then runA (gbA m p0 p1 T) p0 p1 (T + 1) n else (gbA m p0 p1 T, gbO m p0 p1)
theorem runA_end {R : (Nat → Int32) × Int32} {m : Nat → Int32} {p0 p1 T n q : Nat} {o : Int32} (h : R = if o = 0 then runA m p0 p1 T (n - q) else (m, o)) (hq : n ≤ q) : R = (m, o) := by
  rw [h, show n - q = 0 by omega]
  by_cases ho : o = 0
  · rw [if_pos ho, ho]; rfl
  · rw [if_neg ho]
theorem runA_step {R : (Nat → Int32) × Int32} {m : Nat → Int32} {p0 p1 T n q : Nat} {o : Int32} (h : R = if o = 0 then runA m p0 p1 T (n - q) else (m, o)) (ho : o = 0) (hq : q < n) : R = if gbO m p0 p1 = 0 then runA (gbA m p0 p1 T) p0 p1 (T + 1) (n - (q + 1)) else (gbA m p0 p1 T, gbO m p0 p1) := by
  rw [h, if_pos ho, show n - q = (n - (q + 1)) + 1 by omega]; rfl
/-- a bout ahead, with the two swings -/
def runS (m : Nat → Int32) (p0 p1 T k : Nat) (half s0 s1 : Int32) : Nat → (Nat → Int32) × Int32 × Int32 × Int32
  | 0 => (m, 0, s0, s1)
  | n + 1 =>
    if gbO m p0 p1 = 0 then runS (gbA m p0 p1 T) p0 p1 (T + 1) (k + 1) half (if nI k ≤ half ∧ s0 < szS (gbA m p0 p1 T 18) then szS (gbA m p0 p1 T 18) else s0) (if ¬ nI k ≤ half ∧ s1 < szS (gbA m p0 p1 T 18) then szS (gbA m p0 p1 T 18) else s1) n
    else (gbA m p0 p1 T, gbO m p0 p1, (if nI k ≤ half ∧ s0 < szS (gbA m p0 p1 T 18) then szS (gbA m p0 p1 T 18) else s0), (if ¬ nI k ≤ half ∧ s1 < szS (gbA m p0 p1 T 18) then szS (gbA m p0 p1 T 18) else s1))
abbrev SR : Type := (Nat → Int32) × Int32 × Int32 × Int32
def sw0N (m : Nat → Int32) (p0 p1 T k : Nat) (half s0 : Int32) : Int32 := if nI k ≤ half ∧ s0 < szS (gbA m p0 p1 T 18) then szS (gbA m p0 p1 T 18) else s0
def sw1N (m : Nat → Int32) (p0 p1 T k : Nat) (half s1 : Int32) : Int32 := if ¬ nI k ≤ half ∧ s1 < szS (gbA m p0 p1 T 18) then szS (gbA m p0 p1 T 18) else s1
theorem runS_end {R : SR} {m : Nat → Int32} {p0 p1 T n q : Nat} {half s0 s1 o : Int32} (h : R = if o = 0 then runS m p0 p1 T (q + 1) half s0 s1 (n - q) else (m, o, s0, s1)) (hq : n ≤ q) : R = (m, o, s0, s1) := by
  rw [h, show n - q = 0 by omega]
  by_cases ho : o = 0
  · rw [if_pos ho, ho]; rfl
  · rw [if_neg ho]
theorem runS_step {R : SR} {m : Nat → Int32} {p0 p1 T n q : Nat} {half s0 s1 o : Int32} (h : R = if o = 0 then runS m p0 p1 T (q + 1) half s0 s1 (n - q) else (m, o, s0, s1)) (ho : o = 0) (hq : q < n) : R = if gbO m p0 p1 = 0 then runS (gbA m p0 p1 T) p0 p1 (T + 1) (q + 1 + 1) half (sw0N m p0 p1 T (q + 1) half s0) (sw1N m p0 p1 T (q + 1) half s1) (n - (q + 1)) else (gbA m p0 p1 T, gbO m p0 p1, sw0N m p0 p1 T (q + 1) half s0, sw1N m p0 p1 T (q + 1) half s1) := by
  rw [h, if_pos ho, show n - q = (n - (q + 1)) + 1 by omega]; rfl
theorem runS_A (n : Nat) : ∀ (m : Nat → Int32) (p0 p1 T k : Nat) (half s0 s1 : Int32), (runS m p0 p1 T k half s0 s1 n).1 = (runA m p0 p1 T n).1 ∧ (runS m p0 p1 T k half s0 s1 n).2.1 = (runA m p0 p1 T n).2 := by
  induction n with
  | zero => intros; exact ⟨rfl, rfl⟩
  | succ n ih =>
    intro m p0 p1 T k half s0 s1
    unfold runS runA
    by_cases h : gbO m p0 p1 = 0
    · rw [if_pos h, if_pos h]; exact ih _ _ _ _ _ _ _ _
    · rw [if_neg h, if_neg h]; exact ⟨rfl, rfl⟩
theorem wi_1 {x b : Int32} (n : Nat) (hb : b = nI n) (hn : n < 2 ^ 31) (h : wi x 1 b) : ∃ j, 1 ≤ j ∧ j ≤ n ∧ x = nI j := by
  obtain ⟨h1, h2⟩ := h
  have h0 : (0 : Int32) ≤ x := Int32.le_trans (by decide) h1
  obtain ⟨j, hj, rfl⟩ := nI_of (Int32.not_lt.mpr h0)
  rw [hb] at h2
  exact ⟨j, (nI_leI (by decide) hj).mp (show nI 1 ≤ nI j from h1), (nI_leI hj hn).mp h2, rfl⟩
def endA (m : Nat → Int32) (o : Int32) (p0 p1 : Nat) : Nat → Int32 := upd (upd (upd (upd m 2 0) 7 o) (40 + 8 * p0 + 5) (m (40 + 8 * p0 + 5) + (o &&& 1))) (40 + 8 * p1 + 5) (m (40 + 8 * p1 + 5) + (o >>> (1 &&& 31)))
def boutR (d : Nat → Int32) (n : Nat) : (Nat → Int32) × Int32 := runA d (d 3).toNatClampNeg (d 4).toNatClampNeg (d 6).toNatClampNeg n
def boutE (d : Nat → Int32) (n : Nat) : Nat → Int32 := if 0 < (boutR d n).2 then endA (boutR d n).1 (boutR d n).2 (d 3).toNatClampNeg (d 4).toNatClampNeg else (boutR d n).1
/-- may these two go on the log -/
def AOk (m : Nat → Int32) (a b : Nat) : Prop := a < 8 ∧ b < 8 ∧ wayOk m a ∧ wayOk m b ∧ ¬ m 10 * m 10 + told m a 1 + told m b 1 = 0
theorem getsA_hi {m : Nat → Int32} {a b j : Nat} (h : 40 ≤ j) : getsA m a b j = m j := by
  unfold getsA
  rw [pk_un (by omega), pk_un (by omega), pk_un (by omega), pk_un (by omega), pk_un (by omega), pk_un (by omega), pk_un (by omega), pk_un (by omega), pk_un (by omega), pk_un (by omega), pk_un (by omega)]
theorem getsA_B {m : Nat → Int32} {a b : Nat} (h : AOk m a b) : BOk (getsA m a b) a b 0 := by
  obtain ⟨h1, h2, h3, h4, h5⟩ := h
  refine ⟨rfl, rfl, h1, h2, rfl, wayOk_of h3 (fun j hj => getsA_hi hj), wayOk_of h4 (fun j hj => getsA_hi hj), ?_⟩
  have e1 : getsA m a b 10 = m 10 := rfl
  have e2 : told (getsA m a b) a 1 = told m a 1 := getsA_hi (by omega)
  have e3 : told (getsA m a b) b 1 = told m b 1 := getsA_hi (by omega)
  rw [e1, e2, e3]; exact h5
def ahS (m : Nat → Int32) (a b n : Nat) : SR := runS (getsA m a b) a b 0 1 (nI n / 2) 0 0 n
def ahR (m : Nat → Int32) (a b n : Nat) : (Nat → Int32) × Int32 := runA (getsA m a b) a b 0 n
theorem ahS_1 {m : Nat → Int32} {a b n : Nat} : (ahS m a b n).1 = (ahR m a b n).1 := (runS_A n _ _ _ _ _ _ _ _).1
theorem ahS_2 {m : Nat → Int32} {a b n : Nat} : (ahS m a b n).2.1 = (ahR m a b n).2 := (runS_A n _ _ _ _ _ _ _ _).2
def op_bout (S : OS) (n : Int32) : Int32 × OS := match S with
  | (d, k, hk, fo, tape, tp, bits, sz, num) => if wi n 1 400 then (if d 2 = 0 then ((-1000000005), (d, k, hk, fnd fo 4, tape, tp, bits, sz, num)) else ((boutR d n.toNatClampNeg).2, (boutE d n.toNatClampNeg, k, hk, fo, tape, tp, bits, sz, num))) else ((-1000000001), (d, k, hk, fnd fo 0, tape, tp, bits, sz, num))
set_option maxHeartbeats 4000000 in
set_option maxRecDepth 100000 in
theorem ct_X8_bout (ll : Launch) (g : GT) {h : Hp} {t : Nat} {A : Nat → Nat} {d k fo tape bits sz : Nat → Int32} {num : Nat → Int64} {hk tp : Int32} {p0 p1 T : Nat}  (n : Int32) (hM : MW g h t A (d, k, hk, fo, tape, tp, bits, sz, num)) (hok : ¬ d 2 = 0 → BOk d p0 p1 T ∧ p0 ≠ p1) (hT30 : T < 2 ^ 30) : MC ll g yX8_bout cX8_bout 4 (some .int) { frames := 4, cells := 0, slots := 0, locals := 160 } [.ref t, .int n] h (fun r h2 => r = some (.int (op_bout (d, k, hk, fo, tape, tp, bits, sz, num) n).1) ∧ MW g h2 t A (op_bout (d, k, hk, fo, tape, tp, bits, sz, num) n).2) 0 0 := by
  have hM0 := hM
  obtain ⟨e, lf, sw0, sw1, pp, fr, tk, wd, vl, wr, m0, m1, m2, m3, m4, m5, m6, m7, m8, m9, n01, n02, n12, n56⟩ := hM0
  have ne_1 : t ≠ (A 0) := hneb m0 m1 rfl
  refine mc_of (by decide) (Nat.le_of_ble_eq_true rfl) ?_
  intro K X r
  refine v_eqv (lv2 := [(0, .ref t), (1, .int n)]) rfl ?_
  refine v_iload_n X dX8_bout_0 1 rfl ?_
  refine v_i2l X dX8_bout_1 ?_
  refine v_lconst X dX8_bout_2 (v := 1) (by decide) ?_
  refine v_ldc2 X dX8_bout_3 kX8_133 ?_
  refine v_cSi X [.long n.toInt64, .long (1 : Int64), .long (400 : Int64)] sX8_39 (ct_X8_in (v := n) (lo := 1) (hi := 400) ll g rfl (by decide) (by decide)) dX8_bout_6 rfl rfl ⟨rfl, rfl⟩ ⟨(Nat.le_of_ble_eq_true rfl), (Nat.le_of_ble_eq_true rfl)⟩ ⟨Nat.zero_le _, Nat.zero_le _⟩ (Nat.le_of_ble_eq_true rfl) ?_
  refine v_ifb_ne X dX8_bout_9 (tgt := 19) (by decide) (fun c1 => ?_) (fun c1 => ?_)
  · refine v_aload_n X dX8_bout_19 0 rfl ?_
    refine v_get X fX8_9 m0 rfl dX8_bout_20 ?_
    refine v_iconst X dX8_bout_23 (v := 2) (by decide) ?_
    refine v_ialdK X 2 m1 (rfl : (2 : Int32) = nI 2) (by decide) (by decide) dX8_bout_24 ?_
    refine v_if_ne X dX8_bout_25 (tgt := 35) (by decide) (fun c2 => ?_) (fun c2 => ?_)
    · obtain ⟨nn, hn1, hn4, en⟩ := wi_1 400 rfl (by decide) c1
      have qn : n.toNatClampNeg = nn := ix_cl en (by omega)
      obtain ⟨hB, hpp⟩ := hok c2
      have hB0 := hB
      have qp0 : (d 3).toNatClampNeg = p0 := ix_cl hB.1 (by have := hB.2.2.1; omega)
      have qp1 : (d 4).toNatClampNeg = p1 := ix_cl hB.2.1 (by have := hB.2.2.2.1; omega)
      have qT : (d 6).toNatClampNeg = T := ix_cl hB.2.2.2.2.1 (by omega)
      have h08 := hB.2.2.1
      have h18 := hB.2.2.2.1
      refine v_iconst X dX8_bout_35 (v := 0) (by decide) ?_
      refine v_istore_n (lv1 := [(2, .int 0), (0, .ref t), (1, .int n)]) X dX8_bout_36 (by decide) rfl ?_
      refine v_iconst X dX8_bout_37 (v := 0) (by decide) ?_
      refine v_istore_n (lv1 := [(3, .int 0), (2, .int 0), (0, .ref t), (1, .int n)]) X dX8_bout_38 (by decide) rfl ?_
      have L39 : ∀ (N : Nat) (q : Nat) (mm : Nat → Int32) (TT : Nat) (o : Int32), (q ≤ nn) → (TT = T + q) → (BOk mm p0 p1 TT) → (boutR d nn = if o = 0 then runA mm p0 p1 TT (nn - q) else (mm, o)) → nn - q < N → VJ K 0 0 (hU h (A 0) (ai g 260 mm)) 39 [(0, .ref t), (1, .int n), (2, .int o), (3, .int (nI q))] [] := by
        intro N
        induction N with
        | zero => intro q mm TT o _ _ _ _ hm; exact absurd hm (Nat.not_lt_zero _)
        | succ N ih39 =>
          intro q mm TT o hqq hTT hB hq hm
          refine v_iload_n X dX8_bout_39 3 rfl ?_
          refine v_iload_n X dX8_bout_40 1 rfl ?_
          refine v_icmp_ge X dX8_bout_41 (tgt := 62) (by decide) (fun c3 => ?_) (fun c3 => ?_)
          · have hR : boutR d nn = (mm, o) := runA_end hq (by
              rcases Nat.lt_or_ge q nn with z | z
              · exact absurd (nI_lt z (by omega)) (Int32.not_lt.mpr (by rw [← en]; exact c3))
              · exact z)
            have e3 : mm 3 = nI p0 := hB.1
            have e4 : mm 4 = nI p1 := hB.2.1
            refine v_iload_n X dX8_bout_62 2 rfl ?_
            refine v_if_le X dX8_bout_63 (tgt := 131) (by decide) (fun c4 => ?_) (fun c4 => ?_)
            · refine v_iload_n X dX8_bout_131 2 rfl ?_
              have eqr : op_bout (d, k, hk, fo, tape, tp, bits, sz, num) n = (o, (mm, k, hk, fo, tape, tp, bits, sz, num)) := by unfold op_bout; dsimp only; rw [if_pos c1, if_neg c2, qn]; unfold boutE; rw [hR, if_neg (Int32.not_lt.mpr c4)]
              exact v_iret X r dX8_bout_132 (Nat.le_refl _) (Nat.le_refl _) ⟨by rw [eqr], by rw [eqr]; exact (MW_d hM _)⟩
            · refine v_aload_n X dX8_bout_66 0 rfl ?_
              refine v_get X fX8_9 ((hU_n ne_1).trans m0) rfl dX8_bout_67 ?_
              refine v_iconst X dX8_bout_70 (v := 2) (by decide) ?_
              refine v_iconst X dX8_bout_71 (v := 0) (by decide) ?_
              refine v_iastK (h2 := (hU h (A 0) (ai g 260 (upd mm 2 0)))) X 2 hU_s (rfl : (2 : Int32) = nI 2) (by decide) (by decide) dX8_bout_72 hU_u ?_
              refine v_aload_n X dX8_bout_73 0 rfl ?_
              refine v_get X fX8_9 ((hU_n ne_1).trans m0) rfl dX8_bout_74 ?_
              refine v_bipush X dX8_bout_77 (v := 7) (by decide) ?_
              refine v_iload_n X dX8_bout_79 2 rfl ?_
              refine v_iastK (h2 := (hU h (A 0) (ai g 260 (upd (upd mm 2 0) 7 o)))) X 7 hU_s (rfl : (7 : Int32) = nI 7) (by decide) (by decide) dX8_bout_80 hU_u ?_
              refine v_aload_n X dX8_bout_81 0 rfl ?_
              refine v_get X fX8_9 ((hU_n ne_1).trans m0) rfl dX8_bout_82 ?_
              refine v_bipush X dX8_bout_85 (v := 40) (by decide) ?_
              refine v_bipush X dX8_bout_87 (v := 8) (by decide) ?_
              refine v_aload_n X dX8_bout_89 0 rfl ?_
              refine v_get X fX8_9 ((hU_n ne_1).trans m0) rfl dX8_bout_90 ?_
              refine v_iconst X dX8_bout_93 (v := 3) (by decide) ?_
              refine v_ialdK X 3 hU_s (rfl : (3 : Int32) = nI 3) (by decide) (by decide) dX8_bout_94 ?_
              refine v_eqi (y := mm 3) (Eq.trans (pk_un (by decide)) (pk_un (by decide))) ?_
              refine v_imul X dX8_bout_95 ?_
              refine v_iadd X dX8_bout_96 ?_
              refine v_iconst X dX8_bout_97 (v := 5) (by decide) ?_
              refine v_iadd X dX8_bout_98 ?_
              refine v_dup2 X dX8_bout_99 rfl rfl ?_
              refine v_ialdK X ((40 + (8 * p0)) + 5) hU_s (ix_add (ix_add (rfl : (40 : Int32) = nI 40) (ix_mul (rfl : (8 : Int32) = nI 8) e3)) (rfl : (5 : Int32) = nI 5)) (by omega) (by decide) dX8_bout_100 ?_
              refine v_eqi (y := mm ((40 + (8 * p0)) + 5)) (Eq.trans (pk_un (by omega)) (pk_un (by omega))) ?_
              refine v_iload_n X dX8_bout_101 2 rfl ?_
              refine v_iconst X dX8_bout_102 (v := 1) (by decide) ?_
              refine v_iand X dX8_bout_103 ?_
              refine v_iadd X dX8_bout_104 ?_
              refine v_iastK (h2 := (hU h (A 0) (ai g 260 (upd (upd (upd mm 2 0) 7 o) ((40 + (8 * p0)) + 5) ((mm ((40 + (8 * p0)) + 5)) + (o &&& 1)))))) X ((40 + (8 * p0)) + 5) hU_s (ix_add (ix_add (rfl : (40 : Int32) = nI 40) (ix_mul (rfl : (8 : Int32) = nI 8) e3)) (rfl : (5 : Int32) = nI 5)) (by omega) (by decide) dX8_bout_105 hU_u ?_
              refine v_aload_n X dX8_bout_106 0 rfl ?_
              refine v_get X fX8_9 ((hU_n ne_1).trans m0) rfl dX8_bout_107 ?_
              refine v_bipush X dX8_bout_110 (v := 40) (by decide) ?_
              refine v_bipush X dX8_bout_112 (v := 8) (by decide) ?_
              refine v_aload_n X dX8_bout_114 0 rfl ?_
              refine v_get X fX8_9 ((hU_n ne_1).trans m0) rfl dX8_bout_115 ?_
              refine v_iconst X dX8_bout_118 (v := 4) (by decide) ?_
              refine v_ialdK X 4 hU_s (rfl : (4 : Int32) = nI 4) (by decide) (by decide) dX8_bout_119 ?_
              refine v_eqi (y := mm 4) (Eq.trans (Eq.trans (pk_un (by omega)) (pk_un (by decide))) (pk_un (by decide))) ?_
              refine v_imul X dX8_bout_120 ?_
              refine v_iadd X dX8_bout_121 ?_
              refine v_iconst X dX8_bout_122 (v := 5) (by decide) ?_
              refine v_iadd X dX8_bout_123 ?_
              refine v_dup2 X dX8_bout_124 rfl rfl ?_
              refine v_ialdK X ((40 + (8 * p1)) + 5) hU_s (ix_add (ix_add (rfl : (40 : Int32) = nI 40) (ix_mul (rfl : (8 : Int32) = nI 8) e4)) (rfl : (5 : Int32) = nI 5)) (by omega) (by decide) dX8_bout_125 ?_
              refine v_eqi (y := mm ((40 + (8 * p1)) + 5)) (Eq.trans (Eq.trans (pk_un (by omega)) (pk_un (by omega))) (pk_un (by omega))) ?_
              refine v_iload_n X dX8_bout_126 2 rfl ?_
              refine v_iconst X dX8_bout_127 (v := 1) (by decide) ?_
              refine v_ishr X dX8_bout_128 ?_
              refine v_iadd X dX8_bout_129 ?_
              refine v_iastK (h2 := (hU h (A 0) (ai g 260 (upd (upd (upd (upd mm 2 0) 7 o) ((40 + (8 * p0)) + 5) ((mm ((40 + (8 * p0)) + 5)) + (o &&& 1))) ((40 + (8 * p1)) + 5) ((mm ((40 + (8 * p1)) + 5)) + (o >>> (1 &&& 31))))))) X ((40 + (8 * p1)) + 5) hU_s (ix_add (ix_add (rfl : (40 : Int32) = nI 40) (ix_mul (rfl : (8 : Int32) = nI 8) e4)) (rfl : (5 : Int32) = nI 5)) (by omega) (by decide) dX8_bout_130 hU_u ?_
              refine v_iload_n X dX8_bout_131 2 rfl ?_
              have eqr : op_bout (d, k, hk, fo, tape, tp, bits, sz, num) n = (o, (upd (upd (upd (upd mm 2 0) 7 o) ((40 + (8 * p0)) + 5) ((mm ((40 + (8 * p0)) + 5)) + (o &&& 1))) ((40 + (8 * p1)) + 5) ((mm ((40 + (8 * p1)) + 5)) + (o >>> (1 &&& 31))), k, hk, fo, tape, tp, bits, sz, num)) := by unfold op_bout; dsimp only; rw [if_pos c1, if_neg c2, qn]; unfold boutE; rw [hR, if_pos (Int32.not_le.mp c4), qp0, qp1]; rfl
              exact v_iret X r dX8_bout_132 (Nat.le_refl _) (Nat.le_refl _) ⟨by rw [eqr], by rw [eqr]; exact (MW_d hM _)⟩
          · have hqn : q < nn := by
              rcases Nat.lt_or_ge q nn with z | z
              · exact z
              · exact absurd (by rw [en]; exact nI_le z (by omega)) c3
            refine v_iload_n X dX8_bout_44 2 rfl ?_
            refine v_if_ne X dX8_bout_45 (tgt := 62) (by decide) (fun c5 => ?_) (fun c5 => ?_)
            · have hR : boutR d nn = (mm, o) := by rw [hq, if_neg c5]
              have e3 : mm 3 = nI p0 := hB.1
              have e4 : mm 4 = nI p1 := hB.2.1
              refine v_iload_n X dX8_bout_62 2 rfl ?_
              refine v_if_le X dX8_bout_63 (tgt := 131) (by decide) (fun c6 => ?_) (fun c6 => ?_)
              · refine v_iload_n X dX8_bout_131 2 rfl ?_
                have eqr : op_bout (d, k, hk, fo, tape, tp, bits, sz, num) n = (o, (mm, k, hk, fo, tape, tp, bits, sz, num)) := by unfold op_bout; dsimp only; rw [if_pos c1, if_neg c2, qn]; unfold boutE; rw [hR, if_neg (Int32.not_lt.mpr c6)]
                exact v_iret X r dX8_bout_132 (Nat.le_refl _) (Nat.le_refl _) ⟨by rw [eqr], by rw [eqr]; exact (MW_d hM _)⟩
              · refine v_aload_n X dX8_bout_66 0 rfl ?_
                refine v_get X fX8_9 ((hU_n ne_1).trans m0) rfl dX8_bout_67 ?_
                refine v_iconst X dX8_bout_70 (v := 2) (by decide) ?_
                refine v_iconst X dX8_bout_71 (v := 0) (by decide) ?_
                refine v_iastK (h2 := (hU h (A 0) (ai g 260 (upd mm 2 0)))) X 2 hU_s (rfl : (2 : Int32) = nI 2) (by decide) (by decide) dX8_bout_72 hU_u ?_
                refine v_aload_n X dX8_bout_73 0 rfl ?_
                refine v_get X fX8_9 ((hU_n ne_1).trans m0) rfl dX8_bout_74 ?_
                refine v_bipush X dX8_bout_77 (v := 7) (by decide) ?_
                refine v_iload_n X dX8_bout_79 2 rfl ?_
                refine v_iastK (h2 := (hU h (A 0) (ai g 260 (upd (upd mm 2 0) 7 o)))) X 7 hU_s (rfl : (7 : Int32) = nI 7) (by decide) (by decide) dX8_bout_80 hU_u ?_
                refine v_aload_n X dX8_bout_81 0 rfl ?_
                refine v_get X fX8_9 ((hU_n ne_1).trans m0) rfl dX8_bout_82 ?_
                refine v_bipush X dX8_bout_85 (v := 40) (by decide) ?_
                refine v_bipush X dX8_bout_87 (v := 8) (by decide) ?_
                refine v_aload_n X dX8_bout_89 0 rfl ?_
                refine v_get X fX8_9 ((hU_n ne_1).trans m0) rfl dX8_bout_90 ?_
                refine v_iconst X dX8_bout_93 (v := 3) (by decide) ?_
                refine v_ialdK X 3 hU_s (rfl : (3 : Int32) = nI 3) (by decide) (by decide) dX8_bout_94 ?_
                refine v_eqi (y := mm 3) (Eq.trans (pk_un (by decide)) (pk_un (by decide))) ?_
                refine v_imul X dX8_bout_95 ?_
                refine v_iadd X dX8_bout_96 ?_
                refine v_iconst X dX8_bout_97 (v := 5) (by decide) ?_
                refine v_iadd X dX8_bout_98 ?_
                refine v_dup2 X dX8_bout_99 rfl rfl ?_
                refine v_ialdK X ((40 + (8 * p0)) + 5) hU_s (ix_add (ix_add (rfl : (40 : Int32) = nI 40) (ix_mul (rfl : (8 : Int32) = nI 8) e3)) (rfl : (5 : Int32) = nI 5)) (by omega) (by decide) dX8_bout_100 ?_
                refine v_eqi (y := mm ((40 + (8 * p0)) + 5)) (Eq.trans (pk_un (by omega)) (pk_un (by omega))) ?_
                refine v_iload_n X dX8_bout_101 2 rfl ?_
                refine v_iconst X dX8_bout_102 (v := 1) (by decide) ?_
                refine v_iand X dX8_bout_103 ?_
                refine v_iadd X dX8_bout_104 ?_
                refine v_iastK (h2 := (hU h (A 0) (ai g 260 (upd (upd (upd mm 2 0) 7 o) ((40 + (8 * p0)) + 5) ((mm ((40 + (8 * p0)) + 5)) + (o &&& 1)))))) X ((40 + (8 * p0)) + 5) hU_s (ix_add (ix_add (rfl : (40 : Int32) = nI 40) (ix_mul (rfl : (8 : Int32) = nI 8) e3)) (rfl : (5 : Int32) = nI 5)) (by omega) (by decide) dX8_bout_105 hU_u ?_
                refine v_aload_n X dX8_bout_106 0 rfl ?_
                refine v_get X fX8_9 ((hU_n ne_1).trans m0) rfl dX8_bout_107 ?_
                refine v_bipush X dX8_bout_110 (v := 40) (by decide) ?_
                refine v_bipush X dX8_bout_112 (v := 8) (by decide) ?_
                refine v_aload_n X dX8_bout_114 0 rfl ?_
                refine v_get X fX8_9 ((hU_n ne_1).trans m0) rfl dX8_bout_115 ?_
                refine v_iconst X dX8_bout_118 (v := 4) (by decide) ?_
                refine v_ialdK X 4 hU_s (rfl : (4 : Int32) = nI 4) (by decide) (by decide) dX8_bout_119 ?_
                refine v_eqi (y := mm 4) (Eq.trans (Eq.trans (pk_un (by omega)) (pk_un (by decide))) (pk_un (by decide))) ?_
                refine v_imul X dX8_bout_120 ?_
                refine v_iadd X dX8_bout_121 ?_
                refine v_iconst X dX8_bout_122 (v := 5) (by decide) ?_
                refine v_iadd X dX8_bout_123 ?_
                refine v_dup2 X dX8_bout_124 rfl rfl ?_
                refine v_ialdK X ((40 + (8 * p1)) + 5) hU_s (ix_add (ix_add (rfl : (40 : Int32) = nI 40) (ix_mul (rfl : (8 : Int32) = nI 8) e4)) (rfl : (5 : Int32) = nI 5)) (by omega) (by decide) dX8_bout_125 ?_
                refine v_eqi (y := mm ((40 + (8 * p1)) + 5)) (Eq.trans (Eq.trans (pk_un (by omega)) (pk_un (by omega))) (pk_un (by omega))) ?_
                refine v_iload_n X dX8_bout_126 2 rfl ?_
                refine v_iconst X dX8_bout_127 (v := 1) (by decide) ?_
                refine v_ishr X dX8_bout_128 ?_
                refine v_iadd X dX8_bout_129 ?_
                refine v_iastK (h2 := (hU h (A 0) (ai g 260 (upd (upd (upd (upd mm 2 0) 7 o) ((40 + (8 * p0)) + 5) ((mm ((40 + (8 * p0)) + 5)) + (o &&& 1))) ((40 + (8 * p1)) + 5) ((mm ((40 + (8 * p1)) + 5)) + (o >>> (1 &&& 31))))))) X ((40 + (8 * p1)) + 5) hU_s (ix_add (ix_add (rfl : (40 : Int32) = nI 40) (ix_mul (rfl : (8 : Int32) = nI 8) e4)) (rfl : (5 : Int32) = nI 5)) (by omega) (by decide) dX8_bout_130 hU_u ?_
                refine v_iload_n X dX8_bout_131 2 rfl ?_
                have eqr : op_bout (d, k, hk, fo, tape, tp, bits, sz, num) n = (o, (upd (upd (upd (upd mm 2 0) 7 o) ((40 + (8 * p0)) + 5) ((mm ((40 + (8 * p0)) + 5)) + (o &&& 1))) ((40 + (8 * p1)) + 5) ((mm ((40 + (8 * p1)) + 5)) + (o >>> (1 &&& 31))), k, hk, fo, tape, tp, bits, sz, num)) := by unfold op_bout; dsimp only; rw [if_pos c1, if_neg c2, qn]; unfold boutE; rw [hR, if_pos (Int32.not_le.mp c6), qp0, qp1]; rfl
                exact v_iret X r dX8_bout_132 (Nat.le_refl _) (Nat.le_refl _) ⟨by rw [eqr], by rw [eqr]; exact (MW_d hM _)⟩
            · refine v_aload_n X dX8_bout_48 0 rfl ?_
              refine v_get X fX8_9 ((hU_n ne_1).trans m0) rfl dX8_bout_49 ?_
              refine v_cSi X [.ref (A 0)] sX8_135 (ct_X8_goesBy ll g  hU_s hB.1 hB.2.1 hB.2.2.1 hB.2.2.2.1 hB.2.2.2.2.1 (by omega) hB.2.2.2.2.2.1 hB.2.2.2.2.2.2.1 hB.2.2.2.2.2.2.2) dX8_bout_52 rfl rfl ⟨rfl, rfl⟩ ⟨(Nat.le_of_ble_eq_true rfl), (Nat.le_of_ble_eq_true rfl)⟩ ⟨Nat.zero_le _, Nat.zero_le _⟩ (Nat.le_of_ble_eq_true rfl) ?_
              refine v_eqh (h2 := (hU h (A 0) (ai g 260 (gbA mm p0 p1 TT)))) hU_u ?_
              refine v_istore_n (lv1 := [(2, .int (gbO mm p0 p1)), (0, .ref t), (1, .int n), (3, .int (nI q))]) X dX8_bout_55 (by decide) rfl ?_
              refine v_iinc (v := (nI q) + 1) (lv1 := [(3, .int ((nI q) + 1)), (2, .int (gbO mm p0 p1)), (0, .ref t), (1, .int n)]) X dX8_bout_56 3 rfl rfl (by decide) rfl ?_
              refine v_goto X dX8_bout_59 (tgt := 39) (by decide) ?_
              refine v_lv (lv2 := [(0, .ref t), (1, .int n), (2, .int (gbO mm p0 p1)), (3, .int ((nI q) + 1))]) [2, 3, 1, 0] rfl ?_
              refine v_eqv (lv2 := [(0, .ref t), (1, .int n), (2, .int (gbO mm p0 p1)), (3, .int (nI (q + 1)))]) (by rw [nI_1]) ?_
              exact ih39 (q + 1) (gbA mm p0 p1 TT) (TT + 1) (gbO mm p0 p1) (by omega) (by omega) (BOk_step hB) (runA_step hq c5 hqn) (by omega)
      refine v_lv (lv2 := [(0, .ref t), (1, .int n), (2, .int 0), (3, .int 0)]) [2, 3, 1, 0] rfl ?_
      refine v_eqv (lv2 := [(0, .ref t), (1, .int n), (2, .int 0), (3, .int (nI 0))]) rfl ?_
      refine v_eqh (h2 := hU h (A 0) (ai g 260 d)) (hU_id m1).symm ?_
      exact L39 _ 0 d T 0 (Nat.zero_le _) rfl hB (by unfold boutR; rw [qp0, qp1, qT]; rfl) (Nat.lt_succ_self _)
    · refine v_aload_n X dX8_bout_28 0 rfl ?_
      refine v_ldc X dX8_bout_29 kX8_73 ?_
      refine v_cVi X [.int (-1000000005)] sX8_51 (ct_X8_finds (j := 4) ll g m0 m4 (by decide) (by decide)) m0 rfl dX8_bout_31 rfl rfl ⟨rfl, rfl⟩ ⟨(Nat.le_of_ble_eq_true rfl), (Nat.le_of_ble_eq_true rfl)⟩ ⟨Nat.zero_le _, Nat.zero_le _⟩ (Nat.le_of_ble_eq_true rfl) ?_
      have eqr : op_bout (d, k, hk, fo, tape, tp, bits, sz, num) n = ((-1000000005), (d, k, hk, fnd fo 4, tape, tp, bits, sz, num)) := by unfold op_bout; dsimp only; rw [if_pos c1, if_pos c2]
      exact v_iret X r dX8_bout_34 (Nat.le_refl _) (Nat.le_refl _) ⟨by rw [eqr], by rw [eqr]; exact (MW_fo hM _)⟩
  · refine v_aload_n X dX8_bout_12 0 rfl ?_
    refine v_ldc X dX8_bout_13 kX8_38 ?_
    refine v_cVi X [.int (-1000000001)] sX8_51 (ct_X8_finds (j := 0) ll g m0 m4 (by decide) (by decide)) m0 rfl dX8_bout_15 rfl rfl ⟨rfl, rfl⟩ ⟨(Nat.le_of_ble_eq_true rfl), (Nat.le_of_ble_eq_true rfl)⟩ ⟨Nat.zero_le _, Nat.zero_le _⟩ (Nat.le_of_ble_eq_true rfl) ?_
    have eqr : op_bout (d, k, hk, fo, tape, tp, bits, sz, num) n = ((-1000000001), (d, k, hk, fnd fo 0, tape, tp, bits, sz, num)) := by unfold op_bout; dsimp only; rw [if_neg c1]
    exact v_iret X r dX8_bout_18 (Nat.le_refl _) (Nat.le_refl _) ⟨by rw [eqr], by rw [eqr]; exact (MW_fo hM _)⟩
set_option maxHeartbeats 4000000 in
set_option maxRecDepth 100000 in
theorem ct_X8_boutAhead (ll : Launch) (g : GT) {h : Hp} {t dA eA kA fA tA bA zA nA lA : Nat} {hk sw0 sw1 tp pp fr tk wd vl wr : Int32} {m : Nat → Int32} {x y n : Int32} {p0 p1 nn : Nat} (ht : h t = some (ob 8 [.ref dA, .ref eA, .ref kA, .int hk, .ref fA, .int sw0, .int sw1, .ref tA, .int tp, .int pp, .int fr, .int tk, .int wd, .int vl, .int wr, .ref bA, .ref zA, .ref nA, .ref lA])) (he : h eA = some (ai g 260 m)) (hx : x = nI p0) (hy : y = nI p1) (en : n = nI nn) (hn : nn ≤ 400) (hA : AOk m p0 p1) : MF ll g yX8_boutAhead cX8_boutAhead 7 (some .int) (k2_rm 4 160) [.ref t, .int x, .int y, .int n] h (some (.int ((ahR m p0 p1 nn).2))) (hU (hU h eA (ai g 260 ((ahR m p0 p1 nn).1))) t (ob 8 [.ref dA, .ref eA, .ref kA, .int hk, .ref fA, .int ((ahS m p0 p1 nn).2.2.1), .int ((ahS m p0 p1 nn).2.2.2), .ref tA, .int tp, .int pp, .int fr, .int tk, .int wd, .int vl, .int wr, .ref bA, .ref zA, .ref nA, .ref lA])) := by
  have hB := getsA_B hA
  have ne_1 : t ≠ eA := hneb ht he rfl
  refine mc_of (by decide) (Nat.le_of_ble_eq_true rfl) ?_
  intro K X r
  refine v_eqv (lv2 := [(0, .ref t), (1, .int x), (2, .int y), (3, .int n)]) rfl ?_
  refine v_aload_n X dX8_boutAhead_0 0 rfl ?_
  refine v_get X fX8_13 ht rfl dX8_boutAhead_1 ?_
  refine v_iload_n X dX8_boutAhead_4 1 rfl ?_
  refine v_iload_n X dX8_boutAhead_5 2 rfl ?_
  refine v_cSv X [.ref eA, .int x, .int y] sX8_130 (ct_X8_getsOn (p0 := p0) (p1 := p1) ll g  he hx hy hA.1 hA.2.1) dX8_boutAhead_6 rfl rfl ⟨rfl, rfl⟩ ⟨(Nat.le_of_ble_eq_true rfl), (Nat.le_of_ble_eq_true rfl)⟩ ⟨Nat.zero_le _, Nat.zero_le _⟩ (Nat.le_of_ble_eq_true rfl) ?_
  refine v_aload_n X dX8_boutAhead_9 0 rfl ?_
  refine v_iconst X dX8_boutAhead_10 (v := 0) (by decide) ?_
  refine v_putE (h2 := (hU (hU h eA (ai g 260 (getsA m p0 p1))) t (ob 8 [.ref dA, .ref eA, .ref kA, .int hk, .ref fA, .int 0, .int sw1, .ref tA, .int tp, .int pp, .int fr, .int tk, .int wd, .int vl, .int wr, .ref bA, .ref zA, .ref nA, .ref lA]))) X fX8_141 tyX8_ok nmX8 rfl pd_I ((hU_n ne_1).trans ht) rfl rfl (ltb rfl) dX8_boutAhead_11 rfl ?_
  refine v_aload_n X dX8_boutAhead_14 0 rfl ?_
  refine v_iconst X dX8_boutAhead_15 (v := 0) (by decide) ?_
  refine v_putE (h2 := (hU (hU h eA (ai g 260 (getsA m p0 p1))) t (ob 8 [.ref dA, .ref eA, .ref kA, .int hk, .ref fA, .int 0, .int 0, .ref tA, .int tp, .int pp, .int fr, .int tk, .int wd, .int vl, .int wr, .ref bA, .ref zA, .ref nA, .ref lA]))) X fX8_145 tyX8_ok nmX8 rfl pd_I hU_s rfl rfl (ltb rfl) dX8_boutAhead_16 hU_u ?_
  refine v_iconst X dX8_boutAhead_19 (v := 0) (by decide) ?_
  refine v_istore (lv1 := [(4, .int 0), (0, .ref t), (1, .int x), (2, .int y), (3, .int n)]) X dX8_boutAhead_20 (by decide) rfl ?_
  refine v_iconst X dX8_boutAhead_22 (v := 1) (by decide) ?_
  refine v_istore (lv1 := [(5, .int 1), (4, .int 0), (0, .ref t), (1, .int x), (2, .int y), (3, .int n)]) X dX8_boutAhead_23 (by decide) rfl ?_
  have L25 : ∀ (N : Nat) (q : Nat) (mm : Nat → Int32) (TT : Nat) (o s0 s1 : Int32), (q ≤ nn) → (TT = q) → (BOk mm p0 p1 TT) → (ahS m p0 p1 nn = if o = 0 then runS mm p0 p1 TT (q + 1) (n / 2) s0 s1 (nn - q) else (mm, o, s0, s1)) → nn - q < N → VJ K 0 0 (hU (hU h eA (ai g 260 mm)) t (ob 8 [.ref dA, .ref eA, .ref kA, .int hk, .ref fA, .int s0, .int s1, .ref tA, .int tp, .int pp, .int fr, .int tk, .int wd, .int vl, .int wr, .ref bA, .ref zA, .ref nA, .ref lA])) 25 [(0, .ref t), (1, .int x), (2, .int y), (3, .int n), (4, .int o), (5, .int (nI (q + 1)))] [] := by
    intro N
    induction N with
    | zero => intro q mm TT o s0 s1 _ _ _ _ hm; exact absurd hm (Nat.not_lt_zero _)
    | succ N ih25 =>
      intro q mm TT o s0 s1 hqq hTT hB hq hm
      refine v_iload X dX8_boutAhead_25 5 rfl ?_
      refine v_iload_n X dX8_boutAhead_27 3 rfl ?_
      refine v_icmp_gt X dX8_boutAhead_28 (tgt := 123) (by decide) (fun c1 => ?_) (fun c1 => ?_)
      · have hR : ahS m p0 p1 nn = (mm, o, s0, s1) := runS_end hq (by
          rcases Nat.lt_or_ge q nn with z | z
          · exact absurd (show nI (q + 1) ≤ n by rw [en]; exact nI_le z (by omega)) (Int32.not_le.mpr c1)
          · exact z)
        refine v_iload X dX8_boutAhead_123 4 rfl ?_
        exact v_iret X r dX8_boutAhead_125 (Nat.le_refl _) (Nat.le_refl _) ⟨ri (by rw [← ahS_2, hR]), (by rw [← ahS_1, hR])⟩
      · have hqn : q < nn := by
          rcases Nat.lt_or_ge q nn with z | z
          · exact z
          · exact absurd (show n < nI (q + 1) by rw [en]; exact nI_lt (by omega) (by omega)) c1
        refine v_iload X dX8_boutAhead_31 4 rfl ?_
        refine v_if_ne X dX8_boutAhead_33 (tgt := 123) (by decide) (fun c2 => ?_) (fun c2 => ?_)
        · have hR : ahS m p0 p1 nn = (mm, o, s0, s1) := by rw [hq, if_neg c2]
          refine v_iload X dX8_boutAhead_123 4 rfl ?_
          exact v_iret X r dX8_boutAhead_125 (Nat.le_refl _) (Nat.le_refl _) ⟨ri (by rw [← ahS_2, hR]), (by rw [← ahS_1, hR])⟩
        · have ho := c2
          refine v_aload_n X dX8_boutAhead_36 0 rfl ?_
          refine v_get X fX8_13 hU_s rfl dX8_boutAhead_37 ?_
          refine v_cSi X [.ref eA] sX8_135 (ct_X8_goesBy ll g  ((hU_n (Ne.symm ne_1)).trans hU_s) hB.1 hB.2.1 hB.2.2.1 hB.2.2.2.1 hB.2.2.2.2.1 (by omega) hB.2.2.2.2.2.1 hB.2.2.2.2.2.2.1 hB.2.2.2.2.2.2.2) dX8_boutAhead_40 rfl rfl ⟨rfl, rfl⟩ ⟨(Nat.le_of_ble_eq_true rfl), (Nat.le_of_ble_eq_true rfl)⟩ ⟨Nat.zero_le _, Nat.zero_le _⟩ (Nat.le_of_ble_eq_true rfl) ?_
          refine v_eqh (h2 := (hU (hU h eA (ai g 260 (gbA mm p0 p1 TT))) t (ob 8 [.ref dA, .ref eA, .ref kA, .int hk, .ref fA, .int s0, .int s1, .ref tA, .int tp, .int pp, .int fr, .int tk, .int wd, .int vl, .int wr, .ref bA, .ref zA, .ref nA, .ref lA]))) (hU_u2 ne_1) ?_
          refine v_istore (lv1 := [(4, .int (gbO mm p0 p1)), (0, .ref t), (1, .int x), (2, .int y), (3, .int n), (5, .int (nI (q + 1)))]) X dX8_boutAhead_43 (by decide) rfl ?_
          refine v_aload_n X dX8_boutAhead_45 1 rfl ?_
          refine v_get X fX8_13 hU_s rfl dX8_boutAhead_46 ?_
          refine v_bipush X dX8_boutAhead_49 (v := 18) (by decide) ?_
          refine v_ialdK X 18 ((hU_n (Ne.symm ne_1)).trans hU_s) (rfl : (18 : Int32) = nI 18) (by decide) (by decide) dX8_boutAhead_51 ?_
          refine v_cSi X [.int ((gbA mm p0 p1 TT) 18)] sX8_88 (ct_X8_size ll g ((gbA mm p0 p1 TT) 18)) dX8_boutAhead_52 rfl rfl ⟨rfl, rfl⟩ ⟨(Nat.le_of_ble_eq_true rfl), (Nat.le_of_ble_eq_true rfl)⟩ ⟨Nat.zero_le _, Nat.zero_le _⟩ (Nat.le_of_ble_eq_true rfl) ?_
          refine v_istore (lv1 := [(6, .int (szS ((gbA mm p0 p1 TT) 18))), (4, .int (gbO mm p0 p1)), (0, .ref t), (1, .int x), (2, .int y), (3, .int n), (5, .int (nI (q + 1)))]) X dX8_boutAhead_55 (by decide) rfl ?_
          refine v_aload_n X dX8_boutAhead_57 2 rfl ?_
          refine v_iload X dX8_boutAhead_58 6 rfl ?_
          refine v_iload_n X dX8_boutAhead_60 5 rfl ?_
          refine v_iconst X dX8_boutAhead_61 (v := 2) (by decide) ?_
          refine v_idiv X dX8_boutAhead_62 (by decide) ?_
          have J1 : VJ K 0 0 (hU (hU h eA (ai g 260 (gbA mm p0 p1 TT))) t (ob 8 [.ref dA, .ref eA, .ref kA, .int hk, .ref fA, .int s0, .int s1, .ref tA, .int tp, .int pp, .int fr, .int tk, .int wd, .int vl, .int wr, .ref bA, .ref zA, .ref nA, .ref lA])) 84 [(6, .int (szS ((gbA mm p0 p1 TT) 18))), (4, .int (gbO mm p0 p1)), (0, .ref t), (1, .int x), (2, .int y), (3, .int n), (5, .int (nI (q + 1)))] [.int (sw0N mm p0 p1 TT (q + 1) (n / 2) s0), .ref t] := by
            refine v_putE (h2 := (hU (hU h eA (ai g 260 (gbA mm p0 p1 TT))) t (ob 8 [.ref dA, .ref eA, .ref kA, .int hk, .ref fA, .int (sw0N mm p0 p1 TT (q + 1) (n / 2) s0), .int s1, .ref tA, .int tp, .int pp, .int fr, .int tk, .int wd, .int vl, .int wr, .ref bA, .ref zA, .ref nA, .ref lA]))) X fX8_141 tyX8_ok nmX8 rfl pd_I hU_s rfl rfl (ltb rfl) dX8_boutAhead_84 hU_u ?_
            refine v_aload_n X dX8_boutAhead_87 2 rfl ?_
            refine v_iload X dX8_boutAhead_88 6 rfl ?_
            refine v_iload_n X dX8_boutAhead_90 5 rfl ?_
            refine v_iconst X dX8_boutAhead_91 (v := 2) (by decide) ?_
            refine v_idiv X dX8_boutAhead_92 (by decide) ?_
            have J2 : VJ K 0 0 (hU (hU h eA (ai g 260 (gbA mm p0 p1 TT))) t (ob 8 [.ref dA, .ref eA, .ref kA, .int hk, .ref fA, .int (sw0N mm p0 p1 TT (q + 1) (n / 2) s0), .int s1, .ref tA, .int tp, .int pp, .int fr, .int tk, .int wd, .int vl, .int wr, .ref bA, .ref zA, .ref nA, .ref lA])) 114 [(6, .int (szS ((gbA mm p0 p1 TT) 18))), (4, .int (gbO mm p0 p1)), (0, .ref t), (1, .int x), (2, .int y), (3, .int n), (5, .int (nI (q + 1)))] [.int (sw1N mm p0 p1 TT (q + 1) (n / 2) s1), .ref t] := by
              refine v_putE (h2 := (hU (hU h eA (ai g 260 (gbA mm p0 p1 TT))) t (ob 8 [.ref dA, .ref eA, .ref kA, .int hk, .ref fA, .int (sw0N mm p0 p1 TT (q + 1) (n / 2) s0), .int (sw1N mm p0 p1 TT (q + 1) (n / 2) s1), .ref tA, .int tp, .int pp, .int fr, .int tk, .int wd, .int vl, .int wr, .ref bA, .ref zA, .ref nA, .ref lA]))) X fX8_145 tyX8_ok nmX8 rfl pd_I hU_s rfl rfl (ltb rfl) dX8_boutAhead_114 hU_u ?_
              refine v_iinc (v := (nI (q + 1)) + 1) (lv1 := [(5, .int ((nI (q + 1)) + 1)), (6, .int (szS ((gbA mm p0 p1 TT) 18))), (4, .int (gbO mm p0 p1)), (0, .ref t), (1, .int x), (2, .int y), (3, .int n)]) X dX8_boutAhead_117 6 rfl rfl (by decide) rfl ?_
              refine v_goto X dX8_boutAhead_120 (tgt := 25) (by decide) ?_
              refine v_lv (lv2 := [(0, .ref t), (1, .int x), (2, .int y), (3, .int n), (4, .int (gbO mm p0 p1)), (5, .int ((nI (q + 1)) + 1))]) [3, 4, 5, 6, 2, 0] rfl ?_
              refine v_eqv (lv2 := [(0, .ref t), (1, .int x), (2, .int y), (3, .int n), (4, .int (gbO mm p0 p1)), (5, .int (nI (q + 1 + 1)))]) (by rw [nI_1]) ?_
              exact ih25 (q + 1) (gbA mm p0 p1 TT) (TT + 1) (gbO mm p0 p1) (sw0N mm p0 p1 TT (q + 1) (n / 2) s0) (sw1N mm p0 p1 TT (q + 1) (n / 2) s1) (by omega) (by omega) (BOk_step hB) (runS_step hq ho hqn) (by omega)
            refine v_icmp_le X dX8_boutAhead_93 (tgt := 110) (by decide) (fun c3 => ?_) (fun c3 => ?_)
            · refine v_aload_n X dX8_boutAhead_110 2 rfl ?_
              refine v_get X fX8_145 hU_s rfl dX8_boutAhead_111 ?_
              exact v_eqi (by simp [sw1N, Int32.not_lt.mp c1, c2, c3, Int32.not_lt.mpr c3]) J2
            · refine v_iload X dX8_boutAhead_96 0 rfl ?_
              refine v_aload_n X dX8_boutAhead_98 2 rfl ?_
              refine v_get X fX8_145 hU_s rfl dX8_boutAhead_99 ?_
              refine v_icmp_le X dX8_boutAhead_102 (tgt := 110) (by decide) (fun c4 => ?_) (fun c4 => ?_)
              · refine v_aload_n X dX8_boutAhead_110 2 rfl ?_
                refine v_get X fX8_145 hU_s rfl dX8_boutAhead_111 ?_
                exact v_eqi (by simp [sw1N, c3, Int32.not_le.mp c3, c4, Int32.not_lt.mpr c4]) J2
              · refine v_iload X dX8_boutAhead_105 0 rfl ?_
                refine v_goto X dX8_boutAhead_107 (tgt := 114) (by decide) ?_
                exact v_eqi (by simp [sw1N, c3, Int32.not_le.mp c3, c4, Int32.not_le.mp c4]) J2
          refine v_icmp_gt X dX8_boutAhead_63 (tgt := 80) (by decide) (fun c5 => ?_) (fun c5 => ?_)
          · refine v_aload_n X dX8_boutAhead_80 2 rfl ?_
            refine v_get X fX8_141 hU_s rfl dX8_boutAhead_81 ?_
            exact v_eqi (by simp [sw0N, Int32.not_lt.mp c1, c2, c5, Int32.not_le.mpr c5]) J1
          · refine v_iload X dX8_boutAhead_66 0 rfl ?_
            refine v_aload_n X dX8_boutAhead_68 2 rfl ?_
            refine v_get X fX8_141 hU_s rfl dX8_boutAhead_69 ?_
            refine v_icmp_le X dX8_boutAhead_72 (tgt := 80) (by decide) (fun c6 => ?_) (fun c6 => ?_)
            · refine v_aload_n X dX8_boutAhead_80 2 rfl ?_
              refine v_get X fX8_141 hU_s rfl dX8_boutAhead_81 ?_
              exact v_eqi (by simp [sw0N, c5, Int32.not_lt.mp c5, c6, Int32.not_lt.mpr c6]) J1
            · refine v_iload X dX8_boutAhead_75 0 rfl ?_
              refine v_goto X dX8_boutAhead_77 (tgt := 84) (by decide) ?_
              exact v_eqi (by simp [sw0N, c5, Int32.not_lt.mp c5, c6, Int32.not_le.mp c6]) J1
  refine v_lv (lv2 := [(0, .ref t), (1, .int x), (2, .int y), (3, .int n), (4, .int 0), (5, .int 1)]) [2, 3, 4, 5, 1, 0] rfl ?_
  refine v_eqv (lv2 := [(0, .ref t), (1, .int x), (2, .int y), (3, .int n), (4, .int 0), (5, .int (nI (0 + 1)))]) rfl ?_
  exact L25 _ 0 (getsA m p0 p1) 0 0 0 0 (Nat.zero_le _) rfl hB (by unfold ahS; rw [en]; rfl) (Nat.lt_succ_self _)
