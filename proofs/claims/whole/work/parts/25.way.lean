/-! ===== one rule, and the reference's way() ===== -/
theorem bI_nF {W : Prop} [Decidable W] (h : ¬ W) : bI W = bI False := (bI_f h).trans (bI_f id).symm
abbrev rdP0 (f : Nat → Int32) (n a : Nat) (d : Nat → Int32) (w : Nat) : Prop := ¬ nameAt f n a < 0 ∧ ¬ 6 ≤ d w
def rdA2 (f : Nat → Int32) (n a : Nat) : Nat := if 4 ≤ nameAt f n a then lkE f n a else cmA f n (lkE f n a)
def rdD1 (d : Nat → Int32) (u : Nat) (f : Nat → Int32) (n a : Nat) : Nat → Int32 := if 4 ≤ nameAt f n a then upd d u (nameAt f n a) else cmD (upd d u (nameAt f n a)) u f n (lkE f n a)
abbrev rdW (f : Nat → Int32) (n a : Nat) : Prop := ¬ 4 ≤ nameAt f n a ∧ ¬ cmP f n (lkE f n a)
abbrev rdP1 (f : Nat → Int32) (n a : Nat) : Prop := ¬ rdW f n a ∧ sgAt f n (rdA2 f n a) 58
def rdA3 (f : Nat → Int32) (n a : Nat) : Nat := lkE f n (rdA2 f n a)
abbrev rdP2 (f : Nat → Int32) (n a : Nat) : Prop := ¬ deedAt f n (rdA3 f n a) < 0
def rdD2 (d : Nat → Int32) (u : Nat) (f : Nat → Int32) (n a : Nat) : Nat → Int32 := upd (rdD1 d u f n a) (u + 3) (deedAt f n (rdA3 f n a))
abbrev rdOk (f : Nat → Int32) (n a : Nat) (d : Nat → Int32) (w : Nat) : Prop := rdP0 f n a d w ∧ rdP1 f n a ∧ rdP2 f n a
def rdA (f : Nat → Int32) (n a : Nat) (d : Nat → Int32) (w : Nat) : Nat := if rdP0 f n a d w then (if rdP1 f n a then (if rdP2 f n a then lkE f n (rdA3 f n a) else rdA3 f n a) else rdA2 f n a) else a
def rdD (f : Nat → Int32) (n a : Nat) (d : Nat → Int32) (w u : Nat) : Nat → Int32 := if rdP0 f n a d w then (if rdP1 f n a then (if rdP2 f n a then upd (rdD2 d u f n a) w (rdD2 d u f n a w + 1) else rdD2 d u f n a) else rdD1 d u f n a) else d
theorem rdA2_le {f : Nat → Int32} {n a : Nat} (h : a ≤ n) : rdA2 f n a ≤ n := by
  unfold rdA2
  by_cases h1 : 4 ≤ nameAt f n a
  · rw [if_pos h1]; exact lkE_le h
  · rw [if_neg h1]; exact cmA_le (lkE_le h)
theorem rdA_le {f : Nat → Int32} {n a : Nat} {d : Nat → Int32} {w : Nat} (h : a ≤ n) : rdA f n a d w ≤ n := by
  unfold rdA
  by_cases h1 : rdP0 f n a d w
  · rw [if_pos h1]
    by_cases h2 : rdP1 f n a
    · rw [if_pos h2]
      by_cases h3 : rdP2 f n a
      · rw [if_pos h3]; exact lkE_le (lkE_le (rdA2_le h))
      · rw [if_neg h3]; exact lkE_le (rdA2_le h)
    · rw [if_neg h2]; exact rdA2_le h
  · rw [if_neg h1]; exact h
theorem cmD_n {d : Nat → Int32} {u : Nat} {f : Nat → Int32} {n a j : Nat} (h1 : j ≠ u + 1) (h2 : j ≠ u + 2) : cmD d u f n a j = d j := by
  unfold cmD
  by_cases z : c1P f n a
  · rw [if_pos z, pk_un h2, pk_un h1]
  · rw [if_neg z, pk_un h1]
theorem rdD1_n {d : Nat → Int32} {u : Nat} {f : Nat → Int32} {n a j : Nat} (h0 : j ≠ u) (h1 : j ≠ u + 1) (h2 : j ≠ u + 2) : rdD1 d u f n a j = d j := by
  unfold rdD1
  by_cases z : 4 ≤ nameAt f n a
  · rw [if_pos z, pk_un h0]
  · rw [if_neg z, cmD_n h1 h2, pk_un h0]
theorem rdD2_n {d : Nat → Int32} {u : Nat} {f : Nat → Int32} {n a j : Nat} (h0 : j ≠ u) (h1 : j ≠ u + 1) (h2 : j ≠ u + 2) (h3 : j ≠ u + 3) : rdD2 d u f n a j = d j := by
  unfold rdD2
  rw [pk_un h3, rdD1_n h0 h1 h2]
theorem rdD_w {f : Nat → Int32} {n a : Nat} {d : Nat → Int32} {w u m : Nat} (hu : w < u) (hm : d w = nI m) (h : rdOk f n a d w) : rdD f n a d w u w = nI (m + 1) := by
  unfold rdD
  rw [if_pos h.1, if_pos h.2.1, if_pos h.2.2, pk_us, rdD2_n (by omega) (by omega) (by omega) (by omega), hm, nI_1]
theorem rdD_n {f : Nat → Int32} {n a : Nat} {d : Nat → Int32} {w u j : Nat} (hw : j ≠ w) (h0 : j ≠ u) (h1 : j ≠ u + 1) (h2 : j ≠ u + 2) (h3 : j ≠ u + 3) : rdD f n a d w u j = d j := by
  unfold rdD
  by_cases z1 : rdP0 f n a d w
  · rw [if_pos z1]
    by_cases z2 : rdP1 f n a
    · rw [if_pos z2]
      by_cases z3 : rdP2 f n a
      · rw [if_pos z3, pk_un hw, rdD2_n h0 h1 h2 h3]
      · rw [if_neg z3, rdD2_n h0 h1 h2 h3]
    · rw [if_neg z2, rdD1_n h0 h1 h2]
  · rw [if_neg z1]
def wyF (f : Nat → Int32) (n w : Nat) : Nat → Nat → (Nat → Int32) → Nat → Bool × Nat × (Nat → Int32)
  | 0, m, D, a => (false, rdA f n a D w, rdD f n a D w (w + 1 + 4 * m))
  | q + 1, m, D, a => if rdOk f n a D w then (if lkT f n (rdA f n a D w) = 0 then (true, rdA f n a D w, rdD f n a D w (w + 1 + 4 * m)) else if sgAt f n (rdA f n a D w) 59 then wyF f n w q (m + 1) (rdD f n a D w (w + 1 + 4 * m)) (lkE f n (rdA f n a D w)) else (false, rdA f n a D w, rdD f n a D w (w + 1 + 4 * m))) else (false, rdA f n a D w, rdD f n a D w (w + 1 + 4 * m))
theorem wyF_f {r : Bool × Nat × (Nat → Int32)} {f : Nat → Int32} {n w q m : Nat} {D : Nat → Int32} {a : Nat} (h : r = wyF f n w q m D a) (z : ¬ (rdOk f n a D w ∧ (lkT f n (rdA f n a D w) = 0 ∨ sgAt f n (rdA f n a D w) 59))) : r = (false, rdA f n a D w, rdD f n a D w (w + 1 + 4 * m)) := by
  rw [h]
  cases q with
  | zero => rfl
  | succ q =>
    unfold wyF
    by_cases z1 : rdOk f n a D w
    · rw [if_pos z1, if_neg (fun y => z ⟨z1, Or.inl y⟩), if_neg (fun y => z ⟨z1, Or.inr y⟩)]
    · rw [if_neg z1]
theorem wyF_t {r : Bool × Nat × (Nat → Int32)} {f : Nat → Int32} {n w q m : Nat} {D : Nat → Int32} {a : Nat} (h : r = wyF f n w (q + 1) m D a) (z : rdOk f n a D w) (z2 : lkT f n (rdA f n a D w) = 0) : r = (true, rdA f n a D w, rdD f n a D w (w + 1 + 4 * m)) := by
  rw [h]; unfold wyF; rw [if_pos z, if_pos z2]
theorem wyF_s {r : Bool × Nat × (Nat → Int32)} {f : Nat → Int32} {n w q m : Nat} {D : Nat → Int32} {a : Nat} (h : r = wyF f n w (q + 1) m D a) (z : rdOk f n a D w) (z2 : ¬ lkT f n (rdA f n a D w) = 0) (z3 : sgAt f n (rdA f n a D w) 59) : r = wyF f n w q (m + 1) (rdD f n a D w (w + 1 + 4 * m)) (lkE f n (rdA f n a D w)) := by
  rw [h]; conv => lhs; unfold wyF
  rw [if_pos z, if_neg z2, if_pos z3]
theorem dlt6 {x : Int32} {m : Nat} (h : x = nI m) (hm : m ≤ 6) (z : ¬ 6 ≤ x) : m < 6 := by
  rcases Nat.lt_or_ge m 6 with y | y
  · exact y
  · exact absurd (by rw [h]; exact nI_le y (by omega)) z
def op_way (S : OS) : Int32 × OS := match S with
  | (d, k, hk, fo, tape, tp, bits, sz, num) => if d 1 = 6 then ((-1000000002), (d, k, hk, fnd fo 1, tape, tp, bits, sz, num)) else (if (wyF tape (pr tp) (110 + 25 * pr (d 1)) 7 0 (upd d (110 + 25 * pr (d 1)) 0) 0).1 = true then ((wyF tape (pr tp) (110 + 25 * pr (d 1)) 7 0 (upd d (110 + 25 * pr (d 1)) 0) 0).2.2 1 + 1 - 1, (upd (wyF tape (pr tp) (110 + 25 * pr (d 1)) 7 0 (upd d (110 + 25 * pr (d 1)) 0) 0).2.2 1 ((wyF tape (pr tp) (110 + 25 * pr (d 1)) 7 0 (upd d (110 + 25 * pr (d 1)) 0) 0).2.2 1 + 1), k, hk, fo, tape, 0, bits, sz, num)) else (-1 - nI (lkJ tape (pr tp) (wyF tape (pr tp) (110 + 25 * pr (d 1)) 7 0 (upd d (110 + 25 * pr (d 1)) 0) 0).2.1), ((wyF tape (pr tp) (110 + 25 * pr (d 1)) 7 0 (upd d (110 + 25 * pr (d 1)) 0) 0).2.2, k, hk, fo, tape, 0, bits, sz, num)))
set_option maxHeartbeats 4000000 in
set_option maxRecDepth 100000 in
theorem ct_X8_reads (ll : Launch) (g : GT) {h : Hp} {t dA eA kA fA tA bA zA nA lA : Nat} {hk sw0 sw1 : Int32} {f : Nat → Int32} {a n : Nat} {d : Nat → Int32} {x : Int32} {w m : Nat} (ht : h t = some (ob 8 [.ref dA, .ref eA, .ref kA, .int hk, .ref fA, .int sw0, .int sw1, .ref tA, .int (nI n), .int (nI (lkE f n a)), .int (nI (lkJ f n a)), .int (lkT f n a), .int (lkW f n a), .int (lkV f n a), .int (bI (False)), .ref bA, .ref zA, .ref nA, .ref lA])) (hf : h tA = some (ai g 100 f)) (hd : h dA = some (ai g 260 d)) (hx : x = nI w) (hw : w + 24 < 260) (hm : d w = nI m) (hm7 : m ≤ 6) (han : a ≤ n) (hn : n ≤ 100) : MF ll g yX8_reads cX8_reads 4 none (k2_rm 6 240) [.ref t, .int x] h none (hU (hU h t (ob 8 [.ref dA, .ref eA, .ref kA, .int hk, .ref fA, .int sw0, .int sw1, .ref tA, .int (nI n), .int (nI (lkE f n (rdA f n a d w))), .int (nI (lkJ f n (rdA f n a d w))), .int (lkT f n (rdA f n a d w)), .int (lkW f n (rdA f n a d w)), .int (lkV f n (rdA f n a d w)), .int (bI (¬ rdOk f n a d w)), .ref bA, .ref zA, .ref nA, .ref lA])) dA (ai g 260 (rdD f n a d w (w + 1 + 4 * m)))) := by
  have ne_1 : dA ≠ t := hneb hd ht rfl
  have ne_2 : tA ≠ t := hneb hf ht rfl
  have ne_3 : tA ≠ dA := hneb hf hd rfl
  refine mc_of (by decide) (Nat.le_of_ble_eq_true rfl) ?_
  intro K X r
  refine v_eqv (lv2 := [(0, .ref t), (1, .int x)]) rfl ?_
  refine v_iload_n X dX8_reads_0 1 rfl ?_
  refine v_iconst X dX8_reads_1 (v := 1) (by decide) ?_
  refine v_iadd X dX8_reads_2 ?_
  refine v_iconst X dX8_reads_3 (v := 4) (by decide) ?_
  refine v_aload_n X dX8_reads_4 0 rfl ?_
  refine v_get X fX8_9 ht rfl dX8_reads_5 ?_
  refine v_iload_n X dX8_reads_8 1 rfl ?_
  refine v_ialdK X w hd hx (by omega) (by decide) dX8_reads_9 ?_
  refine v_imul X dX8_reads_10 ?_
  refine v_iadd X dX8_reads_11 ?_
  refine v_istore_n (lv1 := [(2, .int ((x + 1) + (4 * (d w)))), (0, .ref t), (1, .int x)]) X dX8_reads_12 (by decide) rfl ?_
  have hu : (x + 1) + (4 * (d w)) = nI (w + 1 + 4 * m) := (ix_add (ix_add hx (rfl : (1 : Int32) = nI 1)) (ix_mul (rfl : (4 : Int32) = nI 4) hm))
  refine v_aload_n X dX8_reads_13 1 rfl ?_
  refine v_cVi X [] sX8_238 (ct_X8_name (a := a) (W := False) ll g ht) ht rfl dX8_reads_14 rfl rfl ⟨rfl, rfl⟩ ⟨(Nat.le_of_ble_eq_true rfl), (Nat.le_of_ble_eq_true rfl)⟩ ⟨Nat.zero_le _, Nat.zero_le _⟩ (Nat.le_of_ble_eq_true rfl) ?_
  refine v_istore_n (lv1 := [(3, .int (nameAt f n a)), (2, .int ((x + 1) + (4 * (d w)))), (0, .ref t), (1, .int x)]) X dX8_reads_17 (by decide) rfl ?_
  refine v_aload_n X dX8_reads_18 2 rfl ?_
  refine v_iload_n X dX8_reads_19 0 rfl ?_
  have J1 : VJ K 0 0 h 39 [(3, .int (nameAt f n a)), (2, .int ((x + 1) + (4 * (d w)))), (0, .ref t), (1, .int x)] [.int (bI (rdP0 f n a d w)), .ref t] := by
    refine v_cVv X [.int (bI (rdP0 f n a d w))] sX8_231 (ct_X8_must (W := False) (P := rdP0 f n a d w) ll g ht) ht rfl dX8_reads_39 rfl rfl ⟨rfl, rfl⟩ ⟨(Nat.le_of_ble_eq_true rfl), (Nat.le_of_ble_eq_true rfl)⟩ ⟨Nat.zero_le _, Nat.zero_le _⟩ (Nat.le_of_ble_eq_true rfl) ?_
    refine v_aload_n X dX8_reads_42 2 rfl ?_
    refine v_get X fX8_200 hU_s rfl dX8_reads_43 ?_
    refine v_ifb_eq X dX8_reads_46 (tgt := 50) (by decide) (fun c1 => ?_) (fun c1 => ?_)
    · have hP0 : rdP0 f n a d w := Classical.byContradiction fun y => c1 (Or.inr y)
      have hm6 : m < 6 := dlt6 hm hm7 hP0.2
      refine v_eqh (h2 := (hU h t (ob 8 [.ref dA, .ref eA, .ref kA, .int hk, .ref fA, .int sw0, .int sw1, .ref tA, .int (nI n), .int (nI (lkE f n a)), .int (nI (lkJ f n a)), .int (lkT f n a), .int (lkW f n a), .int (lkV f n a), .int (bI (False)), .ref bA, .ref zA, .ref nA, .ref lA]))) (by rw [bI_nF c1]) ?_
      refine v_aload_n X dX8_reads_50 2 rfl ?_
      refine v_get X fX8_9 hU_s rfl dX8_reads_51 ?_
      refine v_iload_n X dX8_reads_54 1 rfl ?_
      refine v_iload_n X dX8_reads_55 0 rfl ?_
      refine v_iastK (h2 := (hU (hU h t (ob 8 [.ref dA, .ref eA, .ref kA, .int hk, .ref fA, .int sw0, .int sw1, .ref tA, .int (nI n), .int (nI (lkE f n a)), .int (nI (lkJ f n a)), .int (lkT f n a), .int (lkW f n a), .int (lkV f n a), .int (bI (False)), .ref bA, .ref zA, .ref nA, .ref lA])) dA (ai g 260 (upd d (w + 1 + 4 * m) (nameAt f n a))))) X (w + 1 + 4 * m) ((hU_n ne_1).trans hd) hu (by omega) (by decide) dX8_reads_56 rfl ?_
      refine v_aload_n X dX8_reads_57 2 rfl ?_
      refine v_cVv X [] sX8_235 (ct_X8_look (a := lkE f n a) (n := n) ll g ((hU_n (Ne.symm ne_1)).trans hU_s) ((hU_n ne_3).trans ((hU_n ne_2).trans hf)) (lkE_le han) hn) ((hU_n (Ne.symm ne_1)).trans hU_s) rfl dX8_reads_58 rfl rfl ⟨rfl, rfl⟩ ⟨(Nat.le_of_ble_eq_true rfl), (Nat.le_of_ble_eq_true rfl)⟩ ⟨Nat.zero_le _, Nat.zero_le _⟩ (Nat.le_of_ble_eq_true rfl) ?_
      refine v_eqh (h2 := (hU (hU h t (ob 8 [.ref dA, .ref eA, .ref kA, .int hk, .ref fA, .int sw0, .int sw1, .ref tA, .int (nI n), .int (nI (lkE f n (lkE f n a))), .int (nI (lkJ f n (lkE f n a))), .int (lkT f n (lkE f n a)), .int (lkW f n (lkE f n a)), .int (lkV f n (lkE f n a)), .int (bI (False)), .ref bA, .ref zA, .ref nA, .ref lA])) dA (ai g 260 (upd d (w + 1 + 4 * m) (nameAt f n a))))) (hU_u2 ne_1) ?_
      refine v_iload_n X dX8_reads_61 0 rfl ?_
      refine v_iconst X dX8_reads_62 (v := 4) (by decide) ?_
      have C71 : ∀ (_ : True), VJ K 0 0 (hU (hU h t (ob 8 [.ref dA, .ref eA, .ref kA, .int hk, .ref fA, .int sw0, .int sw1, .ref tA, .int (nI n), .int (nI (lkE f n (rdA2 f n a))), .int (nI (lkJ f n (rdA2 f n a))), .int (lkT f n (rdA2 f n a)), .int (lkW f n (rdA2 f n a)), .int (lkV f n (rdA2 f n a)), .int (bI (rdW f n a)), .ref bA, .ref zA, .ref nA, .ref lA])) dA (ai g 260 (rdD1 d (w + 1 + 4 * m) f n a))) 71 [(0, .ref t), (1, .int x), (2, .int (x + 1 + 4 * d w)), (3, .int (nameAt f n a))] [] := by
        intro _ 
        refine v_aload_n X dX8_reads_71 0 rfl ?_
        refine v_aload_n X dX8_reads_72 0 rfl ?_
        refine v_bipush X dX8_reads_73 (v := 58) (by decide) ?_
        refine v_cVi X [.int 58] sX8_228 (ct_X8_isSign ll g 58 ((hU_n (Ne.symm ne_1)).trans hU_s)) ((hU_n (Ne.symm ne_1)).trans hU_s) rfl dX8_reads_75 rfl rfl ⟨rfl, rfl⟩ ⟨(Nat.le_of_ble_eq_true rfl), (Nat.le_of_ble_eq_true rfl)⟩ ⟨Nat.zero_le _, Nat.zero_le _⟩ (Nat.le_of_ble_eq_true rfl) ?_
        refine v_cVv X [.int (bI (sgAt f n (rdA2 f n a) 58))] sX8_231 (ct_X8_must (W := rdW f n a) (P := sgAt f n (rdA2 f n a) 58) ll g ((hU_n (Ne.symm ne_1)).trans hU_s)) ((hU_n (Ne.symm ne_1)).trans hU_s) rfl dX8_reads_78 rfl rfl ⟨rfl, rfl⟩ ⟨(Nat.le_of_ble_eq_true rfl), (Nat.le_of_ble_eq_true rfl)⟩ ⟨Nat.zero_le _, Nat.zero_le _⟩ (Nat.le_of_ble_eq_true rfl) ?_
        refine v_eqh (h2 := (hU (hU h t (ob 8 [.ref dA, .ref eA, .ref kA, .int hk, .ref fA, .int sw0, .int sw1, .ref tA, .int (nI n), .int (nI (lkE f n (rdA2 f n a))), .int (nI (lkJ f n (rdA2 f n a))), .int (lkT f n (rdA2 f n a)), .int (lkW f n (rdA2 f n a)), .int (lkV f n (rdA2 f n a)), .int (bI ((rdW f n a) ∨ ¬ (sgAt f n (rdA2 f n a) 58))), .ref bA, .ref zA, .ref nA, .ref lA])) dA (ai g 260 (rdD1 d (w + 1 + 4 * m) f n a)))) (hU_u2 ne_1) ?_
        refine v_aload_n X dX8_reads_81 0 rfl ?_
        refine v_get X fX8_200 ((hU_n (Ne.symm ne_1)).trans hU_s) rfl dX8_reads_82 ?_
        refine v_ifb_eq X dX8_reads_85 (tgt := 89) (by decide) (fun c2 => ?_) (fun c2 => ?_)
        · have hP1 : rdP1 f n a := ⟨fun y => c2 (Or.inl y), Classical.byContradiction fun y => c2 (Or.inr y)⟩
          refine v_eqh (h2 := (hU (hU h t (ob 8 [.ref dA, .ref eA, .ref kA, .int hk, .ref fA, .int sw0, .int sw1, .ref tA, .int (nI n), .int (nI (lkE f n (rdA2 f n a))), .int (nI (lkJ f n (rdA2 f n a))), .int (lkT f n (rdA2 f n a)), .int (lkW f n (rdA2 f n a)), .int (lkV f n (rdA2 f n a)), .int (bI (False)), .ref bA, .ref zA, .ref nA, .ref lA])) dA (ai g 260 (rdD1 d (w + 1 + 4 * m) f n a)))) (by rw [bI_nF c2]) ?_
          refine v_aload_n X dX8_reads_89 0 rfl ?_
          refine v_cVv X [] sX8_235 (ct_X8_look (a := lkE f n (rdA2 f n a)) (n := n) ll g ((hU_n (Ne.symm ne_1)).trans hU_s) ((hU_n ne_3).trans ((hU_n ne_2).trans hf)) (lkE_le (rdA2_le han)) hn) ((hU_n (Ne.symm ne_1)).trans hU_s) rfl dX8_reads_90 rfl rfl ⟨rfl, rfl⟩ ⟨(Nat.le_of_ble_eq_true rfl), (Nat.le_of_ble_eq_true rfl)⟩ ⟨Nat.zero_le _, Nat.zero_le _⟩ (Nat.le_of_ble_eq_true rfl) ?_
          refine v_eqh (h2 := (hU (hU h t (ob 8 [.ref dA, .ref eA, .ref kA, .int hk, .ref fA, .int sw0, .int sw1, .ref tA, .int (nI n), .int (nI (lkE f n (lkE f n (rdA2 f n a)))), .int (nI (lkJ f n (lkE f n (rdA2 f n a)))), .int (lkT f n (lkE f n (rdA2 f n a))), .int (lkW f n (lkE f n (rdA2 f n a))), .int (lkV f n (lkE f n (rdA2 f n a))), .int (bI (False)), .ref bA, .ref zA, .ref nA, .ref lA])) dA (ai g 260 (rdD1 d (w + 1 + 4 * m) f n a)))) (hU_u2 ne_1) ?_
          refine v_eqh (h2 := (hU (hU h t (ob 8 [.ref dA, .ref eA, .ref kA, .int hk, .ref fA, .int sw0, .int sw1, .ref tA, .int (nI n), .int (nI (lkE f n (rdA3 f n a))), .int (nI (lkJ f n (rdA3 f n a))), .int (lkT f n (rdA3 f n a)), .int (lkW f n (rdA3 f n a)), .int (lkV f n (rdA3 f n a)), .int (bI (False)), .ref bA, .ref zA, .ref nA, .ref lA])) dA (ai g 260 (rdD1 d (w + 1 + 4 * m) f n a)))) rfl ?_
          refine v_aload_n X dX8_reads_93 0 rfl ?_
          refine v_get X fX8_9 ((hU_n (Ne.symm ne_1)).trans hU_s) rfl dX8_reads_94 ?_
          refine v_iload_n X dX8_reads_97 2 rfl ?_
          refine v_iconst X dX8_reads_98 (v := 3) (by decide) ?_
          refine v_iadd X dX8_reads_99 ?_
          refine v_aload_n X dX8_reads_100 0 rfl ?_
          refine v_cVi X [] sX8_245 (ct_X8_deed (a := rdA3 f n a) (W := False) ll g ((hU_n (Ne.symm ne_1)).trans hU_s)) ((hU_n (Ne.symm ne_1)).trans hU_s) rfl dX8_reads_101 rfl rfl ⟨rfl, rfl⟩ ⟨(Nat.le_of_ble_eq_true rfl), (Nat.le_of_ble_eq_true rfl)⟩ ⟨Nat.zero_le _, Nat.zero_le _⟩ (Nat.le_of_ble_eq_true rfl) ?_
          refine v_iastK (h2 := (hU (hU h t (ob 8 [.ref dA, .ref eA, .ref kA, .int hk, .ref fA, .int sw0, .int sw1, .ref tA, .int (nI n), .int (nI (lkE f n (rdA3 f n a))), .int (nI (lkJ f n (rdA3 f n a))), .int (lkT f n (rdA3 f n a)), .int (lkW f n (rdA3 f n a)), .int (lkV f n (rdA3 f n a)), .int (bI (False)), .ref bA, .ref zA, .ref nA, .ref lA])) dA (ai g 260 (upd (rdD1 d (w + 1 + 4 * m) f n a) ((w + 1 + 4 * m) + 3) (deedAt f n (rdA3 f n a)))))) X ((w + 1 + 4 * m) + 3) hU_s (ix_add hu (rfl : (3 : Int32) = nI 3)) (by omega) (by decide) dX8_reads_104 hU_u ?_
          refine v_eqh (h2 := (hU (hU h t (ob 8 [.ref dA, .ref eA, .ref kA, .int hk, .ref fA, .int sw0, .int sw1, .ref tA, .int (nI n), .int (nI (lkE f n (rdA3 f n a))), .int (nI (lkJ f n (rdA3 f n a))), .int (lkT f n (rdA3 f n a)), .int (lkW f n (rdA3 f n a)), .int (lkV f n (rdA3 f n a)), .int (bI (False)), .ref bA, .ref zA, .ref nA, .ref lA])) dA (ai g 260 (rdD2 d (w + 1 + 4 * m) f n a)))) rfl ?_
          refine v_aload_n X dX8_reads_105 0 rfl ?_
          refine v_aload_n X dX8_reads_106 0 rfl ?_
          refine v_get X fX8_9 ((hU_n (Ne.symm ne_1)).trans hU_s) rfl dX8_reads_107 ?_
          refine v_iload_n X dX8_reads_110 2 rfl ?_
          refine v_iconst X dX8_reads_111 (v := 3) (by decide) ?_
          refine v_iadd X dX8_reads_112 ?_
          refine v_ialdK X ((w + 1 + 4 * m) + 3) hU_s (ix_add hu (rfl : (3 : Int32) = nI 3)) (by omega) (by decide) dX8_reads_113 ?_
          have J2 : VJ K 0 0 (hU (hU h t (ob 8 [.ref dA, .ref eA, .ref kA, .int hk, .ref fA, .int sw0, .int sw1, .ref tA, .int (nI n), .int (nI (lkE f n (rdA3 f n a))), .int (nI (lkJ f n (rdA3 f n a))), .int (lkT f n (rdA3 f n a)), .int (lkW f n (rdA3 f n a)), .int (lkV f n (rdA3 f n a)), .int (bI (False)), .ref bA, .ref zA, .ref nA, .ref lA])) dA (ai g 260 (rdD2 d (w + 1 + 4 * m) f n a))) 122 [(0, .ref t), (1, .int x), (2, .int (x + 1 + 4 * d w)), (3, .int (nameAt f n a))] [.int (bI (rdP2 f n a)), .ref t] := by
            refine v_cVv X [.int (bI (rdP2 f n a))] sX8_231 (ct_X8_must (W := False) (P := rdP2 f n a) ll g ((hU_n (Ne.symm ne_1)).trans hU_s)) ((hU_n (Ne.symm ne_1)).trans hU_s) rfl dX8_reads_122 rfl rfl ⟨rfl, rfl⟩ ⟨(Nat.le_of_ble_eq_true rfl), (Nat.le_of_ble_eq_true rfl)⟩ ⟨Nat.zero_le _, Nat.zero_le _⟩ (Nat.le_of_ble_eq_true rfl) ?_
            refine v_eqh (h2 := (hU (hU h t (ob 8 [.ref dA, .ref eA, .ref kA, .int hk, .ref fA, .int sw0, .int sw1, .ref tA, .int (nI n), .int (nI (lkE f n (rdA3 f n a))), .int (nI (lkJ f n (rdA3 f n a))), .int (lkT f n (rdA3 f n a)), .int (lkW f n (rdA3 f n a)), .int (lkV f n (rdA3 f n a)), .int (bI ((False) ∨ ¬ (rdP2 f n a))), .ref bA, .ref zA, .ref nA, .ref lA])) dA (ai g 260 (rdD2 d (w + 1 + 4 * m) f n a)))) (hU_u2 ne_1) ?_
            refine v_aload_n X dX8_reads_125 0 rfl ?_
            refine v_get X fX8_200 ((hU_n (Ne.symm ne_1)).trans hU_s) rfl dX8_reads_126 ?_
            refine v_ifb_eq X dX8_reads_129 (tgt := 133) (by decide) (fun c3 => ?_) (fun c3 => ?_)
            · refine v_aload_n X dX8_reads_133 0 rfl ?_
              refine v_get X fX8_9 ((hU_n (Ne.symm ne_1)).trans hU_s) rfl dX8_reads_134 ?_
              refine v_iload_n X dX8_reads_137 1 rfl ?_
              refine v_dup2 X dX8_reads_138 rfl rfl ?_
              refine v_ialdK X w hU_s hx (by omega) (by decide) dX8_reads_139 ?_
              refine v_iconst X dX8_reads_140 (v := 1) (by decide) ?_
              refine v_iadd X dX8_reads_141 ?_
              refine v_iastK (h2 := (hU (hU h t (ob 8 [.ref dA, .ref eA, .ref kA, .int hk, .ref fA, .int sw0, .int sw1, .ref tA, .int (nI n), .int (nI (lkE f n (rdA3 f n a))), .int (nI (lkJ f n (rdA3 f n a))), .int (lkT f n (rdA3 f n a)), .int (lkW f n (rdA3 f n a)), .int (lkV f n (rdA3 f n a)), .int (bI ((False) ∨ ¬ (rdP2 f n a))), .ref bA, .ref zA, .ref nA, .ref lA])) dA (ai g 260 (upd (rdD2 d (w + 1 + 4 * m) f n a) w (((rdD2 d (w + 1 + 4 * m) f n a) w) + 1))))) X w hU_s hx (by omega) (by decide) dX8_reads_142 hU_u ?_
              refine v_aload_n X dX8_reads_143 0 rfl ?_
              refine v_cVv X [] sX8_235 (ct_X8_look (a := lkE f n (rdA3 f n a)) (n := n) ll g ((hU_n (Ne.symm ne_1)).trans hU_s) ((hU_n ne_3).trans ((hU_n ne_2).trans hf)) (lkE_le (show rdA3 f n a ≤ n from lkE_le (rdA2_le han))) hn) ((hU_n (Ne.symm ne_1)).trans hU_s) rfl dX8_reads_144 rfl rfl ⟨rfl, rfl⟩ ⟨(Nat.le_of_ble_eq_true rfl), (Nat.le_of_ble_eq_true rfl)⟩ ⟨Nat.zero_le _, Nat.zero_le _⟩ (Nat.le_of_ble_eq_true rfl) ?_
              refine v_eqh (h2 := (hU (hU h t (ob 8 [.ref dA, .ref eA, .ref kA, .int hk, .ref fA, .int sw0, .int sw1, .ref tA, .int (nI n), .int (nI (lkE f n (lkE f n (rdA3 f n a)))), .int (nI (lkJ f n (lkE f n (rdA3 f n a)))), .int (lkT f n (lkE f n (rdA3 f n a))), .int (lkW f n (lkE f n (rdA3 f n a))), .int (lkV f n (lkE f n (rdA3 f n a))), .int (bI ((False) ∨ ¬ (rdP2 f n a))), .ref bA, .ref zA, .ref nA, .ref lA])) dA (ai g 260 (upd (rdD2 d (w + 1 + 4 * m) f n a) w (((rdD2 d (w + 1 + 4 * m) f n a) w) + 1))))) (hU_u2 ne_1) ?_
              exact v_vret X r dX8_reads_147 (Nat.le_refl _) (Nat.le_refl _) ⟨rfl, (by have z : rdP2 f n a := Classical.byContradiction fun y => c3 (Or.inr y); rw [rdA, rdD, if_pos hP0, if_pos hP0, if_pos hP1, if_pos hP1, if_pos z, if_pos z, bI_congr (show (False ∨ ¬ (rdP2 f n a)) ↔ ¬ rdOk f n a d w from ⟨fun q => absurd q c3, fun q => absurd ⟨hP0, hP1, z⟩ q⟩)])⟩
            · exact v_vret X r dX8_reads_132 (Nat.le_refl _) (Nat.le_refl _) ⟨rfl, (by have z : ¬ rdP2 f n a := fun y => c3.elim (fun q => q) (fun q => q y); rw [rdA, rdD, if_pos hP0, if_pos hP0, if_pos hP1, if_pos hP1, if_neg z, if_neg z, bI_congr (show (False ∨ ¬ (rdP2 f n a)) ↔ ¬ rdOk f n a d w from ⟨fun _ q => z q.2.2, fun _ => Or.inr z⟩)])⟩
          refine v_eqi (y := deedAt f n (rdA3 f n a)) (by rw [rdD2, pk_us]) ?_
          refine v_if_lt X dX8_reads_114 (tgt := 121) (by decide) (fun c4 => ?_) (fun c4 => ?_)
          · refine v_iconst X dX8_reads_121 (v := 0) (by decide) ?_
            exact v_eqi (bI_f (fun z => z c4)).symm J2
          · refine v_iconst X dX8_reads_117 (v := 1) (by decide) ?_
            refine v_goto X dX8_reads_118 (tgt := 122) (by decide) ?_
            exact v_eqi (bI_t c4).symm J2
        · exact v_vret X r dX8_reads_88 (Nat.le_refl _) (Nat.le_refl _) ⟨rfl, (by have z : ¬ rdP1 f n a := fun y => c2.elim (fun q => y.1 q) (fun q => q y.2); rw [rdA, rdD, if_pos hP0, if_pos hP0, if_neg z, if_neg z, bI_congr (show ((rdW f n a) ∨ ¬ (sgAt f n (rdA2 f n a) 58)) ↔ ¬ rdOk f n a d w from ⟨fun _ q => z q.2.1, fun _ => c2⟩)])⟩
      refine v_icmp_ge X dX8_reads_63 (tgt := 71) (by decide) (fun c5 => ?_) (fun c5 => ?_)
      · refine v_lv (lv2 := [(0, .ref t), (1, .int x), (2, .int ((x + 1) + (4 * (d w)))), (3, .int (nameAt f n a))]) [2, 3, 1, 0] rfl ?_
        refine v_eqh (h2 := (hU (hU h t (ob 8 [.ref dA, .ref eA, .ref kA, .int hk, .ref fA, .int sw0, .int sw1, .ref tA, .int (nI n), .int (nI (lkE f n (rdA2 f n a))), .int (nI (lkJ f n (rdA2 f n a))), .int (lkT f n (rdA2 f n a)), .int (lkW f n (rdA2 f n a)), .int (lkV f n (rdA2 f n a)), .int (bI (rdW f n a)), .ref bA, .ref zA, .ref nA, .ref lA])) dA (ai g 260 (rdD1 d (w + 1 + 4 * m) f n a)))) (by rw [rdA2, rdD1, if_pos c5, if_pos c5, bI_congr (show False ↔ rdW f n a from ⟨fun q => q.elim, fun q => q.1 c5⟩)]) ?_
        exact C71 trivial 
      · refine v_aload_n X dX8_reads_66 2 rfl ?_
        refine v_iload_n X dX8_reads_67 1 rfl ?_
        refine v_cVv X [.int ((x + 1) + (4 * (d w)))] sX8_241 (ct_X8_compares (u := w + 1 + 4 * m) ll g  ((hU_n (Ne.symm ne_1)).trans hU_s) ((hU_n ne_3).trans ((hU_n ne_2).trans hf)) hU_s hu (by omega) (lkE_le han) hn) ((hU_n (Ne.symm ne_1)).trans hU_s) rfl dX8_reads_68 rfl rfl ⟨rfl, rfl⟩ ⟨(Nat.le_of_ble_eq_true rfl), (Nat.le_of_ble_eq_true rfl)⟩ ⟨Nat.zero_le _, Nat.zero_le _⟩ (Nat.le_of_ble_eq_true rfl) ?_
        refine v_eqh (h2 := (hU (hU h t (ob 8 [.ref dA, .ref eA, .ref kA, .int hk, .ref fA, .int sw0, .int sw1, .ref tA, .int (nI n), .int (nI (lkE f n (cmA f n (lkE f n a)))), .int (nI (lkJ f n (cmA f n (lkE f n a)))), .int (lkT f n (cmA f n (lkE f n a))), .int (lkW f n (cmA f n (lkE f n a))), .int (lkV f n (cmA f n (lkE f n a))), .int (bI (¬ cmP f n (lkE f n a))), .ref bA, .ref zA, .ref nA, .ref lA])) dA (ai g 260 (cmD (upd d (w + 1 + 4 * m) (nameAt f n a)) (w + 1 + 4 * m) f n (lkE f n a))))) (Eq.trans (congrArg (fun z => hU (z) dA (ai g 260 (cmD (upd d (w + 1 + 4 * m) (nameAt f n a)) (w + 1 + 4 * m) f n (lkE f n a)))) (hU_u2 ne_1)) hU_u) ?_
        refine v_lv (lv2 := [(0, .ref t), (1, .int x), (2, .int ((x + 1) + (4 * (d w)))), (3, .int (nameAt f n a))]) [2, 3, 1, 0] rfl ?_
        refine v_eqh (h2 := (hU (hU h t (ob 8 [.ref dA, .ref eA, .ref kA, .int hk, .ref fA, .int sw0, .int sw1, .ref tA, .int (nI n), .int (nI (lkE f n (rdA2 f n a))), .int (nI (lkJ f n (rdA2 f n a))), .int (lkT f n (rdA2 f n a)), .int (lkW f n (rdA2 f n a)), .int (lkV f n (rdA2 f n a)), .int (bI (rdW f n a)), .ref bA, .ref zA, .ref nA, .ref lA])) dA (ai g 260 (rdD1 d (w + 1 + 4 * m) f n a)))) (by rw [rdA2, rdD1, if_neg c5, if_neg c5, bI_congr (show (¬ cmP f n (lkE f n a)) ↔ rdW f n a from ⟨fun q => ⟨c5, q⟩, fun q => q.2⟩)]) ?_
        exact C71 trivial 
    · exact v_vret X r dX8_reads_49 (Nat.le_refl _) (Nat.le_refl _) ⟨rfl, (by have z : ¬ rdP0 f n a d w := fun y => c1.elim (fun q => q) (fun q => q y); rw [rdA, rdD, if_neg z, if_neg z, bI_congr (show (False ∨ ¬ (rdP0 f n a d w)) ↔ ¬ rdOk f n a d w from ⟨fun _ q => z q.1, fun _ => Or.inr z⟩)]; exact (hU_id ((hU_n ne_1).trans hd)).symm)⟩
  refine v_if_lt X dX8_reads_20 (tgt := 38) (by decide) (fun c6 => ?_) (fun c6 => ?_)
  · refine v_iconst X dX8_reads_38 (v := 0) (by decide) ?_
    exact v_eqi (bI_f (fun z => z.1 c6)).symm J1
  · refine v_aload_n X dX8_reads_23 2 rfl ?_
    refine v_get X fX8_9 ht rfl dX8_reads_24 ?_
    refine v_iload_n X dX8_reads_27 3 rfl ?_
    refine v_ialdK X w hd hx (by omega) (by decide) dX8_reads_28 ?_
    refine v_bipush X dX8_reads_29 (v := 6) (by decide) ?_
    refine v_icmp_ge X dX8_reads_31 (tgt := 38) (by decide) (fun c7 => ?_) (fun c7 => ?_)
    · refine v_iconst X dX8_reads_38 (v := 0) (by decide) ?_
      exact v_eqi (bI_f (fun z => z.2 c7)).symm J1
    · refine v_iconst X dX8_reads_34 (v := 1) (by decide) ?_
      refine v_goto X dX8_reads_35 (tgt := 39) (by decide) ?_
      exact v_eqi (bI_t ⟨c6, c7⟩).symm J1
