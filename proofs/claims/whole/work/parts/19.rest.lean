/-! ===== tape, ways, sheets, images: the reference's calls ===== -/
def byA (bytes : Int32) (k : Nat) : Int32 := (bytes >>> ((8 * nI k) &&& 31)) &&& 255
def feedF (bytes : Int32) (tape : Nat → Int32) (T : Nat) : Nat → Nat → Int32
  | 0 => tape
  | q + 1 => feedF bytes (upd tape T (byA bytes q)) (T + 1) q
theorem feedF_s {R tape : Nat → Int32} {bytes : Int32} {T q : Nat} (h : R = feedF bytes tape T q) (hq : 0 < q) : R = feedF bytes (upd tape T (byA bytes (q - 1))) (T + 1) (q - 1) := by
  obtain ⟨p, rfl⟩ : ∃ p, q = p + 1 := ⟨q - 1, by omega⟩
  exact h
def lowS (bits : Int32) (v : Int64) : Int64 := if bits = 8 then v.toInt32.toInt8.toInt32.toInt64 else if bits = 16 then v.toInt32.toInt16.toInt32.toInt64 else v
abbrev okBits (b : Int32) : Prop := b = 0 ∨ b = 8 ∨ b = 16 ∨ b = 64
def zeroS (num : Nat → Int64) (base q : Nat) : Nat → Int64 := fun j => if base ≤ j ∧ j < base + q then 0 else num j
theorem zeroS_s {num : Nat → Int64} {base q : Nat} : vp_updL (zeroS num base q) (base + q) 0 = zeroS num base (q + 1) := by
  funext j; unfold vp_updL zeroS
  by_cases h : j = base + q
  · subst h; rw [if_pos rfl, if_pos (by omega)]
  · rw [if_neg h]
    by_cases h2 : base ≤ j ∧ j < base + q
    · rw [if_pos h2, if_pos (by omega)]
    · rw [if_neg h2, if_neg (by omega)]
theorem zeroS_0 {num : Nat → Int64} {base : Nat} : zeroS num base 0 = num := by
  funext j; unfold zeroS; rw [if_neg (by omega)]
def liftS (lf num : Nat → Int64) (base q : Nat) : Nat → Int64 := fun j => if j < q then num (base + j) else lf j
theorem liftS_s {lf num : Nat → Int64} {base q : Nat} : vp_updL (liftS lf num base q) q (num (base + q)) = liftS lf num base (q + 1) := by
  funext j; unfold vp_updL liftS
  by_cases h : j = q
  · subst h; rw [if_pos rfl, if_pos (by omega)]
  · rw [if_neg h]
    by_cases h2 : j < q
    · rw [if_pos h2, if_pos (by omega)]
    · rw [if_neg h2, if_neg (by omega)]
theorem liftS_0 {lf num : Nat → Int64} {base : Nat} : liftS lf num base 0 = lf := by
  funext j; unfold liftS; rw [if_neg (by omega)]
theorem cpy_s {f g2 : Nat → Int64} {sp dp q n : Nat} {lf : Nat → Int64} (hq : q < n) : vp_updL (va_cpy f g2 sp dp q) (dp + q) (liftS lf f sp n q) = va_cpy f g2 sp dp (q + 1) := by
  funext j; unfold vp_updL va_cpy liftS
  rw [if_pos hq]
  by_cases h : j = dp + q
  · subst h; rw [if_pos rfl, if_pos (by omega), show sp + (dp + q - dp) = sp + q by omega]
  · rw [if_neg h]
    by_cases h2 : dp ≤ j ∧ j < dp + q
    · rw [if_pos h2, if_pos (by omega)]
    · rw [if_neg h2, if_neg (by omega)]
theorem cpy_0 {f g2 : Nat → Int64} {sp dp : Nat} : va_cpy f g2 sp dp 0 = g2 := by
  funext j; unfold va_cpy; rw [if_neg (by omega)]
def whyS (d bits : Nat → Int32) (s a b : Int32) : Int32 := if wi s 0 3 then (if bits s.toNatClampNeg = 0 then -1000000006 else if two d a b then 0 else -1000000001) else -1000000001
def filmF (p0 p1 : Nat) (bs : Int32) (base : Nat) (m : Nat → Int32) (T q : Nat) (num : Nat → Int64) : Nat → Nat × (Nat → Int64)
  | 0 => (q, num)
  | f + 1 => if gbO m p0 p1 = 0 then filmF p0 p1 bs base (gbA m p0 p1 T) (T + 1) (q + 1) (vp_updL num (base + q) (lowS bs (gbA m p0 p1 T 5).toInt64)) f else (q + 1, vp_updL num (base + q) (lowS bs (gbA m p0 p1 T 5).toInt64))
theorem filmF_e {R : Nat × (Nat → Int64)} {p0 p1 base T q z : Nat} {bs o : Int32} {m : Nat → Int32} {num : Nat → Int64} (h : R = if o = 0 then filmF p0 p1 bs base m T q num (z - q) else (q, num)) (hq : z ≤ q) : R = (q, num) := by
  rw [h, show z - q = 0 by omega]
  by_cases ho : o = 0
  · rw [if_pos ho]; rfl
  · rw [if_neg ho]
theorem filmF_s {R : Nat × (Nat → Int64)} {p0 p1 base T q z : Nat} {bs o : Int32} {m : Nat → Int32} {num : Nat → Int64} (h : R = if o = 0 then filmF p0 p1 bs base m T q num (z - q) else (q, num)) (ho : o = 0) (hq : q < z) : R = if gbO m p0 p1 = 0 then filmF p0 p1 bs base (gbA m p0 p1 T) (T + 1) (q + 1) (vp_updL num (base + q) (lowS bs (gbA m p0 p1 T 5).toInt64)) (z - (q + 1)) else (q + 1, vp_updL num (base + q) (lowS bs (gbA m p0 p1 T 5).toInt64)) := by
  rw [h, if_pos ho, show z - q = (z - (q + 1)) + 1 by omega]; rfl
def readF (p0 p1 : Nat) (num : Nat → Int64) (base : Nat) (m : Nat → Int32) (T q : Nat) (o : Int32) : Nat → Int32
  | 0 => 0
  | f + 1 => if o = 0 then (if num (base + q) = (gbA m p0 p1 T 5).toInt64 then readF p0 p1 num base (gbA m p0 p1 T) (T + 1) (q + 1) (gbO m p0 p1) f else 1 + nI q) else 1 + nI q
theorem readF_s {R : Int32} {p0 p1 base T q z : Nat} {o : Int32} {m : Nat → Int32} {num : Nat → Int64} (h : R = readF p0 p1 num base m T q o (z - q)) (hq : q < z) : R = if o = 0 then (if num (base + q) = (gbA m p0 p1 T 5).toInt64 then readF p0 p1 num base (gbA m p0 p1 T) (T + 1) (q + 1) (gbO m p0 p1) (z - (q + 1)) else 1 + nI q) else 1 + nI q := by
  rw [h, show z - q = (z - (q + 1)) + 1 by omega]; rfl
def sumF (d : Nat → Int32) (p : Nat) (acc : Int32) : Nat → Int32
  | 0 => acc
  | f + 1 => sumF d (p + 1) (acc + told d p 5) f
theorem sumF_s {R acc : Int32} {d : Nat → Int32} {p N : Nat} (h : R = sumF d p acc (N - p)) (hp : p < N) : R = sumF d (p + 1) (acc + told d p 5) (N - (p + 1)) := by
  rw [h, show N - p = (N - (p + 1)) + 1 by omega]; rfl
theorem sumF_e {R acc : Int32} {d : Nat → Int32} {p N : Nat} (h : R = sumF d p acc (N - p)) (hp : ¬ p < N) : R = acc := by
  rw [h, show N - p = 0 by omega]; rfl
def statF (fo : Nat → Int32) (w : Int32) (k : Nat) (acc : Int32) : Nat → Int32
  | 0 => acc
  | f + 1 => statF fo w (k + 1) (acc + (if w = -1 ∨ w = nI k then fo k else 0)) f
theorem statF_s {R acc w : Int32} {fo : Nat → Int32} {k : Nat} (h : R = statF fo w k acc (7 - k)) (hk : k < 7) : R = statF fo w (k + 1) (acc + (if w = -1 ∨ w = nI k then fo k else 0)) (7 - (k + 1)) := by
  rw [h, show 7 - k = (7 - (k + 1)) + 1 by omega]; rfl
theorem statF_e {R acc w : Int32} {fo : Nat → Int32} {k : Nat} (h : R = statF fo w k acc (7 - k)) (hk : ¬ k < 7) : R = acc := by
  rw [h, show 7 - k = 0 by omega]; rfl
theorem fb_subI' {x y : Int32} (h1 : -2147483648 ≤ x.toInt - y.toInt) (h2 : x.toInt - y.toInt < 2147483648) : (x - y).toInt = x.toInt - y.toInt := by
  rw [Int32.toInt_sub]
  exact Int.bmod_eq_of_le (by omega) (by omega)
/-- there is room in a row of z numbers for n of them from one on -/
abbrev rowOk (z f n : Int32) : Prop := ¬ n < 0 ∧ ¬ f < 0 ∧ n ≤ z - f
theorem rowOk_n {z f n : Int32} {zz : Nat} (hz : z = nI zz) (hz4 : zz ≤ 40) (h1 : ¬ n < 0) (h2 : ¬ f < 0) (h3 : ¬ z - f < n) : ∃ ff nn : Nat, f = nI ff ∧ n = nI nn ∧ ff + nn ≤ zz := by
  obtain ⟨ff, hf, rfl⟩ := nI_of h2
  obtain ⟨nn, hn, rfl⟩ := nI_of h1
  refine ⟨ff, nn, rfl, rfl, ?_⟩
  subst hz
  rw [Int32.not_lt, Int32.le_iff_toInt_le, nI_toInt hn] at h3
  have e : (nI zz - nI ff).toInt = (zz : Int) - ff := by
    rw [fb_subI' (by rw [nI_toInt (by omega), nI_toInt hf]; omega) (by rw [nI_toInt (by omega), nI_toInt hf]; omega), nI_toInt (by omega), nI_toInt hf]
  rw [e] at h3
  omega
def op_feed (S : OS) (bytes : Int32) (n : Int32) : Int32 × OS := match S with
  | (d, k, hk, fo, tape, tp, bits, sz, num) => if wi n 1 4 then (if tp + n ≤ 100 then (tp + n, (d, k, hk, fo, feedF bytes tape (pr tp) (pr n), tp + n, bits, sz, num)) else ((-1000000002), (d, k, hk, fnd fo 1, tape, tp, bits, sz, num))) else ((-1000000001), (d, k, hk, fnd fo 0, tape, tp, bits, sz, num))
def op_wipe (S : OS) : Int32 × OS := match S with
  | (d, k, hk, fo, tape, tp, bits, sz, num) => (tp, (d, k, hk, fo, tape, 0, bits, sz, num))
def op_rules (S : OS) (w : Int32) : Int32 × OS := match S with
  | (d, k, hk, fo, tape, tp, bits, sz, num) => if wi w 0 (d 1 - 1) then (d (110 + 25 * pr w), (d, k, hk, fo, tape, tp, bits, sz, num)) else ((-1000000001), (d, k, hk, fnd fo 0, tape, tp, bits, sz, num))
def op_holds (S : OS) (w : Int32) (s : Int32) (l : Int32) (e : Int32) (t : Int32) : Int32 × OS := match S with
  | (d, k, hk, fo, tape, tp, bits, sz, num) => if wi w 0 (d 1 - 1) ∧ okSit s l e t then (if ruleS d (pr w) (wayC d (pr w)) s l e t < 0 then ((-1000000004), (d, k, hk, fnd fo 3, tape, tp, bits, sz, num)) else (ruleS d (pr w) (wayC d (pr w)) s l e t, (d, k, hk, fo, tape, tp, bits, sz, num))) else ((-1000000001), (d, k, hk, fnd fo 0, tape, tp, bits, sz, num))
def op_sheet (S : OS) (s : Int32) (b : Int32) (n : Int32) : Int32 × OS := match S with
  | (d, k, hk, fo, tape, tp, bits, sz, num) => if wi s 0 3 ∧ okBits b then (if n < 0 then ((-1000000007), (d, k, hk, fnd fo 6, tape, tp, bits, sz, num)) else if 40 < n then ((-1000000001), (d, k, hk, fnd fo 0, tape, tp, bits, sz, num)) else ((if b = 0 then 0 else n), (d, k, hk, fo, tape, tp, upd bits (pr s) b, upd sz (pr s) (if b = 0 then 0 else n), zeroS num (40 * pr s) 40))) else ((-1000000001), (d, k, hk, fnd fo 0, tape, tp, bits, sz, num))
def op_write (S : OS) (s : Int32) (q : Int32) (v : Int64) : Int64 × OS := match S with
  | (d, k, hk, fo, tape, tp, bits, sz, num) => if wi s 0 3 then (if bits (pr s) = 0 then ((-1000000006), (d, k, hk, fnd fo 5, tape, tp, bits, sz, num)) else if wi q 0 (sz (pr s) - 1) then (num (40 * pr s + pr q), (d, k, hk, fo, tape, tp, bits, sz, vp_updL num (40 * pr s + pr q) (lowS (bits (pr s)) v))) else ((-1000000001), (d, k, hk, fnd fo 0, tape, tp, bits, sz, num))) else ((-1000000001), (d, k, hk, fnd fo 0, tape, tp, bits, sz, num))
def op_copy (S : OS) (s : Int32) (f : Int32) (u : Int32) (to : Int32) (n : Int32) : Int32 × OS := match S with
  | (d, k, hk, fo, tape, tp, bits, sz, num) => if wi s 0 3 ∧ wi u 0 3 then (if bits (pr s) = 0 ∨ bits (pr u) = 0 then ((-1000000006), (d, k, hk, fnd fo 5, tape, tp, bits, sz, num)) else if ¬ bits (pr s) = bits (pr u) then ((-1000000003), (d, k, hk, fnd fo 2, tape, tp, bits, sz, num)) else if n < 0 ∨ f < 0 ∨ to < 0 ∨ sz (pr s) - f < n ∨ sz (pr u) - to < n then ((-1000000001), (d, k, hk, fnd fo 0, tape, tp, bits, sz, num)) else (n, (d, k, hk, fo, tape, tp, bits, sz, va_cpy num num (40 * pr s + pr f) (40 * pr u + pr to) (pr n)))) else ((-1000000001), (d, k, hk, fnd fo 0, tape, tp, bits, sz, num))
def op_film (S : OS) (s : Int32) (a : Int32) (b : Int32) : Int32 × OS := match S with
  | (d, k, hk, fo, tape, tp, bits, sz, num) => if whyS d bits s a b = (-1000000001) then ((-1000000001), (d, k, hk, fnd fo 0, tape, tp, bits, sz, num)) else if whyS d bits s a b = (-1000000006) then ((-1000000006), (d, k, hk, fnd fo 5, tape, tp, bits, sz, num)) else (nI (filmF (pr a) (pr b) (bits (pr s)) (40 * pr s) (getsA d (pr a) (pr b)) 0 0 num (pr (sz (pr s)))).1, (d, k, hk, fo, tape, tp, bits, sz, (filmF (pr a) (pr b) (bits (pr s)) (40 * pr s) (getsA d (pr a) (pr b)) 0 0 num (pr (sz (pr s)))).2))
def op_read (S : OS) (s : Int32) (a : Int32) (b : Int32) : Int32 × OS := match S with
  | (d, k, hk, fo, tape, tp, bits, sz, num) => if whyS d bits s a b = (-1000000001) then ((-1000000001), (d, k, hk, fnd fo 0, tape, tp, bits, sz, num)) else if whyS d bits s a b = (-1000000006) then ((-1000000006), (d, k, hk, fnd fo 5, tape, tp, bits, sz, num)) else (readF (pr a) (pr b) num (40 * pr s) (getsA d (pr a) (pr b)) 0 0 0 (pr (sz (pr s))), (d, k, hk, fo, tape, tp, bits, sz, num))
def op_image (S : OS) : Int32 × OS := match S with
  | (d, k, hk, fo, tape, tp, bits, sz, num) => (1, (d, d, 1, fo, tape, tp, bits, sz, num))
def op_undo (S : OS) : Int32 × OS := match S with
  | (d, k, hk, fo, tape, tp, bits, sz, num) => if hk = 0 then ((-1000000004), (d, k, hk, fnd fo 3, tape, tp, bits, sz, num)) else (k 0, (k, k, hk, fo, tape, tp, bits, sz, num))
def op_tear (S : OS) : Int32 × OS := match S with
  | (d, k, hk, fo, tape, tp, bits, sz, num) => ((if hk = 0 then 0 else 1), (d, k, 0, fo, tape, tp, bits, sz, num))
def op_count (S : OS) (what : Int32) : Int32 × OS := match S with
  | (d, k, hk, fo, tape, tp, bits, sz, num) => if what = 0 then (d 0, (d, k, hk, fo, tape, tp, bits, sz, num)) else if what = 1 then (d 1, (d, k, hk, fo, tape, tp, bits, sz, num)) else if what = 2 then (d 2, (d, k, hk, fo, tape, tp, bits, sz, num)) else if what = 3 then (sumF d 0 0 (pr (d 0)), (d, k, hk, fo, tape, tp, bits, sz, num)) else if what = 4 then (tp, (d, k, hk, fo, tape, tp, bits, sz, num)) else if what = 5 then (d 8, (d, k, hk, fo, tape, tp, bits, sz, num)) else ((-1000000001), (d, k, hk, fnd fo 0, tape, tp, bits, sz, num))
def op_status (S : OS) (w : Int32) : Int32 × OS := match S with
  | (d, k, hk, fo, tape, tp, bits, sz, num) => if wi w (-1) 6 then (statF fo w 0 0 7, (d, k, hk, fo, tape, tp, bits, sz, num)) else ((-1000000001), (d, k, hk, fnd fo 0, tape, tp, bits, sz, num))
set_option maxHeartbeats 4000000 in
set_option maxRecDepth 100000 in
theorem ct_X8_wipe (ll : Launch) (g : GT) {h : Hp} {t : Nat} {A : Nat → Nat} {d k fo tape bits sz : Nat → Int32} {num : Nat → Int64} {hk tp : Int32}  (hM : MW g h t A (d, k, hk, fo, tape, tp, bits, sz, num)) : MC ll g yX8_wipe cX8_wipe 2 (some .int) { frames := 0, cells := 0, slots := 0, locals := 0 } [.ref t] h (fun r h2 => r = some (.int (op_wipe (d, k, hk, fo, tape, tp, bits, sz, num)).1) ∧ MW g h2 t A (op_wipe (d, k, hk, fo, tape, tp, bits, sz, num)).2) 0 0 := by
  have hM0 := hM
  obtain ⟨e, lf, sw0, sw1, pp, fr, tk, wd, vl, wr, m0, m1, m2, m3, m4, m5, m6, m7, m8, m9, n01, n02, n12, n56⟩ := hM0
  refine mc_of (by decide) (Nat.le_of_ble_eq_true rfl) ?_
  intro K X r
  refine v_eqv (lv2 := [(0, .ref t)]) rfl ?_
  refine v_aload_n X dX8_wipe_0 0 rfl ?_
  refine v_get X fX8_166 m0 rfl dX8_wipe_1 ?_
  refine v_istore_n (lv1 := [(1, .int tp), (0, .ref t)]) X dX8_wipe_4 (by decide) rfl ?_
  refine v_aload_n X dX8_wipe_5 1 rfl ?_
  refine v_iconst X dX8_wipe_6 (v := 0) (by decide) ?_
  refine v_putE (h2 := (hU h t (ob 8 [.ref (A 0), .ref (A 1), .ref (A 2), .int hk, .ref (A 3), .int sw0, .int sw1, .ref (A 4), .int 0, .int pp, .int fr, .int tk, .int wd, .int vl, .int wr, .ref (A 5), .ref (A 6), .ref (A 7), .ref (A 8)]))) X fX8_166 tyX8_ok nmX8 rfl pd_I m0 rfl rfl (ltb rfl) dX8_wipe_7 rfl ?_
  refine v_iload_n X dX8_wipe_10 0 rfl ?_
  have eqr : op_wipe (d, k, hk, fo, tape, tp, bits, sz, num) = (tp, (d, k, hk, fo, tape, 0, bits, sz, num)) := by rfl
  exact v_iret X r dX8_wipe_11 (Nat.le_refl _) (Nat.le_refl _) ⟨by rw [eqr], by rw [eqr]; exact (MW_ob hM _ _ _ _ _ _ _ _ _ _)⟩
set_option maxHeartbeats 4000000 in
set_option maxRecDepth 100000 in
theorem ct_X8_rules (ll : Launch) (g : GT) {h : Hp} {t : Nat} {A : Nat → Nat} {d k fo tape bits sz : Nat → Int32} {num : Nat → Int64} {hk tp : Int32} {nw : Nat}  (w : Int32) (hM : MW g h t A (d, k, hk, fo, tape, tp, bits, sz, num)) (hw : d 1 = nI nw) (hw6 : nw ≤ 6) : MC ll g yX8_rules cX8_rules 2 (some .int) { frames := 2, cells := 0, slots := 0, locals := 80 } [.ref t, .int w] h (fun r h2 => r = some (.int (op_rules (d, k, hk, fo, tape, tp, bits, sz, num) w).1) ∧ MW g h2 t A (op_rules (d, k, hk, fo, tape, tp, bits, sz, num) w).2) 0 0 := by
  have hM0 := hM
  obtain ⟨e, lf, sw0, sw1, pp, fr, tk, wd, vl, wr, m0, m1, m2, m3, m4, m5, m6, m7, m8, m9, n01, n02, n12, n56⟩ := hM0
  refine mc_of (by decide) (Nat.le_of_ble_eq_true rfl) ?_
  intro K X r
  refine v_eqv (lv2 := [(0, .ref t), (1, .int w)]) rfl ?_
  refine v_aload_n X dX8_rules_0 0 rfl ?_
  refine v_iload_n X dX8_rules_1 1 rfl ?_
  refine v_cVi X [.int w] sX8_251 (ct_X8_isWay ll g w m0 m1) m0 rfl dX8_rules_2 rfl rfl ⟨rfl, rfl⟩ ⟨(Nat.le_of_ble_eq_true rfl), (Nat.le_of_ble_eq_true rfl)⟩ ⟨Nat.zero_le _, Nat.zero_le _⟩ (Nat.le_of_ble_eq_true rfl) ?_
  refine v_ifb_eq X dX8_rules_5 (tgt := 23) (by decide) (fun c1 => ?_) (fun c1 => ?_)
  · refine v_aload_n X dX8_rules_23 0 rfl ?_
    refine v_ldc X dX8_rules_24 kX8_38 ?_
    refine v_cVi X [.int (-1000000001)] sX8_51 (ct_X8_finds (j := 0) ll g m0 m4 (by decide) (by decide)) m0 rfl dX8_rules_26 rfl rfl ⟨rfl, rfl⟩ ⟨(Nat.le_of_ble_eq_true rfl), (Nat.le_of_ble_eq_true rfl)⟩ ⟨Nat.zero_le _, Nat.zero_le _⟩ (Nat.le_of_ble_eq_true rfl) ?_
    have eqr : op_rules (d, k, hk, fo, tape, tp, bits, sz, num) w = ((-1000000001), (d, k, hk, fnd fo 0, tape, tp, bits, sz, num)) := by unfold op_rules; dsimp only; rw [if_neg c1]
    exact v_iret X r dX8_rules_29 (Nat.le_refl _) (Nat.le_refl _) ⟨by rw [eqr], by rw [eqr]; exact (MW_fo hM _)⟩
  · obtain ⟨jw, hjw, ejw⟩ := wi_n hw (by omega) c1
    have qjw : pr w = jw := ix_cl ejw (by omega)
    refine v_aload_n X dX8_rules_8 0 rfl ?_
    refine v_get X fX8_9 m0 rfl dX8_rules_9 ?_
    refine v_bipush X dX8_rules_12 (v := 110) (by decide) ?_
    refine v_bipush X dX8_rules_14 (v := 25) (by decide) ?_
    refine v_iload_n X dX8_rules_16 1 rfl ?_
    refine v_imul X dX8_rules_17 ?_
    refine v_iadd X dX8_rules_18 ?_
    refine v_ialdK X (110 + (25 * jw)) m1 (ix_add (rfl : (110 : Int32) = nI 110) (ix_mul (rfl : (25 : Int32) = nI 25) ejw)) (by omega) (by decide) dX8_rules_19 ?_
    refine v_goto X dX8_rules_20 (tgt := 29) (by decide) ?_
    have eqr : op_rules (d, k, hk, fo, tape, tp, bits, sz, num) w = (d (110 + (25 * jw)), (d, k, hk, fo, tape, tp, bits, sz, num)) := by unfold op_rules; dsimp only; rw [if_pos c1, qjw]
    exact v_iret X r dX8_rules_29 (Nat.le_refl _) (Nat.le_refl _) ⟨by rw [eqr], by rw [eqr]; exact hM⟩
set_option maxHeartbeats 4000000 in
set_option maxRecDepth 100000 in
theorem ct_X8_holds (ll : Launch) (g : GT) {h : Hp} {t : Nat} {A : Nat → Nat} {d k fo tape bits sz : Nat → Int32} {num : Nat → Int64} {hk tp : Int32} {nw : Nat}  (w : Int32) (s : Int32) (l : Int32) (e1 : Int32) (t1 : Int32) (hM : MW g h t A (d, k, hk, fo, tape, tp, bits, sz, num)) (hw : d 1 = nI nw) (hw6 : nw ≤ 6) (hwc : ∀ w, w < nw → ∃ c, d (110 + 25 * w) = nI c ∧ c ≤ 6) : MC ll g yX8_holds cX8_holds 7 (some .int) { frames := 2, cells := 0, slots := 0, locals := 90 } [.ref t, .int w, .int s, .int l, .int e1, .int t1] h (fun r h2 => r = some (.int (op_holds (d, k, hk, fo, tape, tp, bits, sz, num) w s l e1 t1).1) ∧ MW g h2 t A (op_holds (d, k, hk, fo, tape, tp, bits, sz, num) w s l e1 t1).2) 0 0 := by
  have hM0 := hM
  obtain ⟨e, lf, sw0, sw1, pp, fr, tk, wd, vl, wr, m0, m1, m2, m3, m4, m5, m6, m7, m8, m9, n01, n02, n12, n56⟩ := hM0
  refine mc_of (by decide) (Nat.le_of_ble_eq_true rfl) ?_
  intro K X r
  refine v_eqv (lv2 := [(0, .ref t), (1, .int w), (2, .int s), (3, .int l), (4, .int e1), (5, .int t1)]) rfl ?_
  refine v_aload_n X dX8_holds_0 0 rfl ?_
  refine v_iload_n X dX8_holds_1 1 rfl ?_
  refine v_cVi X [.int w] sX8_251 (ct_X8_isWay ll g w m0 m1) m0 rfl dX8_holds_2 rfl rfl ⟨rfl, rfl⟩ ⟨(Nat.le_of_ble_eq_true rfl), (Nat.le_of_ble_eq_true rfl)⟩ ⟨Nat.zero_le _, Nat.zero_le _⟩ (Nat.le_of_ble_eq_true rfl) ?_
  refine v_ifb_eq X dX8_holds_5 (tgt := 62) (by decide) (fun c1 => ?_) (fun c1 => ?_)
  · refine v_aload_n X dX8_holds_62 0 rfl ?_
    refine v_ldc X dX8_holds_63 kX8_38 ?_
    refine v_cVi X [.int (-1000000001)] sX8_51 (ct_X8_finds (j := 0) ll g m0 m4 (by decide) (by decide)) m0 rfl dX8_holds_65 rfl rfl ⟨rfl, rfl⟩ ⟨(Nat.le_of_ble_eq_true rfl), (Nat.le_of_ble_eq_true rfl)⟩ ⟨Nat.zero_le _, Nat.zero_le _⟩ (Nat.le_of_ble_eq_true rfl) ?_
    have eqr : op_holds (d, k, hk, fo, tape, tp, bits, sz, num) w s l e1 t1 = ((-1000000001), (d, k, hk, fnd fo 0, tape, tp, bits, sz, num)) := by unfold op_holds; dsimp only; rw [if_neg (fun q : _ ∧ _ ∧ _ ∧ _ ∧ _ => c1 (And.left q))]
    exact v_iret X r dX8_holds_68 (Nat.le_refl _) (Nat.le_refl _) ⟨by rw [eqr], by rw [eqr]; exact (MW_fo hM _)⟩
  · refine v_iload_n X dX8_holds_8 2 rfl ?_
    refine v_i2l X dX8_holds_9 ?_
    refine v_ldc2 X dX8_holds_10 kX8_95 ?_
    refine v_ldc2 X dX8_holds_13 kX8_97 ?_
    refine v_cSi X [.long s.toInt64, .long (-9999 : Int64), .long (9999 : Int64)] sX8_39 (ct_X8_in (v := s) (lo := (-9999)) (hi := 9999) ll g rfl (by decide) (by decide)) dX8_holds_16 rfl rfl ⟨rfl, rfl⟩ ⟨(Nat.le_of_ble_eq_true rfl), (Nat.le_of_ble_eq_true rfl)⟩ ⟨Nat.zero_le _, Nat.zero_le _⟩ (Nat.le_of_ble_eq_true rfl) ?_
    refine v_ifb_eq X dX8_holds_19 (tgt := 62) (by decide) (fun c2 => ?_) (fun c2 => ?_)
    · refine v_aload_n X dX8_holds_62 0 rfl ?_
      refine v_ldc X dX8_holds_63 kX8_38 ?_
      refine v_cVi X [.int (-1000000001)] sX8_51 (ct_X8_finds (j := 0) ll g m0 m4 (by decide) (by decide)) m0 rfl dX8_holds_65 rfl rfl ⟨rfl, rfl⟩ ⟨(Nat.le_of_ble_eq_true rfl), (Nat.le_of_ble_eq_true rfl)⟩ ⟨Nat.zero_le _, Nat.zero_le _⟩ (Nat.le_of_ble_eq_true rfl) ?_
      have eqr : op_holds (d, k, hk, fo, tape, tp, bits, sz, num) w s l e1 t1 = ((-1000000001), (d, k, hk, fnd fo 0, tape, tp, bits, sz, num)) := by unfold op_holds; dsimp only; rw [if_neg (fun q : _ ∧ _ ∧ _ ∧ _ ∧ _ => c2 (And.left (And.right q)))]
      exact v_iret X r dX8_holds_68 (Nat.le_refl _) (Nat.le_refl _) ⟨by rw [eqr], by rw [eqr]; exact (MW_fo hM _)⟩
    · refine v_iload_n X dX8_holds_22 3 rfl ?_
      refine v_i2l X dX8_holds_23 ?_
      refine v_ldc2 X dX8_holds_24 kX8_99 ?_
      refine v_ldc2 X dX8_holds_27 kX8_62 ?_
      refine v_cSi X [.long l.toInt64, .long (-999 : Int64), .long (999 : Int64)] sX8_39 (ct_X8_in (v := l) (lo := (-999)) (hi := 999) ll g rfl (by decide) (by decide)) dX8_holds_30 rfl rfl ⟨rfl, rfl⟩ ⟨(Nat.le_of_ble_eq_true rfl), (Nat.le_of_ble_eq_true rfl)⟩ ⟨Nat.zero_le _, Nat.zero_le _⟩ (Nat.le_of_ble_eq_true rfl) ?_
      refine v_ifb_eq X dX8_holds_33 (tgt := 62) (by decide) (fun c3 => ?_) (fun c3 => ?_)
      · refine v_aload_n X dX8_holds_62 0 rfl ?_
        refine v_ldc X dX8_holds_63 kX8_38 ?_
        refine v_cVi X [.int (-1000000001)] sX8_51 (ct_X8_finds (j := 0) ll g m0 m4 (by decide) (by decide)) m0 rfl dX8_holds_65 rfl rfl ⟨rfl, rfl⟩ ⟨(Nat.le_of_ble_eq_true rfl), (Nat.le_of_ble_eq_true rfl)⟩ ⟨Nat.zero_le _, Nat.zero_le _⟩ (Nat.le_of_ble_eq_true rfl) ?_
        have eqr : op_holds (d, k, hk, fo, tape, tp, bits, sz, num) w s l e1 t1 = ((-1000000001), (d, k, hk, fnd fo 0, tape, tp, bits, sz, num)) := by unfold op_holds; dsimp only; rw [if_neg (fun q : _ ∧ _ ∧ _ ∧ _ ∧ _ => c3 (And.left (And.right (And.right q))))]
        exact v_iret X r dX8_holds_68 (Nat.le_refl _) (Nat.le_refl _) ⟨by rw [eqr], by rw [eqr]; exact (MW_fo hM _)⟩
      · refine v_iload X dX8_holds_36 4 rfl ?_
        refine v_i2l X dX8_holds_38 ?_
        refine v_lconst X dX8_holds_39 (v := 0) (by decide) ?_
        refine v_ldc2 X dX8_holds_40 kX8_62 ?_
        refine v_cSi X [.long e1.toInt64, .long (0 : Int64), .long (999 : Int64)] sX8_39 (ct_X8_in (v := e1) (lo := 0) (hi := 999) ll g rfl (by decide) (by decide)) dX8_holds_43 rfl rfl ⟨rfl, rfl⟩ ⟨(Nat.le_of_ble_eq_true rfl), (Nat.le_of_ble_eq_true rfl)⟩ ⟨Nat.zero_le _, Nat.zero_le _⟩ (Nat.le_of_ble_eq_true rfl) ?_
        refine v_ifb_eq X dX8_holds_46 (tgt := 62) (by decide) (fun c4 => ?_) (fun c4 => ?_)
        · refine v_aload_n X dX8_holds_62 0 rfl ?_
          refine v_ldc X dX8_holds_63 kX8_38 ?_
          refine v_cVi X [.int (-1000000001)] sX8_51 (ct_X8_finds (j := 0) ll g m0 m4 (by decide) (by decide)) m0 rfl dX8_holds_65 rfl rfl ⟨rfl, rfl⟩ ⟨(Nat.le_of_ble_eq_true rfl), (Nat.le_of_ble_eq_true rfl)⟩ ⟨Nat.zero_le _, Nat.zero_le _⟩ (Nat.le_of_ble_eq_true rfl) ?_
          have eqr : op_holds (d, k, hk, fo, tape, tp, bits, sz, num) w s l e1 t1 = ((-1000000001), (d, k, hk, fnd fo 0, tape, tp, bits, sz, num)) := by unfold op_holds; dsimp only; rw [if_neg (fun q : _ ∧ _ ∧ _ ∧ _ ∧ _ => c4 (And.left (And.right (And.right (And.right q)))))]
          exact v_iret X r dX8_holds_68 (Nat.le_refl _) (Nat.le_refl _) ⟨by rw [eqr], by rw [eqr]; exact (MW_fo hM _)⟩
        · refine v_iload X dX8_holds_49 5 rfl ?_
          refine v_i2l X dX8_holds_51 ?_
          refine v_lconst X dX8_holds_52 (v := 0) (by decide) ?_
          refine v_ldc2 X dX8_holds_53 kX8_62 ?_
          refine v_cSi X [.long t1.toInt64, .long (0 : Int64), .long (999 : Int64)] sX8_39 (ct_X8_in (v := t1) (lo := 0) (hi := 999) ll g rfl (by decide) (by decide)) dX8_holds_56 rfl rfl ⟨rfl, rfl⟩ ⟨(Nat.le_of_ble_eq_true rfl), (Nat.le_of_ble_eq_true rfl)⟩ ⟨Nat.zero_le _, Nat.zero_le _⟩ (Nat.le_of_ble_eq_true rfl) ?_
          refine v_ifb_ne X dX8_holds_59 (tgt := 69) (by decide) (fun c5 => ?_) (fun c5 => ?_)
          · obtain ⟨jw, hjw, ejw⟩ := wi_n hw (by omega) c1
            have qjw : pr w = jw := ix_cl ejw (by omega)
            obtain ⟨cc_, ec, hc6⟩ := hwc jw hjw
            have qc : wayC d jw = cc_ := ix_cl ec (by omega)
            refine v_aload_n X dX8_holds_69 0 rfl ?_
            refine v_get X fX8_9 m0 rfl dX8_holds_70 ?_
            refine v_iload_n X dX8_holds_73 1 rfl ?_
            refine v_iload_n X dX8_holds_74 2 rfl ?_
            refine v_iload_n X dX8_holds_75 3 rfl ?_
            refine v_iload X dX8_holds_76 4 rfl ?_
            refine v_iload X dX8_holds_78 5 rfl ?_
            refine v_cSi X [.ref (A 0), .int w, .int s, .int l, .int e1, .int t1] sX8_91 (ct_X8_ruleOf (w := jw) ll g s l e1 t1 m1 ejw (by omega) ec hc6) dX8_holds_80 rfl rfl ⟨rfl, rfl⟩ ⟨(Nat.le_of_ble_eq_true rfl), (Nat.le_of_ble_eq_true rfl)⟩ ⟨Nat.zero_le _, Nat.zero_le _⟩ (Nat.le_of_ble_eq_true rfl) ?_
            refine v_istore (lv1 := [(6, .int (ruleS d jw cc_ s l e1 t1)), (0, .ref t), (1, .int w), (2, .int s), (3, .int l), (4, .int e1), (5, .int t1)]) X dX8_holds_83 (by decide) rfl ?_
            refine v_iload X dX8_holds_85 0 rfl ?_
            refine v_if_ge X dX8_holds_87 (tgt := 99) (by decide) (fun c6 => ?_) (fun c6 => ?_)
            · refine v_iload X dX8_holds_99 0 rfl ?_
              have eqr : op_holds (d, k, hk, fo, tape, tp, bits, sz, num) w s l e1 t1 = (ruleS d jw cc_ s l e1 t1, (d, k, hk, fo, tape, tp, bits, sz, num)) := by unfold op_holds; dsimp only; rw [if_pos (And.intro c1 (And.intro c2 (And.intro c3 (And.intro c4 c5)))), qjw, qc, if_neg (Int32.not_lt.mpr c6)]
              exact v_iret X r dX8_holds_101 (Nat.le_refl _) (Nat.le_refl _) ⟨by rw [eqr], by rw [eqr]; exact hM⟩
            · refine v_aload_n X dX8_holds_90 1 rfl ?_
              refine v_ldc X dX8_holds_91 kX8_158 ?_
              refine v_cVi X [.int (-1000000004)] sX8_51 (ct_X8_finds (j := 3) ll g m0 m4 (by decide) (by decide)) m0 rfl dX8_holds_93 rfl rfl ⟨rfl, rfl⟩ ⟨(Nat.le_of_ble_eq_true rfl), (Nat.le_of_ble_eq_true rfl)⟩ ⟨Nat.zero_le _, Nat.zero_le _⟩ (Nat.le_of_ble_eq_true rfl) ?_
              refine v_goto X dX8_holds_96 (tgt := 101) (by decide) ?_
              have eqr : op_holds (d, k, hk, fo, tape, tp, bits, sz, num) w s l e1 t1 = ((-1000000004), (d, k, hk, fnd fo 3, tape, tp, bits, sz, num)) := by unfold op_holds; dsimp only; rw [if_pos (And.intro c1 (And.intro c2 (And.intro c3 (And.intro c4 c5)))), qjw, qc, if_pos (Int32.not_le.mp c6)]
              exact v_iret X r dX8_holds_101 (Nat.le_refl _) (Nat.le_refl _) ⟨by rw [eqr], by rw [eqr]; exact (MW_fo hM _)⟩
          · refine v_aload_n X dX8_holds_62 0 rfl ?_
            refine v_ldc X dX8_holds_63 kX8_38 ?_
            refine v_cVi X [.int (-1000000001)] sX8_51 (ct_X8_finds (j := 0) ll g m0 m4 (by decide) (by decide)) m0 rfl dX8_holds_65 rfl rfl ⟨rfl, rfl⟩ ⟨(Nat.le_of_ble_eq_true rfl), (Nat.le_of_ble_eq_true rfl)⟩ ⟨Nat.zero_le _, Nat.zero_le _⟩ (Nat.le_of_ble_eq_true rfl) ?_
            have eqr : op_holds (d, k, hk, fo, tape, tp, bits, sz, num) w s l e1 t1 = ((-1000000001), (d, k, hk, fnd fo 0, tape, tp, bits, sz, num)) := by unfold op_holds; dsimp only; rw [if_neg (fun q : _ ∧ _ ∧ _ ∧ _ ∧ _ => c5 (And.right (And.right (And.right (And.right q)))))]
            exact v_iret X r dX8_holds_68 (Nat.le_refl _) (Nat.le_refl _) ⟨by rw [eqr], by rw [eqr]; exact (MW_fo hM _)⟩
set_option maxHeartbeats 4000000 in
set_option maxRecDepth 100000 in
theorem ct_X8_image (ll : Launch) (g : GT) {h : Hp} {t : Nat} {A : Nat → Nat} {d k fo tape bits sz : Nat → Int32} {num : Nat → Int64} {hk tp : Int32}  (hM : MW g h t A (d, k, hk, fo, tape, tp, bits, sz, num)) : MC ll g yX8_image cX8_image 1 (some .int) { frames := 1, cells := 0, slots := 0, locals := 40 } [.ref t] h (fun r h2 => r = some (.int (op_image (d, k, hk, fo, tape, tp, bits, sz, num)).1) ∧ MW g h2 t A (op_image (d, k, hk, fo, tape, tp, bits, sz, num)).2) 0 0 := by
  have hM0 := hM
  obtain ⟨e, lf, sw0, sw1, pp, fr, tk, wd, vl, wr, m0, m1, m2, m3, m4, m5, m6, m7, m8, m9, n01, n02, n12, n56⟩ := hM0
  have ne_1 : t ≠ (A 2) := hneb m0 m3 rfl
  refine mc_of (by decide) (Nat.le_of_ble_eq_true rfl) ?_
  intro K X r
  refine v_eqv (lv2 := [(0, .ref t)]) rfl ?_
  refine v_aload_n X dX8_image_0 0 rfl ?_
  refine v_get X fX8_9 m0 rfl dX8_image_1 ?_
  refine v_aload_n X dX8_image_4 0 rfl ?_
  refine v_get X fX8_16 m0 rfl dX8_image_5 ?_
  refine v_cSv X [.ref (A 0), .ref (A 2)] sX8_150 (ct_X8_copies ll g  m1 m3 n02) dX8_image_8 rfl rfl ⟨rfl, rfl⟩ ⟨(Nat.le_of_ble_eq_true rfl), (Nat.le_of_ble_eq_true rfl)⟩ ⟨Nat.zero_le _, Nat.zero_le _⟩ (Nat.le_of_ble_eq_true rfl) ?_
  refine v_aload_n X dX8_image_11 0 rfl ?_
  refine v_iconst X dX8_image_12 (v := 1) (by decide) ?_
  refine v_putE (h2 := (hU (hU h (A 2) (ai g 260 d)) t (ob 8 [.ref (A 0), .ref (A 1), .ref (A 2), .int 1, .ref (A 3), .int sw0, .int sw1, .ref (A 4), .int tp, .int pp, .int fr, .int tk, .int wd, .int vl, .int wr, .ref (A 5), .ref (A 6), .ref (A 7), .ref (A 8)]))) X fX8_268 tyX8_ok nmX8 rfl pd_Z ((hU_n ne_1).trans m0) rfl rfl (ltb rfl) dX8_image_13 rfl ?_
  refine v_iconst X dX8_image_16 (v := 1) (by decide) ?_
  have eqr : op_image (d, k, hk, fo, tape, tp, bits, sz, num) = (1, (d, d, 1, fo, tape, tp, bits, sz, num)) := by rfl
  exact v_iret X r dX8_image_17 (Nat.le_refl _) (Nat.le_refl _) ⟨by rw [eqr], by rw [eqr]; exact (MW_ob (MW_k hM _) _ _ _ _ _ _ _ _ _ _)⟩
set_option maxHeartbeats 4000000 in
set_option maxRecDepth 100000 in
theorem ct_X8_undo (ll : Launch) (g : GT) {h : Hp} {t : Nat} {A : Nat → Nat} {d k fo tape bits sz : Nat → Int32} {num : Nat → Int64} {hk tp : Int32}  (hM : MW g h t A (d, k, hk, fo, tape, tp, bits, sz, num)) : MC ll g yX8_undo cX8_undo 1 (some .int) { frames := 1, cells := 0, slots := 0, locals := 50 } [.ref t] h (fun r h2 => r = some (.int (op_undo (d, k, hk, fo, tape, tp, bits, sz, num)).1) ∧ MW g h2 t A (op_undo (d, k, hk, fo, tape, tp, bits, sz, num)).2) 0 0 := by
  have hM0 := hM
  obtain ⟨e, lf, sw0, sw1, pp, fr, tk, wd, vl, wr, m0, m1, m2, m3, m4, m5, m6, m7, m8, m9, n01, n02, n12, n56⟩ := hM0
  have ne_1 : t ≠ (A 0) := hneb m0 m1 rfl
  refine mc_of (by decide) (Nat.le_of_ble_eq_true rfl) ?_
  intro K X r
  refine v_eqv (lv2 := [(0, .ref t)]) rfl ?_
  refine v_aload_n X dX8_undo_0 0 rfl ?_
  refine v_get X fX8_268 m0 rfl dX8_undo_1 ?_
  refine v_if_ne X dX8_undo_4 (tgt := 14) (by decide) (fun c1 => ?_) (fun c1 => ?_)
  · refine v_aload_n X dX8_undo_14 0 rfl ?_
    refine v_get X fX8_16 m0 rfl dX8_undo_15 ?_
    refine v_aload_n X dX8_undo_18 0 rfl ?_
    refine v_get X fX8_9 m0 rfl dX8_undo_19 ?_
    refine v_cSv X [.ref (A 2), .ref (A 0)] sX8_150 (ct_X8_copies ll g  m3 m1 (Ne.symm n02)) dX8_undo_22 rfl rfl ⟨rfl, rfl⟩ ⟨(Nat.le_of_ble_eq_true rfl), (Nat.le_of_ble_eq_true rfl)⟩ ⟨Nat.zero_le _, Nat.zero_le _⟩ (Nat.le_of_ble_eq_true rfl) ?_
    refine v_aload_n X dX8_undo_25 0 rfl ?_
    refine v_get X fX8_9 ((hU_n ne_1).trans m0) rfl dX8_undo_26 ?_
    refine v_iconst X dX8_undo_29 (v := 0) (by decide) ?_
    refine v_ialdK X 0 hU_s (rfl : (0 : Int32) = nI 0) (by decide) (by decide) dX8_undo_30 ?_
    have eqr : op_undo (d, k, hk, fo, tape, tp, bits, sz, num) = (k 0, (k, k, hk, fo, tape, tp, bits, sz, num)) := by unfold op_undo; dsimp only; rw [if_neg c1]
    exact v_iret X r dX8_undo_31 (Nat.le_refl _) (Nat.le_refl _) ⟨by rw [eqr], by rw [eqr]; exact (MW_d hM _)⟩
  · refine v_aload_n X dX8_undo_7 0 rfl ?_
    refine v_ldc X dX8_undo_8 kX8_158 ?_
    refine v_cVi X [.int (-1000000004)] sX8_51 (ct_X8_finds (j := 3) ll g m0 m4 (by decide) (by decide)) m0 rfl dX8_undo_10 rfl rfl ⟨rfl, rfl⟩ ⟨(Nat.le_of_ble_eq_true rfl), (Nat.le_of_ble_eq_true rfl)⟩ ⟨Nat.zero_le _, Nat.zero_le _⟩ (Nat.le_of_ble_eq_true rfl) ?_
    have eqr : op_undo (d, k, hk, fo, tape, tp, bits, sz, num) = ((-1000000004), (d, k, hk, fnd fo 3, tape, tp, bits, sz, num)) := by unfold op_undo; dsimp only; rw [if_pos c1]
    exact v_iret X r dX8_undo_13 (Nat.le_refl _) (Nat.le_refl _) ⟨by rw [eqr], by rw [eqr]; exact (MW_fo hM _)⟩
set_option maxHeartbeats 4000000 in
set_option maxRecDepth 100000 in
theorem ct_X8_tear (ll : Launch) (g : GT) {h : Hp} {t : Nat} {A : Nat → Nat} {d k fo tape bits sz : Nat → Int32} {num : Nat → Int64} {hk tp : Int32}  (hM : MW g h t A (d, k, hk, fo, tape, tp, bits, sz, num)) : MC ll g yX8_tear cX8_tear 2 (some .int) { frames := 0, cells := 0, slots := 0, locals := 0 } [.ref t] h (fun r h2 => r = some (.int (op_tear (d, k, hk, fo, tape, tp, bits, sz, num)).1) ∧ MW g h2 t A (op_tear (d, k, hk, fo, tape, tp, bits, sz, num)).2) 0 0 := by
  have hM0 := hM
  obtain ⟨e, lf, sw0, sw1, pp, fr, tk, wd, vl, wr, m0, m1, m2, m3, m4, m5, m6, m7, m8, m9, n01, n02, n12, n56⟩ := hM0
  refine mc_of (by decide) (Nat.le_of_ble_eq_true rfl) ?_
  intro K X r
  refine v_eqv (lv2 := [(0, .ref t)]) rfl ?_
  refine v_aload_n X dX8_tear_0 0 rfl ?_
  refine v_get X fX8_268 m0 rfl dX8_tear_1 ?_
  have J1 : VJ K 0 0 h 12 [(0, .ref t)] [.int (if hk = 0 then 0 else 1)] := by
    refine v_istore_n (lv1 := [(1, .int (if hk = 0 then 0 else 1)), (0, .ref t)]) X dX8_tear_12 (by decide) rfl ?_
    refine v_aload_n X dX8_tear_13 1 rfl ?_
    refine v_iconst X dX8_tear_14 (v := 0) (by decide) ?_
    refine v_putE (h2 := (hU h t (ob 8 [.ref (A 0), .ref (A 1), .ref (A 2), .int 0, .ref (A 3), .int sw0, .int sw1, .ref (A 4), .int tp, .int pp, .int fr, .int tk, .int wd, .int vl, .int wr, .ref (A 5), .ref (A 6), .ref (A 7), .ref (A 8)]))) X fX8_268 tyX8_ok nmX8 rfl pd_Z m0 rfl rfl (ltb rfl) dX8_tear_15 rfl ?_
    refine v_iload_n X dX8_tear_18 0 rfl ?_
    have eqr : op_tear (d, k, hk, fo, tape, tp, bits, sz, num) = (if hk = 0 then 0 else 1, (d, k, 0, fo, tape, tp, bits, sz, num)) := by rfl
    exact v_iret X r dX8_tear_19 (Nat.le_refl _) (Nat.le_refl _) ⟨by rw [eqr], by rw [eqr]; exact (MW_ob hM _ _ _ _ _ _ _ _ _ _)⟩
  refine v_if_eq X dX8_tear_4 (tgt := 11) (by decide) (fun c1 => ?_) (fun c1 => ?_)
  · refine v_iconst X dX8_tear_11 (v := 0) (by decide) ?_
    exact v_eqi (if_pos c1).symm J1
  · refine v_iconst X dX8_tear_7 (v := 1) (by decide) ?_
    refine v_goto X dX8_tear_8 (tgt := 12) (by decide) ?_
    exact v_eqi (if_neg c1).symm J1
set_option maxHeartbeats 4000000 in
set_option maxRecDepth 100000 in
theorem ct_X8_allFalls (ll : Launch) (g : GT) {h : Hp} {t dA eA kA fA tA bA zA nA lA : Nat} {hk sw0 sw1 tp pp fr tk wd vl wr : Int32} {d : Nat → Int32} {np : Nat} (ht : h t = some (ob 8 [.ref dA, .ref eA, .ref kA, .int hk, .ref fA, .int sw0, .int sw1, .ref tA, .int tp, .int pp, .int fr, .int tk, .int wd, .int vl, .int wr, .ref bA, .ref zA, .ref nA, .ref lA])) (hd : h dA = some (ai g 260 d)) (hn : d 0 = nI np) (hnp : np ≤ 8) : MF ll g yX8_allFalls cX8_allFalls 3 (some .int) (k2_rm 1 40) [.ref t] h (some (.int (sumF d 0 0 np))) h := by
  refine mc_of (by decide) (Nat.le_of_ble_eq_true rfl) ?_
  intro K X r
  refine v_eqv (lv2 := [(0, .ref t)]) rfl ?_
  refine v_iconst X dX8_allFalls_0 (v := 0) (by decide) ?_
  refine v_istore_n (lv1 := [(1, .int 0), (0, .ref t)]) X dX8_allFalls_1 (by decide) rfl ?_
  refine v_iconst X dX8_allFalls_2 (v := 0) (by decide) ?_
  refine v_istore_n (lv1 := [(2, .int 0), (1, .int 0), (0, .ref t)]) X dX8_allFalls_3 (by decide) rfl ?_
  have L4 : ∀ (N : Nat) (q : Nat) (acc : Int32), (q ≤ np) → (sumF d 0 0 np = sumF d q acc (np - q)) → np - q < N → VJ K 0 0 h 4 [(0, .ref t), (1, .int acc), (2, .int (nI q))] [] := by
    intro N
    induction N with
    | zero => intro q acc _ _ hm; exact absurd hm (Nat.not_lt_zero _)
    | succ N ih4 =>
      intro q acc hqq hq hm
      refine v_iload_n X dX8_allFalls_4 2 rfl ?_
      refine v_aload_n X dX8_allFalls_5 0 rfl ?_
      refine v_get X fX8_9 ht rfl dX8_allFalls_6 ?_
      refine v_iconst X dX8_allFalls_9 (v := 0) (by decide) ?_
      refine v_ialdK X 0 hd (rfl : (0 : Int32) = nI 0) (by decide) (by decide) dX8_allFalls_10 ?_
      refine v_icmp_ge X dX8_allFalls_11 (tgt := 32) (by decide) (fun c1 => ?_) (fun c1 => ?_)
      · have hR : sumF d 0 0 np = acc := sumF_e hq (fun z => absurd (nI_lt z (by omega)) (Int32.not_lt.mpr (by rw [← hn]; exact c1)))
        refine v_iload_n X dX8_allFalls_32 1 rfl ?_
        exact v_iret X r dX8_allFalls_33 (Nat.le_refl _) (Nat.le_refl _) ⟨ri hR.symm, rfl⟩
      · have hqn : q < np := by
          rcases Nat.lt_or_ge q np with z | z
          · exact z
          · exact absurd (by rw [hn]; exact nI_le z (by omega)) c1
        refine v_iload_n X dX8_allFalls_14 1 rfl ?_
        refine v_aload_n X dX8_allFalls_15 0 rfl ?_
        refine v_get X fX8_9 ht rfl dX8_allFalls_16 ?_
        refine v_iload_n X dX8_allFalls_19 2 rfl ?_
        refine v_iconst X dX8_allFalls_20 (v := 5) (by decide) ?_
        refine v_cSi X [.ref dA, .int (nI q), .int 5] sX8_74 (ct_X8_told (p := q) (w := 5) ll g  hd rfl (rfl : (5 : Int32) = nI 5) (by omega)) dX8_allFalls_21 rfl rfl ⟨rfl, rfl⟩ ⟨(Nat.le_of_ble_eq_true rfl), (Nat.le_of_ble_eq_true rfl)⟩ ⟨Nat.zero_le _, Nat.zero_le _⟩ (Nat.le_of_ble_eq_true rfl) ?_
        refine v_iadd X dX8_allFalls_24 ?_
        refine v_istore_n (lv1 := [(1, .int (acc + (told d q 5))), (0, .ref t), (2, .int (nI q))]) X dX8_allFalls_25 (by decide) rfl ?_
        refine v_iinc (v := (nI q) + 1) (lv1 := [(2, .int ((nI q) + 1)), (1, .int (acc + (told d q 5))), (0, .ref t)]) X dX8_allFalls_26 2 rfl rfl (by decide) rfl ?_
        refine v_goto X dX8_allFalls_29 (tgt := 4) (by decide) ?_
        refine v_lv (lv2 := [(0, .ref t), (1, .int (acc + (told d q 5))), (2, .int ((nI q) + 1))]) [2, 1, 0] rfl ?_
        refine v_eqv (lv2 := [(0, .ref t), (1, .int (acc + (told d q 5))), (2, .int (nI (q + 1)))]) (by rw [nI_1]) ?_
        exact ih4 (q + 1) (acc + (told d q 5)) (by omega) (sumF_s hq hqn) (by omega)
  refine v_lv (lv2 := [(0, .ref t), (1, .int 0), (2, .int 0)]) [2, 1, 0] rfl ?_
  refine v_eqv (lv2 := [(0, .ref t), (1, .int 0), (2, .int (nI 0))]) rfl ?_
  exact L4 _ 0 0 (Nat.zero_le _) rfl (Nat.lt_succ_self _)
set_option maxHeartbeats 4000000 in
set_option maxRecDepth 100000 in
theorem ct_X8_count (ll : Launch) (g : GT) {h : Hp} {t : Nat} {A : Nat → Nat} {d k fo tape bits sz : Nat → Int32} {num : Nat → Int64} {hk tp : Int32} {np : Nat}  (what : Int32) (hM : MW g h t A (d, k, hk, fo, tape, tp, bits, sz, num)) (hn : d 0 = nI np) (hnp : np ≤ 8) : MC ll g yX8_count cX8_count 2 (some .int) { frames := 2, cells := 0, slots := 0, locals := 80 } [.ref t, .int what] h (fun r h2 => r = some (.int (op_count (d, k, hk, fo, tape, tp, bits, sz, num) what).1) ∧ MW g h2 t A (op_count (d, k, hk, fo, tape, tp, bits, sz, num) what).2) 0 0 := by
  have hM0 := hM
  obtain ⟨e, lf, sw0, sw1, pp, fr, tk, wd, vl, wr, m0, m1, m2, m3, m4, m5, m6, m7, m8, m9, n01, n02, n12, n56⟩ := hM0
  refine mc_of (by decide) (Nat.le_of_ble_eq_true rfl) ?_
  intro K X r
  refine v_eqv (lv2 := [(0, .ref t), (1, .int what)]) rfl ?_
  refine v_iload_n X dX8_count_0 1 rfl ?_
  by_cases c1_0 : what = 0
  · refine v_tabIn X dX8_count_1 (off := 39) (tgt := 40) 0 c1_0 (by decide) (by decide) (by decide) (by decide) ?_
    refine v_aload_n X dX8_count_40 0 rfl ?_
    refine v_get X fX8_9 m0 rfl dX8_count_41 ?_
    refine v_iconst X dX8_count_44 (v := 0) (by decide) ?_
    refine v_ialdK X 0 m1 (rfl : (0 : Int32) = nI 0) (by decide) (by decide) dX8_count_45 ?_
    have eqr : op_count (d, k, hk, fo, tape, tp, bits, sz, num) what = (d 0, (d, k, hk, fo, tape, tp, bits, sz, num)) := by unfold op_count; dsimp only; simp [c1_0]
    exact v_iret X r dX8_count_46 (Nat.le_refl _) (Nat.le_refl _) ⟨by rw [eqr], by rw [eqr]; exact hM⟩
  by_cases c1_1 : what = 1
  · refine v_tabIn X dX8_count_1 (off := 46) (tgt := 47) 1 c1_1 (by decide) (by decide) (by decide) (by decide) ?_
    refine v_aload_n X dX8_count_47 0 rfl ?_
    refine v_get X fX8_9 m0 rfl dX8_count_48 ?_
    refine v_iconst X dX8_count_51 (v := 1) (by decide) ?_
    refine v_ialdK X 1 m1 (rfl : (1 : Int32) = nI 1) (by decide) (by decide) dX8_count_52 ?_
    have eqr : op_count (d, k, hk, fo, tape, tp, bits, sz, num) what = (d 1, (d, k, hk, fo, tape, tp, bits, sz, num)) := by unfold op_count; dsimp only; simp [c1_0, c1_1]
    exact v_iret X r dX8_count_53 (Nat.le_refl _) (Nat.le_refl _) ⟨by rw [eqr], by rw [eqr]; exact hM⟩
  by_cases c1_2 : what = 2
  · refine v_tabIn X dX8_count_1 (off := 53) (tgt := 54) 2 c1_2 (by decide) (by decide) (by decide) (by decide) ?_
    refine v_aload_n X dX8_count_54 0 rfl ?_
    refine v_get X fX8_9 m0 rfl dX8_count_55 ?_
    refine v_iconst X dX8_count_58 (v := 2) (by decide) ?_
    refine v_ialdK X 2 m1 (rfl : (2 : Int32) = nI 2) (by decide) (by decide) dX8_count_59 ?_
    have eqr : op_count (d, k, hk, fo, tape, tp, bits, sz, num) what = (d 2, (d, k, hk, fo, tape, tp, bits, sz, num)) := by unfold op_count; dsimp only; simp [c1_0, c1_1, c1_2]
    exact v_iret X r dX8_count_60 (Nat.le_refl _) (Nat.le_refl _) ⟨by rw [eqr], by rw [eqr]; exact hM⟩
  by_cases c1_3 : what = 3
  · refine v_tabIn X dX8_count_1 (off := 60) (tgt := 61) 3 c1_3 (by decide) (by decide) (by decide) (by decide) ?_
    refine v_aload_n X dX8_count_61 0 rfl ?_
    refine v_cVi X [] sX8_271 (ct_X8_allFalls ll g  m0 m1 (by assumption) (by assumption)) m0 rfl dX8_count_62 rfl rfl ⟨rfl, rfl⟩ ⟨(Nat.le_of_ble_eq_true rfl), (Nat.le_of_ble_eq_true rfl)⟩ ⟨Nat.zero_le _, Nat.zero_le _⟩ (Nat.le_of_ble_eq_true rfl) ?_
    have eqr : op_count (d, k, hk, fo, tape, tp, bits, sz, num) what = (sumF d 0 0 np, (d, k, hk, fo, tape, tp, bits, sz, num)) := by unfold op_count; dsimp only; simp [c1_0, c1_1, c1_2, c1_3, show pr (d 0) = np from ix_cl hn (by omega)]
    exact v_iret X r dX8_count_65 (Nat.le_refl _) (Nat.le_refl _) ⟨by rw [eqr], by rw [eqr]; exact hM⟩
  by_cases c1_4 : what = 4
  · refine v_tabIn X dX8_count_1 (off := 65) (tgt := 66) 4 c1_4 (by decide) (by decide) (by decide) (by decide) ?_
    refine v_aload_n X dX8_count_66 0 rfl ?_
    refine v_get X fX8_166 m0 rfl dX8_count_67 ?_
    have eqr : op_count (d, k, hk, fo, tape, tp, bits, sz, num) what = (tp, (d, k, hk, fo, tape, tp, bits, sz, num)) := by unfold op_count; dsimp only; simp [c1_0, c1_1, c1_2, c1_3, c1_4]
    exact v_iret X r dX8_count_70 (Nat.le_refl _) (Nat.le_refl _) ⟨by rw [eqr], by rw [eqr]; exact hM⟩
  by_cases c1_5 : what = 5
  · refine v_tabIn X dX8_count_1 (off := 70) (tgt := 71) 5 c1_5 (by decide) (by decide) (by decide) (by decide) ?_
    refine v_aload_n X dX8_count_71 0 rfl ?_
    refine v_get X fX8_9 m0 rfl dX8_count_72 ?_
    refine v_bipush X dX8_count_75 (v := 8) (by decide) ?_
    refine v_ialdK X 8 m1 (rfl : (8 : Int32) = nI 8) (by decide) (by decide) dX8_count_77 ?_
    have eqr : op_count (d, k, hk, fo, tape, tp, bits, sz, num) what = (d 8, (d, k, hk, fo, tape, tp, bits, sz, num)) := by unfold op_count; dsimp only; simp [c1_0, c1_1, c1_2, c1_3, c1_4, c1_5]
    exact v_iret X r dX8_count_78 (Nat.le_refl _) (Nat.le_refl _) ⟨by rw [eqr], by rw [eqr]; exact hM⟩
  refine v_tabOut X dX8_count_1 (tgt := 79) (by have e0 := lv_neT (k := 0) (a := 0) c1_0 (by decide); have e1 := lv_neT (k := 1) (a := 1) c1_1 (by decide); have e2 := lv_neT (k := 2) (a := 2) c1_2 (by decide); have e3 := lv_neT (k := 3) (a := 3) c1_3 (by decide); have e4 := lv_neT (k := 4) (a := 4) c1_4 (by decide); have e5 := lv_neT (k := 5) (a := 5) c1_5 (by decide); omega) (by decide) ?_
  refine v_aload_n X dX8_count_79 0 rfl ?_
  refine v_ldc X dX8_count_80 kX8_38 ?_
  refine v_cVi X [.int (-1000000001)] sX8_51 (ct_X8_finds (j := 0) ll g m0 m4 (by decide) (by decide)) m0 rfl dX8_count_82 rfl rfl ⟨rfl, rfl⟩ ⟨(Nat.le_of_ble_eq_true rfl), (Nat.le_of_ble_eq_true rfl)⟩ ⟨Nat.zero_le _, Nat.zero_le _⟩ (Nat.le_of_ble_eq_true rfl) ?_
  have eqr : op_count (d, k, hk, fo, tape, tp, bits, sz, num) what = ((-1000000001), (d, k, hk, fnd fo 0, tape, tp, bits, sz, num)) := by unfold op_count; dsimp only; simp [c1_0, c1_1, c1_2, c1_3, c1_4, c1_5]
  exact v_iret X r dX8_count_85 (Nat.le_refl _) (Nat.le_refl _) ⟨by rw [eqr], by rw [eqr]; exact (MW_fo hM _)⟩
set_option maxHeartbeats 4000000 in
set_option maxRecDepth 100000 in
theorem ct_X8_status (ll : Launch) (g : GT) {h : Hp} {t : Nat} {A : Nat → Nat} {d k fo tape bits sz : Nat → Int32} {num : Nat → Int64} {hk tp : Int32}  (w : Int32) (hM : MW g h t A (d, k, hk, fo, tape, tp, bits, sz, num)) : MC ll g yX8_status cX8_status 4 (some .int) { frames := 1, cells := 0, slots := 0, locals := 50 } [.ref t, .int w] h (fun r h2 => r = some (.int (op_status (d, k, hk, fo, tape, tp, bits, sz, num) w).1) ∧ MW g h2 t A (op_status (d, k, hk, fo, tape, tp, bits, sz, num) w).2) 0 0 := by
  have hM0 := hM
  obtain ⟨e, lf, sw0, sw1, pp, fr, tk, wd, vl, wr, m0, m1, m2, m3, m4, m5, m6, m7, m8, m9, n01, n02, n12, n56⟩ := hM0
  refine mc_of (by decide) (Nat.le_of_ble_eq_true rfl) ?_
  intro K X r
  refine v_eqv (lv2 := [(0, .ref t), (1, .int w)]) rfl ?_
  refine v_iload_n X dX8_status_0 1 rfl ?_
  refine v_i2l X dX8_status_1 ?_
  refine v_ldc2 X dX8_status_2 kX8_64 ?_
  refine v_ldc2 X dX8_status_5 kX8_56 ?_
  refine v_cSi X [.long w.toInt64, .long (-1 : Int64), .long (6 : Int64)] sX8_39 (ct_X8_in (v := w) (lo := (-1)) (hi := 6) ll g rfl (by decide) (by decide)) dX8_status_8 rfl rfl ⟨rfl, rfl⟩ ⟨(Nat.le_of_ble_eq_true rfl), (Nat.le_of_ble_eq_true rfl)⟩ ⟨Nat.zero_le _, Nat.zero_le _⟩ (Nat.le_of_ble_eq_true rfl) ?_
  refine v_ifb_ne X dX8_status_11 (tgt := 21) (by decide) (fun c1 => ?_) (fun c1 => ?_)
  · refine v_iconst X dX8_status_21 (v := 0) (by decide) ?_
    refine v_istore_n (lv1 := [(2, .int 0), (0, .ref t), (1, .int w)]) X dX8_status_22 (by decide) rfl ?_
    refine v_iconst X dX8_status_23 (v := 0) (by decide) ?_
    refine v_istore_n (lv1 := [(3, .int 0), (2, .int 0), (0, .ref t), (1, .int w)]) X dX8_status_24 (by decide) rfl ?_
    have L25 : ∀ (N : Nat) (q : Nat) (acc : Int32), (q ≤ 7) → (statF fo w 0 0 7 = statF fo w q acc (7 - q)) → 7 - q < N → VJ K 0 0 h 25 [(0, .ref t), (1, .int w), (2, .int acc), (3, .int (nI q))] [] := by
      intro N
      induction N with
      | zero => intro q acc _ _ hm; exact absurd hm (Nat.not_lt_zero _)
      | succ N ih25 =>
        intro q acc hqq hq hm
        refine v_iload_n X dX8_status_25 3 rfl ?_
        refine v_bipush X dX8_status_26 (v := 7) (by decide) ?_
        refine v_icmp_ge X dX8_status_28 (tgt := 60) (by decide) (fun c2 => ?_) (fun c2 => ?_)
        · have hR : statF fo w 0 0 7 = acc := statF_e hq (fun z => absurd (nI_lt z (by decide)) (Int32.not_lt.mpr c2))
          refine v_iload_n X dX8_status_60 2 rfl ?_
          have eqr : op_status (d, k, hk, fo, tape, tp, bits, sz, num) w = (acc, (d, k, hk, fo, tape, tp, bits, sz, num)) := by unfold op_status; dsimp only; rw [if_pos c1, hR]
          exact v_iret X r dX8_status_61 (Nat.le_refl _) (Nat.le_refl _) ⟨by rw [eqr], by rw [eqr]; exact hM⟩
        · have hqn : q < 7 := by
            rcases Nat.lt_or_ge q 7 with z | z
            · exact z
            · exact absurd (show (7 : Int32) ≤ nI q from nI_le z (by omega)) c2
          refine v_iload_n X dX8_status_31 2 rfl ?_
          refine v_iload_n X dX8_status_32 1 rfl ?_
          refine v_iconst X dX8_status_33 (v := (-1)) (by decide) ?_
          have J1 : VJ K 0 0 h 52 [(0, .ref t), (1, .int w), (2, .int acc), (3, .int (nI q))] [.int (if w = -1 ∨ w = nI q then fo q else 0), .int acc] := by
            refine v_iadd X dX8_status_52 ?_
            refine v_istore_n (lv1 := [(2, .int (acc + (if w = -1 ∨ w = nI q then fo q else 0))), (0, .ref t), (1, .int w), (3, .int (nI q))]) X dX8_status_53 (by decide) rfl ?_
            refine v_iinc (v := (nI q) + 1) (lv1 := [(3, .int ((nI q) + 1)), (2, .int (acc + (if w = -1 ∨ w = nI q then fo q else 0))), (0, .ref t), (1, .int w)]) X dX8_status_54 3 rfl rfl (by decide) rfl ?_
            refine v_goto X dX8_status_57 (tgt := 25) (by decide) ?_
            refine v_lv (lv2 := [(0, .ref t), (1, .int w), (2, .int (acc + (if w = -1 ∨ w = nI q then fo q else 0))), (3, .int ((nI q) + 1))]) [2, 3, 1, 0] rfl ?_
            refine v_eqv (lv2 := [(0, .ref t), (1, .int w), (2, .int (acc + (if w = -1 ∨ w = nI q then fo q else 0))), (3, .int (nI (q + 1)))]) (by rw [nI_1]) ?_
            exact ih25 (q + 1) (acc + (if w = -1 ∨ w = nI q then fo q else 0)) (by omega) (statF_s hq hqn) (by omega)
          refine v_icmp_eq X dX8_status_34 (tgt := 42) (by decide) (fun c3 => ?_) (fun c3 => ?_)
          · refine v_aload_n X dX8_status_42 0 rfl ?_
            refine v_get X fX8_19 m0 rfl dX8_status_43 ?_
            refine v_iload_n X dX8_status_46 3 rfl ?_
            refine v_ialdK X q m4 rfl (by omega) (by decide) dX8_status_47 ?_
            refine v_goto X dX8_status_48 (tgt := 52) (by decide) ?_
            exact v_eqi (by simp [c3]) J1
          · refine v_iload_n X dX8_status_37 1 rfl ?_
            refine v_iload_n X dX8_status_38 3 rfl ?_
            refine v_icmp_ne X dX8_status_39 (tgt := 51) (by decide) (fun c4 => ?_) (fun c4 => ?_)
            · refine v_iconst X dX8_status_51 (v := 0) (by decide) ?_
              exact v_eqi (by simp [c3, c4]) J1
            · refine v_aload_n X dX8_status_42 0 rfl ?_
              refine v_get X fX8_19 m0 rfl dX8_status_43 ?_
              refine v_iload_n X dX8_status_46 3 rfl ?_
              refine v_ialdK X q m4 rfl (by omega) (by decide) dX8_status_47 ?_
              refine v_goto X dX8_status_48 (tgt := 52) (by decide) ?_
              exact v_eqi (by simp [c3, c4]) J1
    refine v_lv (lv2 := [(0, .ref t), (1, .int w), (2, .int 0), (3, .int 0)]) [2, 3, 1, 0] rfl ?_
    refine v_eqv (lv2 := [(0, .ref t), (1, .int w), (2, .int 0), (3, .int (nI 0))]) rfl ?_
    exact L25 _ 0 0 (by decide) rfl (Nat.lt_succ_self _)
  · refine v_aload_n X dX8_status_14 0 rfl ?_
    refine v_ldc X dX8_status_15 kX8_38 ?_
    refine v_cVi X [.int (-1000000001)] sX8_51 (ct_X8_finds (j := 0) ll g m0 m4 (by decide) (by decide)) m0 rfl dX8_status_17 rfl rfl ⟨rfl, rfl⟩ ⟨(Nat.le_of_ble_eq_true rfl), (Nat.le_of_ble_eq_true rfl)⟩ ⟨Nat.zero_le _, Nat.zero_le _⟩ (Nat.le_of_ble_eq_true rfl) ?_
    have eqr : op_status (d, k, hk, fo, tape, tp, bits, sz, num) w = ((-1000000001), (d, k, hk, fnd fo 0, tape, tp, bits, sz, num)) := by unfold op_status; dsimp only; rw [if_neg c1]
    exact v_iret X r dX8_status_20 (Nat.le_refl _) (Nat.le_refl _) ⟨by rw [eqr], by rw [eqr]; exact (MW_fo hM _)⟩
