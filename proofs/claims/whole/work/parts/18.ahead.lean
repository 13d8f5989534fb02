/-! ===== calls that look ahead ===== -/
def ahV (R : (Nat → Int32) × Int32) (what : Int32) : Int32 := if what = 0 then R.2 else if what = 1 then R.1 6 else if what = 2 then R.1 5 else if what = 3 then R.1 18 else R.1 20
def kAt (d : Nat → Int32) (a f k : Nat) : Nat → Int32 := upd d (40 + 8 * a + f) (nI k)
def bestF (d : Nat → Int32) (a b n : Nat) (k : Nat) (bs ls : Int32) : Nat → Int32
  | 0 => bs
  | f + 1 => if (ahR (kAt d a 0 k) a b n).2 = 2 ∧ (bs < 0 ∨ (ahR (kAt d a 0 k) a b n).1 6 < ls) then bestF d a b n (k + 1) (nI k) ((ahR (kAt d a 0 k) a b n).1 6) f else bestF d a b n (k + 1) bs ls f
theorem bestF_s {r : Int32} {d : Nat → Int32} {a b n k : Nat} {bs ls : Int32} (h : r = bestF d a b n k bs ls (6 - k)) (hk : k < 6) : (((ahR (kAt d a 0 k) a b n).2 = 2 ∧ (bs < 0 ∨ (ahR (kAt d a 0 k) a b n).1 6 < ls)) → r = bestF d a b n (k + 1) (nI k) ((ahR (kAt d a 0 k) a b n).1 6) (6 - (k + 1))) ∧ (¬ ((ahR (kAt d a 0 k) a b n).2 = 2 ∧ (bs < 0 ∨ (ahR (kAt d a 0 k) a b n).1 6 < ls)) → r = bestF d a b n (k + 1) bs ls (6 - (k + 1))) := by
  rw [show 6 - k = (6 - (k + 1)) + 1 by omega] at h
  exact ⟨fun q => by rw [h]; exact if_pos q, fun q => by rw [h]; exact if_neg q⟩
theorem bestF_e {r : Int32} {d : Nat → Int32} {a b n k : Nat} {bs ls : Int32} (h : r = bestF d a b n k bs ls (6 - k)) (hk : ¬ k < 6) : r = bs := by
  rw [h, show 6 - k = 0 by omega]; rfl
def lightF (d : Nat → Int32) (a b n : Nat) (k : Nat) : Nat → Int32
  | 0 => -1
  | f + 1 => if (ahR (kAt d a 1 k) a b n).2 = 2 then nI k else lightF d a b n (k + 1) f
theorem lightF_s {r : Int32} {d : Nat → Int32} {a b n k : Nat} (h : r = lightF d a b n k (300 - k)) (hk : k < 300) : ((ahR (kAt d a 1 k) a b n).2 = 2 → r = nI k) ∧ (¬ (ahR (kAt d a 1 k) a b n).2 = 2 → r = lightF d a b n (k + 1) (300 - (k + 1))) := by
  rw [show 300 - k = (300 - (k + 1)) + 1 by omega] at h
  exact ⟨fun q => by rw [h]; exact if_pos q, fun q => by rw [h]; exact if_neg q⟩
theorem lightF_e {r : Int32} {d : Nat → Int32} {a b n k : Nat} (h : r = lightF d a b n k (300 - k)) (hk : ¬ k < 300) : r = -1 := by
  rw [h, show 300 - k = 0 by omega]; rfl
def lateF (d : Nat → Int32) (a b n : Nat) : Nat → Int32
  | 0 => -1
  | f + 1 => if (ahR (kAt d a 2 f) a b n).2 - (ahR (kAt d a 2 f) a b n).2 / 2 * 2 = 0 then nI f else lateF d a b n f
def swingV (R : SR) (what : Int32) : Int32 := if what = 0 then R.2.2.1 else if what = 1 then R.2.2.2 else if R.2.2.1 < R.2.2.2 then 1 else 0
def beatF (d : Nat → Int32) (p n : Nat) (b : Nat) (set : Int32) : Nat → Int32
  | 0 => set
  | f + 1 => if b = p then beatF d p n (b + 1) set f else beatF d p n (b + 1) (set ||| (if (ahR d p b n).2 = 2 then 1 <<< (nI b &&& 31) else 0)) f
theorem beatF_s {r : Int32} {d : Nat → Int32} {p n b N : Nat} {set : Int32} (h : r = beatF d p n b set (N - b)) (hk : b < N) : (b = p → r = beatF d p n (b + 1) set (N - (b + 1))) ∧ (¬ b = p → r = beatF d p n (b + 1) (set ||| (if (ahR d p b n).2 = 2 then 1 <<< (nI b &&& 31) else 0)) (N - (b + 1))) := by
  rw [show N - b = (N - (b + 1)) + 1 by omega] at h
  exact ⟨fun q => by rw [h]; exact if_pos q, fun q => by rw [h]; exact if_neg q⟩
theorem beatF_e {r : Int32} {d : Nat → Int32} {p n b N : Nat} {set : Int32} (h : r = beatF d p n b set (N - b)) (hk : ¬ b < N) : r = set := by
  rw [h, show N - b = 0 by omega]; rfl
def fiveF (a b n : Nat) (m : Nat → Int32) (x y : Int32) : Nat → Int32 × Int32
  | 0 => (x, y)
  | f + 1 => if 3 ≤ x ∨ 3 ≤ y then (x, y) else fiveF a b n (ahR m a b n).1 (x + ((ahR m a b n).2 >>> (1 &&& 31))) (y + ((ahR m a b n).2 &&& 1)) f
theorem fiveF_s {r : Int32 × Int32} {m : Nat → Int32} {a b n k : Nat} {x y : Int32} (h : r = fiveF a b n m x y (5 - k)) (hk : k < 5) (hx : ¬ 3 ≤ x) (hy : ¬ 3 ≤ y) : r = fiveF a b n (ahR m a b n).1 (x + ((ahR m a b n).2 >>> (1 &&& 31))) (y + ((ahR m a b n).2 &&& 1)) (5 - (k + 1)) := by
  rw [show 5 - k = (5 - (k + 1)) + 1 by omega] at h
  rw [h]; exact if_neg (fun q => q.elim hx hy)
theorem fiveF_e {r : Int32 × Int32} {m : Nat → Int32} {a b n k : Nat} {x y : Int32} (h : r = fiveF a b n m x y (5 - k)) (hk : ¬ k < 5 ∨ 3 ≤ x ∨ 3 ≤ y) : r = (x, y) := by
  rw [h]
  rcases Nat.lt_or_ge k 5 with z | z
  · rw [show 5 - k = (5 - (k + 1)) + 1 by omega]
    exact if_pos (hk.resolve_left (fun q => q z))
  · rw [show 5 - k = 0 by omega]; rfl
def fiveV (R : Int32 × Int32) : Int32 := if 3 ≤ R.1 ∧ R.2 < 3 then 1 else if 3 ≤ R.2 ∧ R.1 < 3 then 2 else 0
def cntF (set many : Int32) : Nat → Int32
  | 0 => many
  | f + 1 => if 0 < set then cntF (set >>> (1 &&& 31)) (many + (set &&& 1)) f else many
def champF (d : Nat → Int32) (n N : Nat) (p : Nat) (bs most : Int32) : Nat → Int32
  | 0 => bs
  | f + 1 => champF d n N (p + 1) (if most < cntF (beatF d p n 0 0 N) 0 40 then nI p else bs) (if most < cntF (beatF d p n 0 0 N) 0 40 then cntF (beatF d p n 0 0 N) 0 40 else most) f
theorem champF_s {r : Int32} {d : Nat → Int32} {n N p : Nat} {bs most : Int32} (h : r = champF d n N p bs most (N - p)) (hk : p < N) : r = champF d n N (p + 1) (if most < cntF (beatF d p n 0 0 N) 0 40 then nI p else bs) (if most < cntF (beatF d p n 0 0 N) 0 40 then cntF (beatF d p n 0 0 N) 0 40 else most) (N - (p + 1)) := by
  rw [show N - p = (N - (p + 1)) + 1 by omega] at h
  exact h
theorem champF_e {r : Int32} {d : Nat → Int32} {n N p : Nat} {bs most : Int32} (h : r = champF d n N p bs most (N - p)) (hk : ¬ p < N) : r = bs := by
  rw [h, show N - p = 0 by omega]; rfl
theorem shr_1 {x : Int32} {N : Int} (h : ¬ (x < 0)) (hx : x.toInt < 2 * N) : ¬ (x >>> ((1 : Int32) &&& 31) < 0) ∧ (x >>> ((1 : Int32) &&& 31)).toInt < N := by
  have e : (x >>> ((1 : Int32) &&& 31)).toInt = x.toInt >>> 1 := pk_shr x _ 1 (by decide)
  have e2 : x.toInt >>> 1 = x.toInt / 2 := by rw [Int.shiftRight_eq_div_pow]; rfl
  have h0 : 0 ≤ x.toInt := by
    have := Int32.not_lt.mp h
    rw [Int32.le_iff_toInt_le] at this
    exact this
  refine ⟨?_, by rw [e, e2]; omega⟩
  rw [Int32.not_lt, Int32.le_iff_toInt_le, e, e2]
  show (0 : Int) ≤ _
  omega
theorem cntF_s {r set many : Int32} {f : Nat} (h : r = cntF set many (f + 1)) (hs : 0 < set) : r = cntF (set >>> (1 &&& 31)) (many + (set &&& 1)) f := by rw [h]; exact if_pos hs
theorem cntF_e {r set many : Int32} {f : Nat} (h : r = cntF set many f) (hs : ¬ 0 < set) : r = many := by
  rw [h]; cases f with
  | zero => rfl
  | succ f => exact if_neg hs
theorem wi_2 {x b : Int32} (n : Nat) (hb : b = nI n) (hn : n < 2 ^ 31) (h : wi x 2 b) : ∃ j, 2 ≤ j ∧ j ≤ n ∧ x = nI j := by
  obtain ⟨h1, h2⟩ := h
  obtain ⟨j, h3, h4, rfl⟩ := wi_1 n hb hn ⟨Int32.le_trans (by decide) h1, h2⟩
  exact ⟨j, (nI_leI (by decide) (by omega)).mp (show nI 2 ≤ nI j from h1), h4, rfl⟩
def op_ahead (S : OS) (a : Int32) (b : Int32) (n : Int32) (what : Int32) : Int32 × OS := match S with
  | (d, k, hk, fo, tape, tp, bits, sz, num) => if two d a b ∧ wi n 1 200 ∧ wi what 0 4 then (ahV (ahR d (pr a) (pr b) (pr n)) what, (d, k, hk, fo, tape, tp, bits, sz, num)) else ((-1000000001), (d, k, hk, fnd fo 0, tape, tp, bits, sz, num))
def op_best (S : OS) (a : Int32) (b : Int32) (n : Int32) : Int32 × OS := match S with
  | (d, k, hk, fo, tape, tp, bits, sz, num) => if two d a b ∧ wi n 1 200 then (if bestF d (pr a) (pr b) (pr n) 0 (-1) 0 6 < 0 then ((-1000000004), (d, k, hk, fnd fo 3, tape, tp, bits, sz, num)) else (bestF d (pr a) (pr b) (pr n) 0 (-1) 0 6, (d, k, hk, fo, tape, tp, bits, sz, num))) else ((-1000000001), (d, k, hk, fnd fo 0, tape, tp, bits, sz, num))
def op_light (S : OS) (a : Int32) (b : Int32) (n : Int32) : Int32 × OS := match S with
  | (d, k, hk, fo, tape, tp, bits, sz, num) => if two d a b ∧ wi n 1 100 then (if lightF d (pr a) (pr b) (pr n) 1 299 < 0 then ((-1000000004), (d, k, hk, fnd fo 3, tape, tp, bits, sz, num)) else (lightF d (pr a) (pr b) (pr n) 1 299, (d, k, hk, fo, tape, tp, bits, sz, num))) else ((-1000000001), (d, k, hk, fnd fo 0, tape, tp, bits, sz, num))
def op_late (S : OS) (a : Int32) (b : Int32) (n : Int32) : Int32 × OS := match S with
  | (d, k, hk, fo, tape, tp, bits, sz, num) => if two d a b ∧ wi n 1 200 then (if lateF d (pr a) (pr b) (pr n) 10 < 0 then ((-1000000004), (d, k, hk, fnd fo 3, tape, tp, bits, sz, num)) else (lateF d (pr a) (pr b) (pr n) 10, (d, k, hk, fo, tape, tp, bits, sz, num))) else ((-1000000001), (d, k, hk, fnd fo 0, tape, tp, bits, sz, num))
def op_swing (S : OS) (a : Int32) (b : Int32) (n : Int32) (what : Int32) : Int32 × OS := match S with
  | (d, k, hk, fo, tape, tp, bits, sz, num) => if two d a b ∧ wi n 2 200 ∧ wi what 0 2 then (swingV (ahS d (pr a) (pr b) (pr n)) what, (d, k, hk, fo, tape, tp, bits, sz, num)) else ((-1000000001), (d, k, hk, fnd fo 0, tape, tp, bits, sz, num))
def op_beats (S : OS) (p : Int32) (n : Int32) : Int32 × OS := match S with
  | (d, k, hk, fo, tape, tp, bits, sz, num) => if okP d p ∧ wi n 1 100 then (beatF d (pr p) (pr n) 0 0 (pr (d 0)), (d, k, hk, fo, tape, tp, bits, sz, num)) else ((-1000000001), (d, k, hk, fnd fo 0, tape, tp, bits, sz, num))
def op_five (S : OS) (a : Int32) (b : Int32) (n : Int32) : Int32 × OS := match S with
  | (d, k, hk, fo, tape, tp, bits, sz, num) => if two d a b ∧ wi n 1 100 then (fiveV (fiveF (pr a) (pr b) (pr n) d 0 0 5), (d, k, hk, fo, tape, tp, bits, sz, num)) else ((-1000000001), (d, k, hk, fnd fo 0, tape, tp, bits, sz, num))
def op_champion (S : OS) (n : Int32) : Int32 × OS := match S with
  | (d, k, hk, fo, tape, tp, bits, sz, num) => if wi n 1 50 then (if champF d (pr n) (pr (d 0)) 0 (-1) (-1) (pr (d 0)) < 0 then ((-1000000004), (d, k, hk, fnd fo 3, tape, tp, bits, sz, num)) else (champF d (pr n) (pr (d 0)) 0 (-1) (-1) (pr (d 0)), (d, k, hk, fo, tape, tp, bits, sz, num))) else ((-1000000001), (d, k, hk, fnd fo 0, tape, tp, bits, sz, num))
/-- the lag that is tried next: one less than how many are left -/
def latI (q : Nat) : Int32 := nI q - 1
theorem lat_s {q : Nat} (h : 0 < q) : latI q = nI (q - 1) := by
  unfold latI; rw [show (1 : Int32) = nI 1 from rfl, pk_sub (by omega)]
theorem latN {q : Nat} (h : 0 < q) : latI q + (-1) = latI (q - 1) := by
  rw [lat_s h]; unfold latI
  rw [Int32.sub_eq_add_neg]
theorem lat_0 {q : Nat} (hq : q < 2 ^ 30) : latI q < 0 ↔ q = 0 := by
  constructor
  · intro h
    rcases Nat.eq_zero_or_pos q with z | z
    · exact z
    · rw [lat_s z] at h; exact absurd h (nI_pos (by omega))
  · intro h; subst h; decide
theorem lateF_s {r : Int32} {d : Nat → Int32} {a b n q : Nat} (h : r = lateF d a b n q) (hq : 0 < q) (hc : ¬ (ahR (kAt d a 2 (q - 1)) a b n).2 - (ahR (kAt d a 2 (q - 1)) a b n).2 / 2 * 2 = 0) : r = lateF d a b n (q - 1) := by
  obtain ⟨p, rfl⟩ : ∃ p, q = p + 1 := ⟨q - 1, by omega⟩
  rw [h]; exact if_neg hc
theorem lateF_f {r : Int32} {d : Nat → Int32} {a b n q : Nat} (h : r = lateF d a b n q) (hq : 0 < q) (hc : (ahR (kAt d a 2 (q - 1)) a b n).2 - (ahR (kAt d a 2 (q - 1)) a b n).2 / 2 * 2 = 0) : r = nI (q - 1) := by
  obtain ⟨p, rfl⟩ : ∃ p, q = p + 1 := ⟨q - 1, by omega⟩
  rw [h]; exact if_pos hc
theorem AOk_of {m m2 : Nat → Int32} {a b : Nat} (h : AOk m a b) (e : ∀ j, 40 ≤ j → m2 j = m j) (e10 : m2 10 = m 10) : AOk m2 a b := by
  obtain ⟨h1, h2, h3, h4, h5⟩ := h
  refine ⟨h1, h2, wayOk_of h3 e, wayOk_of h4 e, ?_⟩
  have e2 : told m2 a 1 = told m a 1 := e _ (by omega)
  have e3 : told m2 b 1 = told m b 1 := e _ (by omega)
  rw [e10, e2, e3]; exact h5
theorem runA_keep (n : Nat) : ∀ (m : Nat → Int32) (p0 p1 T j : Nat), (j ≠ 5 ∧ j ≠ 6 ∧ j ≠ 8 ∧ (j < 16 ∨ 22 ≤ j) ∧ (j < 24 ∨ 34 ≤ j)) → (runA m p0 p1 T n).1 j = m j := by
  induction n with
  | zero => intros; rfl
  | succ n ih =>
    intro m p0 p1 T j hj
    unfold runA
    by_cases h : gbO m p0 p1 = 0
    · rw [if_pos h, ih _ _ _ _ _ hj, gbA_keep hj]
    · rw [if_neg h]; exact gbA_keep hj
theorem AOk_run {m : Nat → Int32} {a b n : Nat} (h : AOk m a b) : AOk (ahR m a b n).1 a b :=
  AOk_of h (fun j hj => (runA_keep n _ _ _ _ _ (by omega)).trans (getsA_hi hj)) ((runA_keep n _ _ _ _ _ (by decide)).trans rfl)
theorem fiveV_eq (x y : Int32) : fiveV (x, y) = if 3 ≤ x then (if 3 ≤ y then 0 else 1) else (if 3 ≤ y then 2 else 0) := by
  unfold fiveV
  by_cases hx : 3 ≤ x <;> by_cases hy : 3 ≤ y
  · simp [hx, hy, Int32.not_lt.mpr hx, Int32.not_lt.mpr hy]
  · simp [hx, hy, Int32.not_lt.mpr hx, Int32.not_le.mp hy]
  · simp [hx, hy, Int32.not_lt.mpr hy, Int32.not_le.mp hx]
  · simp [hx, hy]
theorem fb_rng' (x : Int32) : x.toInt < 2 ^ 40 := by
  have := Int32.toInt_lt x
  omega
set_option maxHeartbeats 4000000 in
set_option maxRecDepth 100000 in
theorem ct_X8_ahead (ll : Launch) (g : GT) {h : Hp} {t : Nat} {A : Nat → Nat} {d k fo tape bits sz : Nat → Int32} {num : Nat → Int64} {hk tp : Int32} {np : Nat}  (a : Int32) (b : Int32) (n : Int32) (what : Int32) (hM : MW g h t A (d, k, hk, fo, tape, tp, bits, sz, num)) (hn : d 0 = nI np) (hnp : np ≤ 8) (hA : ∀ a b : Nat, a < np → b < np → a ≠ b → AOk d a b) : MC ll g yX8_ahead cX8_ahead 6 (some .int) { frames := 5, cells := 0, slots := 0, locals := 200 } [.ref t, .int a, .int b, .int n, .int what] h (fun r h2 => r = some (.int (op_ahead (d, k, hk, fo, tape, tp, bits, sz, num) a b n what).1) ∧ MW g h2 t A (op_ahead (d, k, hk, fo, tape, tp, bits, sz, num) a b n what).2) 0 0 := by
  have hM0 := hM
  obtain ⟨e, lf, sw0, sw1, pp, fr, tk, wd, vl, wr, m0, m1, m2, m3, m4, m5, m6, m7, m8, m9, n01, n02, n12, n56⟩ := hM0
  have ne_1 : t ≠ (A 1) := hneb m0 m2 rfl
  refine mc_of (by decide) (Nat.le_of_ble_eq_true rfl) ?_
  intro K X r
  refine v_eqv (lv2 := [(0, .ref t), (1, .int a), (2, .int b), (3, .int n), (4, .int what)]) rfl ?_
  refine v_aload_n X dX8_ahead_0 0 rfl ?_
  refine v_iload_n X dX8_ahead_1 1 rfl ?_
  refine v_iload_n X dX8_ahead_2 2 rfl ?_
  refine v_cVi X [.int a, .int b] sX8_127 (ct_X8_areTwo ll g a b m0 m1) m0 rfl dX8_ahead_3 rfl rfl ⟨rfl, rfl⟩ ⟨(Nat.le_of_ble_eq_true rfl), (Nat.le_of_ble_eq_true rfl)⟩ ⟨Nat.zero_le _, Nat.zero_le _⟩ (Nat.le_of_ble_eq_true rfl) ?_
  refine v_ifb_eq X dX8_ahead_6 (tgt := 34) (by decide) (fun c1 => ?_) (fun c1 => ?_)
  · refine v_aload_n X dX8_ahead_34 0 rfl ?_
    refine v_ldc X dX8_ahead_35 kX8_38 ?_
    refine v_cVi X [.int (-1000000001)] sX8_51 (ct_X8_finds (j := 0) ll g m0 m4 (by decide) (by decide)) m0 rfl dX8_ahead_37 rfl rfl ⟨rfl, rfl⟩ ⟨(Nat.le_of_ble_eq_true rfl), (Nat.le_of_ble_eq_true rfl)⟩ ⟨Nat.zero_le _, Nat.zero_le _⟩ (Nat.le_of_ble_eq_true rfl) ?_
    have eqr : op_ahead (d, k, hk, fo, tape, tp, bits, sz, num) a b n what = ((-1000000001), (d, k, hk, fnd fo 0, tape, tp, bits, sz, num)) := by unfold op_ahead; dsimp only; rw [if_neg (fun q : _ ∧ _ ∧ _ => c1 (And.left q))]
    exact v_iret X r dX8_ahead_40 (Nat.le_refl _) (Nat.le_refl _) ⟨by rw [eqr], by rw [eqr]; exact (MW_fo hM _)⟩
  · refine v_iload_n X dX8_ahead_9 3 rfl ?_
    refine v_i2l X dX8_ahead_10 ?_
    refine v_lconst X dX8_ahead_11 (v := 1) (by decide) ?_
    refine v_ldc2 X dX8_ahead_12 kX8_148 ?_
    refine v_cSi X [.long n.toInt64, .long (1 : Int64), .long (200 : Int64)] sX8_39 (ct_X8_in (v := n) (lo := 1) (hi := 200) ll g rfl (by decide) (by decide)) dX8_ahead_15 rfl rfl ⟨rfl, rfl⟩ ⟨(Nat.le_of_ble_eq_true rfl), (Nat.le_of_ble_eq_true rfl)⟩ ⟨Nat.zero_le _, Nat.zero_le _⟩ (Nat.le_of_ble_eq_true rfl) ?_
    refine v_ifb_eq X dX8_ahead_18 (tgt := 34) (by decide) (fun c2 => ?_) (fun c2 => ?_)
    · refine v_aload_n X dX8_ahead_34 0 rfl ?_
      refine v_ldc X dX8_ahead_35 kX8_38 ?_
      refine v_cVi X [.int (-1000000001)] sX8_51 (ct_X8_finds (j := 0) ll g m0 m4 (by decide) (by decide)) m0 rfl dX8_ahead_37 rfl rfl ⟨rfl, rfl⟩ ⟨(Nat.le_of_ble_eq_true rfl), (Nat.le_of_ble_eq_true rfl)⟩ ⟨Nat.zero_le _, Nat.zero_le _⟩ (Nat.le_of_ble_eq_true rfl) ?_
      have eqr : op_ahead (d, k, hk, fo, tape, tp, bits, sz, num) a b n what = ((-1000000001), (d, k, hk, fnd fo 0, tape, tp, bits, sz, num)) := by unfold op_ahead; dsimp only; rw [if_neg (fun q : _ ∧ _ ∧ _ => c2 (And.left (And.right q)))]
      exact v_iret X r dX8_ahead_40 (Nat.le_refl _) (Nat.le_refl _) ⟨by rw [eqr], by rw [eqr]; exact (MW_fo hM _)⟩
    · refine v_iload X dX8_ahead_21 4 rfl ?_
      refine v_i2l X dX8_ahead_23 ?_
      refine v_lconst X dX8_ahead_24 (v := 0) (by decide) ?_
      refine v_ldc2 X dX8_ahead_25 kX8_82 ?_
      refine v_cSi X [.long what.toInt64, .long (0 : Int64), .long (4 : Int64)] sX8_39 (ct_X8_in (v := what) (lo := 0) (hi := 4) ll g rfl (by decide) (by decide)) dX8_ahead_28 rfl rfl ⟨rfl, rfl⟩ ⟨(Nat.le_of_ble_eq_true rfl), (Nat.le_of_ble_eq_true rfl)⟩ ⟨Nat.zero_le _, Nat.zero_le _⟩ (Nat.le_of_ble_eq_true rfl) ?_
      refine v_ifb_ne X dX8_ahead_31 (tgt := 41) (by decide) (fun c3 => ?_) (fun c3 => ?_)
      · obtain ⟨ja, hja, eja⟩ := wi_n hn (by omega) c1.1
        obtain ⟨jb, hjb, ejb⟩ := wi_n hn (by omega) c1.2.1
        have qja : pr a = ja := ix_cl eja (by omega)
        have qjb : pr b = jb := ix_cl ejb (by omega)
        have hab : ja ≠ jb := fun z => c1.2.2 (by rw [eja, ejb, z])
        obtain ⟨nn, hn1, hn4, en⟩ := wi_1 200 rfl (by decide) c2
        have qn : pr n = nn := ix_cl en (by omega)
        refine v_aload_n X dX8_ahead_41 0 rfl ?_
        refine v_get X fX8_9 m0 rfl dX8_ahead_42 ?_
        refine v_aload_n X dX8_ahead_45 0 rfl ?_
        refine v_get X fX8_13 m0 rfl dX8_ahead_46 ?_
        refine v_cSv X [.ref (A 0), .ref (A 1)] sX8_150 (ct_X8_copies ll g  m1 m2 n01) dX8_ahead_49 rfl rfl ⟨rfl, rfl⟩ ⟨(Nat.le_of_ble_eq_true rfl), (Nat.le_of_ble_eq_true rfl)⟩ ⟨Nat.zero_le _, Nat.zero_le _⟩ (Nat.le_of_ble_eq_true rfl) ?_
        refine v_aload_n X dX8_ahead_52 0 rfl ?_
        refine v_iload_n X dX8_ahead_53 1 rfl ?_
        refine v_iload_n X dX8_ahead_54 2 rfl ?_
        refine v_iload_n X dX8_ahead_55 3 rfl ?_
        refine v_cVi X [.int a, .int b, .int n] sX8_154 (ct_X8_boutAhead (p0 := ja) (p1 := jb) (nn := nn) ll g  ((hU_n ne_1).trans m0) hU_s eja ejb en (by omega) (hA ja jb hja hjb hab)) ((hU_n ne_1).trans m0) rfl dX8_ahead_56 rfl rfl ⟨rfl, rfl⟩ ⟨(Nat.le_of_ble_eq_true rfl), (Nat.le_of_ble_eq_true rfl)⟩ ⟨Nat.zero_le _, Nat.zero_le _⟩ (Nat.le_of_ble_eq_true rfl) ?_
        refine v_eqh (h2 := (hU (hU h (A 1) (ai g 260 ((ahR d ja jb nn).1))) t (ob 8 [.ref (A 0), .ref (A 1), .ref (A 2), .int hk, .ref (A 3), .int ((ahS d ja jb nn).2.2.1), .int ((ahS d ja jb nn).2.2.2), .ref (A 4), .int tp, .int pp, .int fr, .int tk, .int wd, .int vl, .int wr, .ref (A 5), .ref (A 6), .ref (A 7), .ref (A 8)]))) (Eq.trans (congrArg (fun z => hU (z) t (ob 8 [.ref (A 0), .ref (A 1), .ref (A 2), .int hk, .ref (A 3), .int ((ahS d ja jb nn).2.2.1), .int ((ahS d ja jb nn).2.2.2), .ref (A 4), .int tp, .int pp, .int fr, .int tk, .int wd, .int vl, .int wr, .ref (A 5), .ref (A 6), .ref (A 7), .ref (A 8)])) hU_u) rfl) ?_
        refine v_istore (lv1 := [(5, .int ((ahR d ja jb nn).2)), (0, .ref t), (1, .int a), (2, .int b), (3, .int n), (4, .int what)]) X dX8_ahead_59 (by decide) rfl ?_
        refine v_iload X dX8_ahead_61 5 rfl ?_
        refine v_if_ne X dX8_ahead_63 (tgt := 71) (by decide) (fun c4 => ?_) (fun c4 => ?_)
        · refine v_iload X dX8_ahead_71 5 rfl ?_
          refine v_iconst X dX8_ahead_73 (v := 1) (by decide) ?_
          refine v_icmp_ne X dX8_ahead_74 (tgt := 87) (by decide) (fun c5 => ?_) (fun c5 => ?_)
          · refine v_iload X dX8_ahead_87 5 rfl ?_
            refine v_iconst X dX8_ahead_89 (v := 2) (by decide) ?_
            refine v_icmp_ne X dX8_ahead_90 (tgt := 102) (by decide) (fun c6 => ?_) (fun c6 => ?_)
            · refine v_iload X dX8_ahead_102 5 rfl ?_
              refine v_iconst X dX8_ahead_104 (v := 3) (by decide) ?_
              refine v_icmp_ne X dX8_ahead_105 (tgt := 118) (by decide) (fun c7 => ?_) (fun c7 => ?_)
              · refine v_aload_n X dX8_ahead_118 1 rfl ?_
                refine v_get X fX8_13 hU_s rfl dX8_ahead_119 ?_
                refine v_bipush X dX8_ahead_122 (v := 20) (by decide) ?_
                refine v_ialdK X 20 ((hU_n (Ne.symm ne_1)).trans hU_s) (rfl : (20 : Int32) = nI 20) (by decide) (by decide) dX8_ahead_124 ?_
                have eqr : op_ahead (d, k, hk, fo, tape, tp, bits, sz, num) a b n what = (((ahR d ja jb nn).1) 20, (d, k, hk, fo, tape, tp, bits, sz, num)) := by unfold op_ahead; dsimp only; rw [if_pos (And.intro c1 (And.intro c2 c3)), qja, qjb, qn]; simp [ahV, c4, c5, c6, c7]
                exact v_iret X r dX8_ahead_125 (Nat.le_refl _) (Nat.le_refl _) ⟨by rw [eqr], by rw [eqr]; exact (MW_ob (MW_e hM _) _ _ _ _ _ _ _ _ _ _)⟩
              · refine v_aload_n X dX8_ahead_108 1 rfl ?_
                refine v_get X fX8_13 hU_s rfl dX8_ahead_109 ?_
                refine v_bipush X dX8_ahead_112 (v := 18) (by decide) ?_
                refine v_ialdK X 18 ((hU_n (Ne.symm ne_1)).trans hU_s) (rfl : (18 : Int32) = nI 18) (by decide) (by decide) dX8_ahead_114 ?_
                refine v_goto X dX8_ahead_115 (tgt := 125) (by decide) ?_
                have eqr : op_ahead (d, k, hk, fo, tape, tp, bits, sz, num) a b n what = (((ahR d ja jb nn).1) 18, (d, k, hk, fo, tape, tp, bits, sz, num)) := by unfold op_ahead; dsimp only; rw [if_pos (And.intro c1 (And.intro c2 c3)), qja, qjb, qn]; simp [ahV, c4, c5, c6, c7]
                exact v_iret X r dX8_ahead_125 (Nat.le_refl _) (Nat.le_refl _) ⟨by rw [eqr], by rw [eqr]; exact (MW_ob (MW_e hM _) _ _ _ _ _ _ _ _ _ _)⟩
            · refine v_aload_n X dX8_ahead_93 1 rfl ?_
              refine v_get X fX8_13 hU_s rfl dX8_ahead_94 ?_
              refine v_iconst X dX8_ahead_97 (v := 5) (by decide) ?_
              refine v_ialdK X 5 ((hU_n (Ne.symm ne_1)).trans hU_s) (rfl : (5 : Int32) = nI 5) (by decide) (by decide) dX8_ahead_98 ?_
              refine v_goto X dX8_ahead_99 (tgt := 125) (by decide) ?_
              have eqr : op_ahead (d, k, hk, fo, tape, tp, bits, sz, num) a b n what = (((ahR d ja jb nn).1) 5, (d, k, hk, fo, tape, tp, bits, sz, num)) := by unfold op_ahead; dsimp only; rw [if_pos (And.intro c1 (And.intro c2 c3)), qja, qjb, qn]; simp [ahV, c4, c5, c6]
              exact v_iret X r dX8_ahead_125 (Nat.le_refl _) (Nat.le_refl _) ⟨by rw [eqr], by rw [eqr]; exact (MW_ob (MW_e hM _) _ _ _ _ _ _ _ _ _ _)⟩
          · refine v_aload_n X dX8_ahead_77 1 rfl ?_
            refine v_get X fX8_13 hU_s rfl dX8_ahead_78 ?_
            refine v_bipush X dX8_ahead_81 (v := 6) (by decide) ?_
            refine v_ialdK X 6 ((hU_n (Ne.symm ne_1)).trans hU_s) (rfl : (6 : Int32) = nI 6) (by decide) (by decide) dX8_ahead_83 ?_
            refine v_goto X dX8_ahead_84 (tgt := 125) (by decide) ?_
            have eqr : op_ahead (d, k, hk, fo, tape, tp, bits, sz, num) a b n what = (((ahR d ja jb nn).1) 6, (d, k, hk, fo, tape, tp, bits, sz, num)) := by unfold op_ahead; dsimp only; rw [if_pos (And.intro c1 (And.intro c2 c3)), qja, qjb, qn]; simp [ahV, c4, c5]
            exact v_iret X r dX8_ahead_125 (Nat.le_refl _) (Nat.le_refl _) ⟨by rw [eqr], by rw [eqr]; exact (MW_ob (MW_e hM _) _ _ _ _ _ _ _ _ _ _)⟩
        · refine v_iload X dX8_ahead_66 0 rfl ?_
          refine v_goto X dX8_ahead_68 (tgt := 125) (by decide) ?_
          have eqr : op_ahead (d, k, hk, fo, tape, tp, bits, sz, num) a b n what = ((ahR d ja jb nn).2, (d, k, hk, fo, tape, tp, bits, sz, num)) := by unfold op_ahead; dsimp only; rw [if_pos (And.intro c1 (And.intro c2 c3)), qja, qjb, qn]; simp [ahV, c4]
          exact v_iret X r dX8_ahead_125 (Nat.le_refl _) (Nat.le_refl _) ⟨by rw [eqr], by rw [eqr]; exact (MW_ob (MW_e hM _) _ _ _ _ _ _ _ _ _ _)⟩
      · refine v_aload_n X dX8_ahead_34 0 rfl ?_
        refine v_ldc X dX8_ahead_35 kX8_38 ?_
        refine v_cVi X [.int (-1000000001)] sX8_51 (ct_X8_finds (j := 0) ll g m0 m4 (by decide) (by decide)) m0 rfl dX8_ahead_37 rfl rfl ⟨rfl, rfl⟩ ⟨(Nat.le_of_ble_eq_true rfl), (Nat.le_of_ble_eq_true rfl)⟩ ⟨Nat.zero_le _, Nat.zero_le _⟩ (Nat.le_of_ble_eq_true rfl) ?_
        have eqr : op_ahead (d, k, hk, fo, tape, tp, bits, sz, num) a b n what = ((-1000000001), (d, k, hk, fnd fo 0, tape, tp, bits, sz, num)) := by unfold op_ahead; dsimp only; rw [if_neg (fun q : _ ∧ _ ∧ _ => c3 (And.right (And.right q)))]
        exact v_iret X r dX8_ahead_40 (Nat.le_refl _) (Nat.le_refl _) ⟨by rw [eqr], by rw [eqr]; exact (MW_fo hM _)⟩
set_option maxHeartbeats 4000000 in
set_option maxRecDepth 100000 in
theorem ct_X8_swing (ll : Launch) (g : GT) {h : Hp} {t : Nat} {A : Nat → Nat} {d k fo tape bits sz : Nat → Int32} {num : Nat → Int64} {hk tp : Int32} {np : Nat}  (a : Int32) (b : Int32) (n : Int32) (what : Int32) (hM : MW g h t A (d, k, hk, fo, tape, tp, bits, sz, num)) (hn : d 0 = nI np) (hnp : np ≤ 8) (hA : ∀ a b : Nat, a < np → b < np → a ≠ b → AOk d a b) : MC ll g yX8_swing cX8_swing 6 (some .int) { frames := 5, cells := 0, slots := 0, locals := 200 } [.ref t, .int a, .int b, .int n, .int what] h (fun r h2 => r = some (.int (op_swing (d, k, hk, fo, tape, tp, bits, sz, num) a b n what).1) ∧ MW g h2 t A (op_swing (d, k, hk, fo, tape, tp, bits, sz, num) a b n what).2) 0 0 := by
  have hM0 := hM
  obtain ⟨e, lf, sw0, sw1, pp, fr, tk, wd, vl, wr, m0, m1, m2, m3, m4, m5, m6, m7, m8, m9, n01, n02, n12, n56⟩ := hM0
  have ne_1 : t ≠ (A 1) := hneb m0 m2 rfl
  refine mc_of (by decide) (Nat.le_of_ble_eq_true rfl) ?_
  intro K X r
  refine v_eqv (lv2 := [(0, .ref t), (1, .int a), (2, .int b), (3, .int n), (4, .int what)]) rfl ?_
  refine v_aload_n X dX8_swing_0 0 rfl ?_
  refine v_iload_n X dX8_swing_1 1 rfl ?_
  refine v_iload_n X dX8_swing_2 2 rfl ?_
  refine v_cVi X [.int a, .int b] sX8_127 (ct_X8_areTwo ll g a b m0 m1) m0 rfl dX8_swing_3 rfl rfl ⟨rfl, rfl⟩ ⟨(Nat.le_of_ble_eq_true rfl), (Nat.le_of_ble_eq_true rfl)⟩ ⟨Nat.zero_le _, Nat.zero_le _⟩ (Nat.le_of_ble_eq_true rfl) ?_
  refine v_ifb_eq X dX8_swing_6 (tgt := 36) (by decide) (fun c1 => ?_) (fun c1 => ?_)
  · refine v_aload_n X dX8_swing_36 0 rfl ?_
    refine v_ldc X dX8_swing_37 kX8_38 ?_
    refine v_cVi X [.int (-1000000001)] sX8_51 (ct_X8_finds (j := 0) ll g m0 m4 (by decide) (by decide)) m0 rfl dX8_swing_39 rfl rfl ⟨rfl, rfl⟩ ⟨(Nat.le_of_ble_eq_true rfl), (Nat.le_of_ble_eq_true rfl)⟩ ⟨Nat.zero_le _, Nat.zero_le _⟩ (Nat.le_of_ble_eq_true rfl) ?_
    have eqr : op_swing (d, k, hk, fo, tape, tp, bits, sz, num) a b n what = ((-1000000001), (d, k, hk, fnd fo 0, tape, tp, bits, sz, num)) := by unfold op_swing; dsimp only; rw [if_neg (fun q : _ ∧ _ ∧ _ => c1 (And.left q))]
    exact v_iret X r dX8_swing_42 (Nat.le_refl _) (Nat.le_refl _) ⟨by rw [eqr], by rw [eqr]; exact (MW_fo hM _)⟩
  · refine v_iload_n X dX8_swing_9 3 rfl ?_
    refine v_i2l X dX8_swing_10 ?_
    refine v_ldc2 X dX8_swing_11 kX8_139 ?_
    refine v_ldc2 X dX8_swing_14 kX8_148 ?_
    refine v_cSi X [.long n.toInt64, .long (2 : Int64), .long (200 : Int64)] sX8_39 (ct_X8_in (v := n) (lo := 2) (hi := 200) ll g rfl (by decide) (by decide)) dX8_swing_17 rfl rfl ⟨rfl, rfl⟩ ⟨(Nat.le_of_ble_eq_true rfl), (Nat.le_of_ble_eq_true rfl)⟩ ⟨Nat.zero_le _, Nat.zero_le _⟩ (Nat.le_of_ble_eq_true rfl) ?_
    refine v_ifb_eq X dX8_swing_20 (tgt := 36) (by decide) (fun c2 => ?_) (fun c2 => ?_)
    · refine v_aload_n X dX8_swing_36 0 rfl ?_
      refine v_ldc X dX8_swing_37 kX8_38 ?_
      refine v_cVi X [.int (-1000000001)] sX8_51 (ct_X8_finds (j := 0) ll g m0 m4 (by decide) (by decide)) m0 rfl dX8_swing_39 rfl rfl ⟨rfl, rfl⟩ ⟨(Nat.le_of_ble_eq_true rfl), (Nat.le_of_ble_eq_true rfl)⟩ ⟨Nat.zero_le _, Nat.zero_le _⟩ (Nat.le_of_ble_eq_true rfl) ?_
      have eqr : op_swing (d, k, hk, fo, tape, tp, bits, sz, num) a b n what = ((-1000000001), (d, k, hk, fnd fo 0, tape, tp, bits, sz, num)) := by unfold op_swing; dsimp only; rw [if_neg (fun q : _ ∧ _ ∧ _ => c2 (And.left (And.right q)))]
      exact v_iret X r dX8_swing_42 (Nat.le_refl _) (Nat.le_refl _) ⟨by rw [eqr], by rw [eqr]; exact (MW_fo hM _)⟩
    · refine v_iload X dX8_swing_23 4 rfl ?_
      refine v_i2l X dX8_swing_25 ?_
      refine v_lconst X dX8_swing_26 (v := 0) (by decide) ?_
      refine v_ldc2 X dX8_swing_27 kX8_139 ?_
      refine v_cSi X [.long what.toInt64, .long (0 : Int64), .long (2 : Int64)] sX8_39 (ct_X8_in (v := what) (lo := 0) (hi := 2) ll g rfl (by decide) (by decide)) dX8_swing_30 rfl rfl ⟨rfl, rfl⟩ ⟨(Nat.le_of_ble_eq_true rfl), (Nat.le_of_ble_eq_true rfl)⟩ ⟨Nat.zero_le _, Nat.zero_le _⟩ (Nat.le_of_ble_eq_true rfl) ?_
      refine v_ifb_ne X dX8_swing_33 (tgt := 43) (by decide) (fun c3 => ?_) (fun c3 => ?_)
      · obtain ⟨ja, hja, eja⟩ := wi_n hn (by omega) c1.1
        obtain ⟨jb, hjb, ejb⟩ := wi_n hn (by omega) c1.2.1
        have qja : pr a = ja := ix_cl eja (by omega)
        have qjb : pr b = jb := ix_cl ejb (by omega)
        have hab : ja ≠ jb := fun z => c1.2.2 (by rw [eja, ejb, z])
        obtain ⟨nn, hn1, hn4, en⟩ := wi_2 200 rfl (by decide) c2
        have qn : pr n = nn := ix_cl en (by omega)
        refine v_aload_n X dX8_swing_43 0 rfl ?_
        refine v_get X fX8_9 m0 rfl dX8_swing_44 ?_
        refine v_aload_n X dX8_swing_47 0 rfl ?_
        refine v_get X fX8_13 m0 rfl dX8_swing_48 ?_
        refine v_cSv X [.ref (A 0), .ref (A 1)] sX8_150 (ct_X8_copies ll g  m1 m2 n01) dX8_swing_51 rfl rfl ⟨rfl, rfl⟩ ⟨(Nat.le_of_ble_eq_true rfl), (Nat.le_of_ble_eq_true rfl)⟩ ⟨Nat.zero_le _, Nat.zero_le _⟩ (Nat.le_of_ble_eq_true rfl) ?_
        refine v_aload_n X dX8_swing_54 0 rfl ?_
        refine v_iload_n X dX8_swing_55 1 rfl ?_
        refine v_iload_n X dX8_swing_56 2 rfl ?_
        refine v_iload_n X dX8_swing_57 3 rfl ?_
        refine v_cVi X [.int a, .int b, .int n] sX8_154 (ct_X8_boutAhead (p0 := ja) (p1 := jb) (nn := nn) ll g  ((hU_n ne_1).trans m0) hU_s eja ejb en (by omega) (hA ja jb hja hjb hab)) ((hU_n ne_1).trans m0) rfl dX8_swing_58 rfl rfl ⟨rfl, rfl⟩ ⟨(Nat.le_of_ble_eq_true rfl), (Nat.le_of_ble_eq_true rfl)⟩ ⟨Nat.zero_le _, Nat.zero_le _⟩ (Nat.le_of_ble_eq_true rfl) ?_
        refine v_eqh (h2 := (hU (hU h (A 1) (ai g 260 ((ahR d ja jb nn).1))) t (ob 8 [.ref (A 0), .ref (A 1), .ref (A 2), .int hk, .ref (A 3), .int ((ahS d ja jb nn).2.2.1), .int ((ahS d ja jb nn).2.2.2), .ref (A 4), .int tp, .int pp, .int fr, .int tk, .int wd, .int vl, .int wr, .ref (A 5), .ref (A 6), .ref (A 7), .ref (A 8)]))) (Eq.trans (congrArg (fun z => hU (z) t (ob 8 [.ref (A 0), .ref (A 1), .ref (A 2), .int hk, .ref (A 3), .int ((ahS d ja jb nn).2.2.1), .int ((ahS d ja jb nn).2.2.2), .ref (A 4), .int tp, .int pp, .int fr, .int tk, .int wd, .int vl, .int wr, .ref (A 5), .ref (A 6), .ref (A 7), .ref (A 8)])) hU_u) rfl) ?_
        refine v_istore (lv1 := [(5, .int ((ahR d ja jb nn).2)), (0, .ref t), (1, .int a), (2, .int b), (3, .int n), (4, .int what)]) X dX8_swing_61 (by decide) rfl ?_
        refine v_iload X dX8_swing_63 5 rfl ?_
        refine v_if_ne X dX8_swing_65 (tgt := 75) (by decide) (fun c4 => ?_) (fun c4 => ?_)
        · refine v_iload X dX8_swing_75 5 rfl ?_
          refine v_iconst X dX8_swing_77 (v := 1) (by decide) ?_
          refine v_icmp_ne X dX8_swing_78 (tgt := 88) (by decide) (fun c5 => ?_) (fun c5 => ?_)
          · refine v_aload_n X dX8_swing_88 1 rfl ?_
            refine v_get X fX8_145 hU_s rfl dX8_swing_89 ?_
            refine v_aload_n X dX8_swing_92 1 rfl ?_
            refine v_get X fX8_141 hU_s rfl dX8_swing_93 ?_
            refine v_icmp_le X dX8_swing_96 (tgt := 103) (by decide) (fun c6 => ?_) (fun c6 => ?_)
            · refine v_iconst X dX8_swing_103 (v := 0) (by decide) ?_
              have eqr : op_swing (d, k, hk, fo, tape, tp, bits, sz, num) a b n what = (0, (d, k, hk, fo, tape, tp, bits, sz, num)) := by unfold op_swing; dsimp only; rw [if_pos (And.intro c1 (And.intro c2 c3)), qja, qjb, qn]; simp [swingV, c4, c5, c6, Int32.not_lt.mpr c6]
              exact v_iret X r dX8_swing_104 (Nat.le_refl _) (Nat.le_refl _) ⟨by rw [eqr], by rw [eqr]; exact (MW_ob (MW_e hM _) _ _ _ _ _ _ _ _ _ _)⟩
            · refine v_iconst X dX8_swing_99 (v := 1) (by decide) ?_
              refine v_goto X dX8_swing_100 (tgt := 104) (by decide) ?_
              have eqr : op_swing (d, k, hk, fo, tape, tp, bits, sz, num) a b n what = (1, (d, k, hk, fo, tape, tp, bits, sz, num)) := by unfold op_swing; dsimp only; rw [if_pos (And.intro c1 (And.intro c2 c3)), qja, qjb, qn]; simp [swingV, c4, c5, c6, Int32.not_le.mp c6]
              exact v_iret X r dX8_swing_104 (Nat.le_refl _) (Nat.le_refl _) ⟨by rw [eqr], by rw [eqr]; exact (MW_ob (MW_e hM _) _ _ _ _ _ _ _ _ _ _)⟩
          · refine v_aload_n X dX8_swing_81 1 rfl ?_
            refine v_get X fX8_145 hU_s rfl dX8_swing_82 ?_
            refine v_goto X dX8_swing_85 (tgt := 104) (by decide) ?_
            have eqr : op_swing (d, k, hk, fo, tape, tp, bits, sz, num) a b n what = ((ahS d ja jb nn).2.2.2, (d, k, hk, fo, tape, tp, bits, sz, num)) := by unfold op_swing; dsimp only; rw [if_pos (And.intro c1 (And.intro c2 c3)), qja, qjb, qn]; simp [swingV, c4, c5]
            exact v_iret X r dX8_swing_104 (Nat.le_refl _) (Nat.le_refl _) ⟨by rw [eqr], by rw [eqr]; exact (MW_ob (MW_e hM _) _ _ _ _ _ _ _ _ _ _)⟩
        · refine v_aload_n X dX8_swing_68 1 rfl ?_
          refine v_get X fX8_141 hU_s rfl dX8_swing_69 ?_
          refine v_goto X dX8_swing_72 (tgt := 104) (by decide) ?_
          have eqr : op_swing (d, k, hk, fo, tape, tp, bits, sz, num) a b n what = ((ahS d ja jb nn).2.2.1, (d, k, hk, fo, tape, tp, bits, sz, num)) := by unfold op_swing; dsimp only; rw [if_pos (And.intro c1 (And.intro c2 c3)), qja, qjb, qn]; simp [swingV, c4]
          exact v_iret X r dX8_swing_104 (Nat.le_refl _) (Nat.le_refl _) ⟨by rw [eqr], by rw [eqr]; exact (MW_ob (MW_e hM _) _ _ _ _ _ _ _ _ _ _)⟩
      · refine v_aload_n X dX8_swing_36 0 rfl ?_
        refine v_ldc X dX8_swing_37 kX8_38 ?_
        refine v_cVi X [.int (-1000000001)] sX8_51 (ct_X8_finds (j := 0) ll g m0 m4 (by decide) (by decide)) m0 rfl dX8_swing_39 rfl rfl ⟨rfl, rfl⟩ ⟨(Nat.le_of_ble_eq_true rfl), (Nat.le_of_ble_eq_true rfl)⟩ ⟨Nat.zero_le _, Nat.zero_le _⟩ (Nat.le_of_ble_eq_true rfl) ?_
        have eqr : op_swing (d, k, hk, fo, tape, tp, bits, sz, num) a b n what = ((-1000000001), (d, k, hk, fnd fo 0, tape, tp, bits, sz, num)) := by unfold op_swing; dsimp only; rw [if_neg (fun q : _ ∧ _ ∧ _ => c3 (And.right (And.right q)))]
        exact v_iret X r dX8_swing_42 (Nat.le_refl _) (Nat.le_refl _) ⟨by rw [eqr], by rw [eqr]; exact (MW_fo hM _)⟩
set_option maxHeartbeats 4000000 in
set_option maxRecDepth 100000 in
theorem ct_X8_best (ll : Launch) (g : GT) {h : Hp} {t : Nat} {A : Nat → Nat} {d k fo tape bits sz : Nat → Int32} {num : Nat → Int64} {hk tp : Int32} {np : Nat}  (a : Int32) (b : Int32) (n : Int32) (hM : MW g h t A (d, k, hk, fo, tape, tp, bits, sz, num)) (hn : d 0 = nI np) (hnp : np ≤ 8) (hAk : ∀ a b k : Nat, a < np → b < np → a ≠ b → k < 6 → AOk (kAt d a 0 k) a b) : MC ll g yX8_best cX8_best 8 (some .int) { frames := 5, cells := 0, slots := 0, locals := 200 } [.ref t, .int a, .int b, .int n] h (fun r h2 => r = some (.int (op_best (d, k, hk, fo, tape, tp, bits, sz, num) a b n).1) ∧ MW g h2 t A (op_best (d, k, hk, fo, tape, tp, bits, sz, num) a b n).2) 0 0 := by
  have hM0 := hM
  obtain ⟨e, lf, sw0, sw1, pp, fr, tk, wd, vl, wr, m0, m1, m2, m3, m4, m5, m6, m7, m8, m9, n01, n02, n12, n56⟩ := hM0
  have ne_1 : (A 3) ≠ (A 1) := hneb m4 m2 rfl
  have ne_2 : (A 3) ≠ t := hneb m4 m0 rfl
  have ne_3 : (A 0) ≠ t := hneb m1 m0 rfl
  have ne_4 : (A 1) ≠ t := hneb m2 m0 rfl
  refine mc_of (by decide) (Nat.le_of_ble_eq_true rfl) ?_
  intro K X r
  refine v_eqv (lv2 := [(0, .ref t), (1, .int a), (2, .int b), (3, .int n)]) rfl ?_
  refine v_aload_n X dX8_best_0 0 rfl ?_
  refine v_iload_n X dX8_best_1 1 rfl ?_
  refine v_iload_n X dX8_best_2 2 rfl ?_
  refine v_cVi X [.int a, .int b] sX8_127 (ct_X8_areTwo ll g a b m0 m1) m0 rfl dX8_best_3 rfl rfl ⟨rfl, rfl⟩ ⟨(Nat.le_of_ble_eq_true rfl), (Nat.le_of_ble_eq_true rfl)⟩ ⟨Nat.zero_le _, Nat.zero_le _⟩ (Nat.le_of_ble_eq_true rfl) ?_
  refine v_ifb_eq X dX8_best_6 (tgt := 21) (by decide) (fun c1 => ?_) (fun c1 => ?_)
  · refine v_aload_n X dX8_best_21 0 rfl ?_
    refine v_ldc X dX8_best_22 kX8_38 ?_
    refine v_cVi X [.int (-1000000001)] sX8_51 (ct_X8_finds (j := 0) ll g m0 m4 (by decide) (by decide)) m0 rfl dX8_best_24 rfl rfl ⟨rfl, rfl⟩ ⟨(Nat.le_of_ble_eq_true rfl), (Nat.le_of_ble_eq_true rfl)⟩ ⟨Nat.zero_le _, Nat.zero_le _⟩ (Nat.le_of_ble_eq_true rfl) ?_
    have eqr : op_best (d, k, hk, fo, tape, tp, bits, sz, num) a b n = ((-1000000001), (d, k, hk, fnd fo 0, tape, tp, bits, sz, num)) := by unfold op_best; dsimp only; rw [if_neg (fun q : _ ∧ _ => c1 (And.left q))]
    exact v_iret X r dX8_best_27 (Nat.le_refl _) (Nat.le_refl _) ⟨by rw [eqr], by rw [eqr]; exact (MW_fo hM _)⟩
  · refine v_iload_n X dX8_best_9 3 rfl ?_
    refine v_i2l X dX8_best_10 ?_
    refine v_lconst X dX8_best_11 (v := 1) (by decide) ?_
    refine v_ldc2 X dX8_best_12 kX8_148 ?_
    refine v_cSi X [.long n.toInt64, .long (1 : Int64), .long (200 : Int64)] sX8_39 (ct_X8_in (v := n) (lo := 1) (hi := 200) ll g rfl (by decide) (by decide)) dX8_best_15 rfl rfl ⟨rfl, rfl⟩ ⟨(Nat.le_of_ble_eq_true rfl), (Nat.le_of_ble_eq_true rfl)⟩ ⟨Nat.zero_le _, Nat.zero_le _⟩ (Nat.le_of_ble_eq_true rfl) ?_
    refine v_ifb_ne X dX8_best_18 (tgt := 28) (by decide) (fun c2 => ?_) (fun c2 => ?_)
    · obtain ⟨ja, hja, eja⟩ := wi_n hn (by omega) c1.1
      obtain ⟨jb, hjb, ejb⟩ := wi_n hn (by omega) c1.2.1
      have qja : pr a = ja := ix_cl eja (by omega)
      have qjb : pr b = jb := ix_cl ejb (by omega)
      have hab : ja ≠ jb := fun z => c1.2.2 (by rw [eja, ejb, z])
      obtain ⟨nn, hn1, hn4, en⟩ := wi_1 200 rfl (by decide) c2
      have qn : pr n = nn := ix_cl en (by omega)
      refine v_iconst X dX8_best_28 (v := (-1)) (by decide) ?_
      refine v_istore (lv1 := [(4, .int (-1)), (0, .ref t), (1, .int a), (2, .int b), (3, .int n)]) X dX8_best_29 (by decide) rfl ?_
      refine v_iconst X dX8_best_31 (v := 0) (by decide) ?_
      refine v_istore (lv1 := [(5, .int 0), (4, .int (-1)), (0, .ref t), (1, .int a), (2, .int b), (3, .int n)]) X dX8_best_32 (by decide) rfl ?_
      refine v_iconst X dX8_best_34 (v := 0) (by decide) ?_
      refine v_istore (lv1 := [(6, .int 0), (5, .int 0), (4, .int (-1)), (0, .ref t), (1, .int a), (2, .int b), (3, .int n)]) X dX8_best_35 (by decide) rfl ?_
      have L37 : ∀ (N : Nat) (q : Nat) (mm : Nat → Int32) (s0 s1 bs ls : Int32), (q ≤ 6) → (bestF d ja jb nn 0 (-1) 0 6 = bestF d ja jb nn q bs ls (6 - q)) → 6 - q < N → VJ K 0 0 (hU (hU h (A 1) (ai g 260 mm)) t (ob 8 [.ref (A 0), .ref (A 1), .ref (A 2), .int hk, .ref (A 3), .int s0, .int s1, .ref (A 4), .int tp, .int pp, .int fr, .int tk, .int wd, .int vl, .int wr, .ref (A 5), .ref (A 6), .ref (A 7), .ref (A 8)])) 37 [(0, .ref t), (1, .int a), (2, .int b), (3, .int n), (4, .int bs), (5, .int ls), (6, .int (nI q))] [] := by
        intro N
        induction N with
        | zero => intro q mm s0 s1 bs ls _ _ hm; exact absurd hm (Nat.not_lt_zero _)
        | succ N ih37 =>
          intro q mm s0 s1 bs ls hqq hq hm
          refine v_iload X dX8_best_37 6 rfl ?_
          refine v_bipush X dX8_best_39 (v := 6) (by decide) ?_
          refine v_icmp_ge X dX8_best_41 (tgt := 130) (by decide) (fun c3 => ?_) (fun c3 => ?_)
          · have hR : bestF d ja jb nn 0 (-1) 0 6 = bs := bestF_e hq (fun z => absurd (nI_lt z (by decide)) (Int32.not_lt.mpr c3))
            refine v_iload X dX8_best_130 4 rfl ?_
            refine v_if_ge X dX8_best_132 (tgt := 144) (by decide) (fun c4 => ?_) (fun c4 => ?_)
            · refine v_iload X dX8_best_144 4 rfl ?_
              have eqr : op_best (d, k, hk, fo, tape, tp, bits, sz, num) a b n = (bs, (d, k, hk, fo, tape, tp, bits, sz, num)) := by unfold op_best; dsimp only; rw [if_pos (And.intro c1 c2), qja, qjb, qn, hR, if_neg (Int32.not_lt.mpr c4)]
              exact v_iret X r dX8_best_146 (Nat.le_refl _) (Nat.le_refl _) ⟨by rw [eqr], by rw [eqr]; exact (MW_ob (MW_e hM _) _ _ _ _ _ _ _ _ _ _)⟩
            · refine v_aload_n X dX8_best_135 0 rfl ?_
              refine v_ldc X dX8_best_136 kX8_158 ?_
              refine v_cVi X [.int (-1000000004)] sX8_51 (ct_X8_finds (j := 3) ll g hU_s ((hU_n ne_2).trans ((hU_n ne_1).trans m4)) (by decide) (by decide)) hU_s rfl dX8_best_138 rfl rfl ⟨rfl, rfl⟩ ⟨(Nat.le_of_ble_eq_true rfl), (Nat.le_of_ble_eq_true rfl)⟩ ⟨Nat.zero_le _, Nat.zero_le _⟩ (Nat.le_of_ble_eq_true rfl) ?_
              refine v_goto X dX8_best_141 (tgt := 146) (by decide) ?_
              have eqr : op_best (d, k, hk, fo, tape, tp, bits, sz, num) a b n = ((-1000000004), (d, k, hk, fnd fo 3, tape, tp, bits, sz, num)) := by unfold op_best; dsimp only; rw [if_pos (And.intro c1 c2), qja, qjb, qn, hR, if_pos (Int32.not_le.mp c4)]
              exact v_iret X r dX8_best_146 (Nat.le_refl _) (Nat.le_refl _) ⟨by rw [eqr], by rw [eqr]; exact (MW_fo (MW_ob (MW_e hM _) _ _ _ _ _ _ _ _ _ _) _)⟩
          · have hqn : q < 6 := by
              rcases Nat.lt_or_ge q 6 with z | z
              · exact z
              · exact absurd (show (6 : Int32) ≤ nI q from nI_le z (by omega)) c3
            refine v_aload_n X dX8_best_44 0 rfl ?_
            refine v_get X fX8_9 hU_s rfl dX8_best_45 ?_
            refine v_aload_n X dX8_best_48 0 rfl ?_
            refine v_get X fX8_13 hU_s rfl dX8_best_49 ?_
            refine v_cSv X [.ref (A 0), .ref (A 1)] sX8_150 (ct_X8_copies ll g  ((hU_n ne_3).trans ((hU_n n01).trans m1)) ((hU_n ne_4).trans hU_s) n01) dX8_best_52 rfl rfl ⟨rfl, rfl⟩ ⟨(Nat.le_of_ble_eq_true rfl), (Nat.le_of_ble_eq_true rfl)⟩ ⟨Nat.zero_le _, Nat.zero_le _⟩ (Nat.le_of_ble_eq_true rfl) ?_
            refine v_eqh (h2 := (hU (hU h (A 1) (ai g 260 d)) t (ob 8 [.ref (A 0), .ref (A 1), .ref (A 2), .int hk, .ref (A 3), .int s0, .int s1, .ref (A 4), .int tp, .int pp, .int fr, .int tk, .int wd, .int vl, .int wr, .ref (A 5), .ref (A 6), .ref (A 7), .ref (A 8)]))) (hU_u2 (Ne.symm ne_4)) ?_
            refine v_aload_n X dX8_best_55 0 rfl ?_
            refine v_get X fX8_13 hU_s rfl dX8_best_56 ?_
            refine v_bipush X dX8_best_59 (v := 40) (by decide) ?_
            refine v_bipush X dX8_best_61 (v := 8) (by decide) ?_
            refine v_iload_n X dX8_best_63 1 rfl ?_
            refine v_imul X dX8_best_64 ?_
            refine v_iadd X dX8_best_65 ?_
            refine v_iconst X dX8_best_66 (v := 0) (by decide) ?_
            refine v_iadd X dX8_best_67 ?_
            refine v_iload X dX8_best_68 6 rfl ?_
            refine v_iastK (h2 := (hU (hU h (A 1) (ai g 260 (upd d ((40 + (8 * ja)) + 0) (nI q)))) t (ob 8 [.ref (A 0), .ref (A 1), .ref (A 2), .int hk, .ref (A 3), .int s0, .int s1, .ref (A 4), .int tp, .int pp, .int fr, .int tk, .int wd, .int vl, .int wr, .ref (A 5), .ref (A 6), .ref (A 7), .ref (A 8)]))) X ((40 + (8 * ja)) + 0) ((hU_n ne_4).trans hU_s) (ix_add (ix_add (rfl : (40 : Int32) = nI 40) (ix_mul (rfl : (8 : Int32) = nI 8) eja)) (rfl : (0 : Int32) = nI 0)) (by omega) (by decide) dX8_best_70 (hU_u2 (Ne.symm ne_4)) ?_
            refine v_aload_n X dX8_best_71 0 rfl ?_
            refine v_iload_n X dX8_best_72 1 rfl ?_
            refine v_iload_n X dX8_best_73 2 rfl ?_
            refine v_iload_n X dX8_best_74 3 rfl ?_
            refine v_cVi X [.int a, .int b, .int n] sX8_154 (ct_X8_boutAhead (p0 := ja) (p1 := jb) (nn := nn) ll g  hU_s ((hU_n ne_4).trans hU_s) eja ejb en (by omega) (hAk ja jb q hja hjb hab hqn)) hU_s rfl dX8_best_75 rfl rfl ⟨rfl, rfl⟩ ⟨(Nat.le_of_ble_eq_true rfl), (Nat.le_of_ble_eq_true rfl)⟩ ⟨Nat.zero_le _, Nat.zero_le _⟩ (Nat.le_of_ble_eq_true rfl) ?_
            refine v_eqh (h2 := (hU (hU h (A 1) (ai g 260 ((ahR (upd d ((40 + (8 * ja)) + 0) (nI q)) ja jb nn).1))) t (ob 8 [.ref (A 0), .ref (A 1), .ref (A 2), .int hk, .ref (A 3), .int ((ahS (upd d ((40 + (8 * ja)) + 0) (nI q)) ja jb nn).2.2.1), .int ((ahS (upd d ((40 + (8 * ja)) + 0) (nI q)) ja jb nn).2.2.2), .ref (A 4), .int tp, .int pp, .int fr, .int tk, .int wd, .int vl, .int wr, .ref (A 5), .ref (A 6), .ref (A 7), .ref (A 8)]))) (Eq.trans (congrArg (fun z => hU (z) t (ob 8 [.ref (A 0), .ref (A 1), .ref (A 2), .int hk, .ref (A 3), .int ((ahS (upd d ((40 + (8 * ja)) + 0) (nI q)) ja jb nn).2.2.1), .int ((ahS (upd d ((40 + (8 * ja)) + 0) (nI q)) ja jb nn).2.2.2), .ref (A 4), .int tp, .int pp, .int fr, .int tk, .int wd, .int vl, .int wr, .ref (A 5), .ref (A 6), .ref (A 7), .ref (A 8)])) (hU_u2 (Ne.symm ne_4))) hU_u) ?_
            refine v_iconst X dX8_best_78 (v := 2) (by decide) ?_
            have J1 : VJ K 0 0 (hU (hU h (A 1) (ai g 260 ((ahR (upd d ((40 + (8 * ja)) + 0) (nI q)) ja jb nn).1))) t (ob 8 [.ref (A 0), .ref (A 1), .ref (A 2), .int hk, .ref (A 3), .int ((ahS (upd d ((40 + (8 * ja)) + 0) (nI q)) ja jb nn).2.2.1), .int ((ahS (upd d ((40 + (8 * ja)) + 0) (nI q)) ja jb nn).2.2.2), .ref (A 4), .int tp, .int pp, .int fr, .int tk, .int wd, .int vl, .int wr, .ref (A 5), .ref (A 6), .ref (A 7), .ref (A 8)])) 87 [(0, .ref t), (1, .int a), (2, .int b), (3, .int n), (4, .int bs), (5, .int ls), (6, .int (nI q))] [.int (bI ((ahR (kAt d ja 0 q) ja jb nn).2 = 2))] := by
              refine v_istore (lv1 := [(7, .int (bI ((ahR (kAt d ja 0 q) ja jb nn).2 = 2))), (0, .ref t), (1, .int a), (2, .int b), (3, .int n), (4, .int bs), (5, .int ls), (6, .int (nI q))]) X dX8_best_87 (by decide) rfl ?_
              refine v_iload X dX8_best_89 0 rfl ?_
              refine v_ifb_eq X dX8_best_91 (tgt := 124) (by decide) (fun c5 => ?_) (fun c5 => ?_)
              · refine v_iinc (v := (nI q) + 1) (lv1 := [(6, .int ((nI q) + 1)), (7, .int (bI ((ahR (kAt d ja 0 q) ja jb nn).2 = 2))), (0, .ref t), (1, .int a), (2, .int b), (3, .int n), (4, .int bs), (5, .int ls)]) X dX8_best_124 7 rfl rfl (by decide) rfl ?_
                refine v_goto X dX8_best_127 (tgt := 37) (by decide) ?_
                refine v_lv (lv2 := [(0, .ref t), (1, .int a), (2, .int b), (3, .int n), (4, .int bs), (5, .int ls), (6, .int ((nI q) + 1))]) [2, 3, 4, 5, 6, 7, 0] rfl ?_
                refine v_eqv (lv2 := [(0, .ref t), (1, .int a), (2, .int b), (3, .int n), (4, .int bs), (5, .int ls), (6, .int (nI (q + 1)))]) (by rw [nI_1]) ?_
                exact ih37 (q + 1) ((ahR (upd d ((40 + (8 * ja)) + 0) (nI q)) ja jb nn).1) ((ahS (upd d ((40 + (8 * ja)) + 0) (nI q)) ja jb nn).2.2.1) ((ahS (upd d ((40 + (8 * ja)) + 0) (nI q)) ja jb nn).2.2.2) bs ls (by omega) ((bestF_s hq hqn).2 (fun q => c5 q.1)) (by omega)
              · refine v_iload X dX8_best_94 5 rfl ?_
                refine v_if_lt X dX8_best_96 (tgt := 111) (by decide) (fun c6 => ?_) (fun c6 => ?_)
                · refine v_iload X dX8_best_111 7 rfl ?_
                  refine v_istore (lv1 := [(4, .int (nI q)), (7, .int (bI ((ahR (kAt d ja 0 q) ja jb nn).2 = 2))), (0, .ref t), (1, .int a), (2, .int b), (3, .int n), (5, .int ls), (6, .int (nI q))]) X dX8_best_113 (by decide) rfl ?_
                  refine v_aload_n X dX8_best_115 2 rfl ?_
                  refine v_get X fX8_13 hU_s rfl dX8_best_116 ?_
                  refine v_bipush X dX8_best_119 (v := 6) (by decide) ?_
                  refine v_ialdK X 6 ((hU_n ne_4).trans hU_s) (rfl : (6 : Int32) = nI 6) (by decide) (by decide) dX8_best_121 ?_
                  refine v_istore (lv1 := [(5, .int (((ahR (upd d ((40 + (8 * ja)) + 0) (nI q)) ja jb nn).1) 6)), (4, .int (nI q)), (7, .int (bI ((ahR (kAt d ja 0 q) ja jb nn).2 = 2))), (0, .ref t), (1, .int a), (2, .int b), (3, .int n), (6, .int (nI q))]) X dX8_best_122 (by decide) rfl ?_
                  refine v_iinc (v := (nI q) + 1) (lv1 := [(6, .int ((nI q) + 1)), (5, .int (((ahR (upd d ((40 + (8 * ja)) + 0) (nI q)) ja jb nn).1) 6)), (4, .int (nI q)), (7, .int (bI ((ahR (kAt d ja 0 q) ja jb nn).2 = 2))), (0, .ref t), (1, .int a), (2, .int b), (3, .int n)]) X dX8_best_124 7 rfl rfl (by decide) rfl ?_
                  refine v_goto X dX8_best_127 (tgt := 37) (by decide) ?_
                  refine v_lv (lv2 := [(0, .ref t), (1, .int a), (2, .int b), (3, .int n), (4, .int (nI q)), (5, .int (((ahR (upd d ((40 + (8 * ja)) + 0) (nI q)) ja jb nn).1) 6)), (6, .int ((nI q) + 1))]) [4, 5, 6, 7, 2, 1, 0] rfl ?_
                  refine v_eqv (lv2 := [(0, .ref t), (1, .int a), (2, .int b), (3, .int n), (4, .int (nI q)), (5, .int (((ahR (upd d ((40 + (8 * ja)) + 0) (nI q)) ja jb nn).1) 6)), (6, .int (nI (q + 1)))]) (by rw [nI_1]) ?_
                  exact ih37 (q + 1) ((ahR (upd d ((40 + (8 * ja)) + 0) (nI q)) ja jb nn).1) ((ahS (upd d ((40 + (8 * ja)) + 0) (nI q)) ja jb nn).2.2.1) ((ahS (upd d ((40 + (8 * ja)) + 0) (nI q)) ja jb nn).2.2.2) (nI q) (((ahR (upd d ((40 + (8 * ja)) + 0) (nI q)) ja jb nn).1) 6) (by omega) ((bestF_s hq hqn).1 ⟨c5, Or.inl c6⟩) (by omega)
                · refine v_aload_n X dX8_best_99 1 rfl ?_
                  refine v_get X fX8_13 hU_s rfl dX8_best_100 ?_
                  refine v_bipush X dX8_best_103 (v := 6) (by decide) ?_
                  refine v_ialdK X 6 ((hU_n ne_4).trans hU_s) (rfl : (6 : Int32) = nI 6) (by decide) (by decide) dX8_best_105 ?_
                  refine v_iload X dX8_best_106 6 rfl ?_
                  refine v_icmp_ge X dX8_best_108 (tgt := 124) (by decide) (fun c7 => ?_) (fun c7 => ?_)
                  · refine v_iinc (v := (nI q) + 1) (lv1 := [(6, .int ((nI q) + 1)), (7, .int (bI ((ahR (kAt d ja 0 q) ja jb nn).2 = 2))), (0, .ref t), (1, .int a), (2, .int b), (3, .int n), (4, .int bs), (5, .int ls)]) X dX8_best_124 7 rfl rfl (by decide) rfl ?_
                    refine v_goto X dX8_best_127 (tgt := 37) (by decide) ?_
                    refine v_lv (lv2 := [(0, .ref t), (1, .int a), (2, .int b), (3, .int n), (4, .int bs), (5, .int ls), (6, .int ((nI q) + 1))]) [2, 3, 4, 5, 6, 7, 0] rfl ?_
                    refine v_eqv (lv2 := [(0, .ref t), (1, .int a), (2, .int b), (3, .int n), (4, .int bs), (5, .int ls), (6, .int (nI (q + 1)))]) (by rw [nI_1]) ?_
                    exact ih37 (q + 1) ((ahR (upd d ((40 + (8 * ja)) + 0) (nI q)) ja jb nn).1) ((ahS (upd d ((40 + (8 * ja)) + 0) (nI q)) ja jb nn).2.2.1) ((ahS (upd d ((40 + (8 * ja)) + 0) (nI q)) ja jb nn).2.2.2) bs ls (by omega) ((bestF_s hq hqn).2 (fun q => q.2.elim c6 (fun z => absurd z (Int32.not_lt.mpr c7)))) (by omega)
                  · refine v_iload X dX8_best_111 7 rfl ?_
                    refine v_istore (lv1 := [(4, .int (nI q)), (7, .int (bI ((ahR (kAt d ja 0 q) ja jb nn).2 = 2))), (0, .ref t), (1, .int a), (2, .int b), (3, .int n), (5, .int ls), (6, .int (nI q))]) X dX8_best_113 (by decide) rfl ?_
                    refine v_aload_n X dX8_best_115 2 rfl ?_
                    refine v_get X fX8_13 hU_s rfl dX8_best_116 ?_
                    refine v_bipush X dX8_best_119 (v := 6) (by decide) ?_
                    refine v_ialdK X 6 ((hU_n ne_4).trans hU_s) (rfl : (6 : Int32) = nI 6) (by decide) (by decide) dX8_best_121 ?_
                    refine v_istore (lv1 := [(5, .int (((ahR (upd d ((40 + (8 * ja)) + 0) (nI q)) ja jb nn).1) 6)), (4, .int (nI q)), (7, .int (bI ((ahR (kAt d ja 0 q) ja jb nn).2 = 2))), (0, .ref t), (1, .int a), (2, .int b), (3, .int n), (6, .int (nI q))]) X dX8_best_122 (by decide) rfl ?_
                    refine v_iinc (v := (nI q) + 1) (lv1 := [(6, .int ((nI q) + 1)), (5, .int (((ahR (upd d ((40 + (8 * ja)) + 0) (nI q)) ja jb nn).1) 6)), (4, .int (nI q)), (7, .int (bI ((ahR (kAt d ja 0 q) ja jb nn).2 = 2))), (0, .ref t), (1, .int a), (2, .int b), (3, .int n)]) X dX8_best_124 7 rfl rfl (by decide) rfl ?_
                    refine v_goto X dX8_best_127 (tgt := 37) (by decide) ?_
                    refine v_lv (lv2 := [(0, .ref t), (1, .int a), (2, .int b), (3, .int n), (4, .int (nI q)), (5, .int (((ahR (upd d ((40 + (8 * ja)) + 0) (nI q)) ja jb nn).1) 6)), (6, .int ((nI q) + 1))]) [4, 5, 6, 7, 2, 1, 0] rfl ?_
                    refine v_eqv (lv2 := [(0, .ref t), (1, .int a), (2, .int b), (3, .int n), (4, .int (nI q)), (5, .int (((ahR (upd d ((40 + (8 * ja)) + 0) (nI q)) ja jb nn).1) 6)), (6, .int (nI (q + 1)))]) (by rw [nI_1]) ?_
                    exact ih37 (q + 1) ((ahR (upd d ((40 + (8 * ja)) + 0) (nI q)) ja jb nn).1) ((ahS (upd d ((40 + (8 * ja)) + 0) (nI q)) ja jb nn).2.2.1) ((ahS (upd d ((40 + (8 * ja)) + 0) (nI q)) ja jb nn).2.2.2) (nI q) (((ahR (upd d ((40 + (8 * ja)) + 0) (nI q)) ja jb nn).1) 6) (by omega) ((bestF_s hq hqn).1 ⟨c5, Or.inr (Int32.not_le.mp c7)⟩) (by omega)
            refine v_icmp_ne X dX8_best_79 (tgt := 86) (by decide) (fun c8 => ?_) (fun c8 => ?_)
            · refine v_iconst X dX8_best_86 (v := 0) (by decide) ?_
              exact v_eqi (bI_f c8).symm J1
            · refine v_iconst X dX8_best_82 (v := 1) (by decide) ?_
              refine v_goto X dX8_best_83 (tgt := 87) (by decide) ?_
              exact v_eqi (bI_t c8).symm J1
      refine v_lv (lv2 := [(0, .ref t), (1, .int a), (2, .int b), (3, .int n), (4, .int (-1)), (5, .int 0), (6, .int 0)]) [3, 4, 5, 6, 2, 1, 0] rfl ?_
      refine v_eqv (lv2 := [(0, .ref t), (1, .int a), (2, .int b), (3, .int n), (4, .int (-1)), (5, .int 0), (6, .int (nI 0))]) rfl ?_
      refine v_eqh (h2 := hU (hU h (A 1) (ai g 260 e)) t (ob 8 [.ref (A 0), .ref (A 1), .ref (A 2), .int hk, .ref (A 3), .int sw0, .int sw1, .ref (A 4), .int tp, .int pp, .int fr, .int tk, .int wd, .int vl, .int wr, .ref (A 5), .ref (A 6), .ref (A 7), .ref (A 8)])) (by rw [hU_id m2, hU_id m0]) ?_
      exact L37 _ 0 e sw0 sw1 (-1) 0 (by decide) rfl (Nat.lt_succ_self _)
    · refine v_aload_n X dX8_best_21 0 rfl ?_
      refine v_ldc X dX8_best_22 kX8_38 ?_
      refine v_cVi X [.int (-1000000001)] sX8_51 (ct_X8_finds (j := 0) ll g m0 m4 (by decide) (by decide)) m0 rfl dX8_best_24 rfl rfl ⟨rfl, rfl⟩ ⟨(Nat.le_of_ble_eq_true rfl), (Nat.le_of_ble_eq_true rfl)⟩ ⟨Nat.zero_le _, Nat.zero_le _⟩ (Nat.le_of_ble_eq_true rfl) ?_
      have eqr : op_best (d, k, hk, fo, tape, tp, bits, sz, num) a b n = ((-1000000001), (d, k, hk, fnd fo 0, tape, tp, bits, sz, num)) := by unfold op_best; dsimp only; rw [if_neg (fun q : _ ∧ _ => c2 (And.right q))]
      exact v_iret X r dX8_best_27 (Nat.le_refl _) (Nat.le_refl _) ⟨by rw [eqr], by rw [eqr]; exact (MW_fo hM _)⟩
set_option maxHeartbeats 4000000 in
set_option maxRecDepth 100000 in
theorem ct_X8_light (ll : Launch) (g : GT) {h : Hp} {t : Nat} {A : Nat → Nat} {d k fo tape bits sz : Nat → Int32} {num : Nat → Int64} {hk tp : Int32} {np : Nat}  (a : Int32) (b : Int32) (n : Int32) (hM : MW g h t A (d, k, hk, fo, tape, tp, bits, sz, num)) (hn : d 0 = nI np) (hnp : np ≤ 8) (hAk : ∀ a b k : Nat, a < np → b < np → a ≠ b → 1 ≤ k → k < 300 → AOk (kAt d a 1 k) a b) : MC ll g yX8_light cX8_light 5 (some .int) { frames := 5, cells := 0, slots := 0, locals := 200 } [.ref t, .int a, .int b, .int n] h (fun r h2 => r = some (.int (op_light (d, k, hk, fo, tape, tp, bits, sz, num) a b n).1) ∧ MW g h2 t A (op_light (d, k, hk, fo, tape, tp, bits, sz, num) a b n).2) 0 0 := by
  have hM0 := hM
  obtain ⟨e, lf, sw0, sw1, pp, fr, tk, wd, vl, wr, m0, m1, m2, m3, m4, m5, m6, m7, m8, m9, n01, n02, n12, n56⟩ := hM0
  have ne_1 : (A 3) ≠ (A 1) := hneb m4 m2 rfl
  have ne_2 : (A 3) ≠ t := hneb m4 m0 rfl
  have ne_3 : (A 0) ≠ t := hneb m1 m0 rfl
  have ne_4 : (A 1) ≠ t := hneb m2 m0 rfl
  refine mc_of (by decide) (Nat.le_of_ble_eq_true rfl) ?_
  intro K X r
  refine v_eqv (lv2 := [(0, .ref t), (1, .int a), (2, .int b), (3, .int n)]) rfl ?_
  refine v_aload_n X dX8_light_0 0 rfl ?_
  refine v_iload_n X dX8_light_1 1 rfl ?_
  refine v_iload_n X dX8_light_2 2 rfl ?_
  refine v_cVi X [.int a, .int b] sX8_127 (ct_X8_areTwo ll g a b m0 m1) m0 rfl dX8_light_3 rfl rfl ⟨rfl, rfl⟩ ⟨(Nat.le_of_ble_eq_true rfl), (Nat.le_of_ble_eq_true rfl)⟩ ⟨Nat.zero_le _, Nat.zero_le _⟩ (Nat.le_of_ble_eq_true rfl) ?_
  refine v_ifb_eq X dX8_light_6 (tgt := 21) (by decide) (fun c1 => ?_) (fun c1 => ?_)
  · refine v_aload_n X dX8_light_21 0 rfl ?_
    refine v_ldc X dX8_light_22 kX8_38 ?_
    refine v_cVi X [.int (-1000000001)] sX8_51 (ct_X8_finds (j := 0) ll g m0 m4 (by decide) (by decide)) m0 rfl dX8_light_24 rfl rfl ⟨rfl, rfl⟩ ⟨(Nat.le_of_ble_eq_true rfl), (Nat.le_of_ble_eq_true rfl)⟩ ⟨Nat.zero_le _, Nat.zero_le _⟩ (Nat.le_of_ble_eq_true rfl) ?_
    have eqr : op_light (d, k, hk, fo, tape, tp, bits, sz, num) a b n = ((-1000000001), (d, k, hk, fnd fo 0, tape, tp, bits, sz, num)) := by unfold op_light; dsimp only; rw [if_neg (fun q : _ ∧ _ => c1 (And.left q))]
    exact v_iret X r dX8_light_27 (Nat.le_refl _) (Nat.le_refl _) ⟨by rw [eqr], by rw [eqr]; exact (MW_fo hM _)⟩
  · refine v_iload_n X dX8_light_9 3 rfl ?_
    refine v_i2l X dX8_light_10 ?_
    refine v_lconst X dX8_light_11 (v := 1) (by decide) ?_
    refine v_ldc2 X dX8_light_12 kX8_159 ?_
    refine v_cSi X [.long n.toInt64, .long (1 : Int64), .long (100 : Int64)] sX8_39 (ct_X8_in (v := n) (lo := 1) (hi := 100) ll g rfl (by decide) (by decide)) dX8_light_15 rfl rfl ⟨rfl, rfl⟩ ⟨(Nat.le_of_ble_eq_true rfl), (Nat.le_of_ble_eq_true rfl)⟩ ⟨Nat.zero_le _, Nat.zero_le _⟩ (Nat.le_of_ble_eq_true rfl) ?_
    refine v_ifb_ne X dX8_light_18 (tgt := 28) (by decide) (fun c2 => ?_) (fun c2 => ?_)
    · obtain ⟨ja, hja, eja⟩ := wi_n hn (by omega) c1.1
      obtain ⟨jb, hjb, ejb⟩ := wi_n hn (by omega) c1.2.1
      have qja : pr a = ja := ix_cl eja (by omega)
      have qjb : pr b = jb := ix_cl ejb (by omega)
      have hab : ja ≠ jb := fun z => c1.2.2 (by rw [eja, ejb, z])
      obtain ⟨nn, hn1, hn4, en⟩ := wi_1 100 rfl (by decide) c2
      have qn : pr n = nn := ix_cl en (by omega)
      refine v_iconst X dX8_light_28 (v := 1) (by decide) ?_
      refine v_istore (lv1 := [(4, .int 1), (0, .ref t), (1, .int a), (2, .int b), (3, .int n)]) X dX8_light_29 (by decide) rfl ?_
      have L31 : ∀ (N : Nat) (q : Nat) (mm : Nat → Int32) (s0 s1 : Int32), (1 ≤ q) → (q ≤ 300) → (lightF d ja jb nn 1 299 = lightF d ja jb nn q (300 - q)) → 300 - q < N → VJ K 0 0 (hU (hU h (A 1) (ai g 260 mm)) t (ob 8 [.ref (A 0), .ref (A 1), .ref (A 2), .int hk, .ref (A 3), .int s0, .int s1, .ref (A 4), .int tp, .int pp, .int fr, .int tk, .int wd, .int vl, .int wr, .ref (A 5), .ref (A 6), .ref (A 7), .ref (A 8)])) 31 [(0, .ref t), (1, .int a), (2, .int b), (3, .int n), (4, .int (nI q))] [] := by
        intro N
        induction N with
        | zero => intro q mm s0 s1 _ _ _ hm; exact absurd hm (Nat.not_lt_zero _)
        | succ N ih31 =>
          intro q mm s0 s1 hq1 hqq hq hm
          refine v_iload X dX8_light_31 4 rfl ?_
          refine v_sipush X dX8_light_33 (v := 300) (by decide) ?_
          refine v_icmp_ge X dX8_light_36 (tgt := 86) (by decide) (fun c3 => ?_) (fun c3 => ?_)
          · have hR : lightF d ja jb nn 1 299 = -1 := lightF_e hq (fun z => absurd (nI_lt z (by decide)) (Int32.not_lt.mpr c3))
            refine v_aload_n X dX8_light_86 0 rfl ?_
            refine v_ldc X dX8_light_87 kX8_158 ?_
            refine v_cVi X [.int (-1000000004)] sX8_51 (ct_X8_finds (j := 3) ll g hU_s ((hU_n ne_2).trans ((hU_n ne_1).trans m4)) (by decide) (by decide)) hU_s rfl dX8_light_89 rfl rfl ⟨rfl, rfl⟩ ⟨(Nat.le_of_ble_eq_true rfl), (Nat.le_of_ble_eq_true rfl)⟩ ⟨Nat.zero_le _, Nat.zero_le _⟩ (Nat.le_of_ble_eq_true rfl) ?_
            have eqr : op_light (d, k, hk, fo, tape, tp, bits, sz, num) a b n = ((-1000000004), (d, k, hk, fnd fo 3, tape, tp, bits, sz, num)) := by unfold op_light; dsimp only; rw [if_pos (And.intro c1 c2), qja, qjb, qn, hR, if_pos (by decide)]
            exact v_iret X r dX8_light_92 (Nat.le_refl _) (Nat.le_refl _) ⟨by rw [eqr], by rw [eqr]; exact (MW_fo (MW_ob (MW_e hM _) _ _ _ _ _ _ _ _ _ _) _)⟩
          · have hqn : q < 300 := by
              rcases Nat.lt_or_ge q 300 with z | z
              · exact z
              · exact absurd (show (300 : Int32) ≤ nI q from nI_le z (by omega)) c3
            refine v_aload_n X dX8_light_39 0 rfl ?_
            refine v_get X fX8_9 hU_s rfl dX8_light_40 ?_
            refine v_aload_n X dX8_light_43 0 rfl ?_
            refine v_get X fX8_13 hU_s rfl dX8_light_44 ?_
            refine v_cSv X [.ref (A 0), .ref (A 1)] sX8_150 (ct_X8_copies ll g  ((hU_n ne_3).trans ((hU_n n01).trans m1)) ((hU_n ne_4).trans hU_s) n01) dX8_light_47 rfl rfl ⟨rfl, rfl⟩ ⟨(Nat.le_of_ble_eq_true rfl), (Nat.le_of_ble_eq_true rfl)⟩ ⟨Nat.zero_le _, Nat.zero_le _⟩ (Nat.le_of_ble_eq_true rfl) ?_
            refine v_eqh (h2 := (hU (hU h (A 1) (ai g 260 d)) t (ob 8 [.ref (A 0), .ref (A 1), .ref (A 2), .int hk, .ref (A 3), .int s0, .int s1, .ref (A 4), .int tp, .int pp, .int fr, .int tk, .int wd, .int vl, .int wr, .ref (A 5), .ref (A 6), .ref (A 7), .ref (A 8)]))) (hU_u2 (Ne.symm ne_4)) ?_
            refine v_aload_n X dX8_light_50 0 rfl ?_
            refine v_get X fX8_13 hU_s rfl dX8_light_51 ?_
            refine v_bipush X dX8_light_54 (v := 40) (by decide) ?_
            refine v_bipush X dX8_light_56 (v := 8) (by decide) ?_
            refine v_iload_n X dX8_light_58 1 rfl ?_
            refine v_imul X dX8_light_59 ?_
            refine v_iadd X dX8_light_60 ?_
            refine v_iconst X dX8_light_61 (v := 1) (by decide) ?_
            refine v_iadd X dX8_light_62 ?_
            refine v_iload X dX8_light_63 4 rfl ?_
            refine v_iastK (h2 := (hU (hU h (A 1) (ai g 260 (upd d ((40 + (8 * ja)) + 1) (nI q)))) t (ob 8 [.ref (A 0), .ref (A 1), .ref (A 2), .int hk, .ref (A 3), .int s0, .int s1, .ref (A 4), .int tp, .int pp, .int fr, .int tk, .int wd, .int vl, .int wr, .ref (A 5), .ref (A 6), .ref (A 7), .ref (A 8)]))) X ((40 + (8 * ja)) + 1) ((hU_n ne_4).trans hU_s) (ix_add (ix_add (rfl : (40 : Int32) = nI 40) (ix_mul (rfl : (8 : Int32) = nI 8) eja)) (rfl : (1 : Int32) = nI 1)) (by omega) (by decide) dX8_light_65 (hU_u2 (Ne.symm ne_4)) ?_
            refine v_aload_n X dX8_light_66 0 rfl ?_
            refine v_iload_n X dX8_light_67 1 rfl ?_
            refine v_iload_n X dX8_light_68 2 rfl ?_
            refine v_iload_n X dX8_light_69 3 rfl ?_
            refine v_cVi X [.int a, .int b, .int n] sX8_154 (ct_X8_boutAhead (p0 := ja) (p1 := jb) (nn := nn) ll g  hU_s ((hU_n ne_4).trans hU_s) eja ejb en (by omega) (hAk ja jb q hja hjb hab hq1 hqn)) hU_s rfl dX8_light_70 rfl rfl ⟨rfl, rfl⟩ ⟨(Nat.le_of_ble_eq_true rfl), (Nat.le_of_ble_eq_true rfl)⟩ ⟨Nat.zero_le _, Nat.zero_le _⟩ (Nat.le_of_ble_eq_true rfl) ?_
            refine v_eqh (h2 := (hU (hU h (A 1) (ai g 260 ((ahR (upd d ((40 + (8 * ja)) + 1) (nI q)) ja jb nn).1))) t (ob 8 [.ref (A 0), .ref (A 1), .ref (A 2), .int hk, .ref (A 3), .int ((ahS (upd d ((40 + (8 * ja)) + 1) (nI q)) ja jb nn).2.2.1), .int ((ahS (upd d ((40 + (8 * ja)) + 1) (nI q)) ja jb nn).2.2.2), .ref (A 4), .int tp, .int pp, .int fr, .int tk, .int wd, .int vl, .int wr, .ref (A 5), .ref (A 6), .ref (A 7), .ref (A 8)]))) (Eq.trans (congrArg (fun z => hU (z) t (ob 8 [.ref (A 0), .ref (A 1), .ref (A 2), .int hk, .ref (A 3), .int ((ahS (upd d ((40 + (8 * ja)) + 1) (nI q)) ja jb nn).2.2.1), .int ((ahS (upd d ((40 + (8 * ja)) + 1) (nI q)) ja jb nn).2.2.2), .ref (A 4), .int tp, .int pp, .int fr, .int tk, .int wd, .int vl, .int wr, .ref (A 5), .ref (A 6), .ref (A 7), .ref (A 8)])) (hU_u2 (Ne.symm ne_4))) hU_u) ?_
            refine v_iconst X dX8_light_73 (v := 2) (by decide) ?_
            refine v_icmp_ne X dX8_light_74 (tgt := 80) (by decide) (fun c4 => ?_) (fun c4 => ?_)
            · refine v_iinc (v := (nI q) + 1) (lv1 := [(4, .int ((nI q) + 1)), (0, .ref t), (1, .int a), (2, .int b), (3, .int n)]) X dX8_light_80 4 rfl rfl (by decide) rfl ?_
              refine v_goto X dX8_light_83 (tgt := 31) (by decide) ?_
              refine v_lv (lv2 := [(0, .ref t), (1, .int a), (2, .int b), (3, .int n), (4, .int ((nI q) + 1))]) [1, 2, 3, 4, 0] rfl ?_
              refine v_eqv (lv2 := [(0, .ref t), (1, .int a), (2, .int b), (3, .int n), (4, .int (nI (q + 1)))]) (by rw [nI_1]) ?_
              exact ih31 (q + 1) ((ahR (upd d ((40 + (8 * ja)) + 1) (nI q)) ja jb nn).1) ((ahS (upd d ((40 + (8 * ja)) + 1) (nI q)) ja jb nn).2.2.1) ((ahS (upd d ((40 + (8 * ja)) + 1) (nI q)) ja jb nn).2.2.2) (by omega) (by omega) ((lightF_s hq hqn).2 c4) (by omega)
            · refine v_iload X dX8_light_77 4 rfl ?_
              have eqr : op_light (d, k, hk, fo, tape, tp, bits, sz, num) a b n = (nI q, (d, k, hk, fo, tape, tp, bits, sz, num)) := by unfold op_light; dsimp only; rw [if_pos (And.intro c1 c2), qja, qjb, qn, (lightF_s hq hqn).1 c4, if_neg (nI_pos (by omega))]
              exact v_iret X r dX8_light_79 (Nat.le_refl _) (Nat.le_refl _) ⟨by rw [eqr], by rw [eqr]; exact (MW_ob (MW_e hM _) _ _ _ _ _ _ _ _ _ _)⟩
      refine v_lv (lv2 := [(0, .ref t), (1, .int a), (2, .int b), (3, .int n), (4, .int 1)]) [1, 2, 3, 4, 0] rfl ?_
      refine v_eqv (lv2 := [(0, .ref t), (1, .int a), (2, .int b), (3, .int n), (4, .int (nI 1))]) rfl ?_
      refine v_eqh (h2 := hU (hU h (A 1) (ai g 260 e)) t (ob 8 [.ref (A 0), .ref (A 1), .ref (A 2), .int hk, .ref (A 3), .int sw0, .int sw1, .ref (A 4), .int tp, .int pp, .int fr, .int tk, .int wd, .int vl, .int wr, .ref (A 5), .ref (A 6), .ref (A 7), .ref (A 8)])) (by rw [hU_id m2, hU_id m0]) ?_
      exact L31 _ 1 e sw0 sw1 (by decide) (by decide) rfl (Nat.lt_succ_self _)
    · refine v_aload_n X dX8_light_21 0 rfl ?_
      refine v_ldc X dX8_light_22 kX8_38 ?_
      refine v_cVi X [.int (-1000000001)] sX8_51 (ct_X8_finds (j := 0) ll g m0 m4 (by decide) (by decide)) m0 rfl dX8_light_24 rfl rfl ⟨rfl, rfl⟩ ⟨(Nat.le_of_ble_eq_true rfl), (Nat.le_of_ble_eq_true rfl)⟩ ⟨Nat.zero_le _, Nat.zero_le _⟩ (Nat.le_of_ble_eq_true rfl) ?_
      have eqr : op_light (d, k, hk, fo, tape, tp, bits, sz, num) a b n = ((-1000000001), (d, k, hk, fnd fo 0, tape, tp, bits, sz, num)) := by unfold op_light; dsimp only; rw [if_neg (fun q : _ ∧ _ => c2 (And.right q))]
      exact v_iret X r dX8_light_27 (Nat.le_refl _) (Nat.le_refl _) ⟨by rw [eqr], by rw [eqr]; exact (MW_fo hM _)⟩
set_option maxHeartbeats 4000000 in
set_option maxRecDepth 100000 in
theorem ct_X8_late (ll : Launch) (g : GT) {h : Hp} {t : Nat} {A : Nat → Nat} {d k fo tape bits sz : Nat → Int32} {num : Nat → Int64} {hk tp : Int32} {np : Nat}  (a : Int32) (b : Int32) (n : Int32) (hM : MW g h t A (d, k, hk, fo, tape, tp, bits, sz, num)) (hn : d 0 = nI np) (hnp : np ≤ 8) (hAk : ∀ a b k : Nat, a < np → b < np → a ≠ b → k < 10 → AOk (kAt d a 2 k) a b) : MC ll g yX8_late cX8_late 5 (some .int) { frames := 5, cells := 0, slots := 0, locals := 200 } [.ref t, .int a, .int b, .int n] h (fun r h2 => r = some (.int (op_late (d, k, hk, fo, tape, tp, bits, sz, num) a b n).1) ∧ MW g h2 t A (op_late (d, k, hk, fo, tape, tp, bits, sz, num) a b n).2) 0 0 := by
  have hM0 := hM
  obtain ⟨e, lf, sw0, sw1, pp, fr, tk, wd, vl, wr, m0, m1, m2, m3, m4, m5, m6, m7, m8, m9, n01, n02, n12, n56⟩ := hM0
  have ne_1 : (A 3) ≠ (A 1) := hneb m4 m2 rfl
  have ne_2 : (A 3) ≠ t := hneb m4 m0 rfl
  have ne_3 : (A 0) ≠ t := hneb m1 m0 rfl
  have ne_4 : (A 1) ≠ t := hneb m2 m0 rfl
  refine mc_of (by decide) (Nat.le_of_ble_eq_true rfl) ?_
  intro K X r
  refine v_eqv (lv2 := [(0, .ref t), (1, .int a), (2, .int b), (3, .int n)]) rfl ?_
  refine v_aload_n X dX8_late_0 0 rfl ?_
  refine v_iload_n X dX8_late_1 1 rfl ?_
  refine v_iload_n X dX8_late_2 2 rfl ?_
  refine v_cVi X [.int a, .int b] sX8_127 (ct_X8_areTwo ll g a b m0 m1) m0 rfl dX8_late_3 rfl rfl ⟨rfl, rfl⟩ ⟨(Nat.le_of_ble_eq_true rfl), (Nat.le_of_ble_eq_true rfl)⟩ ⟨Nat.zero_le _, Nat.zero_le _⟩ (Nat.le_of_ble_eq_true rfl) ?_
  refine v_ifb_eq X dX8_late_6 (tgt := 21) (by decide) (fun c1 => ?_) (fun c1 => ?_)
  · refine v_aload_n X dX8_late_21 0 rfl ?_
    refine v_ldc X dX8_late_22 kX8_38 ?_
    refine v_cVi X [.int (-1000000001)] sX8_51 (ct_X8_finds (j := 0) ll g m0 m4 (by decide) (by decide)) m0 rfl dX8_late_24 rfl rfl ⟨rfl, rfl⟩ ⟨(Nat.le_of_ble_eq_true rfl), (Nat.le_of_ble_eq_true rfl)⟩ ⟨Nat.zero_le _, Nat.zero_le _⟩ (Nat.le_of_ble_eq_true rfl) ?_
    have eqr : op_late (d, k, hk, fo, tape, tp, bits, sz, num) a b n = ((-1000000001), (d, k, hk, fnd fo 0, tape, tp, bits, sz, num)) := by unfold op_late; dsimp only; rw [if_neg (fun q : _ ∧ _ => c1 (And.left q))]
    exact v_iret X r dX8_late_27 (Nat.le_refl _) (Nat.le_refl _) ⟨by rw [eqr], by rw [eqr]; exact (MW_fo hM _)⟩
  · refine v_iload_n X dX8_late_9 3 rfl ?_
    refine v_i2l X dX8_late_10 ?_
    refine v_lconst X dX8_late_11 (v := 1) (by decide) ?_
    refine v_ldc2 X dX8_late_12 kX8_148 ?_
    refine v_cSi X [.long n.toInt64, .long (1 : Int64), .long (200 : Int64)] sX8_39 (ct_X8_in (v := n) (lo := 1) (hi := 200) ll g rfl (by decide) (by decide)) dX8_late_15 rfl rfl ⟨rfl, rfl⟩ ⟨(Nat.le_of_ble_eq_true rfl), (Nat.le_of_ble_eq_true rfl)⟩ ⟨Nat.zero_le _, Nat.zero_le _⟩ (Nat.le_of_ble_eq_true rfl) ?_
    refine v_ifb_ne X dX8_late_18 (tgt := 28) (by decide) (fun c2 => ?_) (fun c2 => ?_)
    · obtain ⟨ja, hja, eja⟩ := wi_n hn (by omega) c1.1
      obtain ⟨jb, hjb, ejb⟩ := wi_n hn (by omega) c1.2.1
      have qja : pr a = ja := ix_cl eja (by omega)
      have qjb : pr b = jb := ix_cl ejb (by omega)
      have hab : ja ≠ jb := fun z => c1.2.2 (by rw [eja, ejb, z])
      obtain ⟨nn, hn1, hn4, en⟩ := wi_1 200 rfl (by decide) c2
      have qn : pr n = nn := ix_cl en (by omega)
      refine v_bipush X dX8_late_28 (v := 9) (by decide) ?_
      refine v_istore (lv1 := [(4, .int 9), (0, .ref t), (1, .int a), (2, .int b), (3, .int n)]) X dX8_late_30 (by decide) rfl ?_
      have L32 : ∀ (N : Nat) (q : Nat) (mm : Nat → Int32) (s0 s1 : Int32), (q ≤ 10) → (lateF d ja jb nn 10 = lateF d ja jb nn q) → q < N → VJ K 0 0 (hU (hU h (A 1) (ai g 260 mm)) t (ob 8 [.ref (A 0), .ref (A 1), .ref (A 2), .int hk, .ref (A 3), .int s0, .int s1, .ref (A 4), .int tp, .int pp, .int fr, .int tk, .int wd, .int vl, .int wr, .ref (A 5), .ref (A 6), .ref (A 7), .ref (A 8)])) 32 [(0, .ref t), (1, .int a), (2, .int b), (3, .int n), (4, .int (latI q))] [] := by
        intro N
        induction N with
        | zero => intro q mm s0 s1 _ _ hm; exact absurd hm (Nat.not_lt_zero _)
        | succ N ih32 =>
          intro q mm s0 s1 hqq hq hm
          refine v_iload X dX8_late_32 4 rfl ?_
          refine v_if_lt X dX8_late_34 (tgt := 85) (by decide) (fun c3 => ?_) (fun c3 => ?_)
          · have hq0 : q = 0 := (lat_0 (by omega)).mp c3
            have hR : lateF d ja jb nn 10 = -1 := by rw [hq, hq0]; rfl
            refine v_aload_n X dX8_late_85 0 rfl ?_
            refine v_ldc X dX8_late_86 kX8_158 ?_
            refine v_cVi X [.int (-1000000004)] sX8_51 (ct_X8_finds (j := 3) ll g hU_s ((hU_n ne_2).trans ((hU_n ne_1).trans m4)) (by decide) (by decide)) hU_s rfl dX8_late_88 rfl rfl ⟨rfl, rfl⟩ ⟨(Nat.le_of_ble_eq_true rfl), (Nat.le_of_ble_eq_true rfl)⟩ ⟨Nat.zero_le _, Nat.zero_le _⟩ (Nat.le_of_ble_eq_true rfl) ?_
            have eqr : op_late (d, k, hk, fo, tape, tp, bits, sz, num) a b n = ((-1000000004), (d, k, hk, fnd fo 3, tape, tp, bits, sz, num)) := by unfold op_late; dsimp only; rw [if_pos (And.intro c1 c2), qja, qjb, qn, hR, if_pos (by decide)]
            exact v_iret X r dX8_late_91 (Nat.le_refl _) (Nat.le_refl _) ⟨by rw [eqr], by rw [eqr]; exact (MW_fo (MW_ob (MW_e hM _) _ _ _ _ _ _ _ _ _ _) _)⟩
          · have hq0 : 0 < q := by
              rcases Nat.eq_zero_or_pos q with z | z
              · exact absurd ((lat_0 (by omega)).mpr z) c3
              · exact z
            refine v_eqv (lv2 := [(0, .ref t), (1, .int a), (2, .int b), (3, .int n), (4, .int (nI (q - 1)))]) (by rw [lat_s hq0]) ?_
            refine v_aload_n X dX8_late_37 0 rfl ?_
            refine v_get X fX8_9 hU_s rfl dX8_late_38 ?_
            refine v_aload_n X dX8_late_41 0 rfl ?_
            refine v_get X fX8_13 hU_s rfl dX8_late_42 ?_
            refine v_cSv X [.ref (A 0), .ref (A 1)] sX8_150 (ct_X8_copies ll g  ((hU_n ne_3).trans ((hU_n n01).trans m1)) ((hU_n ne_4).trans hU_s) n01) dX8_late_45 rfl rfl ⟨rfl, rfl⟩ ⟨(Nat.le_of_ble_eq_true rfl), (Nat.le_of_ble_eq_true rfl)⟩ ⟨Nat.zero_le _, Nat.zero_le _⟩ (Nat.le_of_ble_eq_true rfl) ?_
            refine v_eqh (h2 := (hU (hU h (A 1) (ai g 260 d)) t (ob 8 [.ref (A 0), .ref (A 1), .ref (A 2), .int hk, .ref (A 3), .int s0, .int s1, .ref (A 4), .int tp, .int pp, .int fr, .int tk, .int wd, .int vl, .int wr, .ref (A 5), .ref (A 6), .ref (A 7), .ref (A 8)]))) (hU_u2 (Ne.symm ne_4)) ?_
            refine v_aload_n X dX8_late_48 0 rfl ?_
            refine v_get X fX8_13 hU_s rfl dX8_late_49 ?_
            refine v_bipush X dX8_late_52 (v := 40) (by decide) ?_
            refine v_bipush X dX8_late_54 (v := 8) (by decide) ?_
            refine v_iload_n X dX8_late_56 1 rfl ?_
            refine v_imul X dX8_late_57 ?_
            refine v_iadd X dX8_late_58 ?_
            refine v_iconst X dX8_late_59 (v := 2) (by decide) ?_
            refine v_iadd X dX8_late_60 ?_
            refine v_iload X dX8_late_61 4 rfl ?_
            refine v_iastK (h2 := (hU (hU h (A 1) (ai g 260 (upd d ((40 + (8 * ja)) + 2) (nI (q - 1))))) t (ob 8 [.ref (A 0), .ref (A 1), .ref (A 2), .int hk, .ref (A 3), .int s0, .int s1, .ref (A 4), .int tp, .int pp, .int fr, .int tk, .int wd, .int vl, .int wr, .ref (A 5), .ref (A 6), .ref (A 7), .ref (A 8)]))) X ((40 + (8 * ja)) + 2) ((hU_n ne_4).trans hU_s) (ix_add (ix_add (rfl : (40 : Int32) = nI 40) (ix_mul (rfl : (8 : Int32) = nI 8) eja)) (rfl : (2 : Int32) = nI 2)) (by omega) (by decide) dX8_late_63 (hU_u2 (Ne.symm ne_4)) ?_
            refine v_aload_n X dX8_late_64 0 rfl ?_
            refine v_iload_n X dX8_late_65 1 rfl ?_
            refine v_iload_n X dX8_late_66 2 rfl ?_
            refine v_iload_n X dX8_late_67 3 rfl ?_
            refine v_cVi X [.int a, .int b, .int n] sX8_154 (ct_X8_boutAhead (p0 := ja) (p1 := jb) (nn := nn) ll g  hU_s ((hU_n ne_4).trans hU_s) eja ejb en (by omega) (hAk ja jb (q - 1) hja hjb hab (by omega))) hU_s rfl dX8_late_68 rfl rfl ⟨rfl, rfl⟩ ⟨(Nat.le_of_ble_eq_true rfl), (Nat.le_of_ble_eq_true rfl)⟩ ⟨Nat.zero_le _, Nat.zero_le _⟩ (Nat.le_of_ble_eq_true rfl) ?_
            refine v_eqh (h2 := (hU (hU h (A 1) (ai g 260 ((ahR (upd d ((40 + (8 * ja)) + 2) (nI (q - 1))) ja jb nn).1))) t (ob 8 [.ref (A 0), .ref (A 1), .ref (A 2), .int hk, .ref (A 3), .int ((ahS (upd d ((40 + (8 * ja)) + 2) (nI (q - 1))) ja jb nn).2.2.1), .int ((ahS (upd d ((40 + (8 * ja)) + 2) (nI (q - 1))) ja jb nn).2.2.2), .ref (A 4), .int tp, .int pp, .int fr, .int tk, .int wd, .int vl, .int wr, .ref (A 5), .ref (A 6), .ref (A 7), .ref (A 8)]))) (Eq.trans (congrArg (fun z => hU (z) t (ob 8 [.ref (A 0), .ref (A 1), .ref (A 2), .int hk, .ref (A 3), .int ((ahS (upd d ((40 + (8 * ja)) + 2) (nI (q - 1))) ja jb nn).2.2.1), .int ((ahS (upd d ((40 + (8 * ja)) + 2) (nI (q - 1))) ja jb nn).2.2.2), .ref (A 4), .int tp, .int pp, .int fr, .int tk, .int wd, .int vl, .int wr, .ref (A 5), .ref (A 6), .ref (A 7), .ref (A 8)])) (hU_u2 (Ne.symm ne_4))) hU_u) ?_
            refine v_iconst X dX8_late_71 (v := 2) (by decide) ?_
            refine v_irem X dX8_late_72 (by decide) ?_
            refine v_if_ne X dX8_late_73 (tgt := 79) (by decide) (fun c4 => ?_) (fun c4 => ?_)
            · refine v_eqv (lv2 := [(0, .ref t), (1, .int a), (2, .int b), (3, .int n), (4, .int (latI q))]) (by rw [lat_s hq0]) ?_
              refine v_iinc (v := (latI q) + (-1)) (lv1 := [(4, .int ((latI q) + (-1))), (0, .ref t), (1, .int a), (2, .int b), (3, .int n)]) X dX8_late_79 4 rfl rfl (by decide) rfl ?_
              refine v_goto X dX8_late_82 (tgt := 32) (by decide) ?_
              refine v_lv (lv2 := [(0, .ref t), (1, .int a), (2, .int b), (3, .int n), (4, .int ((latI q) + (-1)))]) [1, 2, 3, 4, 0] rfl ?_
              refine v_eqv (lv2 := [(0, .ref t), (1, .int a), (2, .int b), (3, .int n), (4, .int (latI (q - 1)))]) (by rw [latN hq0]) ?_
              exact ih32 (q - 1) ((ahR (upd d ((40 + (8 * ja)) + 2) (nI (q - 1))) ja jb nn).1) ((ahS (upd d ((40 + (8 * ja)) + 2) (nI (q - 1))) ja jb nn).2.2.1) ((ahS (upd d ((40 + (8 * ja)) + 2) (nI (q - 1))) ja jb nn).2.2.2) (by omega) (lateF_s hq hq0 c4) (by omega)
            · refine v_iload X dX8_late_76 4 rfl ?_
              have eqr : op_late (d, k, hk, fo, tape, tp, bits, sz, num) a b n = (nI (q - 1), (d, k, hk, fo, tape, tp, bits, sz, num)) := by unfold op_late; dsimp only; rw [if_pos (And.intro c1 c2), qja, qjb, qn, lateF_f hq hq0 c4, if_neg (nI_pos (by omega))]
              exact v_iret X r dX8_late_78 (Nat.le_refl _) (Nat.le_refl _) ⟨by rw [eqr], by rw [eqr]; exact (MW_ob (MW_e hM _) _ _ _ _ _ _ _ _ _ _)⟩
      refine v_lv (lv2 := [(0, .ref t), (1, .int a), (2, .int b), (3, .int n), (4, .int 9)]) [1, 2, 3, 4, 0] rfl ?_
      refine v_eqv (lv2 := [(0, .ref t), (1, .int a), (2, .int b), (3, .int n), (4, .int (latI 10))]) rfl ?_
      refine v_eqh (h2 := hU (hU h (A 1) (ai g 260 e)) t (ob 8 [.ref (A 0), .ref (A 1), .ref (A 2), .int hk, .ref (A 3), .int sw0, .int sw1, .ref (A 4), .int tp, .int pp, .int fr, .int tk, .int wd, .int vl, .int wr, .ref (A 5), .ref (A 6), .ref (A 7), .ref (A 8)])) (by rw [hU_id m2, hU_id m0]) ?_
      exact L32 _ 10 e sw0 sw1 (by decide) rfl (Nat.lt_succ_self _)
    · refine v_aload_n X dX8_late_21 0 rfl ?_
      refine v_ldc X dX8_late_22 kX8_38 ?_
      refine v_cVi X [.int (-1000000001)] sX8_51 (ct_X8_finds (j := 0) ll g m0 m4 (by decide) (by decide)) m0 rfl dX8_late_24 rfl rfl ⟨rfl, rfl⟩ ⟨(Nat.le_of_ble_eq_true rfl), (Nat.le_of_ble_eq_true rfl)⟩ ⟨Nat.zero_le _, Nat.zero_le _⟩ (Nat.le_of_ble_eq_true rfl) ?_
      have eqr : op_late (d, k, hk, fo, tape, tp, bits, sz, num) a b n = ((-1000000001), (d, k, hk, fnd fo 0, tape, tp, bits, sz, num)) := by unfold op_late; dsimp only; rw [if_neg (fun q : _ ∧ _ => c2 (And.right q))]
      exact v_iret X r dX8_late_27 (Nat.le_refl _) (Nat.le_refl _) ⟨by rw [eqr], by rw [eqr]; exact (MW_fo hM _)⟩
set_option maxHeartbeats 4000000 in
set_option maxRecDepth 100000 in
theorem ct_X8_beatenBy (ll : Launch) (g : GT) {h : Hp} {t : Nat} {A : Nat → Nat} {d k fo tape bits sz : Nat → Int32} {num : Nat → Int64} {hk tp : Int32} {np jp nn : Nat}  (p : Int32) (n : Int32) (hM : MW g h t A (d, k, hk, fo, tape, tp, bits, sz, num)) (hn : d 0 = nI np) (hnp : np ≤ 8) (hA : ∀ a b : Nat, a < np → b < np → a ≠ b → AOk d a b) (ejp : p = nI jp) (hjp : jp < np) (en : n = nI nn) (hn4 : nn ≤ 100) : MC ll g yX8_beatenBy cX8_beatenBy 5 (some .int) { frames := 5, cells := 0, slots := 0, locals := 200 } [.ref t, .int p, .int n] h (fun r h2 => r = some (.int (beatF d jp nn 0 0 np)) ∧ MW g h2 t A (d, k, hk, fo, tape, tp, bits, sz, num)) 0 0 := by
  have hM0 := hM
  obtain ⟨e, lf, sw0, sw1, pp, fr, tk, wd, vl, wr, m0, m1, m2, m3, m4, m5, m6, m7, m8, m9, n01, n02, n12, n56⟩ := hM0
  have ne_1 : (A 0) ≠ t := hneb m1 m0 rfl
  have ne_2 : (A 1) ≠ t := hneb m2 m0 rfl
  refine mc_of (by decide) (Nat.le_of_ble_eq_true rfl) ?_
  intro K X r
  refine v_eqv (lv2 := [(0, .ref t), (1, .int p), (2, .int n)]) rfl ?_
  refine v_iconst X dX8_beatenBy_0 (v := 0) (by decide) ?_
  refine v_istore_n (lv1 := [(3, .int 0), (0, .ref t), (1, .int p), (2, .int n)]) X dX8_beatenBy_1 (by decide) rfl ?_
  refine v_iconst X dX8_beatenBy_2 (v := 0) (by decide) ?_
  refine v_istore (lv1 := [(4, .int 0), (3, .int 0), (0, .ref t), (1, .int p), (2, .int n)]) X dX8_beatenBy_3 (by decide) rfl ?_
  have L5 : ∀ (N : Nat) (q : Nat) (mm : Nat → Int32) (s0 s1 set : Int32), (q ≤ np) → (beatF d jp nn 0 0 np = beatF d jp nn q set (np - q)) → np - q < N → VJ K 0 0 (hU (hU h (A 1) (ai g 260 mm)) t (ob 8 [.ref (A 0), .ref (A 1), .ref (A 2), .int hk, .ref (A 3), .int s0, .int s1, .ref (A 4), .int tp, .int pp, .int fr, .int tk, .int wd, .int vl, .int wr, .ref (A 5), .ref (A 6), .ref (A 7), .ref (A 8)])) 5 [(0, .ref t), (1, .int p), (2, .int n), (3, .int set), (4, .int (nI q))] [] := by
    intro N
    induction N with
    | zero => intro q mm s0 s1 set _ _ hm; exact absurd hm (Nat.not_lt_zero _)
    | succ N ih5 =>
      intro q mm s0 s1 set hqq hq hm
      refine v_iload X dX8_beatenBy_5 4 rfl ?_
      refine v_aload_n X dX8_beatenBy_7 0 rfl ?_
      refine v_get X fX8_9 hU_s rfl dX8_beatenBy_8 ?_
      refine v_iconst X dX8_beatenBy_11 (v := 0) (by decide) ?_
      refine v_ialdK X 0 ((hU_n ne_1).trans ((hU_n n01).trans m1)) (rfl : (0 : Int32) = nI 0) (by decide) (by decide) dX8_beatenBy_12 ?_
      refine v_icmp_ge X dX8_beatenBy_13 (tgt := 62) (by decide) (fun c1 => ?_) (fun c1 => ?_)
      · have hR : beatF d jp nn 0 0 np = set := beatF_e hq (fun z => absurd (nI_lt z (by omega)) (Int32.not_lt.mpr (by rw [← hn]; exact c1)))
        refine v_iload_n X dX8_beatenBy_62 3 rfl ?_
        exact v_iret X r dX8_beatenBy_63 (Nat.le_refl _) (Nat.le_refl _) ⟨by rw [hR], (MW_ob (MW_e hM _) _ _ _ _ _ _ _ _ _ _)⟩
      · have hqn : q < np := by
          rcases Nat.lt_or_ge q np with z | z
          · exact z
          · exact absurd (by rw [hn]; exact nI_le z (by omega)) c1
        refine v_iload X dX8_beatenBy_16 4 rfl ?_
        refine v_iload_n X dX8_beatenBy_18 1 rfl ?_
        refine v_icmp_eq X dX8_beatenBy_19 (tgt := 56) (by decide) (fun c2 => ?_) (fun c2 => ?_)
        · refine v_iinc (v := (nI q) + 1) (lv1 := [(4, .int ((nI q) + 1)), (0, .ref t), (1, .int p), (2, .int n), (3, .int set)]) X dX8_beatenBy_56 4 rfl rfl (by decide) rfl ?_
          refine v_goto X dX8_beatenBy_59 (tgt := 5) (by decide) ?_
          refine v_lv (lv2 := [(0, .ref t), (1, .int p), (2, .int n), (3, .int set), (4, .int ((nI q) + 1))]) [1, 2, 3, 4, 0] rfl ?_
          refine v_eqv (lv2 := [(0, .ref t), (1, .int p), (2, .int n), (3, .int set), (4, .int (nI (q + 1)))]) (by rw [nI_1]) ?_
          exact ih5 (q + 1) mm s0 s1 set (by omega) ((beatF_s hq hqn).1 ((nI_eq (by omega) (by omega)).mp (by rw [← ejp]; exact c2))) (by omega)
        · have hne : ¬ q = jp := fun z => c2 (by rw [ejp, z])
          refine v_aload_n X dX8_beatenBy_22 0 rfl ?_
          refine v_get X fX8_9 hU_s rfl dX8_beatenBy_23 ?_
          refine v_aload_n X dX8_beatenBy_26 0 rfl ?_
          refine v_get X fX8_13 hU_s rfl dX8_beatenBy_27 ?_
          refine v_cSv X [.ref (A 0), .ref (A 1)] sX8_150 (ct_X8_copies ll g  ((hU_n ne_1).trans ((hU_n n01).trans m1)) ((hU_n ne_2).trans hU_s) n01) dX8_beatenBy_30 rfl rfl ⟨rfl, rfl⟩ ⟨(Nat.le_of_ble_eq_true rfl), (Nat.le_of_ble_eq_true rfl)⟩ ⟨Nat.zero_le _, Nat.zero_le _⟩ (Nat.le_of_ble_eq_true rfl) ?_
          refine v_eqh (h2 := (hU (hU h (A 1) (ai g 260 d)) t (ob 8 [.ref (A 0), .ref (A 1), .ref (A 2), .int hk, .ref (A 3), .int s0, .int s1, .ref (A 4), .int tp, .int pp, .int fr, .int tk, .int wd, .int vl, .int wr, .ref (A 5), .ref (A 6), .ref (A 7), .ref (A 8)]))) (hU_u2 (Ne.symm ne_2)) ?_
          refine v_iload_n X dX8_beatenBy_33 3 rfl ?_
          refine v_aload_n X dX8_beatenBy_34 0 rfl ?_
          refine v_iload_n X dX8_beatenBy_35 1 rfl ?_
          refine v_iload X dX8_beatenBy_36 4 rfl ?_
          refine v_iload_n X dX8_beatenBy_38 2 rfl ?_
          refine v_cVi X [.int p, .int (nI q), .int n] sX8_154 (ct_X8_boutAhead (p0 := jp) (p1 := q) (nn := nn) ll g  hU_s ((hU_n ne_2).trans hU_s) ejp rfl en (by omega) (hA jp q hjp hqn (fun z => hne z.symm))) hU_s rfl dX8_beatenBy_39 rfl rfl ⟨rfl, rfl⟩ ⟨(Nat.le_of_ble_eq_true rfl), (Nat.le_of_ble_eq_true rfl)⟩ ⟨Nat.zero_le _, Nat.zero_le _⟩ (Nat.le_of_ble_eq_true rfl) ?_
          refine v_eqh (h2 := (hU (hU h (A 1) (ai g 260 ((ahR d jp q nn).1))) t (ob 8 [.ref (A 0), .ref (A 1), .ref (A 2), .int hk, .ref (A 3), .int ((ahS d jp q nn).2.2.1), .int ((ahS d jp q nn).2.2.2), .ref (A 4), .int tp, .int pp, .int fr, .int tk, .int wd, .int vl, .int wr, .ref (A 5), .ref (A 6), .ref (A 7), .ref (A 8)]))) (Eq.trans (congrArg (fun z => hU (z) t (ob 8 [.ref (A 0), .ref (A 1), .ref (A 2), .int hk, .ref (A 3), .int ((ahS d jp q nn).2.2.1), .int ((ahS d jp q nn).2.2.2), .ref (A 4), .int tp, .int pp, .int fr, .int tk, .int wd, .int vl, .int wr, .ref (A 5), .ref (A 6), .ref (A 7), .ref (A 8)])) (hU_u2 (Ne.symm ne_2))) hU_u) ?_
          refine v_iconst X dX8_beatenBy_42 (v := 2) (by decide) ?_
          have J1 : VJ K 0 0 (hU (hU h (A 1) (ai g 260 ((ahR d jp q nn).1))) t (ob 8 [.ref (A 0), .ref (A 1), .ref (A 2), .int hk, .ref (A 3), .int ((ahS d jp q nn).2.2.1), .int ((ahS d jp q nn).2.2.2), .ref (A 4), .int tp, .int pp, .int fr, .int tk, .int wd, .int vl, .int wr, .ref (A 5), .ref (A 6), .ref (A 7), .ref (A 8)])) 54 [(0, .ref t), (1, .int p), (2, .int n), (3, .int set), (4, .int (nI q))] [.int (if (ahR d jp q nn).2 = 2 then 1 <<< (nI q &&& 31) else 0), .int set] := by
            refine v_ior X dX8_beatenBy_54 ?_
            refine v_istore_n (lv1 := [(3, .int (set ||| (if (ahR d jp q nn).2 = 2 then 1 <<< (nI q &&& 31) else 0))), (0, .ref t), (1, .int p), (2, .int n), (4, .int (nI q))]) X dX8_beatenBy_55 (by decide) rfl ?_
            refine v_iinc (v := (nI q) + 1) (lv1 := [(4, .int ((nI q) + 1)), (3, .int (set ||| (if (ahR d jp q nn).2 = 2 then 1 <<< (nI q &&& 31) else 0))), (0, .ref t), (1, .int p), (2, .int n)]) X dX8_beatenBy_56 4 rfl rfl (by decide) rfl ?_
            refine v_goto X dX8_beatenBy_59 (tgt := 5) (by decide) ?_
            refine v_lv (lv2 := [(0, .ref t), (1, .int p), (2, .int n), (3, .int (set ||| (if (ahR d jp q nn).2 = 2 then 1 <<< (nI q &&& 31) else 0))), (4, .int ((nI q) + 1))]) [2, 3, 4, 1, 0] rfl ?_
            refine v_eqv (lv2 := [(0, .ref t), (1, .int p), (2, .int n), (3, .int (set ||| (if (ahR d jp q nn).2 = 2 then 1 <<< (nI q &&& 31) else 0))), (4, .int (nI (q + 1)))]) (by rw [nI_1]) ?_
            exact ih5 (q + 1) ((ahR d jp q nn).1) ((ahS d jp q nn).2.2.1) ((ahS d jp q nn).2.2.2) (set ||| (if (ahR d jp q nn).2 = 2 then 1 <<< (nI q &&& 31) else 0)) (by omega) ((beatF_s hq hqn).2 hne) (by omega)
          refine v_icmp_ne X dX8_beatenBy_43 (tgt := 53) (by decide) (fun c3 => ?_) (fun c3 => ?_)
          · refine v_iconst X dX8_beatenBy_53 (v := 0) (by decide) ?_
            exact v_eqi (if_neg c3).symm J1
          · refine v_iconst X dX8_beatenBy_46 (v := 1) (by decide) ?_
            refine v_iload X dX8_beatenBy_47 4 rfl ?_
            refine v_ishl X dX8_beatenBy_49 ?_
            refine v_goto X dX8_beatenBy_50 (tgt := 54) (by decide) ?_
            exact v_eqi (if_pos c3).symm J1
  refine v_lv (lv2 := [(0, .ref t), (1, .int p), (2, .int n), (3, .int 0), (4, .int 0)]) [2, 3, 4, 1, 0] rfl ?_
  refine v_eqv (lv2 := [(0, .ref t), (1, .int p), (2, .int n), (3, .int 0), (4, .int (nI 0))]) rfl ?_
  refine v_eqh (h2 := hU (hU h (A 1) (ai g 260 e)) t (ob 8 [.ref (A 0), .ref (A 1), .ref (A 2), .int hk, .ref (A 3), .int sw0, .int sw1, .ref (A 4), .int tp, .int pp, .int fr, .int tk, .int wd, .int vl, .int wr, .ref (A 5), .ref (A 6), .ref (A 7), .ref (A 8)])) (by rw [hU_id m2, hU_id m0]) ?_
  exact L5 _ 0 e sw0 sw1 0 (Nat.zero_le _) rfl (Nat.lt_succ_self _)
set_option maxHeartbeats 4000000 in
set_option maxRecDepth 100000 in
theorem ct_X8_beats (ll : Launch) (g : GT) {h : Hp} {t : Nat} {A : Nat → Nat} {d k fo tape bits sz : Nat → Int32} {num : Nat → Int64} {hk tp : Int32} {np : Nat}  (p : Int32) (n : Int32) (hM : MW g h t A (d, k, hk, fo, tape, tp, bits, sz, num)) (hn : d 0 = nI np) (hnp : np ≤ 8) (hA : ∀ a b : Nat, a < np → b < np → a ≠ b → AOk d a b) : MC ll g yX8_beats cX8_beats 3 (some .int) { frames := 6, cells := 0, slots := 0, locals := 240 } [.ref t, .int p, .int n] h (fun r h2 => r = some (.int (op_beats (d, k, hk, fo, tape, tp, bits, sz, num) p n).1) ∧ MW g h2 t A (op_beats (d, k, hk, fo, tape, tp, bits, sz, num) p n).2) 0 0 := by
  have hM0 := hM
  obtain ⟨e, lf, sw0, sw1, pp, fr, tk, wd, vl, wr, m0, m1, m2, m3, m4, m5, m6, m7, m8, m9, n01, n02, n12, n56⟩ := hM0
  refine mc_of (by decide) (Nat.le_of_ble_eq_true rfl) ?_
  intro K X r
  refine v_eqv (lv2 := [(0, .ref t), (1, .int p), (2, .int n)]) rfl ?_
  refine v_aload_n X dX8_beats_0 0 rfl ?_
  refine v_iload_n X dX8_beats_1 1 rfl ?_
  refine v_cVi X [.int p] sX8_43 (ct_X8_isPerson ll g p m0 m1) m0 rfl dX8_beats_2 rfl rfl ⟨rfl, rfl⟩ ⟨(Nat.le_of_ble_eq_true rfl), (Nat.le_of_ble_eq_true rfl)⟩ ⟨Nat.zero_le _, Nat.zero_le _⟩ (Nat.le_of_ble_eq_true rfl) ?_
  refine v_ifb_eq X dX8_beats_5 (tgt := 20) (by decide) (fun c1 => ?_) (fun c1 => ?_)
  · refine v_aload_n X dX8_beats_20 0 rfl ?_
    refine v_ldc X dX8_beats_21 kX8_38 ?_
    refine v_cVi X [.int (-1000000001)] sX8_51 (ct_X8_finds (j := 0) ll g m0 m4 (by decide) (by decide)) m0 rfl dX8_beats_23 rfl rfl ⟨rfl, rfl⟩ ⟨(Nat.le_of_ble_eq_true rfl), (Nat.le_of_ble_eq_true rfl)⟩ ⟨Nat.zero_le _, Nat.zero_le _⟩ (Nat.le_of_ble_eq_true rfl) ?_
    have eqr : op_beats (d, k, hk, fo, tape, tp, bits, sz, num) p n = ((-1000000001), (d, k, hk, fnd fo 0, tape, tp, bits, sz, num)) := by unfold op_beats; dsimp only; rw [if_neg (fun q : _ ∧ _ => c1 (And.left q))]
    exact v_iret X r dX8_beats_26 (Nat.le_refl _) (Nat.le_refl _) ⟨by rw [eqr], by rw [eqr]; exact (MW_fo hM _)⟩
  · refine v_iload_n X dX8_beats_8 2 rfl ?_
    refine v_i2l X dX8_beats_9 ?_
    refine v_lconst X dX8_beats_10 (v := 1) (by decide) ?_
    refine v_ldc2 X dX8_beats_11 kX8_159 ?_
    refine v_cSi X [.long n.toInt64, .long (1 : Int64), .long (100 : Int64)] sX8_39 (ct_X8_in (v := n) (lo := 1) (hi := 100) ll g rfl (by decide) (by decide)) dX8_beats_14 rfl rfl ⟨rfl, rfl⟩ ⟨(Nat.le_of_ble_eq_true rfl), (Nat.le_of_ble_eq_true rfl)⟩ ⟨Nat.zero_le _, Nat.zero_le _⟩ (Nat.le_of_ble_eq_true rfl) ?_
    refine v_ifb_ne X dX8_beats_17 (tgt := 27) (by decide) (fun c2 => ?_) (fun c2 => ?_)
    · obtain ⟨jp, hjp, ejp⟩ := wi_n hn (by omega) c1
      have qjp : pr p = jp := ix_cl ejp (by omega)
      obtain ⟨nn, hn1, hn4, en⟩ := wi_1 100 rfl (by decide) c2
      have qn : pr n = nn := ix_cl en (by omega)
      have qd : pr (d 0) = np := ix_cl hn (by omega)
      refine v_aload_n X dX8_beats_27 0 rfl ?_
      refine v_iload_n X dX8_beats_28 1 rfl ?_
      refine v_iload_n X dX8_beats_29 2 rfl ?_
      refine v_cV X (av := [.int p, .int n]) sX8_161 (ct_X8_beatenBy (jp := jp) (nn := nn) ll g p n hM hn hnp hA ejp hjp en (by omega)) m0 rfl dX8_beats_30 rfl rfl ⟨rfl, rfl⟩ ⟨(Nat.le_of_ble_eq_true rfl), (Nat.le_of_ble_eq_true rfl)⟩ ⟨Nat.zero_le _, Nat.zero_le _⟩ (Nat.le_of_ble_eq_true rfl) (fun r_ hh3 q_ => ?_)
      obtain ⟨q_1, q_2⟩ := q_
      subst q_1
      have hMx := q_2
      obtain ⟨e, lf, sw0, sw1, pp, fr, tk, wd, vl, wr, m0, m1, m2, m3, m4, m5, m6, m7, m8, m9, -, -, -, -⟩ := hMx
      have eqr : op_beats (d, k, hk, fo, tape, tp, bits, sz, num) p n = (beatF d jp nn 0 0 np, (d, k, hk, fo, tape, tp, bits, sz, num)) := by unfold op_beats; dsimp only; rw [if_pos (And.intro c1 c2), qjp, qn, qd]
      exact v_iret X r dX8_beats_33 (Nat.le_refl _) (Nat.le_refl _) ⟨by rw [eqr], by rw [eqr]; exact q_2⟩
    · refine v_aload_n X dX8_beats_20 0 rfl ?_
      refine v_ldc X dX8_beats_21 kX8_38 ?_
      refine v_cVi X [.int (-1000000001)] sX8_51 (ct_X8_finds (j := 0) ll g m0 m4 (by decide) (by decide)) m0 rfl dX8_beats_23 rfl rfl ⟨rfl, rfl⟩ ⟨(Nat.le_of_ble_eq_true rfl), (Nat.le_of_ble_eq_true rfl)⟩ ⟨Nat.zero_le _, Nat.zero_le _⟩ (Nat.le_of_ble_eq_true rfl) ?_
      have eqr : op_beats (d, k, hk, fo, tape, tp, bits, sz, num) p n = ((-1000000001), (d, k, hk, fnd fo 0, tape, tp, bits, sz, num)) := by unfold op_beats; dsimp only; rw [if_neg (fun q : _ ∧ _ => c2 (And.right q))]
      exact v_iret X r dX8_beats_26 (Nat.le_refl _) (Nat.le_refl _) ⟨by rw [eqr], by rw [eqr]; exact (MW_fo hM _)⟩
set_option maxHeartbeats 4000000 in
set_option maxRecDepth 100000 in
theorem ct_X8_five (ll : Launch) (g : GT) {h : Hp} {t : Nat} {A : Nat → Nat} {d k fo tape bits sz : Nat → Int32} {num : Nat → Int64} {hk tp : Int32} {np : Nat}  (a : Int32) (b : Int32) (n : Int32) (hM : MW g h t A (d, k, hk, fo, tape, tp, bits, sz, num)) (hn : d 0 = nI np) (hnp : np ≤ 8) (hA : ∀ a b : Nat, a < np → b < np → a ≠ b → AOk d a b) : MC ll g yX8_five cX8_five 8 (some .int) { frames := 5, cells := 0, slots := 0, locals := 200 } [.ref t, .int a, .int b, .int n] h (fun r h2 => r = some (.int (op_five (d, k, hk, fo, tape, tp, bits, sz, num) a b n).1) ∧ MW g h2 t A (op_five (d, k, hk, fo, tape, tp, bits, sz, num) a b n).2) 0 0 := by
  have hM0 := hM
  obtain ⟨e, lf, sw0, sw1, pp, fr, tk, wd, vl, wr, m0, m1, m2, m3, m4, m5, m6, m7, m8, m9, n01, n02, n12, n56⟩ := hM0
  have ne_1 : (A 1) ≠ t := hneb m2 m0 rfl
  refine mc_of (by decide) (Nat.le_of_ble_eq_true rfl) ?_
  intro K X r
  refine v_eqv (lv2 := [(0, .ref t), (1, .int a), (2, .int b), (3, .int n)]) rfl ?_
  refine v_aload_n X dX8_five_0 0 rfl ?_
  refine v_iload_n X dX8_five_1 1 rfl ?_
  refine v_iload_n X dX8_five_2 2 rfl ?_
  refine v_cVi X [.int a, .int b] sX8_127 (ct_X8_areTwo ll g a b m0 m1) m0 rfl dX8_five_3 rfl rfl ⟨rfl, rfl⟩ ⟨(Nat.le_of_ble_eq_true rfl), (Nat.le_of_ble_eq_true rfl)⟩ ⟨Nat.zero_le _, Nat.zero_le _⟩ (Nat.le_of_ble_eq_true rfl) ?_
  refine v_ifb_eq X dX8_five_6 (tgt := 21) (by decide) (fun c1 => ?_) (fun c1 => ?_)
  · refine v_aload_n X dX8_five_21 0 rfl ?_
    refine v_ldc X dX8_five_22 kX8_38 ?_
    refine v_cVi X [.int (-1000000001)] sX8_51 (ct_X8_finds (j := 0) ll g m0 m4 (by decide) (by decide)) m0 rfl dX8_five_24 rfl rfl ⟨rfl, rfl⟩ ⟨(Nat.le_of_ble_eq_true rfl), (Nat.le_of_ble_eq_true rfl)⟩ ⟨Nat.zero_le _, Nat.zero_le _⟩ (Nat.le_of_ble_eq_true rfl) ?_
    have eqr : op_five (d, k, hk, fo, tape, tp, bits, sz, num) a b n = ((-1000000001), (d, k, hk, fnd fo 0, tape, tp, bits, sz, num)) := by unfold op_five; dsimp only; rw [if_neg (fun q : _ ∧ _ => c1 (And.left q))]
    exact v_iret X r dX8_five_27 (Nat.le_refl _) (Nat.le_refl _) ⟨by rw [eqr], by rw [eqr]; exact (MW_fo hM _)⟩
  · refine v_iload_n X dX8_five_9 3 rfl ?_
    refine v_i2l X dX8_five_10 ?_
    refine v_lconst X dX8_five_11 (v := 1) (by decide) ?_
    refine v_ldc2 X dX8_five_12 kX8_159 ?_
    refine v_cSi X [.long n.toInt64, .long (1 : Int64), .long (100 : Int64)] sX8_39 (ct_X8_in (v := n) (lo := 1) (hi := 100) ll g rfl (by decide) (by decide)) dX8_five_15 rfl rfl ⟨rfl, rfl⟩ ⟨(Nat.le_of_ble_eq_true rfl), (Nat.le_of_ble_eq_true rfl)⟩ ⟨Nat.zero_le _, Nat.zero_le _⟩ (Nat.le_of_ble_eq_true rfl) ?_
    refine v_ifb_ne X dX8_five_18 (tgt := 28) (by decide) (fun c2 => ?_) (fun c2 => ?_)
    · obtain ⟨ja, hja, eja⟩ := wi_n hn (by omega) c1.1
      obtain ⟨jb, hjb, ejb⟩ := wi_n hn (by omega) c1.2.1
      have qja : pr a = ja := ix_cl eja (by omega)
      have qjb : pr b = jb := ix_cl ejb (by omega)
      have hab : ja ≠ jb := fun z => c1.2.2 (by rw [eja, ejb, z])
      obtain ⟨nn, hn1, hn4, en⟩ := wi_1 100 rfl (by decide) c2
      have qn : pr n = nn := ix_cl en (by omega)
      refine v_aload_n X dX8_five_28 0 rfl ?_
      refine v_get X fX8_9 m0 rfl dX8_five_29 ?_
      refine v_aload_n X dX8_five_32 0 rfl ?_
      refine v_get X fX8_13 m0 rfl dX8_five_33 ?_
      refine v_cSv X [.ref (A 0), .ref (A 1)] sX8_150 (ct_X8_copies ll g  m1 m2 n01) dX8_five_36 rfl rfl ⟨rfl, rfl⟩ ⟨(Nat.le_of_ble_eq_true rfl), (Nat.le_of_ble_eq_true rfl)⟩ ⟨Nat.zero_le _, Nat.zero_le _⟩ (Nat.le_of_ble_eq_true rfl) ?_
      refine v_iconst X dX8_five_39 (v := 0) (by decide) ?_
      refine v_istore (lv1 := [(4, .int 0), (0, .ref t), (1, .int a), (2, .int b), (3, .int n)]) X dX8_five_40 (by decide) rfl ?_
      refine v_iconst X dX8_five_42 (v := 0) (by decide) ?_
      refine v_istore (lv1 := [(5, .int 0), (4, .int 0), (0, .ref t), (1, .int a), (2, .int b), (3, .int n)]) X dX8_five_43 (by decide) rfl ?_
      refine v_iconst X dX8_five_45 (v := 0) (by decide) ?_
      refine v_istore (lv1 := [(6, .int 0), (5, .int 0), (4, .int 0), (0, .ref t), (1, .int a), (2, .int b), (3, .int n)]) X dX8_five_46 (by decide) rfl ?_
      have L48 : ∀ (N : Nat) (q : Nat) (mm : Nat → Int32) (s0 s1 x y : Int32), (q ≤ 5) → (AOk mm ja jb) → (fiveF ja jb nn d 0 0 5 = fiveF ja jb nn mm x y (5 - q)) → 5 - q < N → VJ K 0 0 (hU (hU h (A 1) (ai g 260 mm)) t (ob 8 [.ref (A 0), .ref (A 1), .ref (A 2), .int hk, .ref (A 3), .int s0, .int s1, .ref (A 4), .int tp, .int pp, .int fr, .int tk, .int wd, .int vl, .int wr, .ref (A 5), .ref (A 6), .ref (A 7), .ref (A 8)])) 48 [(0, .ref t), (1, .int a), (2, .int b), (3, .int n), (4, .int x), (5, .int y), (6, .int (nI q))] [] := by
        intro N
        induction N with
        | zero => intro q mm s0 s1 x y _ _ _ hm; exact absurd hm (Nat.not_lt_zero _)
        | succ N ih48 =>
          intro q mm s0 s1 x y hqq hB hq hm
          refine v_iload X dX8_five_48 6 rfl ?_
          refine v_iconst X dX8_five_50 (v := 5) (by decide) ?_
          refine v_icmp_ge X dX8_five_51 (tgt := 99) (by decide) (fun c3 => ?_) (fun c3 => ?_)
          · have hR : fiveF ja jb nn d 0 0 5 = (x, y) := fiveF_e hq (Or.inl (fun z => absurd (nI_lt z (by decide)) (Int32.not_lt.mpr c3)))
            refine v_iload X dX8_five_99 4 rfl ?_
            refine v_iconst X dX8_five_101 (v := 3) (by decide) ?_
            refine v_icmp_lt X dX8_five_102 (tgt := 115) (by decide) (fun c4 => ?_) (fun c4 => ?_)
            · refine v_iload X dX8_five_115 5 rfl ?_
              refine v_iconst X dX8_five_117 (v := 3) (by decide) ?_
              refine v_icmp_lt X dX8_five_118 (tgt := 131) (by decide) (fun c5 => ?_) (fun c5 => ?_)
              · refine v_iconst X dX8_five_131 (v := 0) (by decide) ?_
                have eqr : op_five (d, k, hk, fo, tape, tp, bits, sz, num) a b n = (0, (d, k, hk, fo, tape, tp, bits, sz, num)) := by unfold op_five; dsimp only; rw [if_pos (And.intro c1 c2), qja, qjb, qn, hR, fiveV_eq, if_neg (Int32.not_le.mpr c4), if_neg (Int32.not_le.mpr c5)]
                exact v_iret X r dX8_five_132 (Nat.le_refl _) (Nat.le_refl _) ⟨by rw [eqr], by rw [eqr]; exact (MW_ob (MW_e hM _) _ _ _ _ _ _ _ _ _ _)⟩
              · refine v_iload X dX8_five_121 4 rfl ?_
                refine v_iconst X dX8_five_123 (v := 3) (by decide) ?_
                refine v_icmp_ge X dX8_five_124 (tgt := 131) (by decide) (fun c6 => ?_) (fun c6 => ?_)
                · refine v_iconst X dX8_five_131 (v := 0) (by decide) ?_
                  have eqr : op_five (d, k, hk, fo, tape, tp, bits, sz, num) a b n = (0, (d, k, hk, fo, tape, tp, bits, sz, num)) := by exact absurd c6 (Int32.not_le.mpr c4)
                  exact v_iret X r dX8_five_132 (Nat.le_refl _) (Nat.le_refl _) ⟨by rw [eqr], by rw [eqr]; exact (MW_ob (MW_e hM _) _ _ _ _ _ _ _ _ _ _)⟩
                · refine v_iconst X dX8_five_127 (v := 2) (by decide) ?_
                  refine v_goto X dX8_five_128 (tgt := 132) (by decide) ?_
                  have eqr : op_five (d, k, hk, fo, tape, tp, bits, sz, num) a b n = (2, (d, k, hk, fo, tape, tp, bits, sz, num)) := by unfold op_five; dsimp only; rw [if_pos (And.intro c1 c2), qja, qjb, qn, hR, fiveV_eq, if_neg (Int32.not_le.mpr c4), if_pos (Int32.not_lt.mp c5)]
                  exact v_iret X r dX8_five_132 (Nat.le_refl _) (Nat.le_refl _) ⟨by rw [eqr], by rw [eqr]; exact (MW_ob (MW_e hM _) _ _ _ _ _ _ _ _ _ _)⟩
            · refine v_iload X dX8_five_105 5 rfl ?_
              refine v_iconst X dX8_five_107 (v := 3) (by decide) ?_
              refine v_icmp_ge X dX8_five_108 (tgt := 115) (by decide) (fun c7 => ?_) (fun c7 => ?_)
              · refine v_iload X dX8_five_115 5 rfl ?_
                refine v_iconst X dX8_five_117 (v := 3) (by decide) ?_
                refine v_icmp_lt X dX8_five_118 (tgt := 131) (by decide) (fun c8 => ?_) (fun c8 => ?_)
                · refine v_iconst X dX8_five_131 (v := 0) (by decide) ?_
                  have eqr : op_five (d, k, hk, fo, tape, tp, bits, sz, num) a b n = (0, (d, k, hk, fo, tape, tp, bits, sz, num)) := by exact absurd c7 (Int32.not_le.mpr c8)
                  exact v_iret X r dX8_five_132 (Nat.le_refl _) (Nat.le_refl _) ⟨by rw [eqr], by rw [eqr]; exact (MW_ob (MW_e hM _) _ _ _ _ _ _ _ _ _ _)⟩
                · refine v_iload X dX8_five_121 4 rfl ?_
                  refine v_iconst X dX8_five_123 (v := 3) (by decide) ?_
                  refine v_icmp_ge X dX8_five_124 (tgt := 131) (by decide) (fun c9 => ?_) (fun c9 => ?_)
                  · refine v_iconst X dX8_five_131 (v := 0) (by decide) ?_
                    have eqr : op_five (d, k, hk, fo, tape, tp, bits, sz, num) a b n = (0, (d, k, hk, fo, tape, tp, bits, sz, num)) := by unfold op_five; dsimp only; rw [if_pos (And.intro c1 c2), qja, qjb, qn, hR, fiveV_eq, if_pos (Int32.not_lt.mp c4), if_pos (Int32.not_lt.mp c8)]
                    exact v_iret X r dX8_five_132 (Nat.le_refl _) (Nat.le_refl _) ⟨by rw [eqr], by rw [eqr]; exact (MW_ob (MW_e hM _) _ _ _ _ _ _ _ _ _ _)⟩
                  · refine v_iconst X dX8_five_127 (v := 2) (by decide) ?_
                    refine v_goto X dX8_five_128 (tgt := 132) (by decide) ?_
                    have eqr : op_five (d, k, hk, fo, tape, tp, bits, sz, num) a b n = (2, (d, k, hk, fo, tape, tp, bits, sz, num)) := by exact absurd (Int32.not_lt.mp c4) c9
                    exact v_iret X r dX8_five_132 (Nat.le_refl _) (Nat.le_refl _) ⟨by rw [eqr], by rw [eqr]; exact (MW_ob (MW_e hM _) _ _ _ _ _ _ _ _ _ _)⟩
              · refine v_iconst X dX8_five_111 (v := 1) (by decide) ?_
                refine v_goto X dX8_five_112 (tgt := 132) (by decide) ?_
                have eqr : op_five (d, k, hk, fo, tape, tp, bits, sz, num) a b n = (1, (d, k, hk, fo, tape, tp, bits, sz, num)) := by unfold op_five; dsimp only; rw [if_pos (And.intro c1 c2), qja, qjb, qn, hR, fiveV_eq, if_pos (Int32.not_lt.mp c4), if_neg c7]
                exact v_iret X r dX8_five_132 (Nat.le_refl _) (Nat.le_refl _) ⟨by rw [eqr], by rw [eqr]; exact (MW_ob (MW_e hM _) _ _ _ _ _ _ _ _ _ _)⟩
          · have hqn : q < 5 := by
              rcases Nat.lt_or_ge q 5 with z | z
              · exact z
              · exact absurd (show (5 : Int32) ≤ nI q from nI_le z (by omega)) c3
            refine v_iload X dX8_five_54 4 rfl ?_
            refine v_iconst X dX8_five_56 (v := 3) (by decide) ?_
            refine v_icmp_ge X dX8_five_57 (tgt := 99) (by decide) (fun c10 => ?_) (fun c10 => ?_)
            · have hR : fiveF ja jb nn d 0 0 5 = (x, y) := fiveF_e hq (Or.inr (Or.inl c10))
              refine v_iload X dX8_five_99 4 rfl ?_
              refine v_iconst X dX8_five_101 (v := 3) (by decide) ?_
              refine v_icmp_lt X dX8_five_102 (tgt := 115) (by decide) (fun c11 => ?_) (fun c11 => ?_)
              · refine v_iload X dX8_five_115 5 rfl ?_
                refine v_iconst X dX8_five_117 (v := 3) (by decide) ?_
                refine v_icmp_lt X dX8_five_118 (tgt := 131) (by decide) (fun c12 => ?_) (fun c12 => ?_)
                · refine v_iconst X dX8_five_131 (v := 0) (by decide) ?_
                  have eqr : op_five (d, k, hk, fo, tape, tp, bits, sz, num) a b n = (0, (d, k, hk, fo, tape, tp, bits, sz, num)) := by unfold op_five; dsimp only; rw [if_pos (And.intro c1 c2), qja, qjb, qn, hR, fiveV_eq, if_neg (Int32.not_le.mpr c11), if_neg (Int32.not_le.mpr c12)]
                  exact v_iret X r dX8_five_132 (Nat.le_refl _) (Nat.le_refl _) ⟨by rw [eqr], by rw [eqr]; exact (MW_ob (MW_e hM _) _ _ _ _ _ _ _ _ _ _)⟩
                · refine v_iload X dX8_five_121 4 rfl ?_
                  refine v_iconst X dX8_five_123 (v := 3) (by decide) ?_
                  refine v_icmp_ge X dX8_five_124 (tgt := 131) (by decide) (fun c13 => ?_) (fun c13 => ?_)
                  · refine v_iconst X dX8_five_131 (v := 0) (by decide) ?_
                    have eqr : op_five (d, k, hk, fo, tape, tp, bits, sz, num) a b n = (0, (d, k, hk, fo, tape, tp, bits, sz, num)) := by exact absurd c13 (Int32.not_le.mpr c11)
                    exact v_iret X r dX8_five_132 (Nat.le_refl _) (Nat.le_refl _) ⟨by rw [eqr], by rw [eqr]; exact (MW_ob (MW_e hM _) _ _ _ _ _ _ _ _ _ _)⟩
                  · refine v_iconst X dX8_five_127 (v := 2) (by decide) ?_
                    refine v_goto X dX8_five_128 (tgt := 132) (by decide) ?_
                    have eqr : op_five (d, k, hk, fo, tape, tp, bits, sz, num) a b n = (2, (d, k, hk, fo, tape, tp, bits, sz, num)) := by unfold op_five; dsimp only; rw [if_pos (And.intro c1 c2), qja, qjb, qn, hR, fiveV_eq, if_neg (Int32.not_le.mpr c11), if_pos (Int32.not_lt.mp c12)]
                    exact v_iret X r dX8_five_132 (Nat.le_refl _) (Nat.le_refl _) ⟨by rw [eqr], by rw [eqr]; exact (MW_ob (MW_e hM _) _ _ _ _ _ _ _ _ _ _)⟩
              · refine v_iload X dX8_five_105 5 rfl ?_
                refine v_iconst X dX8_five_107 (v := 3) (by decide) ?_
                refine v_icmp_ge X dX8_five_108 (tgt := 115) (by decide) (fun c14 => ?_) (fun c14 => ?_)
                · refine v_iload X dX8_five_115 5 rfl ?_
                  refine v_iconst X dX8_five_117 (v := 3) (by decide) ?_
                  refine v_icmp_lt X dX8_five_118 (tgt := 131) (by decide) (fun c15 => ?_) (fun c15 => ?_)
                  · refine v_iconst X dX8_five_131 (v := 0) (by decide) ?_
                    have eqr : op_five (d, k, hk, fo, tape, tp, bits, sz, num) a b n = (0, (d, k, hk, fo, tape, tp, bits, sz, num)) := by exact absurd c14 (Int32.not_le.mpr c15)
                    exact v_iret X r dX8_five_132 (Nat.le_refl _) (Nat.le_refl _) ⟨by rw [eqr], by rw [eqr]; exact (MW_ob (MW_e hM _) _ _ _ _ _ _ _ _ _ _)⟩
                  · refine v_iload X dX8_five_121 4 rfl ?_
                    refine v_iconst X dX8_five_123 (v := 3) (by decide) ?_
                    refine v_icmp_ge X dX8_five_124 (tgt := 131) (by decide) (fun c16 => ?_) (fun c16 => ?_)
                    · refine v_iconst X dX8_five_131 (v := 0) (by decide) ?_
                      have eqr : op_five (d, k, hk, fo, tape, tp, bits, sz, num) a b n = (0, (d, k, hk, fo, tape, tp, bits, sz, num)) := by unfold op_five; dsimp only; rw [if_pos (And.intro c1 c2), qja, qjb, qn, hR, fiveV_eq, if_pos (Int32.not_lt.mp c11), if_pos (Int32.not_lt.mp c15)]
                      exact v_iret X r dX8_five_132 (Nat.le_refl _) (Nat.le_refl _) ⟨by rw [eqr], by rw [eqr]; exact (MW_ob (MW_e hM _) _ _ _ _ _ _ _ _ _ _)⟩
                    · refine v_iconst X dX8_five_127 (v := 2) (by decide) ?_
                      refine v_goto X dX8_five_128 (tgt := 132) (by decide) ?_
                      have eqr : op_five (d, k, hk, fo, tape, tp, bits, sz, num) a b n = (2, (d, k, hk, fo, tape, tp, bits, sz, num)) := by exact absurd (Int32.not_lt.mp c11) c16
                      exact v_iret X r dX8_five_132 (Nat.le_refl _) (Nat.le_refl _) ⟨by rw [eqr], by rw [eqr]; exact (MW_ob (MW_e hM _) _ _ _ _ _ _ _ _ _ _)⟩
                · refine v_iconst X dX8_five_111 (v := 1) (by decide) ?_
                  refine v_goto X dX8_five_112 (tgt := 132) (by decide) ?_
                  have eqr : op_five (d, k, hk, fo, tape, tp, bits, sz, num) a b n = (1, (d, k, hk, fo, tape, tp, bits, sz, num)) := by unfold op_five; dsimp only; rw [if_pos (And.intro c1 c2), qja, qjb, qn, hR, fiveV_eq, if_pos (Int32.not_lt.mp c11), if_neg c14]
                  exact v_iret X r dX8_five_132 (Nat.le_refl _) (Nat.le_refl _) ⟨by rw [eqr], by rw [eqr]; exact (MW_ob (MW_e hM _) _ _ _ _ _ _ _ _ _ _)⟩
            · refine v_iload X dX8_five_60 5 rfl ?_
              refine v_iconst X dX8_five_62 (v := 3) (by decide) ?_
              refine v_icmp_ge X dX8_five_63 (tgt := 99) (by decide) (fun c17 => ?_) (fun c17 => ?_)
              · have hR : fiveF ja jb nn d 0 0 5 = (x, y) := fiveF_e hq (Or.inr (Or.inr c17))
                refine v_iload X dX8_five_99 4 rfl ?_
                refine v_iconst X dX8_five_101 (v := 3) (by decide) ?_
                refine v_icmp_lt X dX8_five_102 (tgt := 115) (by decide) (fun c18 => ?_) (fun c18 => ?_)
                · refine v_iload X dX8_five_115 5 rfl ?_
                  refine v_iconst X dX8_five_117 (v := 3) (by decide) ?_
                  refine v_icmp_lt X dX8_five_118 (tgt := 131) (by decide) (fun c19 => ?_) (fun c19 => ?_)
                  · refine v_iconst X dX8_five_131 (v := 0) (by decide) ?_
                    have eqr : op_five (d, k, hk, fo, tape, tp, bits, sz, num) a b n = (0, (d, k, hk, fo, tape, tp, bits, sz, num)) := by unfold op_five; dsimp only; rw [if_pos (And.intro c1 c2), qja, qjb, qn, hR, fiveV_eq, if_neg (Int32.not_le.mpr c18), if_neg (Int32.not_le.mpr c19)]
                    exact v_iret X r dX8_five_132 (Nat.le_refl _) (Nat.le_refl _) ⟨by rw [eqr], by rw [eqr]; exact (MW_ob (MW_e hM _) _ _ _ _ _ _ _ _ _ _)⟩
                  · refine v_iload X dX8_five_121 4 rfl ?_
                    refine v_iconst X dX8_five_123 (v := 3) (by decide) ?_
                    refine v_icmp_ge X dX8_five_124 (tgt := 131) (by decide) (fun c20 => ?_) (fun c20 => ?_)
                    · refine v_iconst X dX8_five_131 (v := 0) (by decide) ?_
                      have eqr : op_five (d, k, hk, fo, tape, tp, bits, sz, num) a b n = (0, (d, k, hk, fo, tape, tp, bits, sz, num)) := by exact absurd c20 (Int32.not_le.mpr c18)
                      exact v_iret X r dX8_five_132 (Nat.le_refl _) (Nat.le_refl _) ⟨by rw [eqr], by rw [eqr]; exact (MW_ob (MW_e hM _) _ _ _ _ _ _ _ _ _ _)⟩
                    · refine v_iconst X dX8_five_127 (v := 2) (by decide) ?_
                      refine v_goto X dX8_five_128 (tgt := 132) (by decide) ?_
                      have eqr : op_five (d, k, hk, fo, tape, tp, bits, sz, num) a b n = (2, (d, k, hk, fo, tape, tp, bits, sz, num)) := by unfold op_five; dsimp only; rw [if_pos (And.intro c1 c2), qja, qjb, qn, hR, fiveV_eq, if_neg (Int32.not_le.mpr c18), if_pos (Int32.not_lt.mp c19)]
                      exact v_iret X r dX8_five_132 (Nat.le_refl _) (Nat.le_refl _) ⟨by rw [eqr], by rw [eqr]; exact (MW_ob (MW_e hM _) _ _ _ _ _ _ _ _ _ _)⟩
                · refine v_iload X dX8_five_105 5 rfl ?_
                  refine v_iconst X dX8_five_107 (v := 3) (by decide) ?_
                  refine v_icmp_ge X dX8_five_108 (tgt := 115) (by decide) (fun c21 => ?_) (fun c21 => ?_)
                  · refine v_iload X dX8_five_115 5 rfl ?_
                    refine v_iconst X dX8_five_117 (v := 3) (by decide) ?_
                    refine v_icmp_lt X dX8_five_118 (tgt := 131) (by decide) (fun c22 => ?_) (fun c22 => ?_)
                    · refine v_iconst X dX8_five_131 (v := 0) (by decide) ?_
                      have eqr : op_five (d, k, hk, fo, tape, tp, bits, sz, num) a b n = (0, (d, k, hk, fo, tape, tp, bits, sz, num)) := by exact absurd c21 (Int32.not_le.mpr c22)
                      exact v_iret X r dX8_five_132 (Nat.le_refl _) (Nat.le_refl _) ⟨by rw [eqr], by rw [eqr]; exact (MW_ob (MW_e hM _) _ _ _ _ _ _ _ _ _ _)⟩
                    · refine v_iload X dX8_five_121 4 rfl ?_
                      refine v_iconst X dX8_five_123 (v := 3) (by decide) ?_
                      refine v_icmp_ge X dX8_five_124 (tgt := 131) (by decide) (fun c23 => ?_) (fun c23 => ?_)
                      · refine v_iconst X dX8_five_131 (v := 0) (by decide) ?_
                        have eqr : op_five (d, k, hk, fo, tape, tp, bits, sz, num) a b n = (0, (d, k, hk, fo, tape, tp, bits, sz, num)) := by unfold op_five; dsimp only; rw [if_pos (And.intro c1 c2), qja, qjb, qn, hR, fiveV_eq, if_pos (Int32.not_lt.mp c18), if_pos (Int32.not_lt.mp c22)]
                        exact v_iret X r dX8_five_132 (Nat.le_refl _) (Nat.le_refl _) ⟨by rw [eqr], by rw [eqr]; exact (MW_ob (MW_e hM _) _ _ _ _ _ _ _ _ _ _)⟩
                      · refine v_iconst X dX8_five_127 (v := 2) (by decide) ?_
                        refine v_goto X dX8_five_128 (tgt := 132) (by decide) ?_
                        have eqr : op_five (d, k, hk, fo, tape, tp, bits, sz, num) a b n = (2, (d, k, hk, fo, tape, tp, bits, sz, num)) := by exact absurd (Int32.not_lt.mp c18) c23
                        exact v_iret X r dX8_five_132 (Nat.le_refl _) (Nat.le_refl _) ⟨by rw [eqr], by rw [eqr]; exact (MW_ob (MW_e hM _) _ _ _ _ _ _ _ _ _ _)⟩
                  · refine v_iconst X dX8_five_111 (v := 1) (by decide) ?_
                    refine v_goto X dX8_five_112 (tgt := 132) (by decide) ?_
                    have eqr : op_five (d, k, hk, fo, tape, tp, bits, sz, num) a b n = (1, (d, k, hk, fo, tape, tp, bits, sz, num)) := by unfold op_five; dsimp only; rw [if_pos (And.intro c1 c2), qja, qjb, qn, hR, fiveV_eq, if_pos (Int32.not_lt.mp c18), if_neg c21]
                    exact v_iret X r dX8_five_132 (Nat.le_refl _) (Nat.le_refl _) ⟨by rw [eqr], by rw [eqr]; exact (MW_ob (MW_e hM _) _ _ _ _ _ _ _ _ _ _)⟩
              · refine v_aload_n X dX8_five_66 0 rfl ?_
                refine v_iload_n X dX8_five_67 1 rfl ?_
                refine v_iload_n X dX8_five_68 2 rfl ?_
                refine v_iload_n X dX8_five_69 3 rfl ?_
                refine v_cVi X [.int a, .int b, .int n] sX8_154 (ct_X8_boutAhead (p0 := ja) (p1 := jb) (nn := nn) ll g  hU_s ((hU_n ne_1).trans hU_s) eja ejb en (by omega) hB) hU_s rfl dX8_five_70 rfl rfl ⟨rfl, rfl⟩ ⟨(Nat.le_of_ble_eq_true rfl), (Nat.le_of_ble_eq_true rfl)⟩ ⟨Nat.zero_le _, Nat.zero_le _⟩ (Nat.le_of_ble_eq_true rfl) ?_
                refine v_eqh (h2 := (hU (hU h (A 1) (ai g 260 ((ahR mm ja jb nn).1))) t (ob 8 [.ref (A 0), .ref (A 1), .ref (A 2), .int hk, .ref (A 3), .int ((ahS mm ja jb nn).2.2.1), .int ((ahS mm ja jb nn).2.2.2), .ref (A 4), .int tp, .int pp, .int fr, .int tk, .int wd, .int vl, .int wr, .ref (A 5), .ref (A 6), .ref (A 7), .ref (A 8)]))) (Eq.trans (congrArg (fun z => hU (z) t (ob 8 [.ref (A 0), .ref (A 1), .ref (A 2), .int hk, .ref (A 3), .int ((ahS mm ja jb nn).2.2.1), .int ((ahS mm ja jb nn).2.2.2), .ref (A 4), .int tp, .int pp, .int fr, .int tk, .int wd, .int vl, .int wr, .ref (A 5), .ref (A 6), .ref (A 7), .ref (A 8)])) (hU_u2 (Ne.symm ne_1))) hU_u) ?_
                refine v_istore (lv1 := [(7, .int ((ahR mm ja jb nn).2)), (0, .ref t), (1, .int a), (2, .int b), (3, .int n), (4, .int x), (5, .int y), (6, .int (nI q))]) X dX8_five_73 (by decide) rfl ?_
                refine v_iload X dX8_five_75 5 rfl ?_
                refine v_iload X dX8_five_77 0 rfl ?_
                refine v_iconst X dX8_five_79 (v := 1) (by decide) ?_
                refine v_ishr X dX8_five_80 ?_
                refine v_iadd X dX8_five_81 ?_
                refine v_istore (lv1 := [(4, .int (x + (((ahR mm ja jb nn).2) >>> (1 &&& 31)))), (7, .int ((ahR mm ja jb nn).2)), (0, .ref t), (1, .int a), (2, .int b), (3, .int n), (5, .int y), (6, .int (nI q))]) X dX8_five_82 (by decide) rfl ?_
                refine v_iload X dX8_five_84 6 rfl ?_
                refine v_iload X dX8_five_86 1 rfl ?_
                refine v_iconst X dX8_five_88 (v := 1) (by decide) ?_
                refine v_iand X dX8_five_89 ?_
                refine v_iadd X dX8_five_90 ?_
                refine v_istore (lv1 := [(5, .int (y + (((ahR mm ja jb nn).2) &&& 1))), (4, .int (x + (((ahR mm ja jb nn).2) >>> (1 &&& 31)))), (7, .int ((ahR mm ja jb nn).2)), (0, .ref t), (1, .int a), (2, .int b), (3, .int n), (6, .int (nI q))]) X dX8_five_91 (by decide) rfl ?_
                refine v_iinc (v := (nI q) + 1) (lv1 := [(6, .int ((nI q) + 1)), (5, .int (y + (((ahR mm ja jb nn).2) &&& 1))), (4, .int (x + (((ahR mm ja jb nn).2) >>> (1 &&& 31)))), (7, .int ((ahR mm ja jb nn).2)), (0, .ref t), (1, .int a), (2, .int b), (3, .int n)]) X dX8_five_93 7 rfl rfl (by decide) rfl ?_
                refine v_goto X dX8_five_96 (tgt := 48) (by decide) ?_
                refine v_lv (lv2 := [(0, .ref t), (1, .int a), (2, .int b), (3, .int n), (4, .int (x + (((ahR mm ja jb nn).2) >>> (1 &&& 31)))), (5, .int (y + (((ahR mm ja jb nn).2) &&& 1))), (6, .int ((nI q) + 1))]) [4, 5, 6, 7, 2, 1, 0] rfl ?_
                refine v_eqv (lv2 := [(0, .ref t), (1, .int a), (2, .int b), (3, .int n), (4, .int (x + (((ahR mm ja jb nn).2) >>> (1 &&& 31)))), (5, .int (y + (((ahR mm ja jb nn).2) &&& 1))), (6, .int (nI (q + 1)))]) (by rw [nI_1]) ?_
                exact ih48 (q + 1) ((ahR mm ja jb nn).1) ((ahS mm ja jb nn).2.2.1) ((ahS mm ja jb nn).2.2.2) (x + (((ahR mm ja jb nn).2) >>> (1 &&& 31))) (y + (((ahR mm ja jb nn).2) &&& 1)) (by omega) (AOk_run hB) (fiveF_s hq hqn c10 c17) (by omega)
      refine v_lv (lv2 := [(0, .ref t), (1, .int a), (2, .int b), (3, .int n), (4, .int 0), (5, .int 0), (6, .int 0)]) [3, 4, 5, 6, 2, 1, 0] rfl ?_
      refine v_eqv (lv2 := [(0, .ref t), (1, .int a), (2, .int b), (3, .int n), (4, .int 0), (5, .int 0), (6, .int (nI 0))]) rfl ?_
      refine v_eqh (h2 := hU (hU h (A 1) (ai g 260 d)) t (ob 8 [.ref (A 0), .ref (A 1), .ref (A 2), .int hk, .ref (A 3), .int sw0, .int sw1, .ref (A 4), .int tp, .int pp, .int fr, .int tk, .int wd, .int vl, .int wr, .ref (A 5), .ref (A 6), .ref (A 7), .ref (A 8)])) (hU_id ((hU_n (Ne.symm ne_1)).trans m0)).symm ?_
      exact L48 _ 0 d sw0 sw1 0 0 (by decide) (hA ja jb hja hjb hab) rfl (Nat.lt_succ_self _)
    · refine v_aload_n X dX8_five_21 0 rfl ?_
      refine v_ldc X dX8_five_22 kX8_38 ?_
      refine v_cVi X [.int (-1000000001)] sX8_51 (ct_X8_finds (j := 0) ll g m0 m4 (by decide) (by decide)) m0 rfl dX8_five_24 rfl rfl ⟨rfl, rfl⟩ ⟨(Nat.le_of_ble_eq_true rfl), (Nat.le_of_ble_eq_true rfl)⟩ ⟨Nat.zero_le _, Nat.zero_le _⟩ (Nat.le_of_ble_eq_true rfl) ?_
      have eqr : op_five (d, k, hk, fo, tape, tp, bits, sz, num) a b n = ((-1000000001), (d, k, hk, fnd fo 0, tape, tp, bits, sz, num)) := by unfold op_five; dsimp only; rw [if_neg (fun q : _ ∧ _ => c2 (And.right q))]
      exact v_iret X r dX8_five_27 (Nat.le_refl _) (Nat.le_refl _) ⟨by rw [eqr], by rw [eqr]; exact (MW_fo hM _)⟩
set_option maxHeartbeats 4000000 in
set_option maxRecDepth 100000 in
theorem ct_X8_champion (ll : Launch) (g : GT) {h : Hp} {t : Nat} {A : Nat → Nat} {d k fo tape bits sz : Nat → Int32} {num : Nat → Int64} {hk tp : Int32} {np : Nat}  (n : Int32) (hM : MW g h t A (d, k, hk, fo, tape, tp, bits, sz, num)) (hn : d 0 = nI np) (hnp : np ≤ 8) (hA : ∀ a b : Nat, a < np → b < np → a ≠ b → AOk d a b) : MC ll g yX8_champion cX8_champion 7 (some .int) { frames := 6, cells := 0, slots := 0, locals := 240 } [.ref t, .int n] h (fun r h2 => r = some (.int (op_champion (d, k, hk, fo, tape, tp, bits, sz, num) n).1) ∧ MW g h2 t A (op_champion (d, k, hk, fo, tape, tp, bits, sz, num) n).2) 0 0 := by
  have hM0 := hM
  obtain ⟨e, lf, sw0, sw1, pp, fr, tk, wd, vl, wr, m0, m1, m2, m3, m4, m5, m6, m7, m8, m9, n01, n02, n12, n56⟩ := hM0
  refine mc_of (by decide) (Nat.le_of_ble_eq_true rfl) ?_
  intro K X r
  refine v_eqv (lv2 := [(0, .ref t), (1, .int n)]) rfl ?_
  refine v_iload_n X dX8_champion_0 1 rfl ?_
  refine v_i2l X dX8_champion_1 ?_
  refine v_lconst X dX8_champion_2 (v := 1) (by decide) ?_
  refine v_ldc2 X dX8_champion_3 kX8_164 ?_
  refine v_cSi X [.long n.toInt64, .long (1 : Int64), .long (50 : Int64)] sX8_39 (ct_X8_in (v := n) (lo := 1) (hi := 50) ll g rfl (by decide) (by decide)) dX8_champion_6 rfl rfl ⟨rfl, rfl⟩ ⟨(Nat.le_of_ble_eq_true rfl), (Nat.le_of_ble_eq_true rfl)⟩ ⟨Nat.zero_le _, Nat.zero_le _⟩ (Nat.le_of_ble_eq_true rfl) ?_
  refine v_ifb_ne X dX8_champion_9 (tgt := 19) (by decide) (fun c1 => ?_) (fun c1 => ?_)
  · obtain ⟨nn, hn1, hn4, en⟩ := wi_1 50 rfl (by decide) c1
    have qn : pr n = nn := ix_cl en (by omega)
    have qd : pr (d 0) = np := ix_cl hn (by omega)
    refine v_iconst X dX8_champion_19 (v := (-1)) (by decide) ?_
    refine v_istore_n (lv1 := [(2, .int (-1)), (0, .ref t), (1, .int n)]) X dX8_champion_20 (by decide) rfl ?_
    refine v_iconst X dX8_champion_21 (v := (-1)) (by decide) ?_
    refine v_istore_n (lv1 := [(3, .int (-1)), (2, .int (-1)), (0, .ref t), (1, .int n)]) X dX8_champion_22 (by decide) rfl ?_
    refine v_iconst X dX8_champion_23 (v := 0) (by decide) ?_
    refine v_istore (lv1 := [(4, .int 0), (3, .int (-1)), (2, .int (-1)), (0, .ref t), (1, .int n)]) X dX8_champion_24 (by decide) rfl ?_
    have L26 : ∀ (N : Nat) (q : Nat) (hh : Hp) (bs ms : Int32), (MW g hh t A (d, k, hk, fo, tape, tp, bits, sz, num)) → (q ≤ np) → (champF d nn np 0 (-1) (-1) np = champF d nn np q bs ms (np - q)) → np - q < N → VJ K 0 0 hh 26 [(0, .ref t), (1, .int n), (2, .int bs), (3, .int ms), (4, .int (nI q))] [] := by
      intro N
      induction N with
      | zero => intro q hh bs ms _ _ _ hm; exact absurd hm (Nat.not_lt_zero _)
      | succ N ih26 =>
        intro q hh bs ms hMh hqq hq hm
        have hMx := hMh
        obtain ⟨e, lf, sw0, sw1, pp, fr, tk, wd, vl, wr, m0, m1, m2, m3, m4, m5, m6, m7, m8, m9, -, -, -, -⟩ := hMx
        refine v_iload X dX8_champion_26 4 rfl ?_
        refine v_aload_n X dX8_champion_28 0 rfl ?_
        refine v_get X fX8_9 m0 rfl dX8_champion_29 ?_
        refine v_iconst X dX8_champion_32 (v := 0) (by decide) ?_
        refine v_ialdK X 0 m1 (rfl : (0 : Int32) = nI 0) (by decide) (by decide) dX8_champion_33 ?_
        refine v_icmp_ge X dX8_champion_34 (tgt := 104) (by decide) (fun c2 => ?_) (fun c2 => ?_)
        · have hR : champF d nn np 0 (-1) (-1) np = bs := champF_e hq (fun z => absurd (nI_lt z (by omega)) (Int32.not_lt.mpr (by rw [← hn]; exact c2)))
          refine v_iload_n X dX8_champion_104 2 rfl ?_
          refine v_if_ge X dX8_champion_105 (tgt := 117) (by decide) (fun c3 => ?_) (fun c3 => ?_)
          · refine v_iload_n X dX8_champion_117 2 rfl ?_
            have eqr : op_champion (d, k, hk, fo, tape, tp, bits, sz, num) n = (bs, (d, k, hk, fo, tape, tp, bits, sz, num)) := by unfold op_champion; dsimp only; rw [if_pos c1, qn, qd, hR, if_neg (Int32.not_lt.mpr c3)]
            exact v_iret X r dX8_champion_118 (Nat.le_refl _) (Nat.le_refl _) ⟨by rw [eqr], by rw [eqr]; exact hMh⟩
          · refine v_aload_n X dX8_champion_108 0 rfl ?_
            refine v_ldc X dX8_champion_109 kX8_158 ?_
            refine v_cVi X [.int (-1000000004)] sX8_51 (ct_X8_finds (j := 3) ll g m0 m4 (by decide) (by decide)) m0 rfl dX8_champion_111 rfl rfl ⟨rfl, rfl⟩ ⟨(Nat.le_of_ble_eq_true rfl), (Nat.le_of_ble_eq_true rfl)⟩ ⟨Nat.zero_le _, Nat.zero_le _⟩ (Nat.le_of_ble_eq_true rfl) ?_
            refine v_goto X dX8_champion_114 (tgt := 118) (by decide) ?_
            have eqr : op_champion (d, k, hk, fo, tape, tp, bits, sz, num) n = ((-1000000004), (d, k, hk, fnd fo 3, tape, tp, bits, sz, num)) := by unfold op_champion; dsimp only; rw [if_pos c1, qn, qd, hR, if_pos (Int32.not_le.mp c3)]
            exact v_iret X r dX8_champion_118 (Nat.le_refl _) (Nat.le_refl _) ⟨by rw [eqr], by rw [eqr]; exact (MW_fo hMh _)⟩
        · have hqn : q < np := by
            rcases Nat.lt_or_ge q np with z | z
            · exact z
            · exact absurd (by rw [hn]; exact nI_le z (by omega)) c2
          refine v_iconst X dX8_champion_37 (v := 0) (by decide) ?_
          refine v_istore (lv1 := [(5, .int 0), (0, .ref t), (1, .int n), (2, .int bs), (3, .int ms), (4, .int (nI q))]) X dX8_champion_38 (by decide) rfl ?_
          refine v_aload_n X dX8_champion_40 1 rfl ?_
          refine v_iload X dX8_champion_41 5 rfl ?_
          refine v_iload_n X dX8_champion_43 2 rfl ?_
          refine v_cV X (av := [.int (nI q), .int n]) sX8_161 (ct_X8_beatenBy (jp := q) (nn := nn) ll g (nI q) n hMh hn hnp hA rfl hqn en (by omega)) m0 rfl dX8_champion_44 rfl rfl ⟨rfl, rfl⟩ ⟨(Nat.le_of_ble_eq_true rfl), (Nat.le_of_ble_eq_true rfl)⟩ ⟨Nat.zero_le _, Nat.zero_le _⟩ (Nat.le_of_ble_eq_true rfl) (fun r_ hh4 q_ => ?_)
          obtain ⟨q_1, q_2⟩ := q_
          subst q_1
          have hMx := q_2
          obtain ⟨e, lf, sw0, sw1, pp, fr, tk, wd, vl, wr, m0, m1, m2, m3, m4, m5, m6, m7, m8, m9, -, -, -, -⟩ := hMx
          refine v_istore (lv1 := [(6, .int (beatF d q nn 0 0 np)), (5, .int 0), (0, .ref t), (1, .int n), (2, .int bs), (3, .int ms), (4, .int (nI q))]) X dX8_champion_47 (by decide) rfl ?_
          have L49 : ∀ (N : Nat) (f : Nat) (set many : Int32), (set.toInt < 2 ^ f) → (cntF (beatF d q nn 0 0 np) 0 40 = cntF set many f) → f < N → VJ K 0 0 hh4 49 [(0, .ref t), (1, .int n), (2, .int bs), (3, .int ms), (4, .int (nI q)), (5, .int many), (6, .int set)] [] := by
            intro N
            induction N with
            | zero => intro f set many _ _ hm; exact absurd hm (Nat.not_lt_zero _)
            | succ N ih49 =>
              intro f set many hf hc hm
              refine v_iload X dX8_champion_49 6 rfl ?_
              refine v_if_le X dX8_champion_51 (tgt := 72) (by decide) (fun c6 => ?_) (fun c6 => ?_)
              · have hcnt : cntF (beatF d q nn 0 0 np) 0 40 = many := cntF_e hc (Int32.not_lt.mpr c6)
                refine v_iload X dX8_champion_72 5 rfl ?_
                refine v_iload_n X dX8_champion_74 3 rfl ?_
                have J1 : VJ K 0 0 hh4 84 [(0, .ref t), (1, .int n), (2, .int bs), (3, .int ms), (4, .int (nI q)), (5, .int many), (6, .int set)] [.int (if ms < cntF (beatF d q nn 0 0 np) 0 40 then nI q else bs)] := by
                  refine v_istore_n (lv1 := [(2, .int (if ms < cntF (beatF d q nn 0 0 np) 0 40 then nI q else bs)), (0, .ref t), (1, .int n), (3, .int ms), (4, .int (nI q)), (5, .int many), (6, .int set)]) X dX8_champion_84 (by decide) rfl ?_
                  refine v_iload X dX8_champion_85 5 rfl ?_
                  refine v_iload_n X dX8_champion_87 3 rfl ?_
                  have J2 : VJ K 0 0 hh4 97 [(2, .int (if ms < cntF (beatF d q nn 0 0 np) 0 40 then nI q else bs)), (0, .ref t), (1, .int n), (3, .int ms), (4, .int (nI q)), (5, .int many), (6, .int set)] [.int (if ms < cntF (beatF d q nn 0 0 np) 0 40 then cntF (beatF d q nn 0 0 np) 0 40 else ms)] := by
                    refine v_istore_n (lv1 := [(3, .int (if ms < cntF (beatF d q nn 0 0 np) 0 40 then cntF (beatF d q nn 0 0 np) 0 40 else ms)), (2, .int (if ms < cntF (beatF d q nn 0 0 np) 0 40 then nI q else bs)), (0, .ref t), (1, .int n), (4, .int (nI q)), (5, .int many), (6, .int set)]) X dX8_champion_97 (by decide) rfl ?_
                    refine v_iinc (v := (nI q) + 1) (lv1 := [(4, .int ((nI q) + 1)), (3, .int (if ms < cntF (beatF d q nn 0 0 np) 0 40 then cntF (beatF d q nn 0 0 np) 0 40 else ms)), (2, .int (if ms < cntF (beatF d q nn 0 0 np) 0 40 then nI q else bs)), (0, .ref t), (1, .int n), (5, .int many), (6, .int set)]) X dX8_champion_98 4 rfl rfl (by decide) rfl ?_
                    refine v_goto X dX8_champion_101 (tgt := 26) (by decide) ?_
                    refine v_lv (lv2 := [(0, .ref t), (1, .int n), (2, .int (if ms < cntF (beatF d q nn 0 0 np) 0 40 then nI q else bs)), (3, .int (if ms < cntF (beatF d q nn 0 0 np) 0 40 then cntF (beatF d q nn 0 0 np) 0 40 else ms)), (4, .int ((nI q) + 1))]) [3, 4, 2, 1, 0] rfl ?_
                    refine v_eqv (lv2 := [(0, .ref t), (1, .int n), (2, .int (if ms < cntF (beatF d q nn 0 0 np) 0 40 then nI q else bs)), (3, .int (if ms < cntF (beatF d q nn 0 0 np) 0 40 then cntF (beatF d q nn 0 0 np) 0 40 else ms)), (4, .int (nI (q + 1)))]) (by rw [nI_1]) ?_
                    exact ih26 (q + 1) hh4 (if ms < cntF (beatF d q nn 0 0 np) 0 40 then nI q else bs) (if ms < cntF (beatF d q nn 0 0 np) 0 40 then cntF (beatF d q nn 0 0 np) 0 40 else ms) q_2 (by omega) (champF_s hq hqn) (by omega)
                  refine v_icmp_le X dX8_champion_88 (tgt := 96) (by decide) (fun c7 => ?_) (fun c7 => ?_)
                  · refine v_iload_n X dX8_champion_96 3 rfl ?_
                    exact v_eqi (by rw [hcnt, if_neg (Int32.not_lt.mpr c7)]) J2
                  · refine v_iload X dX8_champion_91 5 rfl ?_
                    refine v_goto X dX8_champion_93 (tgt := 97) (by decide) ?_
                    exact v_eqi (by rw [hcnt, if_pos (Int32.not_le.mp c7)]) J2
                refine v_icmp_le X dX8_champion_75 (tgt := 83) (by decide) (fun c8 => ?_) (fun c8 => ?_)
                · refine v_iload_n X dX8_champion_83 2 rfl ?_
                  exact v_eqi (by rw [hcnt, if_neg (Int32.not_lt.mpr c8)]) J1
                · refine v_iload X dX8_champion_78 4 rfl ?_
                  refine v_goto X dX8_champion_80 (tgt := 84) (by decide) ?_
                  exact v_eqi (by rw [hcnt, if_pos (Int32.not_le.mp c8)]) J1
              · have hpos : 0 < set := Int32.not_le.mp c6
                have hf0 : 0 < f := by
                  rcases Nat.eq_zero_or_pos f with z | z
                  · subst z; rw [Int32.lt_iff_toInt_lt] at hpos; exact absurd hf (Int.not_lt.mpr hpos)
                  · exact z
                refine v_iload X dX8_champion_54 5 rfl ?_
                refine v_iload X dX8_champion_56 6 rfl ?_
                refine v_iconst X dX8_champion_58 (v := 1) (by decide) ?_
                refine v_iand X dX8_champion_59 ?_
                refine v_iadd X dX8_champion_60 ?_
                refine v_istore (lv1 := [(5, .int (many + (set &&& 1))), (0, .ref t), (1, .int n), (2, .int bs), (3, .int ms), (4, .int (nI q)), (6, .int set)]) X dX8_champion_61 (by decide) rfl ?_
                refine v_iload X dX8_champion_63 6 rfl ?_
                refine v_iconst X dX8_champion_65 (v := 1) (by decide) ?_
                refine v_ishr X dX8_champion_66 ?_
                refine v_istore (lv1 := [(6, .int (set >>> (1 &&& 31))), (5, .int (many + (set &&& 1))), (0, .ref t), (1, .int n), (2, .int bs), (3, .int ms), (4, .int (nI q))]) X dX8_champion_67 (by decide) rfl ?_
                refine v_goto X dX8_champion_69 (tgt := 49) (by decide) ?_
                refine v_lv (lv2 := [(0, .ref t), (1, .int n), (2, .int bs), (3, .int ms), (4, .int (nI q)), (5, .int (many + (set &&& 1))), (6, .int (set >>> (1 &&& 31)))]) [2, 3, 4, 5, 6, 1, 0] rfl ?_
                exact ih49 (f - 1) (set >>> (1 &&& 31)) (many + (set &&& 1)) (by obtain ⟨w, rfl⟩ : ∃ w, f = w + 1 := ⟨f - 1, by omega⟩; have := (shr_1 (N := 2 ^ w) (Int32.not_lt.mpr (Int32.le_of_lt hpos)) (by rw [Int.pow_succ] at hf; omega)).2; exact this) (by obtain ⟨w, rfl⟩ : ∃ w, f = w + 1 := ⟨f - 1, by omega⟩; exact cntF_s hc hpos) (by omega)
          refine v_lv (lv2 := [(0, .ref t), (1, .int n), (2, .int bs), (3, .int ms), (4, .int (nI q)), (5, .int 0), (6, .int (beatF d q nn 0 0 np))]) [2, 3, 4, 5, 6, 1, 0] rfl ?_
          exact L49 _ 40 (beatF d q nn 0 0 np) 0 (by have := (fb_rng' (beatF d q nn 0 0 np)); omega) rfl (Nat.lt_succ_self _)
    refine v_lv (lv2 := [(0, .ref t), (1, .int n), (2, .int (-1)), (3, .int (-1)), (4, .int 0)]) [3, 4, 2, 1, 0] rfl ?_
    refine v_eqv (lv2 := [(0, .ref t), (1, .int n), (2, .int (-1)), (3, .int (-1)), (4, .int (nI 0))]) rfl ?_
    exact L26 _ 0 h (-1) (-1) hM (Nat.zero_le _) rfl (Nat.lt_succ_self _)
  · refine v_aload_n X dX8_champion_12 0 rfl ?_
    refine v_ldc X dX8_champion_13 kX8_38 ?_
    refine v_cVi X [.int (-1000000001)] sX8_51 (ct_X8_finds (j := 0) ll g m0 m4 (by decide) (by decide)) m0 rfl dX8_champion_15 rfl rfl ⟨rfl, rfl⟩ ⟨(Nat.le_of_ble_eq_true rfl), (Nat.le_of_ble_eq_true rfl)⟩ ⟨Nat.zero_le _, Nat.zero_le _⟩ (Nat.le_of_ble_eq_true rfl) ?_
    have eqr : op_champion (d, k, hk, fo, tape, tp, bits, sz, num) n = ((-1000000001), (d, k, hk, fnd fo 0, tape, tp, bits, sz, num)) := by unfold op_champion; dsimp only; rw [if_neg c1]
    exact v_iret X r dX8_champion_18 (Nat.le_refl _) (Nat.le_refl _) ⟨by rw [eqr], by rw [eqr]; exact (MW_fo hM _)⟩
