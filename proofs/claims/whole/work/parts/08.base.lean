/-! ===== small rows on top: named numbers, booleans, explicit heaps ===== -/
abbrev wi (v a b : Int32) : Prop := a ≤ v ∧ v ≤ b
def bI (P : Prop) [Decidable P] : Int32 := if P then 1 else 0
theorem bI_t {P : Prop} [Decidable P] (h : P) : bI P = 1 := if_pos h
theorem bI_f {P : Prop} [Decidable P] (h : ¬ P) : bI P = 0 := if_neg h
theorem bI_nar (P : Prop) [Decidable P] : narrow .boolean (.int (bI P)) = .int (bI P) := by
  unfold bI; split <;> rfl
theorem bI_fit (P : Prop) [Decidable P] : fits .boolean (.int (bI P)) = true := by
  unfold bI; split <;> rfl
theorem bI_0 {P : Prop} [Decidable P] : bI P = 0 ↔ ¬ P := by
  unfold bI; split <;> simp_all
theorem bI_1 {P : Prop} [Decidable P] : bI P = 1 ↔ P := by
  unfold bI; split <;> simp_all
theorem bI_congr {P Q : Prop} [Decidable P] [Decidable Q] (h : P ↔ Q) : bI P = bI Q := by
  unfold bI; by_cases hp : P
  · rw [if_pos hp, if_pos (h.mp hp)]
  · rw [if_neg hp, if_neg (fun q => hp (h.mpr q))]
theorem ix_add {a b : Int32} {m n : Nat} (ha : a = nI m) (hb : b = nI n) : a + b = nI (m + n) := by rw [ha, hb, nI_add]
theorem ix_mul {a b : Int32} {m n : Nat} (ha : a = nI m) (hb : b = nI n) : a * b = nI (m * n) := by rw [ha, hb, pk_mul]
theorem ix_sub {a b : Int32} {m n : Nat} (ha : a = nI m) (hb : b = nI n) (h : n ≤ m) : a - b = nI (m - n) := by rw [ha, hb, pk_sub h]
theorem ix_rem {a b : Int32} {m n : Nat} (ha : a = nI m) (hb : b = nI n) (hm : m < 2 ^ 31) (h0 : 0 < n) (hn : n < 2 ^ 31) : a - a / b * b = nI (m % n) := by rw [ha, hb, pk_rem hm h0 hn]
theorem ix_in {i : Int32} {j N : Nat} (hi : i = nI j) (hj : j < N) (hN : N < 2 ^ 31) : vp_in i N := by rw [hi]; exact vp_in_nI hj hN
theorem ix_cl {i : Int32} {j : Nat} (hi : i = nI j) (hj : j < 2 ^ 31) : i.toNatClampNeg = j := by rw [hi]; exact nI_clamp hj
theorem pd_I : parseFieldDescriptor "I" = some .int := by decide +kernel
theorem pd_Z : parseFieldDescriptor "Z" = some .boolean := by decide +kernel
theorem hU_u2 {h : Hp} {a b : Nat} {c d e : va_E} (n1 : b ≠ a) : hU (hU (hU h a c) b d) a e = hU (hU h a e) b d := by rw [hU_w n1, hU_u]
theorem hU_u3 {h : Hp} {a b1 b2 : Nat} {c d1 d2 e : va_E} (n1 : b1 ≠ a) (n2 : b2 ≠ a) : hU (hU (hU (hU h a c) b1 d1) b2 d2) a e = hU (hU (hU h a e) b1 d1) b2 d2 := by rw [hU_w n2, hU_u2 n1]
theorem hU_u4 {h : Hp} {a b1 b2 b3 : Nat} {c d1 d2 d3 e : va_E} (n1 : b1 ≠ a) (n2 : b2 ≠ a) (n3 : b3 ≠ a) : hU (hU (hU (hU (hU h a c) b1 d1) b2 d2) b3 d3) a e = hU (hU (hU (hU h a e) b1 d1) b2 d2) b3 d3 := by rw [hU_w n3, hU_u3 n1 n2]
theorem hU_u5 {h : Hp} {a b1 b2 b3 b4 : Nat} {c d1 d2 d3 d4 e : va_E} (n1 : b1 ≠ a) (n2 : b2 ≠ a) (n3 : b3 ≠ a) (n4 : b4 ≠ a) : hU (hU (hU (hU (hU (hU h a c) b1 d1) b2 d2) b3 d3) b4 d4) a e = hU (hU (hU (hU (hU h a e) b1 d1) b2 d2) b3 d3) b4 d4 := by rw [hU_w n4, hU_u4 n1 n2 n3]
theorem hne {h : Hp} {a b : Nat} {c d : va_E} (ha : h a = some c) (hb : h b = some d) (hcd : c = d → False) : a ≠ b := fun e => by
  subst e
  rw [ha] at hb
  exact hcd (Option.some.inj hb)
abbrev ob (ci : Nat) (fs : List Value) : va_E := .inr (ci, fs)
abbrev ai (g : GT) (N : Nat) (f : Nat → Int32) : va_E := .inl (g.2.1 0, N, .inl f)
abbrev al (g : GT) (N : Nat) (f : Nat → Int64) : va_E := .inl (g.2.1 1, N, .inr (.inl f))
abbrev ar (g : GT) (t N : Nat) (f : Nat → Option Nat) : va_E := .inl (g.2.1 t, N, .inr (.inr (.inr (.inr f))))
section VB
variable {K : KT} {l0 : Launch} {g0 : GT} {cc : ByteArray} {own : String} {nL0 : Nat} {rm : Room} {k n : Nat} {h : Hp} {pc pc1 : Nat} {lv : List (Nat × Value)} {st st0 : List Value}
theorem v_putE (X : Cx K l0 g0 cc own nL0 rm) {a idx ci j : Nat} {C : String} {T : u_T} {N : Nat} {fs : List Value} {v : Value} {ty0 : Nat → FieldType} {ty : FieldType} {h2 : Hp} (hs : FS own idx ci j C T N) (hty : ∀ k, k < N → parseFieldDescriptor (T k).2.2.1 = some (ty0 k)) (hnm : ∀ a, a < N → ∀ b, b < N → a ≠ b → (T a).2.1 ≠ (T b).2.1) (hfin : (T j).2.2.2 = false) (hpd : parseFieldDescriptor (T j).2.2.1 = some ty) (hh : h a = some (ob ci fs)) (hnr : narrow ty v = v) (hft : fits ty v = true) (hl : j < fs.length) (hd : DD cc pc (.putfield idx) 3 pc1) (he : hU h a (ob ci (fs.set j v)) = h2) (kk : VJ K k n h2 pc1 lv st) : VJ K k n h pc lv (v :: .ref a :: st) :=
  v_put X hs hty hnm hfin hpd hh hnr hft hl hd (he ▸ kk)
theorem v_ialdK (X : Cx K l0 g0 cc own nL0 rm) {a N : Nat} {f : Nat → Int32} {i : Int32} (j : Nat) (hh : h a = some (ai g0 N f)) (hi : i = nI j) (hj : j < N) (hN : N < 2 ^ 31) (hd : DD cc pc (.iaload) 1 pc1) (kk : VJ K k n h pc1 lv (.int (f j) :: st)) : VJ K k n h pc lv (.int i :: .ref a :: st) :=
  v_iald X hh (ix_in hi hj hN) hd (by rw [ix_cl hi (Nat.lt_trans hj hN)]; exact kk)
theorem v_laldK (X : Cx K l0 g0 cc own nL0 rm) {a N : Nat} {f : Nat → Int64} {i : Int32} (j : Nat) (hh : h a = some (al g0 N f)) (hi : i = nI j) (hj : j < N) (hN : N < 2 ^ 31) (hd : DD cc pc (.laload) 1 pc1) (kk : VJ K k n h pc1 lv (.long (f j) :: st)) : VJ K k n h pc lv (.int i :: .ref a :: st) :=
  v_lald X hh (ix_in hi hj hN) hd (by rw [ix_cl hi (Nat.lt_trans hj hN)]; exact kk)
theorem v_aaldK (X : Cx K l0 g0 cc own nL0 rm) {a N : Nat} {f : Nat → Option Nat} {i : Int32} (t : Nat) {C : String} (ht : (gtys g0)[t]? = some (g0.2.1 t, .object C)) (j : Nat) {v : Value} (hh : h a = some (ar g0 t N f)) (hi : i = nI j) (hj : j < N) (hN : N < 2 ^ 31) (hv : va_rf (f j) = v) (hd : DD cc pc (.aaload) 1 pc1) (kk : VJ K k n h pc1 lv (v :: st)) : VJ K k n h pc lv (.int i :: .ref a :: st) :=
  v_aald X t ht hh (ix_in hi hj hN) hd (by rw [ix_cl hi (Nat.lt_trans hj hN), hv]; exact kk)
theorem v_iastK (X : Cx K l0 g0 cc own nL0 rm) {a N : Nat} {f : Nat → Int32} {i x : Int32} {h2 : Hp} (j : Nat) (hh : h a = some (ai g0 N f)) (hi : i = nI j) (hj : j < N) (hN : N < 2 ^ 31) (hd : DD cc pc (.iastore) 1 pc1) (he : hU h a (ai g0 N (upd f j x)) = h2) (kk : VJ K k n h2 pc1 lv st) : VJ K k n h pc lv (.int x :: .int i :: .ref a :: st) :=
  v_iast X hh (ix_in hi hj hN) hd (by rw [ix_cl hi (Nat.lt_trans hj hN), he]; exact kk)
theorem v_lastK (X : Cx K l0 g0 cc own nL0 rm) {a N : Nat} {f : Nat → Int64} {i : Int32} {x : Int64} {h2 : Hp} (j : Nat) (hh : h a = some (al g0 N f)) (hi : i = nI j) (hj : j < N) (hN : N < 2 ^ 31) (hd : DD cc pc (.lastore) 1 pc1) (he : hU h a (al g0 N (vp_updL f j x)) = h2) (kk : VJ K k n h2 pc1 lv st) : VJ K k n h pc lv (.long x :: .int i :: .ref a :: st) :=
  v_last X hh (ix_in hi hj hN) hd (by rw [ix_cl hi (Nat.lt_trans hj hN), he]; exact kk)
theorem v_ifb_eq (X : Cx K l0 g0 cc own nL0 rm) {P : Prop} [Decidable P] {off : Int} {tgt : Nat} (hd : DD cc pc (.ifCond .eq off) 3 pc1) (ht : (pc : Int) + off = (tgt : Int)) (kt : ¬ P → VJ K k n h tgt lv st) (kf : P → VJ K k n h pc1 lv st) : VJ K k n h pc lv (.int (bI P) :: st) :=
  v_if_eq X hd ht (fun q => kt (bI_0.mp q)) (fun q => kf (Classical.byContradiction fun z => q (bI_0.mpr z)))
theorem v_ifb_ne (X : Cx K l0 g0 cc own nL0 rm) {P : Prop} [Decidable P] {off : Int} {tgt : Nat} (hd : DD cc pc (.ifCond .ne off) 3 pc1) (ht : (pc : Int) + off = (tgt : Int)) (kt : P → VJ K k n h tgt lv st) (kf : ¬ P → VJ K k n h pc1 lv st) : VJ K k n h pc lv (.int (bI P) :: st) :=
  v_if_ne X hd ht (fun q => kt (Classical.byContradiction fun z => q (bI_0.mpr z))) (fun q => kf (bI_0.mp q))
/-- two arrays that agree in their places are one cell -/
theorem ai_ext {g : GT} {N : Nat} {f f2 : Nat → Int32} (e : ∀ j, j < N → f j = f2 j) (cA : ClassId) : vp_cell cA (N, .inl f) = vp_cell cA (N, .inl f2) := by
  rw [vp_cell_i, vp_cell_i]
  unfold arrV
  congr 1
  refine congrArg _ (funext fun j => ?_)
  show Value.int (f j.val) = Value.int (f2 j.val)
  rw [e j.val j.isLt]
theorem al_ext {N : Nat} {f f2 : Nat → Int64} (e : ∀ j, j < N → f j = f2 j) (cA : ClassId) : vp_cell cA (N, .inr (.inl f)) = vp_cell cA (N, .inr (.inl f2)) := by
  rw [vp_cell_l, vp_cell_l]
  unfold arrV
  congr 1
  refine congrArg _ (funext fun j => ?_)
  show Value.long (f j.val) = Value.long (f2 j.val)
  rw [e j.val j.isLt]
theorem ar_ext {N : Nat} {f f2 : Nat → Option Nat} (e : ∀ j, j < N → f j = f2 j) (cA : ClassId) : vp_cell cA (N, .inr (.inr (.inr (.inr f)))) = vp_cell cA (N, .inr (.inr (.inr (.inr f2)))) := by
  rw [vp_cell_q, vp_cell_q]
  unfold arrV
  congr 1
  refine congrArg _ (funext fun j => ?_)
  show va_rf (f j.val) = va_rf (f2 j.val)
  rw [e j.val j.isLt]
theorem HP.same {g : GT} {h h2 : Hp} {H : Heap} (hp : HP g h H) (e : ∀ a, h2 a = h a ∨ ∃ cA x y, h a = some (.inl (cA, x)) ∧ h2 a = some (.inl (cA, y)) ∧ vp_cell cA x = vp_cell cA y) : HP g h2 H := by
  intro a c hc
  rcases e a with q | ⟨cA, x, y, q1, q2, q3⟩
  · exact hp a c (by rw [← q]; exact hc)
  · rw [q2] at hc
    cases hc
    have := hp a _ q1
    show H[a]? = some (vp_cell cA y)
    rw [← q3]
    exact this
theorem v_ext {h2 : Hp} (ee : ∀ a, h2 a = h a ∨ ∃ cA x y, h a = some (.inl (cA, x)) ∧ h2 a = some (.inl (cA, y)) ∧ vp_cell cA x = vp_cell cA y) (kk : VJ K k n h2 pc lv st) : VJ K k n h pc lv st := by
  obtain ⟨p, l, e, R, s, m, args, below, meth, c, Q, nL, g, A⟩ := K
  refine fun H locs ls h1 hh h3 h4 => kk H locs ls (h1.same ee) (fun a ha => ?_) h3 h4
  rcases ee a with q | ⟨cA, x, y, q1, q2, q3⟩
  · exact hh a (by rw [← q]; exact ha)
  · exact hh a (hsome q1)
theorem v_extU {a : Nat} {cA : ClassId} {x y : vp_A} (e : vp_cell cA x = vp_cell cA y) (kk : VJ K k n (hU h a (.inl (cA, y))) pc lv st) : VJ K k n (hU h a (.inl (cA, x))) pc lv st := by
  refine v_ext (fun b => ?_) kk
  by_cases hb : b = a
  · subst hb
    exact Or.inr ⟨cA, x, y, hU_s, hU_s, e⟩
  · exact Or.inl (by rw [hU_n hb, hU_n hb])
end VB
