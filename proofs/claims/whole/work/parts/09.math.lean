/-! ===== Math's three, by the kit's rows ===== -/
theorem ltb {a b : Nat} (h : Nat.blt a b = true) : a < b := Nat.le_of_ble_eq_true h
theorem ri {v w : Int32} (e : v = w) : (some (Value.int v) : Option Value) = some (.int w) := by rw [e]
theorem rl_ {v w : Int64} (e : v = w) : (some (Value.long v) : Option Value) = some (.long w) := by rw [e]
theorem rr {v w : Value} (e : v = w) : (some v : Option Value) = some w := by rw [e]
def kd : va_E → Nat := fun c => match c with
  | .inr (ci, _) => 2 * ci + 1
  | .inl (_, N, x) => 2 * (8 * N + (match x with | .inl _ => 0 | .inr (.inl _) => 1 | .inr (.inr (.inl _)) => 2 | .inr (.inr (.inr (.inl _))) => 3 | .inr (.inr (.inr (.inr _))) => 4))
theorem hneb {h : Hp} {a b : Nat} {c d : va_E} (ha : h a = some c) (hb : h b = some d) (hk : (kd c).beq (kd d) = false) : a ≠ b := hne ha hb (fun e => by
  subst e
  rw [Nat.beq_refl] at hk
  cases hk)
def iabs (x : Int32) : Int32 := if 0 ≤ x then x else 0 - x
def imax (x y : Int32) : Int32 := if x < y then y else x
def imin (x y : Int32) : Int32 := if y < x then y else x
theorem mA_n : Lib.Math.abs.name = yJ9_abs_0f7a4 := rfl
theorem mA_c : Cond.code yJ9_abs_0f7a4 cJ9_abs_0f7a4 1 (some .int) = Cond.code Lib.Math.abs.name Lib.Math.abs.code 1 (some .int) := by decide +kernel
theorem mX_n : Lib.Math.max.name = yJ9_max_7cf53 := rfl
theorem mX_c : Cond.code yJ9_max_7cf53 cJ9_max_7cf53 2 (some .int) = Cond.code Lib.Math.max.name Lib.Math.max.code 2 (some .int) := by decide +kernel
theorem mI_n : Lib.Math.min.name = yJ9_min_7cf53 := rfl
theorem mI_c : Cond.code yJ9_min_7cf53 cJ9_min_7cf53 2 (some .int) = Cond.code Lib.Math.min.name Lib.Math.min.code 2 (some .int) := by decide +kernel
section VM
variable {K : KT} {l0 : Launch} {g0 : GT} {cc : ByteArray} {own : String} {nL0 : Nat} {rm : Room} {k n : Nat} {h : Hp} {pc pc1 : Nat} {lv : List (Nat × Value)} {st st0 : List Value}
theorem v_mabs (X : Cx K l0 g0 cc own nL0 rm) {idx : Nat} {x : Int32} (hs : SS own idx yJ9_abs_0f7a4 cJ9_abs_0f7a4 1 (some .int) 1) (hf : 1 ≤ rm.frames) (hl : (st.map fun v => v.category).sum + 13 ≤ rm.locals) (hc : k ≤ rm.cells) (hn : n ≤ rm.slots) (hd : DD cc pc (.invokestatic idx) 3 pc1) (kk : VJ K k n h pc1 lv (.int (iabs x) :: st)) : VJ K k n h pc lv (.int x :: st) := by
  obtain ⟨p, l, e, R, s, m, args, below, meth, c, Q, nL, g, A⟩ := K
  obtain ⟨hx, hb, hml, hown, hts, hE, hA, hlk, rfl, rfl, rfl, rfl⟩ := X
  obtain ⟨hd, rfl⟩ := hd
  exact fun H locs ls h1 h2 h3 h4 => va_mabs hx hb (hml.trans h4.1.symm) hown (hts _ hs.1) (hts _ hs.2.1) (hts _ hs.2.2.1) (mA_c ▸ hts _ hs.2.2.2.1) hf hl hc hn hd (kk H locs ls h1 h2 h3 h4)
theorem v_mmax (X : Cx K l0 g0 cc own nL0 rm) {idx : Nat} {x y : Int32} (hs : SS own idx yJ9_max_7cf53 cJ9_max_7cf53 2 (some .int) 2) (hf : 1 ≤ rm.frames) (hl : (st.map fun v => v.category).sum + 13 ≤ rm.locals) (hc : k ≤ rm.cells) (hn : n ≤ rm.slots) (hd : DD cc pc (.invokestatic idx) 3 pc1) (kk : VJ K k n h pc1 lv (.int (imax x y) :: st)) : VJ K k n h pc lv (.int y :: .int x :: st) := by
  obtain ⟨p, l, e, R, s, m, args, below, meth, c, Q, nL, g, A⟩ := K
  obtain ⟨hx, hb, hml, hown, hts, hE, hA, hlk, rfl, rfl, rfl, rfl⟩ := X
  obtain ⟨hd, rfl⟩ := hd
  exact fun H locs ls h1 h2 h3 h4 => va_mmax hx hb (hml.trans h4.1.symm) hown (hts _ hs.1) (hts _ hs.2.1) (hts _ hs.2.2.1) (mX_c ▸ hts _ hs.2.2.2.1) hf hl hc hn hd (kk H locs ls h1 h2 h3 h4)
theorem v_mmin (X : Cx K l0 g0 cc own nL0 rm) {idx : Nat} {x y : Int32} (hs : SS own idx yJ9_min_7cf53 cJ9_min_7cf53 2 (some .int) 2) (hf : 1 ≤ rm.frames) (hl : (st.map fun v => v.category).sum + 13 ≤ rm.locals) (hc : k ≤ rm.cells) (hn : n ≤ rm.slots) (hd : DD cc pc (.invokestatic idx) 3 pc1) (kk : VJ K k n h pc1 lv (.int (imin x y) :: st)) : VJ K k n h pc lv (.int y :: .int x :: st) := by
  obtain ⟨p, l, e, R, s, m, args, below, meth, c, Q, nL, g, A⟩ := K
  obtain ⟨hx, hb, hml, hown, hts, hE, hA, hlk, rfl, rfl, rfl, rfl⟩ := X
  obtain ⟨hd, rfl⟩ := hd
  exact fun H locs ls h1 h2 h3 h4 => va_mmin hx hb (hml.trans h4.1.symm) hown (hts _ hs.1) (hts _ hs.2.1) (hts _ hs.2.2.1) (mI_c ▸ hts _ hs.2.2.2.1) hf hl hc hn hd (kk H locs ls h1 h2 h3 h4)
end VM
