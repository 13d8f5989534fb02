/-! ===== the judgement: a heap as a function from addresses to cells ===== -/
abbrev Hp : Type := Nat → Option va_E
def HP (g : GT) (h : Hp) (H : Heap) : Prop := ∀ (a : Nat) (c : va_E), h a = some c → va_at g.1 vwCl (a, c) H
def dm (h : Hp) (sz : Nat) : Nat → Prop := fun q => h q ≠ none ∨ sz ≤ q
def hU (h : Hp) (a : Nat) (c : va_E) : Hp := fun x => if x = a then some c else h x
theorem hU_s {h : Hp} {a : Nat} {c : va_E} : hU h a c a = some c := by simp [hU]
theorem hU_n {h : Hp} {a b : Nat} {c : va_E} (hne : b ≠ a) : hU h a c b = h b := by simp [hU, hne]
theorem hU_u {h : Hp} {a : Nat} {c d : va_E} : hU (hU h a c) a d = hU h a d := by
  funext x; unfold hU; by_cases hx : x = a <;> simp [hx]
theorem hU_w {h : Hp} {a b : Nat} {c d : va_E} (hne : a ≠ b) : hU (hU h a c) b d = hU (hU h b d) a c := by
  funext x; unfold hU
  by_cases hx : x = a
  · subst hx; simp [hne]
  · simp [hx]
theorem hU_id {h : Hp} {a : Nat} {c : va_E} (ha : h a = some c) : hU h a c = h := by
  funext x; unfold hU; by_cases hx : x = a
  · subst hx; simp [ha]
  · simp [hx]
theorem HP.lt {g : GT} {h : Hp} {H : Heap} (hp : HP g h H) {a : Nat} {c : va_E} (ha : h a = some c) : a < H.size := (hp a c ha).lt
theorem HP.one {g : GT} {h : Hp} {H : Heap} (hp : HP g h H) {a : Nat} {c : va_E} (ha : h a = some c) : va_P g.1 vwCl [(a, c)] H := by
  intro k q hk
  match k, hk with
  | 0, hk => cases hk; exact hp a c ha
  | k + 1, hk => simp at hk
theorem HD1 {A : Nat → Prop} {a : Nat} {c : va_E} (ha : A a) : va_D A [(a, c)] := by
  refine ⟨fun i j x y hi hj _ => ?_, fun k q hk => ?_⟩
  · have h1 := (List.getElem?_eq_some_iff.mp hi).1
    have h2 := (List.getElem?_eq_some_iff.mp hj).1
    simp at h1 h2; omega
  · match k, hk with
    | 0, hk => cases hk; exact ha
    | k + 1, hk => simp at hk
theorem HP.set {g : GT} {h : Hp} {H H1 : Heap} (hp : HP g h H) {a : Nat} {c : va_E} (he : va_at g.1 vwCl (a, c) H1) (oq : ∀ q : Nat, q ≠ a → H1[q]? = H[q]?) : HP g (hU h a c) H1 := by
  intro x d hx
  by_cases hxa : x = a
  · subst hxa; rw [hU_s] at hx; cases hx; exact he
  · rw [hU_n hxa] at hx; exact (hp x d hx).kept (oq x hxa)
theorem HP.kept {g : GT} {h : Hp} {H H1 : Heap} (hp : HP g h H) (oq : ∀ q : Nat, q < H.size → H1[q]? = H[q]?) : HP g h H1 := fun x d hx => (hp x d hx).kept (oq x (hp.lt hx))
abbrev KT : Type := Program × Launch × Env × Room × State × MethodId × Array Value × List Frame × Method × Code × (State → Prop) × Nat × GT × (Nat → Prop)
def VJ (K : KT) (k n : Nat) (h : Hp) (pc : Nat) (lv : List (Nat × Value)) (st : List Value) : Prop := match K with
  | (p, l, e, R, s, m, args, below, meth, c, Q, nL, g, A) => ∀ (H : Heap) (locs : List Loc) (ls : Array Slot), HP g h H → (∀ a, h a ≠ none → A a) → va_S A s.heap H locs → lv_has ls nL lv → W p l e R s m args below meth c H locs k n Q (F0 m pc ls st)
def Cx (K : KT) (l0 : Launch) (g0 : GT) (cc : ByteArray) (own : String) (nL0 : Nat) (rm : Room) : Prop := match K with
  | (p, l, e, R, s, m, args, below, meth, c, Q, nL, g, A) => p.tables.exec = Jvm.exec ∧ c.code = cc ∧ c.maxLocals = nL ∧ s.vm.findClass own = some m.cls ∧ (∀ w ∈ GW, w.before args s = true) ∧ EV g A s ∧ (∀ q, s.heap.size ≤ q → A q) ∧ meth.locks = false ∧ l = l0 ∧ g = g0 ∧ R = rm ∧ nL = nL0
def QFp (g : GT) (A : Nat → Prop) (P : Option Value → Hp → Prop) : Array Value → State → Outcome → State → Prop := fun _ st oc t => (∃ (r : Option Value) (h2 : Hp), oc = .returned r ∧ P r h2 ∧ HP g h2 t.heap ∧ ∀ a, h2 a ≠ none → A a) ∧ va_F A st t
def Rt (K : KT) (ret : Option FieldType) (P : Option Value → Hp → Prop) (mc ms : Nat) : Prop := match K with
  | (p, l, e, R, s, m, args, below, meth, c, Q, nL, g, A) => meth.sig.returnType = ret ∧ Q = MQ below (QFp g A P) args s mc ms A
def MC (l : Launch) (g : GT) (y : MethodName) (cc : ByteArray) (nL : Nat) (ret : Option FieldType) (rm : Room) (av : List Value) (h : Hp) (P : Option Value → Hp → Prop) (mc ms : Nat) : Prop :=
  ∀ sz : Nat, Met l y (Cond.code y cc nL ret :: GW) rm (va_Pc av (fun U => U.heap.size = sz ∧ HP g h U.heap ∧ EV g (dm h sz) U)) (QFp g (dm h sz) P) mc ms (dm h sz)
abbrev MF (l : Launch) (g : GT) (y : MethodName) (cc : ByteArray) (nL : Nat) (ret : Option FieldType) (rm : Room) (av : List Value) (h : Hp) (r : Option Value) (h2 : Hp) : Prop := MC l g y cc nL ret rm av h (fun r' h' => r' = r ∧ h' = h2) 0 0
theorem mc_of {l : Launch} {g : GT} {y : MethodName} {cc : ByteArray} {nL : Nat} {ret : Option FieldType} {rm : Room} {av : List Value} {h : Hp} {P : Option Value → Hp → Prop} {mc ms : Nat} (hy : plainName y.cls = true) (hlen : (lg_sl av).length ≤ nL)
    (body : ∀ K : KT, Cx K l g cc y.cls nL rm → Rt K ret P mc ms → VJ K 0 0 h 0 (lv_args 0 av) []) : MC l g y cc nL ret rm av h P mc ms := by
  intro sz
  refine Met.ofW (cc := cc) (maxL := nL) (ret := ret) hy rfl ?_
  intro p e s m args below meth c s₁ B hml hv
  obtain ⟨rfl, hsz, hP, hE⟩ := hv
  subst hsz
  have hts := atoms_spec (ws := Cond.code y cc nL ret :: GW) B.pre
  have hown : s.vm.findClass y.cls = some m.cls := findClass_of_methodNamed B.named
  have hb := body (p, l, e, rm, s, m, av.toArray, below, meth, c, MQ below (QFp g (dm h s.heap.size) P) av.toArray s mc ms (dm h s.heap.size), nL, g, dm h s.heap.size)
    ⟨B.exec, B.bytes, hml, hown, fun w hw => hts w (List.mem_cons_of_mem _ hw), hE, fun q hq => Or.inr hq, B.notSynchronized, rfl, rfl, rfl, rfl⟩ ⟨B.returns, rfl⟩
  have hl := lv_entry av (n := nL) hlen
  rw [lg_entry_eq]
  exact hb s.heap [] _ hP (fun a ha => Or.inl ha) va_S.rf hl
section VR
variable {K : KT} {l0 : Launch} {g0 : GT} {cc : ByteArray} {own : String} {nL0 : Nat} {rm : Room} {k n : Nat} {h : Hp} {pc pc1 : Nat} {lv : List (Nat × Value)} {st : List Value}
theorem v_nmi {x : Int32} (kk : ∀ y : Int32, y = x → VJ K k n h pc lv (.int y :: st)) : VJ K k n h pc lv (.int x :: st) := kk x rfl
theorem v_nml {x : Int64} (kk : ∀ y : Int64, y = x → VJ K k n h pc lv (.long y :: st)) : VJ K k n h pc lv (.long x :: st) := kk x rfl
theorem v_eqi {x y : Int32} (e : x = y) (kk : VJ K k n h pc lv (.int y :: st)) : VJ K k n h pc lv (.int x :: st) := e ▸ kk
theorem v_eqh {h2 : Hp} (e : h = h2) (kk : VJ K k n h2 pc lv st) : VJ K k n h pc lv st := e ▸ kk
theorem v_eqs {st2 : List Value} (e : st = st2) (kk : VJ K k n h pc lv st2) : VJ K k n h pc lv st := e ▸ kk
theorem v_eqv {lv2 : List (Nat × Value)} (e : lv = lv2) (kk : VJ K k n h pc lv2 st) : VJ K k n h pc lv st := e ▸ kk
theorem v_lv {lv2 : List (Nat × Value)} (ks : List Nat) (e : lv_pick lv ks = lv2) (kk : VJ K k n h pc lv2 st) : VJ K k n h pc lv st := by
  obtain ⟨p, l, e, R, s, m, args, below, meth, c, Q, nL, g, A⟩ := K
  exact fun H locs ls h1 h2 h3 h4 => kk H locs ls h1 h2 h3 (lv_sub h4 ks ‹_›)
theorem v_widen {k2 n2 : Nat} (h1 : k ≤ k2) (h2 : n ≤ n2) (kk : VJ K k2 n2 h pc lv st) : VJ K k n h pc lv st := by
  obtain ⟨p, l, e, R, s, m, args, below, meth, c, Q, nL, g, A⟩ := K
  exact fun H locs ls a1 a2 a3 a4 => W.widen h1 h2 (kk H locs ls a1 a2 a3 a4)

theorem v_iconst (X : Cx K l0 g0 cc own nL0 rm) {i : Int} {v : Int32} (hd : DD cc pc (.iconst i) 1 pc1) (hv : Int32.ofInt i = v) (kk : VJ K k n h pc1 lv (.int v :: st)) : VJ K k n h pc lv (st) := by
  obtain ⟨p, l, e, R, s, m, args, below, meth, c, Q, nL, g, A⟩ := K
  obtain ⟨hx, hb, hml, hown, hts, hE, hA, hlk, rfl, rfl, rfl, rfl⟩ := X
  obtain ⟨hd, rfl⟩ := hd
  exact fun H locs ls h1 h2 h3 h4 => lv_iconst hx hb hd hv (kk H locs ls h1 h2 h3 h4)
theorem v_bipush (X : Cx K l0 g0 cc own nL0 rm) {i : Int} {v : Int32} (hd : DD cc pc (.bipush i) 2 pc1) (hv : (Int8.ofInt i).toInt32 = v) (kk : VJ K k n h pc1 lv (.int v :: st)) : VJ K k n h pc lv (st) := by
  obtain ⟨p, l, e, R, s, m, args, below, meth, c, Q, nL, g, A⟩ := K
  obtain ⟨hx, hb, hml, hown, hts, hE, hA, hlk, rfl, rfl, rfl, rfl⟩ := X
  obtain ⟨hd, rfl⟩ := hd
  exact fun H locs ls h1 h2 h3 h4 => lv_bipush hx hb hd hv (kk H locs ls h1 h2 h3 h4)
theorem v_sipush (X : Cx K l0 g0 cc own nL0 rm) {i : Int} {v : Int32} (hd : DD cc pc (.sipush i) 3 pc1) (hv : (Int16.ofInt i).toInt32 = v) (kk : VJ K k n h pc1 lv (.int v :: st)) : VJ K k n h pc lv (st) := by
  obtain ⟨p, l, e, R, s, m, args, below, meth, c, Q, nL, g, A⟩ := K
  obtain ⟨hx, hb, hml, hown, hts, hE, hA, hlk, rfl, rfl, rfl, rfl⟩ := X
  obtain ⟨hd, rfl⟩ := hd
  exact fun H locs ls h1 h2 h3 h4 => lv_sipush hx hb hd hv (kk H locs ls h1 h2 h3 h4)
theorem v_lconst (X : Cx K l0 g0 cc own nL0 rm) {i : Fin 2} {v : Int64} (hd : DD cc pc (.lconst i) 1 pc1) (hv : Int64.ofNat (i : Nat) = v) (kk : VJ K k n h pc1 lv (.long v :: st)) : VJ K k n h pc lv (st) := by
  obtain ⟨p, l, e, R, s, m, args, below, meth, c, Q, nL, g, A⟩ := K
  obtain ⟨hx, hb, hml, hown, hts, hE, hA, hlk, rfl, rfl, rfl, rfl⟩ := X
  obtain ⟨hd, rfl⟩ := hd
  exact fun H locs ls h1 h2 h3 h4 => lv_lconst hx hb hd hv (kk H locs ls h1 h2 h3 h4)
theorem v_null (X : Cx K l0 g0 cc own nL0 rm) (hd : DD cc pc (.aconst_null) 1 pc1) (kk : VJ K k n h pc1 lv (.null :: st)) : VJ K k n h pc lv (st) := by
  obtain ⟨p, l, e, R, s, m, args, below, meth, c, Q, nL, g, A⟩ := K
  obtain ⟨hx, hb, hml, hown, hts, hE, hA, hlk, rfl, rfl, rfl, rfl⟩ := X
  obtain ⟨hd, rfl⟩ := hd
  exact fun H locs ls h1 h2 h3 h4 => lv_null hx hb hd (kk H locs ls h1 h2 h3 h4)
theorem v_ldc (X : Cx K l0 g0 cc own nL0 rm) {i : Nat} {v : Int32} (hd : DD cc pc (.ldc i) 2 pc1) (hw : Cond.constant own i v ∈ GW) (kk : VJ K k n h pc1 lv (.int v :: st)) : VJ K k n h pc lv (st) := by
  obtain ⟨p, l, e, R, s, m, args, below, meth, c, Q, nL, g, A⟩ := K
  obtain ⟨hx, hb, hml, hown, hts, hE, hA, hlk, rfl, rfl, rfl, rfl⟩ := X
  obtain ⟨hd, rfl⟩ := hd
  exact fun H locs ls h1 h2 h3 h4 => lv_ldc hx hb hown (hts _ hw) hd (kk H locs ls h1 h2 h3 h4)
theorem v_ldcw (X : Cx K l0 g0 cc own nL0 rm) {i : Nat} {v : Int32} (hd : DD cc pc (.ldc_w i) 3 pc1) (hw : Cond.constant own i v ∈ GW) (kk : VJ K k n h pc1 lv (.int v :: st)) : VJ K k n h pc lv (st) := by
  obtain ⟨p, l, e, R, s, m, args, below, meth, c, Q, nL, g, A⟩ := K
  obtain ⟨hx, hb, hml, hown, hts, hE, hA, hlk, rfl, rfl, rfl, rfl⟩ := X
  obtain ⟨hd, rfl⟩ := hd
  exact fun H locs ls h1 h2 h3 h4 => lv_ldcw hx hb hown (hts _ hw) hd (kk H locs ls h1 h2 h3 h4)
theorem v_ldc2 (X : Cx K l0 g0 cc own nL0 rm) {i : Nat} {v : Int64} (hd : DD cc pc (.ldc2_w i) 3 pc1) (hw : Cond.constantLong own i v ∈ GW) (kk : VJ K k n h pc1 lv (.long v :: st)) : VJ K k n h pc lv (st) := by
  obtain ⟨p, l, e, R, s, m, args, below, meth, c, Q, nL, g, A⟩ := K
  obtain ⟨hx, hb, hml, hown, hts, hE, hA, hlk, rfl, rfl, rfl, rfl⟩ := X
  obtain ⟨hd, rfl⟩ := hd
  exact fun H locs ls h1 h2 h3 h4 => lv_ldc2 hx hb hown (hts _ hw) hd (kk H locs ls h1 h2 h3 h4)
theorem v_iload_n (X : Cx K l0 g0 cc own nL0 rm) {j : Fin 4} {x : Int32} (hd : DD cc pc (.iload_n j) 1 pc1) (q : Nat) (hq : lv[q]? = some ((j : Nat), .int x)) (kk : VJ K k n h pc1 lv (.int x :: st)) : VJ K k n h pc lv (st) := by
  obtain ⟨p, l, e, R, s, m, args, below, meth, c, Q, nL, g, A⟩ := K
  obtain ⟨hx, hb, hml, hown, hts, hE, hA, hlk, rfl, rfl, rfl, rfl⟩ := X
  obtain ⟨hd, rfl⟩ := hd
  exact fun H locs ls h1 h2 h3 h4 => lv_iload_n hx hb hd rfl (lv_at h4 q hq) (kk H locs ls h1 h2 h3 h4)
theorem v_iload (X : Cx K l0 g0 cc own nL0 rm) {j : Nat} {x : Int32} (hd : DD cc pc (.iload j) 2 pc1) (q : Nat) (hq : lv[q]? = some (j, .int x)) (kk : VJ K k n h pc1 lv (.int x :: st)) : VJ K k n h pc lv (st) := by
  obtain ⟨p, l, e, R, s, m, args, below, meth, c, Q, nL, g, A⟩ := K
  obtain ⟨hx, hb, hml, hown, hts, hE, hA, hlk, rfl, rfl, rfl, rfl⟩ := X
  obtain ⟨hd, rfl⟩ := hd
  exact fun H locs ls h1 h2 h3 h4 => lv_iload hx hb hd (lv_at h4 q hq) (kk H locs ls h1 h2 h3 h4)
theorem v_lload_n (X : Cx K l0 g0 cc own nL0 rm) {j : Fin 4} {x : Int64} (hd : DD cc pc (.lload_n j) 1 pc1) (q : Nat) (hq : lv[q]? = some ((j : Nat), .long x)) (kk : VJ K k n h pc1 lv (.long x :: st)) : VJ K k n h pc lv (st) := by
  obtain ⟨p, l, e, R, s, m, args, below, meth, c, Q, nL, g, A⟩ := K
  obtain ⟨hx, hb, hml, hown, hts, hE, hA, hlk, rfl, rfl, rfl, rfl⟩ := X
  obtain ⟨hd, rfl⟩ := hd
  exact fun H locs ls h1 h2 h3 h4 => lv_lload_n hx hb hd rfl (lv_at h4 q hq) (kk H locs ls h1 h2 h3 h4)
theorem v_lload (X : Cx K l0 g0 cc own nL0 rm) {j : Nat} {x : Int64} (hd : DD cc pc (.lload j) 2 pc1) (q : Nat) (hq : lv[q]? = some (j, .long x)) (kk : VJ K k n h pc1 lv (.long x :: st)) : VJ K k n h pc lv (st) := by
  obtain ⟨p, l, e, R, s, m, args, below, meth, c, Q, nL, g, A⟩ := K
  obtain ⟨hx, hb, hml, hown, hts, hE, hA, hlk, rfl, rfl, rfl, rfl⟩ := X
  obtain ⟨hd, rfl⟩ := hd
  exact fun H locs ls h1 h2 h3 h4 => lv_lload hx hb hd (lv_at h4 q hq) (kk H locs ls h1 h2 h3 h4)
theorem v_aload_n (X : Cx K l0 g0 cc own nL0 rm) {j : Fin 4} {x : Nat} (hd : DD cc pc (.aload_n j) 1 pc1) (q : Nat) (hq : lv[q]? = some ((j : Nat), .ref x)) (kk : VJ K k n h pc1 lv (.ref x :: st)) : VJ K k n h pc lv (st) := by
  obtain ⟨p, l, e, R, s, m, args, below, meth, c, Q, nL, g, A⟩ := K
  obtain ⟨hx, hb, hml, hown, hts, hE, hA, hlk, rfl, rfl, rfl, rfl⟩ := X
  obtain ⟨hd, rfl⟩ := hd
  exact fun H locs ls h1 h2 h3 h4 => lv_aload_n hx hb hd rfl (lv_at h4 q hq) (kk H locs ls h1 h2 h3 h4)
theorem v_aload (X : Cx K l0 g0 cc own nL0 rm) {j : Nat} {x : Nat} (hd : DD cc pc (.aload j) 2 pc1) (q : Nat) (hq : lv[q]? = some (j, .ref x)) (kk : VJ K k n h pc1 lv (.ref x :: st)) : VJ K k n h pc lv (st) := by
  obtain ⟨p, l, e, R, s, m, args, below, meth, c, Q, nL, g, A⟩ := K
  obtain ⟨hx, hb, hml, hown, hts, hE, hA, hlk, rfl, rfl, rfl, rfl⟩ := X
  obtain ⟨hd, rfl⟩ := hd
  exact fun H locs ls h1 h2 h3 h4 => lv_aload hx hb hd (lv_at h4 q hq) (kk H locs ls h1 h2 h3 h4)
theorem v_aload_nN (X : Cx K l0 g0 cc own nL0 rm) {j : Fin 4} (hd : DD cc pc (.aload_n j) 1 pc1) (q : Nat) (hq : lv[q]? = some ((j : Nat), .null)) (kk : VJ K k n h pc1 lv (.null :: st)) : VJ K k n h pc lv (st) := by
  obtain ⟨p, l, e, R, s, m, args, below, meth, c, Q, nL, g, A⟩ := K
  obtain ⟨hx, hb, hml, hown, hts, hE, hA, hlk, rfl, rfl, rfl, rfl⟩ := X
  obtain ⟨hd, rfl⟩ := hd
  exact fun H locs ls h1 h2 h3 h4 => lv_aload_nN hx hb hd rfl (lv_at h4 q hq) (kk H locs ls h1 h2 h3 h4)
theorem v_aloadN (X : Cx K l0 g0 cc own nL0 rm) {j : Nat} (hd : DD cc pc (.aload j) 2 pc1) (q : Nat) (hq : lv[q]? = some (j, .null)) (kk : VJ K k n h pc1 lv (.null :: st)) : VJ K k n h pc lv (st) := by
  obtain ⟨p, l, e, R, s, m, args, below, meth, c, Q, nL, g, A⟩ := K
  obtain ⟨hx, hb, hml, hown, hts, hE, hA, hlk, rfl, rfl, rfl, rfl⟩ := X
  obtain ⟨hd, rfl⟩ := hd
  exact fun H locs ls h1 h2 h3 h4 => lv_aloadN hx hb hd (lv_at h4 q hq) (kk H locs ls h1 h2 h3 h4)
theorem v_istore_n (X : Cx K l0 g0 cc own nL0 rm) {j : Fin 4} {x : Int32} {lv1 : List (Nat × Value)} (hd : DD cc pc (.istore_n j) 1 pc1) (hn : (j : Nat) < nL0) (hl : ((j : Nat), Value.int x) :: lv.filter (fun q => !(q.1 == (j : Nat)) && !(q.1 + 1 == (j : Nat) && q.2.category == 2)) = lv1) (kk : VJ K k n h pc1 lv1 st) : VJ K k n h pc lv (.int x :: st) := by
  obtain ⟨p, l, e, R, s, m, args, below, meth, c, Q, nL, g, A⟩ := K
  obtain ⟨hx, hb, hml, hown, hts, hE, hA, hlk, rfl, rfl, rfl, rfl⟩ := X
  obtain ⟨hd, rfl⟩ := hd
  exact fun H locs ls h1 h2 h3 h4 => lv_istore_n hx hb hd rfl h4 hn hl (fun ls' h4' => kk H locs ls' h1 h2 h3 h4')
theorem v_istore (X : Cx K l0 g0 cc own nL0 rm) {j : Nat} {x : Int32} {lv1 : List (Nat × Value)} (hd : DD cc pc (.istore j) 2 pc1) (hn : j < nL0) (hl : (j, Value.int x) :: lv.filter (fun q => !(q.1 == j) && !(q.1 + 1 == j && q.2.category == 2)) = lv1) (kk : VJ K k n h pc1 lv1 st) : VJ K k n h pc lv (.int x :: st) := by
  obtain ⟨p, l, e, R, s, m, args, below, meth, c, Q, nL, g, A⟩ := K
  obtain ⟨hx, hb, hml, hown, hts, hE, hA, hlk, rfl, rfl, rfl, rfl⟩ := X
  obtain ⟨hd, rfl⟩ := hd
  exact fun H locs ls h1 h2 h3 h4 => lv_istore hx hb hd h4 hn hl (fun ls' h4' => kk H locs ls' h1 h2 h3 h4')
theorem v_astore_n (X : Cx K l0 g0 cc own nL0 rm) {j : Fin 4} {x : Nat} {lv1 : List (Nat × Value)} (hd : DD cc pc (.astore_n j) 1 pc1) (hn : (j : Nat) < nL0) (hl : ((j : Nat), Value.ref x) :: lv.filter (fun q => !(q.1 == (j : Nat)) && !(q.1 + 1 == (j : Nat) && q.2.category == 2)) = lv1) (kk : VJ K k n h pc1 lv1 st) : VJ K k n h pc lv (.ref x :: st) := by
  obtain ⟨p, l, e, R, s, m, args, below, meth, c, Q, nL, g, A⟩ := K
  obtain ⟨hx, hb, hml, hown, hts, hE, hA, hlk, rfl, rfl, rfl, rfl⟩ := X
  obtain ⟨hd, rfl⟩ := hd
  exact fun H locs ls h1 h2 h3 h4 => lv_astore_n hx hb hd rfl h4 hn hl (fun ls' h4' => kk H locs ls' h1 h2 h3 h4')
theorem v_astore (X : Cx K l0 g0 cc own nL0 rm) {j : Nat} {x : Nat} {lv1 : List (Nat × Value)} (hd : DD cc pc (.astore j) 2 pc1) (hn : j < nL0) (hl : (j, Value.ref x) :: lv.filter (fun q => !(q.1 == j) && !(q.1 + 1 == j && q.2.category == 2)) = lv1) (kk : VJ K k n h pc1 lv1 st) : VJ K k n h pc lv (.ref x :: st) := by
  obtain ⟨p, l, e, R, s, m, args, below, meth, c, Q, nL, g, A⟩ := K
  obtain ⟨hx, hb, hml, hown, hts, hE, hA, hlk, rfl, rfl, rfl, rfl⟩ := X
  obtain ⟨hd, rfl⟩ := hd
  exact fun H locs ls h1 h2 h3 h4 => lv_astore hx hb hd h4 hn hl (fun ls' h4' => kk H locs ls' h1 h2 h3 h4')
theorem v_lstore_n (X : Cx K l0 g0 cc own nL0 rm) {j : Fin 4} {x : Int64} {lv1 : List (Nat × Value)} (hd : DD cc pc (.lstore_n j) 1 pc1) (hn : (j : Nat) + 1 < nL0) (hl : ((j : Nat), Value.long x) :: lv.filter (fun q => !(q.1 == (j : Nat)) && (!(q.1 == (j : Nat) + 1) && !(q.1 + 1 == (j : Nat) && q.2.category == 2))) = lv1) (kk : VJ K k n h pc1 lv1 st) : VJ K k n h pc lv (.long x :: st) := by
  obtain ⟨p, l, e, R, s, m, args, below, meth, c, Q, nL, g, A⟩ := K
  obtain ⟨hx, hb, hml, hown, hts, hE, hA, hlk, rfl, rfl, rfl, rfl⟩ := X
  obtain ⟨hd, rfl⟩ := hd
  exact fun H locs ls h1 h2 h3 h4 => lv_lstore_n hx hb hd rfl h4 hn hl (fun ls' h4' => kk H locs ls' h1 h2 h3 h4')
theorem v_lstore (X : Cx K l0 g0 cc own nL0 rm) {j : Nat} {x : Int64} {lv1 : List (Nat × Value)} (hd : DD cc pc (.lstore j) 2 pc1) (hn : j + 1 < nL0) (hl : (j, Value.long x) :: lv.filter (fun q => !(q.1 == j) && (!(q.1 == j + 1) && !(q.1 + 1 == j && q.2.category == 2))) = lv1) (kk : VJ K k n h pc1 lv1 st) : VJ K k n h pc lv (.long x :: st) := by
  obtain ⟨p, l, e, R, s, m, args, below, meth, c, Q, nL, g, A⟩ := K
  obtain ⟨hx, hb, hml, hown, hts, hE, hA, hlk, rfl, rfl, rfl, rfl⟩ := X
  obtain ⟨hd, rfl⟩ := hd
  exact fun H locs ls h1 h2 h3 h4 => lv_lstore hx hb hd h4 hn hl (fun ls' h4' => kk H locs ls' h1 h2 h3 h4')
theorem v_astore_nN (X : Cx K l0 g0 cc own nL0 rm) {j : Fin 4} {lv1 : List (Nat × Value)} (hd : DD cc pc (.astore_n j) 1 pc1) (hn : (j : Nat) < nL0) (hl : ((j : Nat), Value.null) :: lv.filter (fun q => !(q.1 == (j : Nat)) && !(q.1 + 1 == (j : Nat) && q.2.category == 2)) = lv1) (kk : VJ K k n h pc1 lv1 st) : VJ K k n h pc lv (.null :: st) := by
  obtain ⟨p, l, e, R, s, m, args, below, meth, c, Q, nL, g, A⟩ := K
  obtain ⟨hx, hb, hml, hown, hts, hE, hA, hlk, rfl, rfl, rfl, rfl⟩ := X
  obtain ⟨hd, rfl⟩ := hd
  exact fun H locs ls h1 h2 h3 h4 => lv_astore_nN hx hb hd rfl h4 hn hl (fun ls' h4' => kk H locs ls' h1 h2 h3 h4')
theorem v_astoreN (X : Cx K l0 g0 cc own nL0 rm) {j : Nat} {lv1 : List (Nat × Value)} (hd : DD cc pc (.astore j) 2 pc1) (hn : j < nL0) (hl : (j, Value.null) :: lv.filter (fun q => !(q.1 == j) && !(q.1 + 1 == j && q.2.category == 2)) = lv1) (kk : VJ K k n h pc1 lv1 st) : VJ K k n h pc lv (.null :: st) := by
  obtain ⟨p, l, e, R, s, m, args, below, meth, c, Q, nL, g, A⟩ := K
  obtain ⟨hx, hb, hml, hown, hts, hE, hA, hlk, rfl, rfl, rfl, rfl⟩ := X
  obtain ⟨hd, rfl⟩ := hd
  exact fun H locs ls h1 h2 h3 h4 => lv_astoreN hx hb hd h4 hn hl (fun ls' h4' => kk H locs ls' h1 h2 h3 h4')
theorem v_iinc (X : Cx K l0 g0 cc own nL0 rm) {j : Nat} {i : Int} {x v : Int32} {lv1 : List (Nat × Value)} (hd : DD cc pc (.iinc j i) 3 pc1) (q : Nat) (hq : lv[q]? = some (j, .int x)) (hv : x + Int32.ofInt i = v) (hn : j < nL0) (hl : (j, Value.int v) :: lv.filter (fun q => !(q.1 == j) && !(q.1 + 1 == j && q.2.category == 2)) = lv1) (kk : VJ K k n h pc1 lv1 st) : VJ K k n h pc lv st := by
  obtain ⟨p, l, e, R, s, m, args, below, meth, c, Q, nL, g, A⟩ := K
  obtain ⟨hx, hb, hml, hown, hts, hE, hA, hlk, rfl, rfl, rfl, rfl⟩ := X
  obtain ⟨hd, rfl⟩ := hd
  exact fun H locs ls h1 h2 h3 h4 => lv_iinc hx hb hd h4 (k := q) hq hv hn hl (fun ls' h4' => kk H locs ls' h1 h2 h3 h4')
theorem v_iadd (X : Cx K l0 g0 cc own nL0 rm) {x y : Int32} (hd : DD cc pc (.iadd) 1 pc1) (kk : VJ K k n h pc1 lv (.int (x + y) :: st)) : VJ K k n h pc lv (.int y :: .int x :: st) := by
  obtain ⟨p, l, e, R, s, m, args, below, meth, c, Q, nL, g, A⟩ := K
  obtain ⟨hx, hb, hml, hown, hts, hE, hA, hlk, rfl, rfl, rfl, rfl⟩ := X
  obtain ⟨hd, rfl⟩ := hd
  exact fun H locs ls h1 h2 h3 h4 => lv_iadd hx hb hd (kk H locs ls h1 h2 h3 h4)
theorem v_isub (X : Cx K l0 g0 cc own nL0 rm) {x y : Int32} (hd : DD cc pc (.isub) 1 pc1) (kk : VJ K k n h pc1 lv (.int (x - y) :: st)) : VJ K k n h pc lv (.int y :: .int x :: st) := by
  obtain ⟨p, l, e, R, s, m, args, below, meth, c, Q, nL, g, A⟩ := K
  obtain ⟨hx, hb, hml, hown, hts, hE, hA, hlk, rfl, rfl, rfl, rfl⟩ := X
  obtain ⟨hd, rfl⟩ := hd
  exact fun H locs ls h1 h2 h3 h4 => lv_isub hx hb hd (kk H locs ls h1 h2 h3 h4)
theorem v_imul (X : Cx K l0 g0 cc own nL0 rm) {x y : Int32} (hd : DD cc pc (.imul) 1 pc1) (kk : VJ K k n h pc1 lv (.int (x * y) :: st)) : VJ K k n h pc lv (.int y :: .int x :: st) := by
  obtain ⟨p, l, e, R, s, m, args, below, meth, c, Q, nL, g, A⟩ := K
  obtain ⟨hx, hb, hml, hown, hts, hE, hA, hlk, rfl, rfl, rfl, rfl⟩ := X
  obtain ⟨hd, rfl⟩ := hd
  exact fun H locs ls h1 h2 h3 h4 => lv_imul hx hb hd (kk H locs ls h1 h2 h3 h4)
theorem v_iand (X : Cx K l0 g0 cc own nL0 rm) {x y : Int32} (hd : DD cc pc (.iand) 1 pc1) (kk : VJ K k n h pc1 lv (.int (x &&& y) :: st)) : VJ K k n h pc lv (.int y :: .int x :: st) := by
  obtain ⟨p, l, e, R, s, m, args, below, meth, c, Q, nL, g, A⟩ := K
  obtain ⟨hx, hb, hml, hown, hts, hE, hA, hlk, rfl, rfl, rfl, rfl⟩ := X
  obtain ⟨hd, rfl⟩ := hd
  exact fun H locs ls h1 h2 h3 h4 => lv_iand hx hb hd (kk H locs ls h1 h2 h3 h4)
theorem v_ior (X : Cx K l0 g0 cc own nL0 rm) {x y : Int32} (hd : DD cc pc (.ior) 1 pc1) (kk : VJ K k n h pc1 lv (.int (x ||| y) :: st)) : VJ K k n h pc lv (.int y :: .int x :: st) := by
  obtain ⟨p, l, e, R, s, m, args, below, meth, c, Q, nL, g, A⟩ := K
  obtain ⟨hx, hb, hml, hown, hts, hE, hA, hlk, rfl, rfl, rfl, rfl⟩ := X
  obtain ⟨hd, rfl⟩ := hd
  exact fun H locs ls h1 h2 h3 h4 => lv_ior hx hb hd (kk H locs ls h1 h2 h3 h4)
theorem v_ixor (X : Cx K l0 g0 cc own nL0 rm) {x y : Int32} (hd : DD cc pc (.ixor) 1 pc1) (kk : VJ K k n h pc1 lv (.int (x ^^^ y) :: st)) : VJ K k n h pc lv (.int y :: .int x :: st) := by
  obtain ⟨p, l, e, R, s, m, args, below, meth, c, Q, nL, g, A⟩ := K
  obtain ⟨hx, hb, hml, hown, hts, hE, hA, hlk, rfl, rfl, rfl, rfl⟩ := X
  obtain ⟨hd, rfl⟩ := hd
  exact fun H locs ls h1 h2 h3 h4 => lv_ixor hx hb hd (kk H locs ls h1 h2 h3 h4)
theorem v_ladd (X : Cx K l0 g0 cc own nL0 rm) {x y : Int64} (hd : DD cc pc (.ladd) 1 pc1) (kk : VJ K k n h pc1 lv (.long (x + y) :: st)) : VJ K k n h pc lv (.long y :: .long x :: st) := by
  obtain ⟨p, l, e, R, s, m, args, below, meth, c, Q, nL, g, A⟩ := K
  obtain ⟨hx, hb, hml, hown, hts, hE, hA, hlk, rfl, rfl, rfl, rfl⟩ := X
  obtain ⟨hd, rfl⟩ := hd
  exact fun H locs ls h1 h2 h3 h4 => lv_ladd hx hb hd (kk H locs ls h1 h2 h3 h4)
theorem v_lsub (X : Cx K l0 g0 cc own nL0 rm) {x y : Int64} (hd : DD cc pc (.lsub) 1 pc1) (kk : VJ K k n h pc1 lv (.long (x - y) :: st)) : VJ K k n h pc lv (.long y :: .long x :: st) := by
  obtain ⟨p, l, e, R, s, m, args, below, meth, c, Q, nL, g, A⟩ := K
  obtain ⟨hx, hb, hml, hown, hts, hE, hA, hlk, rfl, rfl, rfl, rfl⟩ := X
  obtain ⟨hd, rfl⟩ := hd
  exact fun H locs ls h1 h2 h3 h4 => lv_lsub hx hb hd (kk H locs ls h1 h2 h3 h4)
theorem v_lmul (X : Cx K l0 g0 cc own nL0 rm) {x y : Int64} (hd : DD cc pc (.lmul) 1 pc1) (kk : VJ K k n h pc1 lv (.long (x * y) :: st)) : VJ K k n h pc lv (.long y :: .long x :: st) := by
  obtain ⟨p, l, e, R, s, m, args, below, meth, c, Q, nL, g, A⟩ := K
  obtain ⟨hx, hb, hml, hown, hts, hE, hA, hlk, rfl, rfl, rfl, rfl⟩ := X
  obtain ⟨hd, rfl⟩ := hd
  exact fun H locs ls h1 h2 h3 h4 => lv_lmul hx hb hd (kk H locs ls h1 h2 h3 h4)
theorem v_land (X : Cx K l0 g0 cc own nL0 rm) {x y : Int64} (hd : DD cc pc (.land) 1 pc1) (kk : VJ K k n h pc1 lv (.long (x &&& y) :: st)) : VJ K k n h pc lv (.long y :: .long x :: st) := by
  obtain ⟨p, l, e, R, s, m, args, below, meth, c, Q, nL, g, A⟩ := K
  obtain ⟨hx, hb, hml, hown, hts, hE, hA, hlk, rfl, rfl, rfl, rfl⟩ := X
  obtain ⟨hd, rfl⟩ := hd
  exact fun H locs ls h1 h2 h3 h4 => lv_land hx hb hd (kk H locs ls h1 h2 h3 h4)
theorem v_lor (X : Cx K l0 g0 cc own nL0 rm) {x y : Int64} (hd : DD cc pc (.lor) 1 pc1) (kk : VJ K k n h pc1 lv (.long (x ||| y) :: st)) : VJ K k n h pc lv (.long y :: .long x :: st) := by
  obtain ⟨p, l, e, R, s, m, args, below, meth, c, Q, nL, g, A⟩ := K
  obtain ⟨hx, hb, hml, hown, hts, hE, hA, hlk, rfl, rfl, rfl, rfl⟩ := X
  obtain ⟨hd, rfl⟩ := hd
  exact fun H locs ls h1 h2 h3 h4 => lv_lor hx hb hd (kk H locs ls h1 h2 h3 h4)
theorem v_lxor (X : Cx K l0 g0 cc own nL0 rm) {x y : Int64} (hd : DD cc pc (.lxor) 1 pc1) (kk : VJ K k n h pc1 lv (.long (x ^^^ y) :: st)) : VJ K k n h pc lv (.long y :: .long x :: st) := by
  obtain ⟨p, l, e, R, s, m, args, below, meth, c, Q, nL, g, A⟩ := K
  obtain ⟨hx, hb, hml, hown, hts, hE, hA, hlk, rfl, rfl, rfl, rfl⟩ := X
  obtain ⟨hd, rfl⟩ := hd
  exact fun H locs ls h1 h2 h3 h4 => lv_lxor hx hb hd (kk H locs ls h1 h2 h3 h4)
theorem v_idiv (X : Cx K l0 g0 cc own nL0 rm) {x y : Int32} (hd : DD cc pc (.idiv) 1 pc1) (hne : ¬ y = 0) (kk : VJ K k n h pc1 lv (.int (x / y) :: st)) : VJ K k n h pc lv (.int y :: .int x :: st) := by
  obtain ⟨p, l, e, R, s, m, args, below, meth, c, Q, nL, g, A⟩ := K
  obtain ⟨hx, hb, hml, hown, hts, hE, hA, hlk, rfl, rfl, rfl, rfl⟩ := X
  obtain ⟨hd, rfl⟩ := hd
  exact fun H locs ls h1 h2 h3 h4 => lv_idiv hx hb hd hne (kk H locs ls h1 h2 h3 h4)
theorem v_irem (X : Cx K l0 g0 cc own nL0 rm) {x y : Int32} (hd : DD cc pc (.irem) 1 pc1) (hne : ¬ y = 0) (kk : VJ K k n h pc1 lv (.int (x - x / y * y) :: st)) : VJ K k n h pc lv (.int y :: .int x :: st) := by
  obtain ⟨p, l, e, R, s, m, args, below, meth, c, Q, nL, g, A⟩ := K
  obtain ⟨hx, hb, hml, hown, hts, hE, hA, hlk, rfl, rfl, rfl, rfl⟩ := X
  obtain ⟨hd, rfl⟩ := hd
  exact fun H locs ls h1 h2 h3 h4 => lv_irem hx hb hd hne (kk H locs ls h1 h2 h3 h4)
theorem v_ineg (X : Cx K l0 g0 cc own nL0 rm) {x : Int32} (hd : DD cc pc (.ineg) 1 pc1) (kk : VJ K k n h pc1 lv (.int (-x) :: st)) : VJ K k n h pc lv (.int x :: st) := by
  obtain ⟨p, l, e, R, s, m, args, below, meth, c, Q, nL, g, A⟩ := K
  obtain ⟨hx, hb, hml, hown, hts, hE, hA, hlk, rfl, rfl, rfl, rfl⟩ := X
  obtain ⟨hd, rfl⟩ := hd
  exact fun H locs ls h1 h2 h3 h4 => lv_ineg hx hb hd (kk H locs ls h1 h2 h3 h4)
theorem v_ishl (X : Cx K l0 g0 cc own nL0 rm) {x y : Int32} (hd : DD cc pc (.ishl) 1 pc1) (kk : VJ K k n h pc1 lv (.int (x <<< (y &&& 31)) :: st)) : VJ K k n h pc lv (.int y :: .int x :: st) := by
  obtain ⟨p, l, e, R, s, m, args, below, meth, c, Q, nL, g, A⟩ := K
  obtain ⟨hx, hb, hml, hown, hts, hE, hA, hlk, rfl, rfl, rfl, rfl⟩ := X
  obtain ⟨hd, rfl⟩ := hd
  exact fun H locs ls h1 h2 h3 h4 => lv_ishl hx hb hd (kk H locs ls h1 h2 h3 h4)
theorem v_ishr (X : Cx K l0 g0 cc own nL0 rm) {x y : Int32} (hd : DD cc pc (.ishr) 1 pc1) (kk : VJ K k n h pc1 lv (.int (x >>> (y &&& 31)) :: st)) : VJ K k n h pc lv (.int y :: .int x :: st) := by
  obtain ⟨p, l, e, R, s, m, args, below, meth, c, Q, nL, g, A⟩ := K
  obtain ⟨hx, hb, hml, hown, hts, hE, hA, hlk, rfl, rfl, rfl, rfl⟩ := X
  obtain ⟨hd, rfl⟩ := hd
  exact fun H locs ls h1 h2 h3 h4 => lv_ishr hx hb hd (kk H locs ls h1 h2 h3 h4)
theorem v_iushr (X : Cx K l0 g0 cc own nL0 rm) {x y : Int32} (hd : DD cc pc (.iushr) 1 pc1) (kk : VJ K k n h pc1 lv (.int ((x.toUInt32 >>> (y.toUInt32 &&& Int32.toUInt32 31)).toInt32) :: st)) : VJ K k n h pc lv (.int y :: .int x :: st) := by
  obtain ⟨p, l, e, R, s, m, args, below, meth, c, Q, nL, g, A⟩ := K
  obtain ⟨hx, hb, hml, hown, hts, hE, hA, hlk, rfl, rfl, rfl, rfl⟩ := X
  obtain ⟨hd, rfl⟩ := hd
  exact fun H locs ls h1 h2 h3 h4 => lv_iushr hx hb hd rfl (kk H locs ls h1 h2 h3 h4)
theorem v_lshl (X : Cx K l0 g0 cc own nL0 rm) {x : Int64} {y : Int32} (hd : DD cc pc (.lshl) 1 pc1) (kk : VJ K k n h pc1 lv (.long (x <<< (y.toInt64 &&& 63)) :: st)) : VJ K k n h pc lv (.int y :: .long x :: st) := by
  obtain ⟨p, l, e, R, s, m, args, below, meth, c, Q, nL, g, A⟩ := K
  obtain ⟨hx, hb, hml, hown, hts, hE, hA, hlk, rfl, rfl, rfl, rfl⟩ := X
  obtain ⟨hd, rfl⟩ := hd
  exact fun H locs ls h1 h2 h3 h4 => lv_lshl hx hb hd rfl (kk H locs ls h1 h2 h3 h4)
theorem v_i2l (X : Cx K l0 g0 cc own nL0 rm) {x : Int32} (hd : DD cc pc (.i2l) 1 pc1) (kk : VJ K k n h pc1 lv (.long x.toInt64 :: st)) : VJ K k n h pc lv (.int x :: st) := by
  obtain ⟨p, l, e, R, s, m, args, below, meth, c, Q, nL, g, A⟩ := K
  obtain ⟨hx, hb, hml, hown, hts, hE, hA, hlk, rfl, rfl, rfl, rfl⟩ := X
  obtain ⟨hd, rfl⟩ := hd
  exact fun H locs ls h1 h2 h3 h4 => lv_i2l hx hb hd rfl (kk H locs ls h1 h2 h3 h4)
theorem v_l2i (X : Cx K l0 g0 cc own nL0 rm) {x : Int64} (hd : DD cc pc (.l2i) 1 pc1) (kk : VJ K k n h pc1 lv (.int x.toInt32 :: st)) : VJ K k n h pc lv (.long x :: st) := by
  obtain ⟨p, l, e, R, s, m, args, below, meth, c, Q, nL, g, A⟩ := K
  obtain ⟨hx, hb, hml, hown, hts, hE, hA, hlk, rfl, rfl, rfl, rfl⟩ := X
  obtain ⟨hd, rfl⟩ := hd
  exact fun H locs ls h1 h2 h3 h4 => lv_l2i hx hb hd rfl (kk H locs ls h1 h2 h3 h4)
theorem v_i2b (X : Cx K l0 g0 cc own nL0 rm) {x : Int32} (hd : DD cc pc (.i2b) 1 pc1) (kk : VJ K k n h pc1 lv (.int x.toInt8.toInt32 :: st)) : VJ K k n h pc lv (.int x :: st) := by
  obtain ⟨p, l, e, R, s, m, args, below, meth, c, Q, nL, g, A⟩ := K
  obtain ⟨hx, hb, hml, hown, hts, hE, hA, hlk, rfl, rfl, rfl, rfl⟩ := X
  obtain ⟨hd, rfl⟩ := hd
  exact fun H locs ls h1 h2 h3 h4 => lv_i2b hx hb hd rfl (kk H locs ls h1 h2 h3 h4)
theorem v_i2s (X : Cx K l0 g0 cc own nL0 rm) {x : Int32} (hd : DD cc pc (.i2s) 1 pc1) (kk : VJ K k n h pc1 lv (.int x.toInt16.toInt32 :: st)) : VJ K k n h pc lv (.int x :: st) := by
  obtain ⟨p, l, e, R, s, m, args, below, meth, c, Q, nL, g, A⟩ := K
  obtain ⟨hx, hb, hml, hown, hts, hE, hA, hlk, rfl, rfl, rfl, rfl⟩ := X
  obtain ⟨hd, rfl⟩ := hd
  exact fun H locs ls h1 h2 h3 h4 => lv_i2s hx hb hd rfl (kk H locs ls h1 h2 h3 h4)
theorem v_i2c (X : Cx K l0 g0 cc own nL0 rm) {x : Int32} (hd : DD cc pc (.i2c) 1 pc1) (kk : VJ K k n h pc1 lv (.int ((x.toUInt32 % 65536).toInt32) :: st)) : VJ K k n h pc lv (.int x :: st) := by
  obtain ⟨p, l, e, R, s, m, args, below, meth, c, Q, nL, g, A⟩ := K
  obtain ⟨hx, hb, hml, hown, hts, hE, hA, hlk, rfl, rfl, rfl, rfl⟩ := X
  obtain ⟨hd, rfl⟩ := hd
  exact fun H locs ls h1 h2 h3 h4 => lv_i2c hx hb hd rfl (kk H locs ls h1 h2 h3 h4)
theorem v_lcmp (X : Cx K l0 g0 cc own nL0 rm) {x y : Int64} (hd : DD cc pc (.lcmp) 1 pc1) (kk : VJ K k n h pc1 lv (.int (lg_cmp x y) :: st)) : VJ K k n h pc lv (.long y :: .long x :: st) := by
  obtain ⟨p, l, e, R, s, m, args, below, meth, c, Q, nL, g, A⟩ := K
  obtain ⟨hx, hb, hml, hown, hts, hE, hA, hlk, rfl, rfl, rfl, rfl⟩ := X
  obtain ⟨hd, rfl⟩ := hd
  exact fun H locs ls h1 h2 h3 h4 => W.lcmp hx hb hd (kk H locs ls h1 h2 h3 h4)
theorem v_dup (X : Cx K l0 g0 cc own nL0 rm) {va : Value} (hd : DD cc pc (.dup) 1 pc1) (hva : va.category = 1) (kk : VJ K k n h pc1 lv (va :: va :: st)) : VJ K k n h pc lv (va :: st) := by
  obtain ⟨p, l, e, R, s, m, args, below, meth, c, Q, nL, g, A⟩ := K
  obtain ⟨hx, hb, hml, hown, hts, hE, hA, hlk, rfl, rfl, rfl, rfl⟩ := X
  obtain ⟨hd, rfl⟩ := hd
  exact fun H locs ls h1 h2 h3 h4 => lv_dup hx hb hd hva (kk H locs ls h1 h2 h3 h4)
theorem v_pop (X : Cx K l0 g0 cc own nL0 rm) {va : Value} (hd : DD cc pc (.pop) 1 pc1) (hva : va.category = 1) (kk : VJ K k n h pc1 lv (st)) : VJ K k n h pc lv (va :: st) := by
  obtain ⟨p, l, e, R, s, m, args, below, meth, c, Q, nL, g, A⟩ := K
  obtain ⟨hx, hb, hml, hown, hts, hE, hA, hlk, rfl, rfl, rfl, rfl⟩ := X
  obtain ⟨hd, rfl⟩ := hd
  exact fun H locs ls h1 h2 h3 h4 => lv_pop hx hb hd hva (kk H locs ls h1 h2 h3 h4)
theorem v_dup2 (X : Cx K l0 g0 cc own nL0 rm) {va vb : Value} (hd : DD cc pc (.dup2) 1 pc1) (hva : va.category = 1) (hvb : vb.category = 1) (kk : VJ K k n h pc1 lv (va :: vb :: va :: vb :: st)) : VJ K k n h pc lv (va :: vb :: st) := by
  obtain ⟨p, l, e, R, s, m, args, below, meth, c, Q, nL, g, A⟩ := K
  obtain ⟨hx, hb, hml, hown, hts, hE, hA, hlk, rfl, rfl, rfl, rfl⟩ := X
  obtain ⟨hd, rfl⟩ := hd
  exact fun H locs ls h1 h2 h3 h4 => lv_dup2_11 hx hb hd hva hvb (kk H locs ls h1 h2 h3 h4)
theorem v_if_eq (X : Cx K l0 g0 cc own nL0 rm) {x : Int32} {off : Int} {tgt : Nat} (hd : DD cc pc (.ifCond .eq off) 3 pc1) (ht : (pc : Int) + off = (tgt : Int)) (kt : x = 0 → VJ K k n h tgt lv st) (kf : ¬ x = 0 → VJ K k n h pc1 lv st) : VJ K k n h pc lv (.int x :: st) := by
  obtain ⟨p, l, e, R, s, m, args, below, meth, c, Q, nL, g, A⟩ := K
  obtain ⟨hx, hb, hml, hown, hts, hE, hA, hlk, rfl, rfl, rfl, rfl⟩ := X
  obtain ⟨hd, rfl⟩ := hd
  exact fun H locs ls h1 h2 h3 h4 => lv_if_eq hx hb hd ht (fun q => kt q H locs ls h1 h2 h3 h4) (fun q => kf q H locs ls h1 h2 h3 h4)
theorem v_icmp_eq (X : Cx K l0 g0 cc own nL0 rm) {x y : Int32} {off : Int} {tgt : Nat} (hd : DD cc pc (.if_icmp .eq off) 3 pc1) (ht : (pc : Int) + off = (tgt : Int)) (kt : x = y → VJ K k n h tgt lv st) (kf : ¬ x = y → VJ K k n h pc1 lv st) : VJ K k n h pc lv (.int y :: .int x :: st) := by
  obtain ⟨p, l, e, R, s, m, args, below, meth, c, Q, nL, g, A⟩ := K
  obtain ⟨hx, hb, hml, hown, hts, hE, hA, hlk, rfl, rfl, rfl, rfl⟩ := X
  obtain ⟨hd, rfl⟩ := hd
  exact fun H locs ls h1 h2 h3 h4 => lv_icmp_eq hx hb hd ht (fun q => kt q H locs ls h1 h2 h3 h4) (fun q => kf q H locs ls h1 h2 h3 h4)
theorem v_if_ne (X : Cx K l0 g0 cc own nL0 rm) {x : Int32} {off : Int} {tgt : Nat} (hd : DD cc pc (.ifCond .ne off) 3 pc1) (ht : (pc : Int) + off = (tgt : Int)) (kt : ¬ x = 0 → VJ K k n h tgt lv st) (kf : x = 0 → VJ K k n h pc1 lv st) : VJ K k n h pc lv (.int x :: st) := by
  obtain ⟨p, l, e, R, s, m, args, below, meth, c, Q, nL, g, A⟩ := K
  obtain ⟨hx, hb, hml, hown, hts, hE, hA, hlk, rfl, rfl, rfl, rfl⟩ := X
  obtain ⟨hd, rfl⟩ := hd
  exact fun H locs ls h1 h2 h3 h4 => lv_if_ne hx hb hd ht (fun q => kt q H locs ls h1 h2 h3 h4) (fun q => kf q H locs ls h1 h2 h3 h4)
theorem v_icmp_ne (X : Cx K l0 g0 cc own nL0 rm) {x y : Int32} {off : Int} {tgt : Nat} (hd : DD cc pc (.if_icmp .ne off) 3 pc1) (ht : (pc : Int) + off = (tgt : Int)) (kt : ¬ x = y → VJ K k n h tgt lv st) (kf : x = y → VJ K k n h pc1 lv st) : VJ K k n h pc lv (.int y :: .int x :: st) := by
  obtain ⟨p, l, e, R, s, m, args, below, meth, c, Q, nL, g, A⟩ := K
  obtain ⟨hx, hb, hml, hown, hts, hE, hA, hlk, rfl, rfl, rfl, rfl⟩ := X
  obtain ⟨hd, rfl⟩ := hd
  exact fun H locs ls h1 h2 h3 h4 => lv_icmp_ne hx hb hd ht (fun q => kt q H locs ls h1 h2 h3 h4) (fun q => kf q H locs ls h1 h2 h3 h4)
theorem v_if_lt (X : Cx K l0 g0 cc own nL0 rm) {x : Int32} {off : Int} {tgt : Nat} (hd : DD cc pc (.ifCond .lt off) 3 pc1) (ht : (pc : Int) + off = (tgt : Int)) (kt : x < 0 → VJ K k n h tgt lv st) (kf : ¬ x < 0 → VJ K k n h pc1 lv st) : VJ K k n h pc lv (.int x :: st) := by
  obtain ⟨p, l, e, R, s, m, args, below, meth, c, Q, nL, g, A⟩ := K
  obtain ⟨hx, hb, hml, hown, hts, hE, hA, hlk, rfl, rfl, rfl, rfl⟩ := X
  obtain ⟨hd, rfl⟩ := hd
  exact fun H locs ls h1 h2 h3 h4 => lv_if_lt hx hb hd ht (fun q => kt q H locs ls h1 h2 h3 h4) (fun q => kf q H locs ls h1 h2 h3 h4)
theorem v_icmp_lt (X : Cx K l0 g0 cc own nL0 rm) {x y : Int32} {off : Int} {tgt : Nat} (hd : DD cc pc (.if_icmp .lt off) 3 pc1) (ht : (pc : Int) + off = (tgt : Int)) (kt : x < y → VJ K k n h tgt lv st) (kf : ¬ x < y → VJ K k n h pc1 lv st) : VJ K k n h pc lv (.int y :: .int x :: st) := by
  obtain ⟨p, l, e, R, s, m, args, below, meth, c, Q, nL, g, A⟩ := K
  obtain ⟨hx, hb, hml, hown, hts, hE, hA, hlk, rfl, rfl, rfl, rfl⟩ := X
  obtain ⟨hd, rfl⟩ := hd
  exact fun H locs ls h1 h2 h3 h4 => lv_icmp_lt hx hb hd ht (fun q => kt q H locs ls h1 h2 h3 h4) (fun q => kf q H locs ls h1 h2 h3 h4)
theorem v_if_ge (X : Cx K l0 g0 cc own nL0 rm) {x : Int32} {off : Int} {tgt : Nat} (hd : DD cc pc (.ifCond .ge off) 3 pc1) (ht : (pc : Int) + off = (tgt : Int)) (kt : 0 ≤ x → VJ K k n h tgt lv st) (kf : ¬ 0 ≤ x → VJ K k n h pc1 lv st) : VJ K k n h pc lv (.int x :: st) := by
  obtain ⟨p, l, e, R, s, m, args, below, meth, c, Q, nL, g, A⟩ := K
  obtain ⟨hx, hb, hml, hown, hts, hE, hA, hlk, rfl, rfl, rfl, rfl⟩ := X
  obtain ⟨hd, rfl⟩ := hd
  exact fun H locs ls h1 h2 h3 h4 => lv_if_ge hx hb hd ht (fun q => kt q H locs ls h1 h2 h3 h4) (fun q => kf q H locs ls h1 h2 h3 h4)
theorem v_icmp_ge (X : Cx K l0 g0 cc own nL0 rm) {x y : Int32} {off : Int} {tgt : Nat} (hd : DD cc pc (.if_icmp .ge off) 3 pc1) (ht : (pc : Int) + off = (tgt : Int)) (kt : y ≤ x → VJ K k n h tgt lv st) (kf : ¬ y ≤ x → VJ K k n h pc1 lv st) : VJ K k n h pc lv (.int y :: .int x :: st) := by
  obtain ⟨p, l, e, R, s, m, args, below, meth, c, Q, nL, g, A⟩ := K
  obtain ⟨hx, hb, hml, hown, hts, hE, hA, hlk, rfl, rfl, rfl, rfl⟩ := X
  obtain ⟨hd, rfl⟩ := hd
  exact fun H locs ls h1 h2 h3 h4 => lv_icmp_ge hx hb hd ht (fun q => kt q H locs ls h1 h2 h3 h4) (fun q => kf q H locs ls h1 h2 h3 h4)
theorem v_if_gt (X : Cx K l0 g0 cc own nL0 rm) {x : Int32} {off : Int} {tgt : Nat} (hd : DD cc pc (.ifCond .gt off) 3 pc1) (ht : (pc : Int) + off = (tgt : Int)) (kt : 0 < x → VJ K k n h tgt lv st) (kf : ¬ 0 < x → VJ K k n h pc1 lv st) : VJ K k n h pc lv (.int x :: st) := by
  obtain ⟨p, l, e, R, s, m, args, below, meth, c, Q, nL, g, A⟩ := K
  obtain ⟨hx, hb, hml, hown, hts, hE, hA, hlk, rfl, rfl, rfl, rfl⟩ := X
  obtain ⟨hd, rfl⟩ := hd
  exact fun H locs ls h1 h2 h3 h4 => lv_if_gt hx hb hd ht (fun q => kt q H locs ls h1 h2 h3 h4) (fun q => kf q H locs ls h1 h2 h3 h4)
theorem v_icmp_gt (X : Cx K l0 g0 cc own nL0 rm) {x y : Int32} {off : Int} {tgt : Nat} (hd : DD cc pc (.if_icmp .gt off) 3 pc1) (ht : (pc : Int) + off = (tgt : Int)) (kt : y < x → VJ K k n h tgt lv st) (kf : ¬ y < x → VJ K k n h pc1 lv st) : VJ K k n h pc lv (.int y :: .int x :: st) := by
  obtain ⟨p, l, e, R, s, m, args, below, meth, c, Q, nL, g, A⟩ := K
  obtain ⟨hx, hb, hml, hown, hts, hE, hA, hlk, rfl, rfl, rfl, rfl⟩ := X
  obtain ⟨hd, rfl⟩ := hd
  exact fun H locs ls h1 h2 h3 h4 => lv_icmp_gt hx hb hd ht (fun q => kt q H locs ls h1 h2 h3 h4) (fun q => kf q H locs ls h1 h2 h3 h4)
theorem v_if_le (X : Cx K l0 g0 cc own nL0 rm) {x : Int32} {off : Int} {tgt : Nat} (hd : DD cc pc (.ifCond .le off) 3 pc1) (ht : (pc : Int) + off = (tgt : Int)) (kt : x ≤ 0 → VJ K k n h tgt lv st) (kf : ¬ x ≤ 0 → VJ K k n h pc1 lv st) : VJ K k n h pc lv (.int x :: st) := by
  obtain ⟨p, l, e, R, s, m, args, below, meth, c, Q, nL, g, A⟩ := K
  obtain ⟨hx, hb, hml, hown, hts, hE, hA, hlk, rfl, rfl, rfl, rfl⟩ := X
  obtain ⟨hd, rfl⟩ := hd
  exact fun H locs ls h1 h2 h3 h4 => lv_if_le hx hb hd ht (fun q => kt q H locs ls h1 h2 h3 h4) (fun q => kf q H locs ls h1 h2 h3 h4)
theorem v_icmp_le (X : Cx K l0 g0 cc own nL0 rm) {x y : Int32} {off : Int} {tgt : Nat} (hd : DD cc pc (.if_icmp .le off) 3 pc1) (ht : (pc : Int) + off = (tgt : Int)) (kt : x ≤ y → VJ K k n h tgt lv st) (kf : ¬ x ≤ y → VJ K k n h pc1 lv st) : VJ K k n h pc lv (.int y :: .int x :: st) := by
  obtain ⟨p, l, e, R, s, m, args, below, meth, c, Q, nL, g, A⟩ := K
  obtain ⟨hx, hb, hml, hown, hts, hE, hA, hlk, rfl, rfl, rfl, rfl⟩ := X
  obtain ⟨hd, rfl⟩ := hd
  exact fun H locs ls h1 h2 h3 h4 => lv_icmp_le hx hb hd ht (fun q => kt q H locs ls h1 h2 h3 h4) (fun q => kf q H locs ls h1 h2 h3 h4)
theorem v_goto (X : Cx K l0 g0 cc own nL0 rm) {off : Int} {tgt : Nat} (hd : DD cc pc (.goto off) 3 pc1) (ht : (pc : Int) + off = (tgt : Int)) (kk : VJ K k n h tgt lv st) : VJ K k n h pc lv st := by
  obtain ⟨p, l, e, R, s, m, args, below, meth, c, Q, nL, g, A⟩ := K
  obtain ⟨hx, hb, hml, hown, hts, hE, hA, hlk, rfl, rfl, rfl, rfl⟩ := X
  obtain ⟨hd, rfl⟩ := hd
  exact fun H locs ls h1 h2 h3 h4 => lv_goto hx hb hd ht (kk H locs ls h1 h2 h3 h4)
theorem v_ifnull (X : Cx K l0 g0 cc own nL0 rm) {x : Nat} {off : Int} (hd : DD cc pc (.ifnull off) 3 pc1) (kk : VJ K k n h pc1 lv st) : VJ K k n h pc lv (.ref x :: st) := by
  obtain ⟨p, l, e, R, s, m, args, below, meth, c, Q, nL, g, A⟩ := K
  obtain ⟨hx, hb, hml, hown, hts, hE, hA, hlk, rfl, rfl, rfl, rfl⟩ := X
  obtain ⟨hd, rfl⟩ := hd
  exact fun H locs ls h1 h2 h3 h4 => lv_ifnull hx hb hd (kk H locs ls h1 h2 h3 h4)
theorem v_ifnullN (X : Cx K l0 g0 cc own nL0 rm) {off : Int} {tgt : Nat} (hd : DD cc pc (.ifnull off) 3 pc1) (ht : (pc : Int) + off = (tgt : Int)) (kk : VJ K k n h tgt lv st) : VJ K k n h pc lv (.null :: st) := by
  obtain ⟨p, l, e, R, s, m, args, below, meth, c, Q, nL, g, A⟩ := K
  obtain ⟨hx, hb, hml, hown, hts, hE, hA, hlk, rfl, rfl, rfl, rfl⟩ := X
  obtain ⟨hd, rfl⟩ := hd
  exact fun H locs ls h1 h2 h3 h4 => lv_ifnullN hx hb hd ht (kk H locs ls h1 h2 h3 h4)
theorem v_ifnonnull (X : Cx K l0 g0 cc own nL0 rm) {x : Nat} {off : Int} {tgt : Nat} (hd : DD cc pc (.ifnonnull off) 3 pc1) (ht : (pc : Int) + off = (tgt : Int)) (kk : VJ K k n h tgt lv st) : VJ K k n h pc lv (.ref x :: st) := by
  obtain ⟨p, l, e, R, s, m, args, below, meth, c, Q, nL, g, A⟩ := K
  obtain ⟨hx, hb, hml, hown, hts, hE, hA, hlk, rfl, rfl, rfl, rfl⟩ := X
  obtain ⟨hd, rfl⟩ := hd
  exact fun H locs ls h1 h2 h3 h4 => lv_ifnonnull hx hb hd ht (kk H locs ls h1 h2 h3 h4)
theorem v_ifnonnullN (X : Cx K l0 g0 cc own nL0 rm) {off : Int} (hd : DD cc pc (.ifnonnull off) 3 pc1) (kk : VJ K k n h pc1 lv st) : VJ K k n h pc lv (.null :: st) := by
  obtain ⟨p, l, e, R, s, m, args, below, meth, c, Q, nL, g, A⟩ := K
  obtain ⟨hx, hb, hml, hown, hts, hE, hA, hlk, rfl, rfl, rfl, rfl⟩ := X
  obtain ⟨hd, rfl⟩ := hd
  exact fun H locs ls h1 h2 h3 h4 => lv_ifnonnullN hx hb hd (kk H locs ls h1 h2 h3 h4)
theorem v_tabOut (X : Cx K l0 g0 cc own nL0 rm) {dflt lo hi : Int} {offs : Array Int} {len : Nat} {x : Int32} {tgt : Nat} (hd : DD cc pc (.tableswitch dflt lo hi offs) len pc1) (hh : x.toInt < lo ∨ hi < x.toInt) (ht : (pc : Int) + dflt = (tgt : Int)) (kk : VJ K k n h tgt lv st) : VJ K k n h pc lv (.int x :: st) := by
  obtain ⟨p, l, e, R, s, m, args, below, meth, c, Q, nL, g, A⟩ := K
  obtain ⟨hx, hb, hml, hown, hts, hE, hA, hlk, rfl, rfl, rfl, rfl⟩ := X
  obtain ⟨hd, rfl⟩ := hd
  exact fun H locs ls h1 h2 h3 h4 => lv_tableOut hx hb hd hh ht (kk H locs ls h1 h2 h3 h4)
theorem v_tabIn (X : Cx K l0 g0 cc own nL0 rm) {dflt lo hi : Int} {offs : Array Int} {len : Nat} {x : Int32} {off : Int} {tgt : Nat} (hd : DD cc pc (.tableswitch dflt lo hi offs) len pc1) (j : Int32) (hj : x = j) (e1 : ¬ j.toInt < lo) (e2 : ¬ hi < j.toInt) (ho : offs[(j.toInt - lo).toNat]? = some off) (ht : (pc : Int) + off = (tgt : Int)) (kk : VJ K k n h tgt lv st) : VJ K k n h pc lv (.int x :: st) := by
  subst hj
  obtain ⟨p, l, e, R, s, m, args, below, meth, c, Q, nL, g, A⟩ := K
  obtain ⟨hx, hb, hml, hown, hts, hE, hA, hlk, rfl, rfl, rfl, rfl⟩ := X
  obtain ⟨hd, rfl⟩ := hd
  exact fun H locs ls h1 h2 h3 h4 => lv_tableIn hx hb hd e1 e2 ho ht (kk H locs ls h1 h2 h3 h4)
/-- the cells of a heap below a bound, as a list -/
def hL (h : Hp) (sz : Nat) : va_W := (List.range sz).filterMap (fun a => (h a).map (fun c => (a, c)))
theorem hL_mem {h : Hp} {sz a : Nat} {c : va_E} : (a, c) ∈ hL h sz ↔ a < sz ∧ h a = some c := by
  unfold hL
  rw [List.mem_filterMap]
  constructor
  · rintro ⟨x, hx, he⟩
    cases hc : h x with
    | none => rw [hc] at he; cases he
    | some d =>
      rw [hc] at he
      cases he
      exact ⟨List.mem_range.mp hx, hc⟩
  · rintro ⟨h1, h2⟩
    exact ⟨a, List.mem_range.mpr h1, by rw [h2]; rfl⟩
theorem hL_P {g : GT} {h : Hp} {H : Heap} (hp : HP g h H) : va_P g.1 vwCl (hL h H.size) H := fun k q hk => hp q.1 q.2 (hL_mem.mp (List.mem_of_getElem? hk)).2
theorem hL_D {A : Nat → Prop} {h : Hp} {sz : Nat} (hA : ∀ a, h a ≠ none → A a) : va_D A (hL h sz) := by
  have hp : (hL h sz).Pairwise (fun p q => p.1 < q.1) := by
    unfold hL
    refine List.Pairwise.filterMap _ ?_ List.pairwise_lt_range
    intro a a' haa b hb b' hb'
    cases hc : h a with
    | none => rw [hc] at hb; cases hb
    | some d =>
      cases hc' : h a' with
      | none => rw [hc'] at hb'; cases hb'
      | some d' =>
        rw [hc] at hb; rw [hc'] at hb'
        cases hb; cases hb'
        exact haa
  refine ⟨fun i j p q hi hj hpq => ?_, fun k q hk => hA _ (by rw [(hL_mem.mp (List.mem_of_getElem? hk)).2]; exact fun e => by cases e)⟩
  obtain ⟨li, ei⟩ := List.getElem?_eq_some_iff.mp hi
  obtain ⟨lj, ej⟩ := List.getElem?_eq_some_iff.mp hj
  rcases Nat.lt_trichotomy i j with hlt | heq | hgt
  · have := List.pairwise_iff_getElem.mp hp i j li lj hlt
    rw [ei, ej] at this; omega
  · exact heq
  · have := List.pairwise_iff_getElem.mp hp j i lj li hgt
    rw [ei, ej] at this; omega
theorem hL_at {g : GT} {h : Hp} {H : Heap} (hp : HP g h H) {a : Nat} {c : va_E} (ha : h a = some c) : ∃ q : Nat, (hL h H.size)[q]? = some (a, c) := List.getElem?_of_mem (hL_mem.mpr ⟨hp.lt ha, ha⟩)
theorem hL_set {g : GT} {A : Nat → Prop} {h : Hp} {H H1 : Heap} {a q : Nat} {c d : va_E} (hp : HP g h H) (hD : va_D A (hL h H.size)) (hq : (hL h H.size)[q]? = some (a, c)) (hP : va_P g.1 vwCl ((hL h H.size).set q (a, d)) H1) : HP g (hU h a d) H1 := by
  have hl := (List.getElem?_eq_some_iff.mp hq).1
  intro x e hx
  by_cases hxa : x = a
  · subst hxa
    rw [hU_s] at hx; cases hx
    exact hP q _ (List.getElem?_set_self hl)
  · rw [hU_n hxa] at hx
    obtain ⟨i, hi⟩ := hL_at hp hx
    have hne : q ≠ i := fun e1 => by
      subst e1
      rw [hq] at hi
      exact hxa (congrArg Prod.fst (Option.some.inj hi)).symm
    exact hP i _ (by rw [List.getElem?_set_ne hne]; exact hi)
theorem hL_push {g : GT} {A : Nat → Prop} {h : Hp} {H H1 : Heap} {a : Nat} {d : va_E} (hp : HP g h H) (hP : va_P g.1 vwCl (hL h H.size ++ [(a, d)]) H1) (hD : va_D A (hL h H.size ++ [(a, d)])) : HP g (hU h a d) H1 ∧ h a = none ∧ A a := by
  have hz : (hL h H.size ++ [(a, d)])[(hL h H.size).length]? = some (a, d) := by simp
  have hfr : h a = none := by
    cases hc : h a with
    | none => rfl
    | some c =>
      obtain ⟨i, hi⟩ := hL_at hp hc
      have hl := (List.getElem?_eq_some_iff.mp hi).1
      have := hD.1 i (hL h H.size).length (a, c) (a, d) (by rw [List.getElem?_append_left hl]; exact hi) hz rfl
      omega
  refine ⟨fun x e hx => ?_, hfr, hD.2 _ _ hz⟩
  by_cases hxa : x = a
  · subst hxa
    rw [hU_s] at hx; cases hx
    exact hP _ _ hz
  · rw [hU_n hxa] at hx
    obtain ⟨i, hi⟩ := hL_at hp hx
    have hl := (List.getElem?_eq_some_iff.mp hi).1
    exact hP i _ (by rw [List.getElem?_append_left hl]; exact hi)
theorem hU_dom {A : Nat → Prop} {h : Hp} {a : Nat} {c : va_E} (hA : ∀ a, h a ≠ none → A a) (ha : A a) : ∀ x, hU h a c x ≠ none → A x := by
  intro x hx
  by_cases hxa : x = a
  · subst hxa; exact ha
  · rw [hU_n hxa] at hx; exact hA x hx
theorem hsome {h : Hp} {a : Nat} {c : va_E} (ha : h a = some c) : h a ≠ none := fun e => by rw [ha] at e; cases e
/-- a field's link, by its number, at a class's place j -/
def FS (own : String) (idx ci j : Nat) (C : String) (T : u_T) (N : Nat) : Prop := vwCl[ci]? = some (C, T, N) ∧ (∀ w ∈ u_ws C T N, w ∈ GW) ∧ j < N ∧ Cond.fieldLink own idx (T j).1 (T j).2.1 (T j).2.2.1 ∈ GW
theorem v_get (X : Cx K l0 g0 cc own nL0 rm) {a idx ci j : Nat} {C : String} {T : u_T} {N : Nat} {fs : List Value} {v : Value} (hs : FS own idx ci j C T N) (hh : h a = some (.inr (ci, fs))) (hv : fs[j]? = some v) (hd : DD cc pc (.getfield idx) 3 pc1) (kk : VJ K k n h pc1 lv (v :: st)) : VJ K k n h pc lv (.ref a :: st) := by
  obtain ⟨p, l, e, R, s, m, args, below, meth, c, Q, nL, g, A⟩ := K
  obtain ⟨hx, hb, hml, hown, hts, hE, hA, hlk, rfl, rfl, rfl, rfl⟩ := X
  obtain ⟨hd, rfl⟩ := hd
  exact fun H locs ls h1 h2 h3 h4 => va_get hx hb hts hs.2.1 hown hE.1 (h1.one hh) 0 rfl hs.1 j hs.2.2.1 (hts _ hs.2.2.2) (fun _ q => q) hv hd (kk H locs ls h1 h2 h3 h4)
theorem v_put (X : Cx K l0 g0 cc own nL0 rm) {a idx ci j : Nat} {C : String} {T : u_T} {N : Nat} {fs : List Value} {v : Value} {ty0 : Nat → FieldType} {ty : FieldType} (hs : FS own idx ci j C T N) (hty : ∀ k, k < N → parseFieldDescriptor (T k).2.2.1 = some (ty0 k)) (hnm : ∀ a, a < N → ∀ b, b < N → a ≠ b → (T a).2.1 ≠ (T b).2.1) (hfin : (T j).2.2.2 = false) (hpd : parseFieldDescriptor (T j).2.2.1 = some ty) (hh : h a = some (.inr (ci, fs))) (hnr : narrow ty v = v) (hft : fits ty v = true) (hl : j < fs.length) (hd : DD cc pc (.putfield idx) 3 pc1) (kk : VJ K k n (hU h a (.inr (ci, fs.set j v))) pc1 lv st) : VJ K k n h pc lv (v :: .ref a :: st) := by
  obtain ⟨p, l, e, R, s, m, args, below, meth, c, Q, nL, g, A⟩ := K
  obtain ⟨hx, hb, hml, hown, hts, hE, hA, hlk, rfl, rfl, rfl, rfl⟩ := X
  obtain ⟨hd, rfl⟩ := hd
  intro H locs ls h1 h2 h3 h4
  obtain ⟨q, hq⟩ := hL_at h1 hh
  exact va_put hx hb hts hs.2.1 ty0 hty hnm hown hE.1 (hL_P h1) (hL_D h2) h3 q hq hs.1 j hs.2.2.1 (hts _ hs.2.2.2) (fun _ q => q) hfin hpd hnr hft hl hd (fun H1 locs1 p1 p2 p3 => kk H1 locs1 ls (hL_set h1 (hL_D h2) hq p1) (hU_dom h2 (h2 a (hsome hh))) p3 h4)
theorem v_iald (X : Cx K l0 g0 cc own nL0 rm) {a N : Nat} {f : Nat → Int32} {i : Int32} (hh : h a = some (.inl (g0.2.1 0, N, .inl f))) (hin : vp_in i N) (hd : DD cc pc (.iaload) 1 pc1) (kk : VJ K k n h pc1 lv (.int (f i.toNatClampNeg) :: st)) : VJ K k n h pc lv (.int i :: .ref a :: st) := by
  obtain ⟨p, l, e, R, s, m, args, below, meth, c, Q, nL, g, A⟩ := K
  obtain ⟨hx, hb, hml, hown, hts, hE, hA, hlk, rfl, rfl, rfl, rfl⟩ := X
  obtain ⟨hd, rfl⟩ := hd
  exact fun H locs ls h1 h2 h3 h4 => va_iald hx hb hE.1 (h1.one hh) 0 0 rfl rfl hin hd (kk H locs ls h1 h2 h3 h4)
theorem v_lald (X : Cx K l0 g0 cc own nL0 rm) {a N : Nat} {f : Nat → Int64} {i : Int32} (hh : h a = some (.inl (g0.2.1 1, N, .inr (.inl f)))) (hin : vp_in i N) (hd : DD cc pc (.laload) 1 pc1) (kk : VJ K k n h pc1 lv (.long (f i.toNatClampNeg) :: st)) : VJ K k n h pc lv (.int i :: .ref a :: st) := by
  obtain ⟨p, l, e, R, s, m, args, below, meth, c, Q, nL, g, A⟩ := K
  obtain ⟨hx, hb, hml, hown, hts, hE, hA, hlk, rfl, rfl, rfl, rfl⟩ := X
  obtain ⟨hd, rfl⟩ := hd
  exact fun H locs ls h1 h2 h3 h4 => va_lald hx hb hE.1 (h1.one hh) 0 1 rfl rfl hin hd (kk H locs ls h1 h2 h3 h4)
theorem v_aald (X : Cx K l0 g0 cc own nL0 rm) {a N : Nat} {f : Nat → Option Nat} {i : Int32} (t : Nat) {C : String} (ht : (gtys g0)[t]? = some (g0.2.1 t, .object C)) (hh : h a = some (.inl (g0.2.1 t, N, .inr (.inr (.inr (.inr f)))))) (hin : vp_in i N) (hd : DD cc pc (.aaload) 1 pc1) (kk : VJ K k n h pc1 lv (va_rf (f i.toNatClampNeg) :: st)) : VJ K k n h pc lv (.int i :: .ref a :: st) := by
  obtain ⟨p, l, e, R, s, m, args, below, meth, c, Q, nL, g, A⟩ := K
  obtain ⟨hx, hb, hml, hown, hts, hE, hA, hlk, rfl, rfl, rfl, rfl⟩ := X
  obtain ⟨hd, rfl⟩ := hd
  exact fun H locs ls h1 h2 h3 h4 => va_aldq hx hb hE.1 (h1.one hh) 0 t rfl ht hin hd (kk H locs ls h1 h2 h3 h4)
theorem v_iast (X : Cx K l0 g0 cc own nL0 rm) {a N : Nat} {f : Nat → Int32} {i x : Int32} (hh : h a = some (.inl (g0.2.1 0, N, .inl f))) (hin : vp_in i N) (hd : DD cc pc (.iastore) 1 pc1) (kk : VJ K k n (hU h a (.inl (g0.2.1 0, N, .inl (upd f i.toNatClampNeg x)))) pc1 lv st) : VJ K k n h pc lv (.int x :: .int i :: .ref a :: st) := by
  obtain ⟨p, l, e, R, s, m, args, below, meth, c, Q, nL, g, A⟩ := K
  obtain ⟨hx, hb, hml, hown, hts, hE, hA, hlk, rfl, rfl, rfl, rfl⟩ := X
  obtain ⟨hd, rfl⟩ := hd
  intro H locs ls h1 h2 h3 h4
  obtain ⟨q, hq⟩ := hL_at h1 hh
  exact va_iast hx hb hE.1 (hL_P h1) (hL_D h2) h3 q 0 hq rfl hin hd (fun H1 locs1 p1 p2 p3 => kk H1 locs1 ls (hL_set h1 (hL_D h2) hq p1) (hU_dom h2 (h2 a (hsome hh))) p3 h4)
theorem v_last (X : Cx K l0 g0 cc own nL0 rm) {a N : Nat} {f : Nat → Int64} {i : Int32} {x : Int64} (hh : h a = some (.inl (g0.2.1 1, N, .inr (.inl f)))) (hin : vp_in i N) (hd : DD cc pc (.lastore) 1 pc1) (kk : VJ K k n (hU h a (.inl (g0.2.1 1, N, .inr (.inl (vp_updL f i.toNatClampNeg x))))) pc1 lv st) : VJ K k n h pc lv (.long x :: .int i :: .ref a :: st) := by
  obtain ⟨p, l, e, R, s, m, args, below, meth, c, Q, nL, g, A⟩ := K
  obtain ⟨hx, hb, hml, hown, hts, hE, hA, hlk, rfl, rfl, rfl, rfl⟩ := X
  obtain ⟨hd, rfl⟩ := hd
  intro H locs ls h1 h2 h3 h4
  obtain ⟨q, hq⟩ := hL_at h1 hh
  exact va_last hx hb hE.1 (hL_P h1) (hL_D h2) h3 q 1 hq rfl hin hd (fun H1 locs1 p1 p2 p3 => kk H1 locs1 ls (hL_set h1 (hL_D h2) hq p1) (hU_dom h2 (h2 a (hsome hh))) p3 h4)
theorem v_aast (X : Cx K l0 g0 cc own nL0 rm) {a N b ci : Nat} {f : Nat → Option Nat} {i : Int32} {vs : List Value} {C : String} {T : u_T} {M : Nat} (t : Nat) (ht : (gtys g0)[t]? = some (g0.2.1 t, .object C)) (hc : vwCl[ci]? = some (C, T, M)) (hh : h a = some (.inl (g0.2.1 t, N, .inr (.inr (.inr (.inr f)))))) (hb2 : h b = some (.inr (ci, vs))) (hin : vp_in i N) (hd : DD cc pc (.aastore) 1 pc1) (kk : VJ K k n (hU h a (.inl (g0.2.1 t, N, .inr (.inr (.inr (.inr (va_up f i.toNatClampNeg (some b)))))))) pc1 lv st) : VJ K k n h pc lv (.ref b :: .int i :: .ref a :: st) := by
  obtain ⟨p, l, e, R, s, m, args, below, meth, c, Q, nL, g, A⟩ := K
  obtain ⟨hx, hb, hml, hown, hts, hE, hA, hlk, rfl, rfl, rfl, rfl⟩ := X
  obtain ⟨hd, rfl⟩ := hd
  intro H locs ls h1 h2 h3 h4
  obtain ⟨q, hq⟩ := hL_at h1 hh
  obtain ⟨q2, hq2⟩ := hL_at h1 hb2
  exact va_astq (r := (C, T, M)) hx hb hE.1 (hL_P h1) (hL_D h2) h3 q t q2 ci hq ht hq2 hc hin hd (fun H1 locs1 p1 p2 p3 => kk H1 locs1 ls (hL_set h1 (hL_D h2) hq p1) (hU_dom h2 (h2 a (hsome hh))) p3 h4)
theorem v_aastN (X : Cx K l0 g0 cc own nL0 rm) {a N : Nat} {f : Nat → Option Nat} {i : Int32} {C : String} (t : Nat) (ht : (gtys g0)[t]? = some (g0.2.1 t, .object C)) (hh : h a = some (.inl (g0.2.1 t, N, .inr (.inr (.inr (.inr f)))))) (hin : vp_in i N) (hd : DD cc pc (.aastore) 1 pc1) (kk : VJ K k n (hU h a (.inl (g0.2.1 t, N, .inr (.inr (.inr (.inr (va_up f i.toNatClampNeg none))))))) pc1 lv st) : VJ K k n h pc lv (.null :: .int i :: .ref a :: st) := by
  obtain ⟨p, l, e, R, s, m, args, below, meth, c, Q, nL, g, A⟩ := K
  obtain ⟨hx, hb, hml, hown, hts, hE, hA, hlk, rfl, rfl, rfl, rfl⟩ := X
  obtain ⟨hd, rfl⟩ := hd
  intro H locs ls h1 h2 h3 h4
  obtain ⟨q, hq⟩ := hL_at h1 hh
  exact va_astqN hx hb hE.1 (hL_P h1) (hL_D h2) h3 q t hq ht hin hd (fun H1 locs1 p1 p2 p3 => kk H1 locs1 ls (hL_set h1 (hL_D h2) hq p1) (hU_dom h2 (h2 a (hsome hh))) p3 h4)
theorem v_iret (X : Cx K l0 g0 cc own nL0 rm) {P : Option Value → Hp → Prop} {mc ms : Nat} {v : Int32} (r : Rt K (some .int) P mc ms) (hd : DD cc pc (.ireturn) 1 pc1) (hk : k ≤ mc) (hn : n ≤ ms) (hq : P (some (.int v)) h) : VJ K k n h pc lv [.int v] := by
  obtain ⟨p, l, e, R, s, m, args, below, meth, c, Q, nL, g, A⟩ := K
  obtain ⟨hx, hb, hml, hown, hts, hE, hA, hlk, rfl, rfl, rfl, rfl⟩ := X
  obtain ⟨hd, rfl⟩ := hd
  obtain ⟨hr, rfl⟩ := r
  exact fun H locs ls h1 h2 h3 h4 => W.widen hk hn (W.iret hx hb hr (fun t ht hW => ⟨⟨_, h, rfl, hq, by rw [ht]; exact h1, h2⟩, h3.F ht⟩) h3.2.2 hd hlk)
theorem v_zret (X : Cx K l0 g0 cc own nL0 rm) {ty : FieldType} {P : Option Value → Hp → Prop} {mc ms : Nat} {v : Int32} (r : Rt K (some ty) P mc ms) (hd : DD cc pc (.ireturn) 1 pc1) (hnr : narrow ty (.int v) = .int v) (hk : k ≤ mc) (hn : n ≤ ms) (hq : P (some (.int v)) h) : VJ K k n h pc lv [.int v] := by
  obtain ⟨p, l, e, R, s, m, args, below, meth, c, Q, nL, g, A⟩ := K
  obtain ⟨hx, hb, hml, hown, hts, hE, hA, hlk, rfl, rfl, rfl, rfl⟩ := X
  obtain ⟨hd, rfl⟩ := hd
  obtain ⟨hr, rfl⟩ := r
  exact fun H locs ls h1 h2 h3 h4 => W.widen hk hn (W.zret hx hb hr hnr (fun t ht hW => ⟨⟨_, h, rfl, hq, by rw [ht]; exact h1, h2⟩, h3.F ht⟩) h3.2.2 hd hlk)
theorem v_lret (X : Cx K l0 g0 cc own nL0 rm) {P : Option Value → Hp → Prop} {mc ms : Nat} {v : Int64} (r : Rt K (some .long) P mc ms) (hd : DD cc pc (.lreturn) 1 pc1) (hk : k ≤ mc) (hn : n ≤ ms) (hq : P (some (.long v)) h) : VJ K k n h pc lv [.long v] := by
  obtain ⟨p, l, e, R, s, m, args, below, meth, c, Q, nL, g, A⟩ := K
  obtain ⟨hx, hb, hml, hown, hts, hE, hA, hlk, rfl, rfl, rfl, rfl⟩ := X
  obtain ⟨hd, rfl⟩ := hd
  obtain ⟨hr, rfl⟩ := r
  exact fun H locs ls h1 h2 h3 h4 => W.widen hk hn (W.lret hx hb hr (fun t ht hW => ⟨⟨_, h, rfl, hq, by rw [ht]; exact h1, h2⟩, h3.F ht⟩) h3.2.2 hd hlk)
theorem v_vret (X : Cx K l0 g0 cc own nL0 rm) {P : Option Value → Hp → Prop} {mc ms : Nat} (r : Rt K none P mc ms) (hd : DD cc pc (.return_) 1 pc1) (hk : k ≤ mc) (hn : n ≤ ms) (hq : P none h) : VJ K k n h pc lv [] := by
  obtain ⟨p, l, e, R, s, m, args, below, meth, c, Q, nL, g, A⟩ := K
  obtain ⟨hx, hb, hml, hown, hts, hE, hA, hlk, rfl, rfl, rfl, rfl⟩ := X
  obtain ⟨hd, rfl⟩ := hd
  obtain ⟨hr, rfl⟩ := r
  exact fun H locs ls h1 h2 h3 h4 => W.widen hk hn (W.vret hx hb hr (fun t ht hW => ⟨⟨_, h, rfl, hq, by rw [ht]; exact h1, h2⟩, h3.F ht⟩) h3.2.2 hd hlk)
theorem v_aret (X : Cx K l0 g0 cc own nL0 rm) {rt : FieldType} {P : Option Value → Hp → Prop} {mc ms : Nat} {v : Value} (r : Rt K (some rt) P mc ms) (hrt : (∃ n, rt = .object n) ∨ ∃ t, rt = .array t) (hv : v = .null ∨ ∃ a, v = .ref a) (hd : DD cc pc (.areturn) 1 pc1) (hk : k ≤ mc) (hn : n ≤ ms) (hq : P (some v) h) : VJ K k n h pc lv [v] := by
  obtain ⟨p, l, e, R, s, m, args, below, meth, c, Q, nL, g, A⟩ := K
  obtain ⟨hx, hb, hml, hown, hts, hE, hA, hlk, rfl, rfl, rfl, rfl⟩ := X
  obtain ⟨hd, rfl⟩ := hd
  obtain ⟨hr, rfl⟩ := r
  exact fun H locs ls h1 h2 h3 h4 => W.widen hk hn (W.aret hx hb hr hrt hv (fun t ht hW => ⟨⟨_, h, rfl, hq, by rw [ht]; exact h1, h2⟩, h3.F ht⟩) h3.2.2 hd hlk)
end VR
