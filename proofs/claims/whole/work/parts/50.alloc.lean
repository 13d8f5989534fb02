/-! ===== rows that make cells; statics; clone; arraycopy; framed calls ===== -/
theorem gwI : Cond.arrayClass .int ∈ GW := gw_in1 (i := 78) rfl rfl
theorem gwJ : Cond.arrayClass .long ∈ GW := gw_in1 (i := 239) rfl rfl
theorem gwOc : Cond.code Lib.objectInit ⟨#[0xb1]⟩ 1 none ∈ GW := gw_in1 (i := 24) rfl rfl
theorem gwOi : Cond.instanceMethod Lib.objectInit ∈ GW := gw_in1 (i := 23) rfl rfl
theorem oi_X7 : Cond.methodLink RX7 1 Lib.objectInit ∈ GW := gw_in1 (i := 22) rfl rfl
theorem oi_X6 : Cond.methodLink RX6 3 Lib.objectInit ∈ GW := gw_in1 (i := 30) rfl rfl
theorem oi_X0 : Cond.methodLink RX0 3 Lib.objectInit ∈ GW := gw_in1 (i := 49) rfl rfl
theorem oi_X3 : Cond.methodLink RX3 1 Lib.objectInit ∈ GW := gw_in1 (i := 55) rfl rfl
theorem oi_X1 : Cond.methodLink RX1 3 Lib.objectInit ∈ GW := gw_in1 (i := 113) rfl rfl
theorem oi_X4 : Cond.methodLink RX4 3 Lib.objectInit ∈ GW := gw_in1 (i := 197) rfl rfl
theorem oi_X2 : Cond.methodLink RX2 3 Lib.objectInit ∈ GW := gw_in1 (i := 225) rfl rfl
theorem oi_X5 : Cond.methodLink RX5 3 Lib.objectInit ∈ GW := gw_in3 (i := 62) rfl rfl
theorem oi_X8 : Cond.methodLink RX8 3 Lib.objectInit ∈ GW := gw_in4 (i := 47) rfl rfl
abbrev yCln : MethodName := ⟨"[I", "clone", "()Ljava/lang/Object;"⟩
abbrev yOcl : MethodName := ⟨"java/lang/Object", "clone", "()Ljava/lang/Object;"⟩
theorem gcL : Cond.methodLink RX6 34 yCln ∈ GW := gw_in1 (i := 37) rfl rfl
theorem gcS : Cond.sameMethod "[I" "java/lang/Object" "clone" "()Ljava/lang/Object;" ∈ GW := gw_in1 (i := 38) rfl rfl
theorem gcN : Cond.native yOcl ∈ GW := gw_in1 (i := 39) rfl rfl
theorem gcI : Cond.instanceMethod yOcl ∈ GW := gw_in1 (i := 40) rfl rfl
theorem gcE : Cond.selects "[I" yCln yOcl ∈ GW := gw_in1 (i := 41) rfl rfl
theorem gaL : Cond.methodLink RX7 284 arraycopyName ∈ GW := gw_in3 (i := 230) rfl rfl
theorem gaN : Cond.native arraycopyName ∈ GW := gw_in3 (i := 232) rfl rfl
theorem gaS : Cond.static arraycopyName ∈ GW := gw_in3 (i := 231) rfl rfl
theorem gaI : Cond.initialized "java/lang/System" ∈ GW := gw_in1 (i := 16) rfl rfl
def Ini (K : KT) : Prop := match K with
  | (p, l, e, R, s, m, args, below, meth, c, Q, nL, g, A) => meth.name = "<init>"
theorem mc_ofI {l : Launch} {g : GT} {y : MethodName} {cc : ByteArray} {nL : Nat} {ret : Option FieldType} {rm : Room} {av : List Value} {h : Hp} {P : Option Value → Hp → Prop} {mc ms : Nat} (hy : plainName y.cls = true) (hyn : y.name = "<init>") (hlen : (lg_sl av).length ≤ nL)
    (body : ∀ K : KT, Cx K l g cc y.cls nL rm → Rt K ret P mc ms → Ini K → VJ K 0 0 h 0 (lv_args 0 av) []) : MC l g y cc nL ret rm av h P mc ms := by
  intro sz
  refine Met.ofW (cc := cc) (maxL := nL) (ret := ret) hy rfl ?_
  intro p e s m args below meth c s₁ B hml hv
  obtain ⟨rfl, hsz, hP, hE⟩ := hv
  subst hsz
  have hts := atoms_spec (ws := Cond.code y cc nL ret :: GW) B.pre
  have hown : s.vm.findClass y.cls = some m.cls := findClass_of_methodNamed B.named
  have hin : meth.name = "<init>" := hyn ▸ (name_of_methodNamed B.named B.method).1
  have hb := body (p, l, e, rm, s, m, av.toArray, below, meth, c, MQ below (QFp g (dm h s.heap.size) P) av.toArray s mc ms (dm h s.heap.size), nL, g, dm h s.heap.size)
    ⟨B.exec, B.bytes, hml, hown, fun w hw => hts w (List.mem_cons_of_mem _ hw), hE, fun q hq => Or.inr hq, B.notSynchronized, rfl, rfl, rfl, rfl⟩ ⟨B.returns, rfl⟩ hin
  have hl := lv_entry av (n := nL) hlen
  rw [lg_entry_eq]
  exact hb s.heap [] _ hP (fun a ha => Or.inl ha) va_S.rf hl
section VA
variable {K : KT} {l0 : Launch} {g0 : GT} {cc : ByteArray} {own : String} {nL0 : Nat} {rm : Room} {k n : Nat} {h : Hp} {pc pc1 : Nat} {lv : List (Nat × Value)} {st st0 : List Value}
theorem ra_int {g : GT} {cA : ClassId} {U : State} (h1 : va_K g.1 vwCl (gtys g) U) (h2 : va_K g.1 vwCl (gtys g ++ [(cA, .int)]) U) : cA = g.2.1 0 :=
  Option.some.inj ((show U.vm.findClass ("[" ++ FieldType.int.toString) = some cA from (h2.2 5 (cA, .int) rfl).2).symm.trans (show U.vm.findClass ("[" ++ FieldType.int.toString) = some (g.2.1 0) from (h1.2 0 (g.2.1 0, .int) rfl).2))
theorem ra_long {g : GT} {cA : ClassId} {U : State} (h1 : va_K g.1 vwCl (gtys g) U) (h2 : va_K g.1 vwCl (gtys g ++ [(cA, .long)]) U) : cA = g.2.1 1 :=
  Option.some.inj ((show U.vm.findClass ("[" ++ FieldType.long.toString) = some cA from (h2.2 5 (cA, .long) rfl).2).symm.trans (show U.vm.findClass ("[" ++ FieldType.long.toString) = some (g.2.1 1) from (h1.2 1 (g.2.1 1, .long) rfl).2))
theorem ra_obj {g : GT} {cA : ClassId} {U : State} {C : String} (t : Nat) (ht : (gtys g)[t]? = some (g.2.1 t, .object C)) (h1 : va_K g.1 vwCl (gtys g) U) (h2 : va_K g.1 vwCl (gtys g ++ [(cA, .object C)]) U) : cA = g.2.1 t := by
  obtain ⟨_, _, _, _, _, e1⟩ := (h2.2 5 (cA, .object C) rfl).2
  obtain ⟨_, _, _, _, _, e2⟩ := (h1.2 t _ ht).2
  exact Option.some.inj (e1.symm.trans e2)
theorem v_newI (X : Cx K l0 g0 cc own nL0 rm) {i : Int32} (N : Nat) (hi : i = nI N) (hN : N ≤ 1000) (hc : k + 1 ≤ rm.cells) (hn : n + N ≤ rm.slots) (hd : DD cc pc (.newarray .int) 2 pc1) (kk : ∀ q, h q = none → VJ K (k + 1) (n + N) (hU h q (ai g0 N (fun _ => 0))) pc1 lv (.ref q :: st)) : VJ K k n h pc lv (.int i :: st) := by
  obtain ⟨p, l, e, R, s, m, args, below, meth, c, Q, nL, g, A⟩ := K
  obtain ⟨hx, hb, hml, hown, hts, hE, hA, hlk, rfl, rfl, rfl, rfl⟩ := X
  obtain ⟨hd, rfl⟩ := hd
  intro H locs ls h1 h2 h3 h4
  refine va_newa (atype := .int) (ty := .int) (a0 := (N, .inl (fun _ => 0))) (N' := N) hx hb (hts _ gwI) rfl hE.1 (hL_P h1) (hL_D h2) h3 hA (fun cA => rfl) (by rw [hi]; exact nI_pos (by omega)) (by rw [hi]; exact nI_clamp (by omega)) (by show N * 4 ≤ 536870912; omega) hc hn hd (fun q cA H1 pK pP pD pS => ?_)
  have e0 := ra_int hE.1 pK
  subst e0
  obtain ⟨q1, q2, q3⟩ := hL_push h1 pP pD
  exact kk q q2 H1 locs ls q1 (hU_dom h2 q3) pS h4
theorem v_newJ (X : Cx K l0 g0 cc own nL0 rm) {i : Int32} (N : Nat) (hi : i = nI N) (hN : N ≤ 1000) (hc : k + 1 ≤ rm.cells) (hn : n + N ≤ rm.slots) (hd : DD cc pc (.newarray .long) 2 pc1) (kk : ∀ q, h q = none → VJ K (k + 1) (n + N) (hU h q (al g0 N (fun _ => 0))) pc1 lv (.ref q :: st)) : VJ K k n h pc lv (.int i :: st) := by
  obtain ⟨p, l, e, R, s, m, args, below, meth, c, Q, nL, g, A⟩ := K
  obtain ⟨hx, hb, hml, hown, hts, hE, hA, hlk, rfl, rfl, rfl, rfl⟩ := X
  obtain ⟨hd, rfl⟩ := hd
  intro H locs ls h1 h2 h3 h4
  refine va_newa (atype := .long) (ty := .long) (a0 := (N, .inr (.inl (fun _ => 0)))) (N' := N) hx hb (hts _ gwJ) rfl hE.1 (hL_P h1) (hL_D h2) h3 hA (fun cA => rfl) (by rw [hi]; exact nI_pos (by omega)) (by rw [hi]; exact nI_clamp (by omega)) (by show N * 8 ≤ 536870912; omega) hc hn hd (fun q cA H1 pK pP pD pS => ?_)
  have e0 := ra_long hE.1 pK
  subst e0
  obtain ⟨q1, q2, q3⟩ := hL_push h1 pP pD
  exact kk q q2 H1 locs ls q1 (hU_dom h2 q3) pS h4
theorem v_newQ (X : Cx K l0 g0 cc own nL0 rm) {i : Int32} {C : String} {idx : Nat} (t N : Nat) (ht : (gtys g0)[t]? = some (g0.2.1 t, .object C)) (hC : C ∈ (["LogRollers$Person", "LogRollers$Sheet", "LogRollers$Way"] : List String)) (hw : Cond.classLink own idx C ∈ GW) (hi : i = nI N) (hN : N ≤ 1000) (hc : k + 1 ≤ rm.cells) (hn : n + N ≤ rm.slots) (hd : DD cc pc (.anewarray idx) 3 pc1) (kk : ∀ q, h q = none → VJ K (k + 1) (n + N) (hU h q (ar g0 t N (fun _ => none))) pc1 lv (.ref q :: st)) : VJ K k n h pc lv (.int i :: st) := by
  obtain ⟨p, l, e, R, s, m, args, below, meth, c, Q, nL, g, A⟩ := K
  obtain ⟨hx, hb, hml, hown, hts, hE, hA, hlk, rfl, rfl, rfl, rfl⟩ := X
  obtain ⟨hd, rfl⟩ := hd
  intro H locs ls h1 h2 h3 h4
  refine va_newq (N' := N) hx hb hown (hts _ hw) (hE.2.2.2.2.1 C hC) hE.1 (hL_P h1) (hL_D h2) h3 hA (by rw [hi]; exact nI_pos (by omega)) (by rw [hi]; exact nI_clamp (by omega)) (by omega) hc hn hd (fun q cA H1 pK pP pD pS => ?_)
  have e0 := ra_obj t ht hE.1 pK
  subst e0
  obtain ⟨q1, q2, q3⟩ := hL_push h1 pP pD
  exact kk q q2 H1 locs ls q1 (hU_dom h2 q3) pS h4
theorem v_newO (X : Cx K l0 g0 cc own nL0 rm) {C : String} {T : u_T} {N ci idx : Nat} (fs : List Value) (hcl : Cond.classLink own idx C ∈ GW) (hin : Cond.instantiable C N ∈ GW) (hini : Cond.initialized C ∈ GW) (hvw : vwCl[ci]? = some (C, T, N)) (hu : ∀ w ∈ u_ws C T N, w ∈ GW) {ty : Nat → FieldType} (hty : ∀ k, k < N → parseFieldDescriptor (T k).2.2.1 = some (ty k)) (hfs : ∀ j, j < N → defaultValue (ty j) = vp_V fs j) (hc : k + 1 ≤ rm.cells) (hn : n + N ≤ rm.slots) (hd : DD cc pc (.new idx) 3 pc1) (kk : ∀ q, h q = none → VJ K (k + 1) (n + N) (hU h q (ob ci fs)) pc1 lv (.ref q :: st)) : VJ K k n h pc lv st := by
  obtain ⟨p, l, e, R, s, m, args, below, meth, c, Q, nL, g, A⟩ := K
  obtain ⟨hx, hb, hml, hown, hts, hE, hA, hlk, rfl, rfl, rfl, rfl⟩ := X
  obtain ⟨hd, rfl⟩ := hd
  intro H locs ls h1 h2 h3 h4
  refine va_new hx hb hts hu ty hty hown (hts _ hcl) (hts _ hin) (hts _ hini) hE.1 (hL_P h1) (hL_D h2) h3 hA hvw hfs hc hn hd (fun q H1 pP pD pS => ?_)
  obtain ⟨q1, q2, q3⟩ := hL_push h1 pP pD
  exact kk q q2 H1 locs ls q1 (hU_dom h2 q3) pS h4
theorem v_objI (X : Cx K l0 g0 cc own nL0 rm) {a idx : Nat} (hw : Cond.methodLink own idx Lib.objectInit ∈ GW) (hf : 1 ≤ rm.frames) (hl : (st.map fun v => v.category).sum + 12 ≤ rm.locals) (hd : DD cc pc (.invokespecial idx) 3 pc1) (kk : VJ K k n h pc1 lv st) : VJ K k n h pc lv (.ref a :: st) := by
  obtain ⟨p, l, e, R, s, m, args, below, meth, c, Q, nL, g, A⟩ := K
  obtain ⟨hx, hb, hml, hown, hts, hE, hA, hlk, rfl, rfl, rfl, rfl⟩ := X
  obtain ⟨hd, rfl⟩ := hd
  intro H locs ls h1 h2 h3 h4
  exact W.objInit hx hb hown (hts _ hw) (hts _ gwOi) (hts _ gwOc) rfl (by rw [hml]; exact h4.1) rfl hd hf (by show 2 * 0 + _ + 12 ≤ _; omega) (kk H locs ls h1 h2 h3 h4)
theorem v_putF (X : Cx K l0 g0 cc own nL0 rm) (I : Ini K) {a idx ci j : Nat} {C : String} {T : u_T} {N : Nat} {fs : List Value} {v : Value} {ty0 : Nat → FieldType} {ty : FieldType} {h2 : Hp} (hs : FS own idx ci j C T N) (hty : ∀ k, k < N → parseFieldDescriptor (T k).2.2.1 = some (ty0 k)) (hnm : ∀ a, a < N → ∀ b, b < N → a ≠ b → (T a).2.1 ≠ (T b).2.1) (hfin : (T j).2.2.2 = true) (hdecl : (T j).1 = own) (hpd : parseFieldDescriptor (T j).2.2.1 = some ty) (hh : h a = some (ob ci fs)) (hnr : narrow ty v = v) (hft : fits ty v = true) (hl : j < fs.length) (hd : DD cc pc (.putfield idx) 3 pc1) (he : hU h a (ob ci (fs.set j v)) = h2) (kk : VJ K k n h2 pc1 lv st) : VJ K k n h pc lv (v :: .ref a :: st) := by
  subst he
  obtain ⟨p, l, e, R, s, m, args, below, meth, c, Q, nL, g, A⟩ := K
  obtain ⟨hx, hb, hml, hown, hts, hE, hA, hlk, rfl, rfl, rfl, rfl⟩ := X
  obtain ⟨hd, rfl⟩ := hd
  intro H locs ls h1 h2 h3 h4
  obtain ⟨q, hq⟩ := hL_at h1 hh
  exact va_putF hx hb hts hs.2.1 ty0 hty hnm hown hE.1 (hL_P h1) (hL_D h2) h3 q hq hs.1 j hs.2.2.1 (hts _ hs.2.2.2) (fun _ q => q) hfin I hdecl hpd hnr hft hl hd (fun H1 locs1 p1 p2 p3 => kk H1 locs1 ls (hL_set h1 (hL_D h2) hq p1) (hU_dom h2 (h2 a (hsome hh))) p3 h4)
theorem v_gs1 (X : Cx K l0 g0 cc own nL0 rm) {idx : Nat} (hw : Cond.fieldLink own idx "LogRollers" "KIND_ABOVE" "[I" ∈ GW) (hd : DD cc pc (.getstatic idx) 3 pc1) (kk : VJ K k n h pc1 lv (.ref (g0.2.2 1) :: st)) : VJ K k n h pc lv st := by
  obtain ⟨p, l, e, R, s, m, args, below, meth, c, Q, nL, g, A⟩ := K
  obtain ⟨hx, hb, hml, hown, hts, hE, hA, hlk, rfl, rfl, rfl, rfl⟩ := X
  obtain ⟨hd, rfl⟩ := hd
  exact fun H locs ls h1 h2 h3 h4 => va_gets hx hb hE.2.2.2.2.2.2.2.1.1 h3 hown (hts _ hw) (fun _ q => q) hd (kk H locs ls h1 h2 h3 h4)
theorem v_gs2 (X : Cx K l0 g0 cc own nL0 rm) {idx : Nat} (hw : Cond.fieldLink own idx "LogRollers" "PART_LEAST" "[I" ∈ GW) (hd : DD cc pc (.getstatic idx) 3 pc1) (kk : VJ K k n h pc1 lv (.ref (g0.2.2 2) :: st)) : VJ K k n h pc lv st := by
  obtain ⟨p, l, e, R, s, m, args, below, meth, c, Q, nL, g, A⟩ := K
  obtain ⟨hx, hb, hml, hown, hts, hE, hA, hlk, rfl, rfl, rfl, rfl⟩ := X
  obtain ⟨hd, rfl⟩ := hd
  exact fun H locs ls h1 h2 h3 h4 => va_gets hx hb hE.2.2.2.2.2.2.2.2.1.1 h3 hown (hts _ hw) (fun _ q => q) hd (kk H locs ls h1 h2 h3 h4)
theorem v_gs3 (X : Cx K l0 g0 cc own nL0 rm) {idx : Nat} (hw : Cond.fieldLink own idx "LogRollers" "PART_MOST" "[I" ∈ GW) (hd : DD cc pc (.getstatic idx) 3 pc1) (kk : VJ K k n h pc1 lv (.ref (g0.2.2 3) :: st)) : VJ K k n h pc lv st := by
  obtain ⟨p, l, e, R, s, m, args, below, meth, c, Q, nL, g, A⟩ := K
  obtain ⟨hx, hb, hml, hown, hts, hE, hA, hlk, rfl, rfl, rfl, rfl⟩ := X
  obtain ⟨hd, rfl⟩ := hd
  exact fun H locs ls h1 h2 h3 h4 => va_gets hx hb hE.2.2.2.2.2.2.2.2.2.1.1 h3 hown (hts _ hw) (fun _ q => q) hd (kk H locs ls h1 h2 h3 h4)
theorem v_ta1 (X : Cx K l0 g0 cc own nL0 rm) {i : Int32} (j : Nat) (hi : i = nI j) (hj : j < 6) (hd : DD cc pc (.iaload) 1 pc1) (kk : VJ K k n h pc1 lv (.int (tb1.getD j 0) :: st)) : VJ K k n h pc lv (.int i :: .ref (g0.2.2 1) :: st) := by
  obtain ⟨p, l, e, R, s, m, args, below, meth, c, Q, nL, g, A⟩ := K
  obtain ⟨hx, hb, hml, hown, hts, hE, hA, hlk, rfl, rfl, rfl, rfl⟩ := X
  obtain ⟨hd, rfl⟩ := hd
  exact fun H locs ls h1 h2 h3 h4 => va_ti hx hb hE.2.2.2.2.2.2.2.1.2 h3 (ix_in hi hj (by decide)) (by rw [ix_cl hi (by omega)]; rfl) hd (kk H locs ls h1 h2 h3 h4)
theorem v_ta2 (X : Cx K l0 g0 cc own nL0 rm) {i : Int32} (j : Nat) (hi : i = nI j) (hj : j < 5) (hd : DD cc pc (.iaload) 1 pc1) (kk : VJ K k n h pc1 lv (.int (tb2.getD j 0) :: st)) : VJ K k n h pc lv (.int i :: .ref (g0.2.2 2) :: st) := by
  obtain ⟨p, l, e, R, s, m, args, below, meth, c, Q, nL, g, A⟩ := K
  obtain ⟨hx, hb, hml, hown, hts, hE, hA, hlk, rfl, rfl, rfl, rfl⟩ := X
  obtain ⟨hd, rfl⟩ := hd
  exact fun H locs ls h1 h2 h3 h4 => va_ti hx hb hE.2.2.2.2.2.2.2.2.1.2 h3 (ix_in hi hj (by decide)) (by rw [ix_cl hi (by omega)]; rfl) hd (kk H locs ls h1 h2 h3 h4)
theorem v_ta3 (X : Cx K l0 g0 cc own nL0 rm) {i : Int32} (j : Nat) (hi : i = nI j) (hj : j < 5) (hd : DD cc pc (.iaload) 1 pc1) (kk : VJ K k n h pc1 lv (.int (tb3.getD j 0) :: st)) : VJ K k n h pc lv (.int i :: .ref (g0.2.2 3) :: st) := by
  obtain ⟨p, l, e, R, s, m, args, below, meth, c, Q, nL, g, A⟩ := K
  obtain ⟨hx, hb, hml, hown, hts, hE, hA, hlk, rfl, rfl, rfl, rfl⟩ := X
  obtain ⟨hd, rfl⟩ := hd
  exact fun H locs ls h1 h2 h3 h4 => va_ti hx hb hE.2.2.2.2.2.2.2.2.2.1.2 h3 (ix_in hi hj (by decide)) (by rw [ix_cl hi (by omega)]; rfl) hd (kk H locs ls h1 h2 h3 h4)
theorem v_gs0 (X : Cx K l0 g0 cc RX6 nL0 rm) (hd : DD cc pc (.getstatic 30) 3 pc1) (kk : VJ K k n h pc1 lv (.ref (g0.2.2 0) :: st)) : VJ K k n h pc lv st := by
  obtain ⟨p, l, e, R, s, m, args, below, meth, c, Q, nL, g, A⟩ := K
  obtain ⟨hx, hb, hml, hown, hts, hE, hA, hlk, rfl, rfl, rfl, rfl⟩ := X
  obtain ⟨hd, rfl⟩ := hd
  exact fun H locs ls h1 h2 h3 h4 => va_getsN hx hb hE.2.2.2.2.2.2.1.1.1 h3 hown (va_Nw.use (A := args) rfl hE.2.2.1) (fun _ q => q) hd (kk H locs ls h1 h2 h3 h4)
theorem v_castI (X : Cx K l0 g0 cc own nL0 rm) {a idx N : Nat} {f : Nat → Int32} (hw : Cond.classLink own idx "[I" ∈ GW) (hh : h a = some (ai g0 N f)) (hd : DD cc pc (.checkcast idx) 3 pc1) (kk : VJ K k n h pc1 lv (.ref a :: st)) : VJ K k n h pc lv (.ref a :: st) := by
  obtain ⟨p, l, e, R, s, m, args, below, meth, c, Q, nL, g, A⟩ := K
  obtain ⟨hx, hb, hml, hown, hts, hE, hA, hlk, rfl, rfl, rfl, rfl⟩ := X
  obtain ⟨hd, rfl⟩ := hd
  exact fun H locs ls h1 h2 h3 h4 => va_castA hx hb hown (hts _ hw) (h1.one hh) 0 rfl (va_nm_int (hE.1.2 0 (g.2.1 0, .int) rfl).2) hd (kk H locs ls h1 h2 h3 h4)
theorem v_cln (X : Cx K l0 g0 cc RX6 nL0 rm) (hf : 1 ≤ rm.frames) (hl : (st.map fun v => v.category).sum + 14 ≤ rm.locals) (hc : k + 1 ≤ rm.cells) (hn : n + 5 ≤ rm.slots) (hd : DD cc pc (.invokevirtual 34) 3 pc1) (kk : ∀ q, h q = none → VJ K (k + 1) (n + 5) (hU h q (ai g0 5 (fun j => tb0.getD j 0))) pc1 lv (.ref q :: st)) : VJ K k n h pc lv (.ref (g0.2.2 0) :: st) := by
  obtain ⟨p, l, e, R, s, m, args, below, meth, c, Q, nL, g, A⟩ := K
  obtain ⟨hx, hb, hml, hown, hts, hE, hA, hlk, rfl, rfl, rfl, rfl⟩ := X
  obtain ⟨hd, rfl⟩ := hd
  intro H locs ls h1 h2 h3 h4 T hT XS
  obtain ⟨cell, c1, c2, c3, c4, c5, c6⟩ := hE.2.2.2.2.2.2.1.2.kept h3.2.1
  have hnm : s.vm.findClass "[I" = some (g.2.1 0) := va_nm_int (hE.1.2 0 (g.2.1 0, .int) rfl).2
  obtain ⟨cC, t0', f1, f2, f3⟩ := Cond.castable_spec (va_Nw.use (A := args) rfl hE.2.2.2.1)
  cases hnm.symm.trans f1
  have hcellT : T.heap[g.2.2 0]? = some cell := by rw [hT]; exact c1
  have hsz : cell.slots.size = 5 := by rw [c3]; exact arrV_size _ _ _
  have hcellE : ({ cls := cell.cls, slots := cell.slots } : Cell) = vp_cell (g.2.1 0) (5, .inl (fun j => tb0.getD j 0)) := by rw [c2, c3]; rfl
  obtain ⟨-, kA, hkA, comp, hkind⟩ := State.isArrayOf_alike XS.warmed.alike ((hE.1.2 0 (g.2.1 0, .int) rfl).1 0 (fun _ => .null))
  obtain ⟨-, kS, hkS, compS, hkindS⟩ := (hE.1.2 0 (g.2.1 0, .int) rfl).1 0 (fun _ => .null)
  obtain ⟨vm', X', stp⟩ := XS.cloneArray hx hown (hts _ gcL) (hts _ gcS) (hts _ gcN) (hts _ gcI) (hts _ gcE) (a := g.2.2 0) (cell := cell) hcellT c4 c5 (by rw [c2]; exact hnm) f2 (by rw [c2]; exact f3)
    (fun i v hv => by
      rw [c2]
      rw [c3] at hv
      have hk' : T.vm.classes[g.2.1 0]? = some kA := hkA
      have hft : fits .int v = true := va_fit (fun i _ => rfl) i v hv
      simpa [State.fitsSlot, State.slotType?, hk', hkind] using hft)
    (g := F0 m pc ls (.ref (g.2.2 0) :: st)) rfl (by rw [hml]; exact h4.1) rfl (by rw [hb]; exact hd) hf (by show 2 * 0 + _ + 14 ≤ _; omega) hc (by rw [hsz]; exact hn) (hloader := by rw [c2]; exact Vm.clonesLoader_of_array hkS hkindS)
  rw [hcellE, hsz] at X'
  have hfr : h H.size = none := by
    cases hq : h H.size with
    | none => rfl
    | some d => exact absurd (h1.lt hq) (Nat.lt_irrefl _)
  generalize hH1 : H.push (vp_cell (g.2.1 0) (5, .inl (fun j => tb0.getD j 0))) = H1
  have z1 : H1.size = H.size + 1 := by rw [← hH1, Array.size_push]
  have e1 : H1[H.size]? = some (vp_cell (g.2.1 0) (5, .inl (fun j => tb0.getD j 0))) := by rw [← hH1, Array.getElem?_push_size]
  have o1 : ∀ q : Nat, q ≠ H.size → H1[q]? = H[q]? := fun q hq => by rw [← hH1, Array.getElem?_push, if_neg hq]
  obtain ⟨t, b1, b2⟩ := kk H.size hfr H1 locs ls (h1.set e1 o1) (hU_dom h2 (hA _ h3.1)) ⟨Nat.le_trans h3.1 (by omega), fun y g1 g2 => (o1 y (by have := h3.1; omega)).trans (h3.2.1 y g1 g2), h3.2.2⟩ h4
    ((T.setVm vm').pushCell (vp_cell (g.2.1 0) (5, .inl (fun j => tb0.getD j 0)))) (by rw [← hH1, ← hT]; rfl) X'
  refine ⟨t, stp t ?_, b2⟩
  rw [hcellE, hT]
  exact b1
theorem v_acp (X : Cx K l0 g0 cc RX7 nL0 rm) {a0 a : Nat} {f f2 : Nat → Int64} {sp dp nn : Int32} (i j c0 : Nat) (ha0 : h a0 = some (al g0 40 f)) (ha : h a = some (al g0 40 f2)) (hi : sp = nI i) (hj : dp = nI j) (hn : nn = nI c0) (h1' : i + c0 ≤ 40) (h2' : j + c0 ≤ 40) (hf : 1 ≤ rm.frames) (hl : (st.map fun v => v.category).sum + (nativeFrameWords "java/lang/System" "arraycopy" 5 + 11) ≤ rm.locals) (hd : DD cc pc (.invokestatic 284) 3 pc1) (kk : VJ K k n (hU h a (al g0 40 (va_cpy f f2 i j c0))) pc1 lv st) : VJ K k n h pc lv (.int nn :: .int dp :: .ref a :: .int sp :: .ref a0 :: st) := by
  obtain ⟨p, l, e, R, s, m, args, below, meth, c, Q, nL, g, A⟩ := K
  obtain ⟨hx, hb, hml, hown, hts, hE, hA, hlk, rfl, rfl, rfl, rfl⟩ := X
  obtain ⟨hd, rfl⟩ := hd
  intro H locs ls h1 h2 h3 h4
  obtain ⟨q0, hq0⟩ := hL_at h1 ha0
  obtain ⟨q, hq⟩ := hL_at h1 ha
  subst hi; subst hj; subst hn
  refine va_copyl (ty := .long) (n0 := 40) (n1 := 40) hx hb (hml.trans h4.1.symm) hown (hts _ gaL) (hts _ gaN) (hts _ gaS) (hts _ gaI) hE.1 (hL_P h1) (hL_D h2) h3 q0 q 1 1 hq0 hq rfl rfl rfl (nI_pos (by omega)) (nI_pos (by omega)) (nI_pos (by omega)) (by rw [nI_clamp (by omega), nI_clamp (by omega)]; exact h1') (by rw [nI_clamp (by omega), nI_clamp (by omega)]; exact h2') (fun _ _ => rfl) hf hl hd (fun H1 locs1 p1 p2 p3 => ?_)
  rw [nI_clamp (show i < 2 ^ 31 by omega), nI_clamp (show j < 2 ^ 31 by omega), nI_clamp (show c0 < 2 ^ 31 by omega)] at p1
  exact kk H1 locs1 ls (hL_set h1 (hL_D h2) hq p1) (hU_dom h2 (h2 a (hsome ha))) p3 h4
end VA
/-! ===== two heaps side by side; a call that knows one of them alone ===== -/
def hS (h1 h2 : Hp) : Hp := fun a => match h1 a with
  | some c => some c
  | none => h2 a
def hX (h1 h2 : Hp) : Prop := ∀ a, h1 a ≠ none → h2 a = none
theorem hS_l {h1 h2 : Hp} {a : Nat} {c : va_E} (e : h1 a = some c) : hS h1 h2 a = some c := by unfold hS; rw [e]
theorem hS_r {h1 h2 : Hp} {a : Nat} (e : h1 a = none) : hS h1 h2 a = h2 a := by unfold hS; rw [e]
theorem hX_s {h1 h2 : Hp} (hx : hX h1 h2) : hX h2 h1 := fun a ha => by
  cases e : h1 a with
  | none => rfl
  | some c => exact absurd (hx a (hsome e)) ha
theorem hS_c {h1 h2 : Hp} (hx : hX h1 h2) : hS h1 h2 = hS h2 h1 := by
  funext a
  cases e : h1 a with
  | none =>
    rw [hS_r e]
    cases e2 : h2 a with
    | none => rw [hS_r e2, e]
    | some d => rw [hS_l e2]
  | some c => rw [hS_l e, hS_r (hx a (hsome e)), e]
theorem HP.left {g : GT} {h1 h2 : Hp} {H : Heap} (hp : HP g (hS h1 h2) H) : HP g h1 H := fun a c e => hp a c (hS_l e)
theorem HP.right {g : GT} {h1 h2 : Hp} {H : Heap} (hp : HP g (hS h1 h2) H) (hx : hX h1 h2) : HP g h2 H := by rw [hS_c hx] at hp; exact hp.left
section VF
variable {K : KT} {l0 : Launch} {g0 : GT} {cc : ByteArray} {own : String} {nL0 : Nat} {rm : Room} {k n : Nat} {h1 h2 : Hp} {pc pc1 : Nat} {lv : List (Nat × Value)} {st st0 : List Value}
theorem v_runF {p : Program} {l : Launch} {e : Env} {R : Room} {s : State} {m : MethodId} {args : Array Value} {below : List Frame} {meth : Method} {c : Code} {Q : State → Prop} {nL : Nat} {g : GT} {A : Nat → Prop} (hA : ∀ q, s.heap.size ≤ q → A q) {P : Option Value → Hp → Prop} {mc ms : Nat} {a : Array Value} (hdis : hX h1 h2)
    (hr : ∀ (H : Heap) (locs : List Loc) (ls : Array Slot), HP g h1 H → (∀ a, h1 a ≠ none → A a) → va_S A s.heap H locs → lv_has ls nL lv → va_Run p l e R s m args below meth c H locs k n mc ms (F0 m pc ls st0) st (QFp g (dm h1 H.size) P a) (dm h1 H.size))
    (kk : ∀ (r : Option Value) (hh : Hp), P r hh → hX hh h2 → VJ (p, l, e, R, s, m, args, below, meth, c, Q, nL, g, A) (k + mc) (n + ms) (hS hh h2) (pc + 3) lv (r.toList ++ st)) : VJ (p, l, e, R, s, m, args, below, meth, c, Q, nL, g, A) k n (hS h1 h2) pc lv st0 := by
  intro H locs ls p1 p2 h3 h4 T hT X
  have d1 : ∀ a, h1 a ≠ none → A a := fun a ha => p2 a (by cases q : h1 a with
    | none => exact absurd q ha
    | some c => rw [hS_l q]; exact fun z => by cases z)
  obtain ⟨v, st₀, t, T', L, h0, X', hL, e1, e2, ⟨⟨r, hh, hv, hp, hhp, hdm⟩, hz, hk⟩, st1⟩ := hr H locs ls p1.left d1 h3 h4 T hT X
  cases hv
  rw [h0] at hz hk
  have hin : ∀ q, dm h1 H.size q → A q := fun q hq => by
    rcases hq with hq | hq
    · exact d1 q hq
    · exact hA q (Nat.le_trans h3.1 hq)
  have hxx : hX hh h2 := fun a ha => by
    rcases hdm a ha with q | q
    · exact hdis a q
    · cases q2 : h2 a with
      | none => rfl
      | some c => exact absurd ((p1.right hdis).lt q2) (Nat.not_lt.mpr q)
  have hpp : HP g (hS hh h2) T'.heap := fun a c hc => by
    cases q : hh a with
    | some d => rw [hS_l q] at hc; cases hc; rw [e1]; exact hhp a _ q
    | none =>
      rw [hS_r q] at hc
      have hl := (p1.right hdis).lt hc
      have hnd : ¬ dm h1 H.size a := fun z => by
        rcases z with z | z
        · rw [hdis a z] at hc; cases hc
        · omega
      exact ((p1.right hdis) a c hc).kept (by rw [e1]; exact hk a hl hnd)
  obtain ⟨t2, a1, b1⟩ := kk v hh hp hxx T'.heap (locs ++ L) ls hpp (fun a ha => by
      cases q : hh a with
      | some d => exact hin a (hdm a (hsome q))
      | none =>
        rw [hS_r q] at ha
        refine p2 a ?_
        rw [hS_c hdis]
        cases q2 : h2 a with
        | none => exact absurd q2 ha
        | some d => rw [hS_l q2]; exact fun z => by cases z)
    ⟨Nat.le_trans h3.1 (by rw [e1]; exact hz), fun q q1 q2 => by rw [e1, hk q (Nat.lt_of_lt_of_le q1 h3.1) (fun z => q2 (hin q z))]; exact h3.2.1 q q1 q2, fun q hq => by
      rcases List.mem_append.mp hq with h | h
      · exact h3.2.2 q h
      · exact hin _ (hL q h)⟩ h4 T' rfl X'
  exact ⟨t2, st1 t2 a1, b1⟩
theorem v_cVF (X : Cx K l0 g0 cc own nL0 rm) {y : MethodName} {cc1 : ByteArray} {nL1 ar idx : Nat} {ret1 : Option FieldType} {rm1 : Room} {P : Option Value → Hp → Prop} {mc ms : Nat} {av : List Value} {b ci : Nat} {T : u_T} {N : Nat} {fs : List Value} (hdis : hX h1 h2) (hs : SV own idx y cc1 nL1 ret1 ar) (hM : MC l0 g0 y cc1 nL1 ret1 rm1 (.ref b :: av) h1 P mc ms) (hrc : h1 b = some (.inr (ci, fs))) (hci : vwCl[ci]? = some (y.cls, T, N)) (hd : DD cc pc (.invokevirtual idx) 3 pc1) (hst : st0 = av.reverse ++ .ref b :: st) (har : av.length = ar) (hrm : rm1.cells = mc ∧ rm1.slots = ms) (hR : rm1.frames + 1 ≤ rm.frames ∧ 8 + (nL1 + 11) + rm1.locals ≤ rm.locals) (hf : k + mc ≤ rm.cells ∧ n + ms ≤ rm.slots) (hW : (st.map fun v => v.category).sum ≤ 8) (kk : ∀ (r : Option Value) (hh : Hp), P r hh → hX hh h2 → VJ K (k + mc) (n + ms) (hS hh h2) pc1 lv (r.toList ++ st)) : VJ K k n (hS h1 h2) pc lv st0 := by
  obtain ⟨p, l, e, R, s, m, args, below, meth, c, Q, nL, g, A⟩ := K
  obtain ⟨hx, hb, hml, hown, hts, hE, hA, hlk, rfl, rfl, rfl, rfl⟩ := X
  obtain ⟨hd, rfl⟩ := hd
  refine v_runF hA hdis (fun H locs ls p1 p2 h3 h4 => va_runV (C := y.cls) (As := av) (rest := st) ⟨hx, hb, hml, hown, hts⟩ (hM H.size) ⟨callB_of ar hts (gw_cons hs.2.2.2.2.1) rfl hrm.1 hrm.2 (hts _ hs.2.2.2.1) (hts _ hs.1) hs.2.2.2.2.2 hR, hts _ hs.2.1, hts _ hs.2.2.1⟩ ⟨mc_blind, va_recv hE.1 (p1.one hrc) (q := (y.cls, T, N)) (q0 := 0) hci rfl, fun U hU hW => ⟨rfl, by rw [hU], by rw [hU]; exact p1, hE.go h3 (fun q hq => by
      rcases hq with hq | hq
      · exact p2 q hq
      · exact hA q (Nat.le_trans h3.1 hq)) hU hW⟩⟩ rfl har h4.1 hst (lv_room hW) hd hf) kk
theorem v_cIF (X : Cx K l0 g0 cc own nL0 rm) {y : MethodName} {cc1 : ByteArray} {nL1 ar idx : Nat} {rm1 : Room} {P : Option Value → Hp → Prop} {mc ms : Nat} {av : List Value} {b : Nat} (hdis : hX h1 h2) (hs : SI own idx y cc1 nL1 ar) (hM : MC l0 g0 y cc1 nL1 none rm1 (.ref b :: av) h1 P mc ms) (hd : DD cc pc (.invokespecial idx) 3 pc1) (hst : st0 = av.reverse ++ .ref b :: st) (har : av.length = ar) (hrm : rm1.cells = mc ∧ rm1.slots = ms) (hR : rm1.frames + 1 ≤ rm.frames ∧ 8 + (nL1 + 11) + rm1.locals ≤ rm.locals) (hf : k + mc ≤ rm.cells ∧ n + ms ≤ rm.slots) (hW : (st.map fun v => v.category).sum ≤ 8) (kk : ∀ (r : Option Value) (hh : Hp), P r hh → hX hh h2 → VJ K (k + mc) (n + ms) (hS hh h2) pc1 lv (r.toList ++ st)) : VJ K k n (hS h1 h2) pc lv st0 := by
  obtain ⟨p, l, e, R, s, m, args, below, meth, c, Q, nL, g, A⟩ := K
  obtain ⟨hx, hb, hml, hown, hts, hE, hA, hlk, rfl, rfl, rfl, rfl⟩ := X
  obtain ⟨hd, rfl⟩ := hd
  refine v_runF hA hdis (fun H locs ls p1 p2 h3 h4 => va_runI (As := av) (rest := st) ⟨hx, hb, hml, hown, hts⟩ (hM H.size) ⟨callB_of ar hts (gw_cons hs.2.2.2.2.1) rfl hrm.1 hrm.2 (hts _ hs.2.2.2.1) (hts _ hs.1) hs.2.2.2.2.2 hR, hs.2.2.1, hts _ hs.2.1⟩ ⟨mc_blind, fun U hU hW => ⟨rfl, by rw [hU], by rw [hU]; exact p1, hE.go h3 (fun q hq => by
      rcases hq with hq | hq
      · exact p2 q hq
      · exact hA q (Nat.le_trans h3.1 hq)) hU hW⟩⟩ rfl har h4.1 hst (lv_room hW) hd hf) kk
theorem v_cInF (X : Cx K l0 g0 cc own nL0 rm) {y : MethodName} {cc1 : ByteArray} {nL1 ar idx : Nat} {rm1 : Room} {P : Option Value → Hp → Prop} {mc ms : Nat} {av : List Value} {b : Nat} (hdis : hX h1 h2) (hs : SIn own idx y cc1 nL1 ar) (hM : MC l0 g0 y cc1 nL1 none rm1 (.ref b :: av) h1 P mc ms) (hd : DD cc pc (.invokespecial idx) 3 pc1) (hst : st0 = av.reverse ++ .ref b :: st) (har : av.length = ar) (hrm : rm1.cells = mc ∧ rm1.slots = ms) (hR : rm1.frames + 1 ≤ rm.frames ∧ 8 + (nL1 + 11) + rm1.locals ≤ rm.locals) (hf : k + mc ≤ rm.cells ∧ n + ms ≤ rm.slots) (hW : (st.map fun v => v.category).sum ≤ 8) (kk : ∀ (r : Option Value) (hh : Hp), P r hh → hX hh h2 → VJ K (k + mc) (n + ms) (hS hh h2) pc1 lv (r.toList ++ st)) : VJ K k n (hS h1 h2) pc lv st0 := by
  obtain ⟨p, l, e, R, s, m, args, below, meth, c, Q, nL, g, A⟩ := K
  obtain ⟨hx, hb, hml, hown, hts, hE, hA, hlk, rfl, rfl, rfl, rfl⟩ := X
  obtain ⟨hd, rfl⟩ := hd
  refine v_runF hA hdis (fun H locs ls p1 p2 h3 h4 => va_runIN (host := "LogRollers") (As := av) (rest := st) ⟨hx, hb, hml, hown, hts⟩ (hM H.size) ⟨va_cnB ar hts (gw_cons hs.2.2.2.2.1) rfl hrm.1 hrm.2 (hE.2.1 _ hs.1) (hts _ hs.2.2.2.1) hs.2.2.2.2.2 hR, hs.2.2.1, hts _ hs.2.1⟩ ⟨mc_blind, fun U hU hW => ⟨rfl, by rw [hU], by rw [hU]; exact p1, hE.go h3 (fun q hq => by
      rcases hq with hq | hq
      · exact p2 q hq
      · exact hA q (Nat.le_trans h3.1 hq)) hU hW⟩⟩ rfl har h4.1 hst (lv_room hW) hd hf) kk
end VF
