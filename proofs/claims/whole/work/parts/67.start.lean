/-! ===== what stands at the start ===== -/
def FL : List Cond := flatC (Jvm.Cond.and given_1 narrow_1)
def tmT (i : Nat) : Term := .string "LogRollers$Tape" (sixT.getD i 0)
def tmM (i : Nat) : Term := .string "LogRollersModel" (sixM.getD i 0)
def strOk (tm : Nat → Term) : Prop := ∀ i : Fin 10, Cond.exactly (tm i.val) "java/lang/String" ∈ FL ∧ Cond.eq (.field (tm i.val) "java/lang/String" "coder" "B") (.int 0) ∈ FL ∧ Cond.arrayOf (.field (tm i.val) "java/lang/String" "value" "[B") .byte ∈ FL ∧ Cond.eq (.length (.field (tm i.val) "java/lang/String" "value" "[B")) (.int (Int32.ofNat (slen.getD i.val 0))) ∈ FL ∧ ∀ j : Fin 5, j.val < slen.getD i.val 0 → Cond.eq (.elem (.field (tm i.val) "java/lang/String" "value" "[B") (.int (Int32.ofNat j.val))) (.int ((sbyt.getD i.val []).getD j.val 0)) ∈ FL
def strNe (tm : Nat → Term) : Prop := ∀ i j : Fin 10, i ≠ j → Cond.not (Cond.eq (tm i.val) (tm j.val)) ∈ FL ∨ Cond.not (Cond.eq (tm j.val) (tm i.val)) ∈ FL
set_option maxRecDepth 100000 in
theorem fl_T : strOk tmT := by unfold strOk; decide +kernel
set_option maxRecDepth 100000 in
theorem fl_M : strOk tmM := by unfold strOk; decide +kernel
theorem fl_Tlt : ∀ i j : Nat, i < j → j < 10 → Cond.not (Cond.eq (tmT i) (tmT j)) ∈ FL ∨ Cond.not (Cond.eq (tmT j) (tmT i)) ∈ FL := by
  intro i j h1 h2
  have hc : i = 0 ∨ i = 1 ∨ i = 2 ∨ i = 3 ∨ i = 4 ∨ i = 5 ∨ i = 6 ∨ i = 7 ∨ i = 8 := by omega
  rcases hc with rfl | rfl | rfl | rfl | rfl | rfl | rfl | rfl | rfl
  · have hd : j = 1 ∨ j = 2 ∨ j = 3 ∨ j = 4 ∨ j = 5 ∨ j = 6 ∨ j = 7 ∨ j = 8 ∨ j = 9 := by omega
    rcases hd with rfl | rfl | rfl | rfl | rfl | rfl | rfl | rfl | rfl
    · exact Or.inl (List.mem_of_getElem? (i := 85) (by decide +kernel))
    · exact Or.inl (List.mem_of_getElem? (i := 94) (by decide +kernel))
    · exact Or.inl (List.mem_of_getElem? (i := 104) (by decide +kernel))
    · exact Or.inl (List.mem_of_getElem? (i := 115) (by decide +kernel))
    · exact Or.inl (List.mem_of_getElem? (i := 126) (by decide +kernel))
    · exact Or.inl (List.mem_of_getElem? (i := 140) (by decide +kernel))
    · exact Or.inl (List.mem_of_getElem? (i := 154) (by decide +kernel))
    · exact Or.inl (List.mem_of_getElem? (i := 169) (by decide +kernel))
    · exact Or.inl (List.mem_of_getElem? (i := 184) (by decide +kernel))
  · have hd : j = 2 ∨ j = 3 ∨ j = 4 ∨ j = 5 ∨ j = 6 ∨ j = 7 ∨ j = 8 ∨ j = 9 := by omega
    rcases hd with rfl | rfl | rfl | rfl | rfl | rfl | rfl | rfl
    · exact Or.inl (List.mem_of_getElem? (i := 95) (by decide +kernel))
    · exact Or.inl (List.mem_of_getElem? (i := 105) (by decide +kernel))
    · exact Or.inl (List.mem_of_getElem? (i := 116) (by decide +kernel))
    · exact Or.inl (List.mem_of_getElem? (i := 127) (by decide +kernel))
    · exact Or.inl (List.mem_of_getElem? (i := 141) (by decide +kernel))
    · exact Or.inl (List.mem_of_getElem? (i := 155) (by decide +kernel))
    · exact Or.inl (List.mem_of_getElem? (i := 170) (by decide +kernel))
    · exact Or.inl (List.mem_of_getElem? (i := 185) (by decide +kernel))
  · have hd : j = 3 ∨ j = 4 ∨ j = 5 ∨ j = 6 ∨ j = 7 ∨ j = 8 ∨ j = 9 := by omega
    rcases hd with rfl | rfl | rfl | rfl | rfl | rfl | rfl
    · exact Or.inl (List.mem_of_getElem? (i := 106) (by decide +kernel))
    · exact Or.inl (List.mem_of_getElem? (i := 117) (by decide +kernel))
    · exact Or.inl (List.mem_of_getElem? (i := 128) (by decide +kernel))
    · exact Or.inl (List.mem_of_getElem? (i := 142) (by decide +kernel))
    · exact Or.inl (List.mem_of_getElem? (i := 156) (by decide +kernel))
    · exact Or.inl (List.mem_of_getElem? (i := 171) (by decide +kernel))
    · exact Or.inl (List.mem_of_getElem? (i := 186) (by decide +kernel))
  · have hd : j = 4 ∨ j = 5 ∨ j = 6 ∨ j = 7 ∨ j = 8 ∨ j = 9 := by omega
    rcases hd with rfl | rfl | rfl | rfl | rfl | rfl
    · exact Or.inl (List.mem_of_getElem? (i := 118) (by decide +kernel))
    · exact Or.inl (List.mem_of_getElem? (i := 129) (by decide +kernel))
    · exact Or.inl (List.mem_of_getElem? (i := 143) (by decide +kernel))
    · exact Or.inl (List.mem_of_getElem? (i := 157) (by decide +kernel))
    · exact Or.inl (List.mem_of_getElem? (i := 172) (by decide +kernel))
    · exact Or.inl (List.mem_of_getElem? (i := 187) (by decide +kernel))
  · have hd : j = 5 ∨ j = 6 ∨ j = 7 ∨ j = 8 ∨ j = 9 := by omega
    rcases hd with rfl | rfl | rfl | rfl | rfl
    · exact Or.inl (List.mem_of_getElem? (i := 130) (by decide +kernel))
    · exact Or.inl (List.mem_of_getElem? (i := 144) (by decide +kernel))
    · exact Or.inl (List.mem_of_getElem? (i := 158) (by decide +kernel))
    · exact Or.inl (List.mem_of_getElem? (i := 173) (by decide +kernel))
    · exact Or.inl (List.mem_of_getElem? (i := 188) (by decide +kernel))
  · have hd : j = 6 ∨ j = 7 ∨ j = 8 ∨ j = 9 := by omega
    rcases hd with rfl | rfl | rfl | rfl
    · exact Or.inl (List.mem_of_getElem? (i := 145) (by decide +kernel))
    · exact Or.inl (List.mem_of_getElem? (i := 159) (by decide +kernel))
    · exact Or.inl (List.mem_of_getElem? (i := 174) (by decide +kernel))
    · exact Or.inl (List.mem_of_getElem? (i := 189) (by decide +kernel))
  · have hd : j = 7 ∨ j = 8 ∨ j = 9 := by omega
    rcases hd with rfl | rfl | rfl
    · exact Or.inl (List.mem_of_getElem? (i := 160) (by decide +kernel))
    · exact Or.inl (List.mem_of_getElem? (i := 175) (by decide +kernel))
    · exact Or.inl (List.mem_of_getElem? (i := 190) (by decide +kernel))
  · have hd : j = 8 ∨ j = 9 := by omega
    rcases hd with rfl | rfl
    · exact Or.inl (List.mem_of_getElem? (i := 176) (by decide +kernel))
    · exact Or.inl (List.mem_of_getElem? (i := 191) (by decide +kernel))
  · have hd : j = 9 := by omega
    rcases hd with rfl
    · exact Or.inl (List.mem_of_getElem? (i := 192) (by decide +kernel))
theorem fl_Tn : strNe tmT := fun i j hne => by
  rcases Nat.lt_or_gt_of_ne (fun e => hne (Fin.ext e)) with z | z
  · exact fl_Tlt i.val j.val z j.isLt
  · exact (fl_Tlt j.val i.val z i.isLt).symm
theorem fl_Mlt : ∀ i j : Nat, i < j → j < 10 → Cond.not (Cond.eq (tmM i) (tmM j)) ∈ FL ∨ Cond.not (Cond.eq (tmM j) (tmM i)) ∈ FL := by
  intro i j h1 h2
  have hc : i = 0 ∨ i = 1 ∨ i = 2 ∨ i = 3 ∨ i = 4 ∨ i = 5 ∨ i = 6 ∨ i = 7 ∨ i = 8 := by omega
  rcases hc with rfl | rfl | rfl | rfl | rfl | rfl | rfl | rfl | rfl
  · have hd : j = 1 ∨ j = 2 ∨ j = 3 ∨ j = 4 ∨ j = 5 ∨ j = 6 ∨ j = 7 ∨ j = 8 ∨ j = 9 := by omega
    rcases hd with rfl | rfl | rfl | rfl | rfl | rfl | rfl | rfl | rfl
    · exact Or.inl (List.mem_of_getElem? (i := 229) (by decide +kernel))
    · exact Or.inl (List.mem_of_getElem? (i := 248) (by decide +kernel))
    · exact Or.inl (List.mem_of_getElem? (i := 268) (by decide +kernel))
    · exact Or.inl (List.mem_of_getElem? (i := 289) (by decide +kernel))
    · exact Or.inl (List.mem_of_getElem? (i := 310) (by decide +kernel))
    · exact Or.inl (List.mem_of_getElem? (i := 334) (by decide +kernel))
    · exact Or.inl (List.mem_of_getElem? (i := 358) (by decide +kernel))
    · exact Or.inl (List.mem_of_getElem? (i := 383) (by decide +kernel))
    · exact Or.inl (List.mem_of_getElem? (i := 408) (by decide +kernel))
  · have hd : j = 2 ∨ j = 3 ∨ j = 4 ∨ j = 5 ∨ j = 6 ∨ j = 7 ∨ j = 8 ∨ j = 9 := by omega
    rcases hd with rfl | rfl | rfl | rfl | rfl | rfl | rfl | rfl
    · exact Or.inl (List.mem_of_getElem? (i := 249) (by decide +kernel))
    · exact Or.inl (List.mem_of_getElem? (i := 269) (by decide +kernel))
    · exact Or.inl (List.mem_of_getElem? (i := 290) (by decide +kernel))
    · exact Or.inl (List.mem_of_getElem? (i := 311) (by decide +kernel))
    · exact Or.inl (List.mem_of_getElem? (i := 335) (by decide +kernel))
    · exact Or.inl (List.mem_of_getElem? (i := 359) (by decide +kernel))
    · exact Or.inl (List.mem_of_getElem? (i := 384) (by decide +kernel))
    · exact Or.inl (List.mem_of_getElem? (i := 409) (by decide +kernel))
  · have hd : j = 3 ∨ j = 4 ∨ j = 5 ∨ j = 6 ∨ j = 7 ∨ j = 8 ∨ j = 9 := by omega
    rcases hd with rfl | rfl | rfl | rfl | rfl | rfl | rfl
    · exact Or.inl (List.mem_of_getElem? (i := 270) (by decide +kernel))
    · exact Or.inl (List.mem_of_getElem? (i := 291) (by decide +kernel))
    · exact Or.inl (List.mem_of_getElem? (i := 312) (by decide +kernel))
    · exact Or.inl (List.mem_of_getElem? (i := 336) (by decide +kernel))
    · exact Or.inl (List.mem_of_getElem? (i := 360) (by decide +kernel))
    · exact Or.inl (List.mem_of_getElem? (i := 385) (by decide +kernel))
    · exact Or.inl (List.mem_of_getElem? (i := 410) (by decide +kernel))
  · have hd : j = 4 ∨ j = 5 ∨ j = 6 ∨ j = 7 ∨ j = 8 ∨ j = 9 := by omega
    rcases hd with rfl | rfl | rfl | rfl | rfl | rfl
    · exact Or.inl (List.mem_of_getElem? (i := 292) (by decide +kernel))
    · exact Or.inl (List.mem_of_getElem? (i := 313) (by decide +kernel))
    · exact Or.inl (List.mem_of_getElem? (i := 337) (by decide +kernel))
    · exact Or.inl (List.mem_of_getElem? (i := 361) (by decide +kernel))
    · exact Or.inl (List.mem_of_getElem? (i := 386) (by decide +kernel))
    · exact Or.inl (List.mem_of_getElem? (i := 411) (by decide +kernel))
  · have hd : j = 5 ∨ j = 6 ∨ j = 7 ∨ j = 8 ∨ j = 9 := by omega
    rcases hd with rfl | rfl | rfl | rfl | rfl
    · exact Or.inl (List.mem_of_getElem? (i := 314) (by decide +kernel))
    · exact Or.inl (List.mem_of_getElem? (i := 338) (by decide +kernel))
    · exact Or.inl (List.mem_of_getElem? (i := 362) (by decide +kernel))
    · exact Or.inl (List.mem_of_getElem? (i := 387) (by decide +kernel))
    · exact Or.inl (List.mem_of_getElem? (i := 412) (by decide +kernel))
  · have hd : j = 6 ∨ j = 7 ∨ j = 8 ∨ j = 9 := by omega
    rcases hd with rfl | rfl | rfl | rfl
    · exact Or.inl (List.mem_of_getElem? (i := 339) (by decide +kernel))
    · exact Or.inl (List.mem_of_getElem? (i := 363) (by decide +kernel))
    · exact Or.inl (List.mem_of_getElem? (i := 388) (by decide +kernel))
    · exact Or.inl (List.mem_of_getElem? (i := 413) (by decide +kernel))
  · have hd : j = 7 ∨ j = 8 ∨ j = 9 := by omega
    rcases hd with rfl | rfl | rfl
    · exact Or.inl (List.mem_of_getElem? (i := 364) (by decide +kernel))
    · exact Or.inl (List.mem_of_getElem? (i := 389) (by decide +kernel))
    · exact Or.inl (List.mem_of_getElem? (i := 414) (by decide +kernel))
  · have hd : j = 8 ∨ j = 9 := by omega
    rcases hd with rfl | rfl
    · exact Or.inl (List.mem_of_getElem? (i := 390) (by decide +kernel))
    · exact Or.inl (List.mem_of_getElem? (i := 415) (by decide +kernel))
  · have hd : j = 9 := by omega
    rcases hd with rfl
    · exact Or.inl (List.mem_of_getElem? (i := 416) (by decide +kernel))
theorem fl_Mn : strNe tmM := fun i j hne => by
  rcases Nat.lt_or_gt_of_ne (fun e => hne (Fin.ext e)) with z | z
  · exact fl_Mlt i.val j.val z j.isLt
  · exact (fl_Mlt j.val i.val z i.isLt).symm
set_option maxRecDepth 100000 in
theorem fl_s0 : Cond.arrayOf (.static "LogRollers" "PART_AT_FIRST" "[I") .int ∈ FL ∧ Cond.eq (.length (.static "LogRollers" "PART_AT_FIRST" "[I")) (.int (Int32.ofNat 5)) ∈ FL ∧ ∀ k : Fin 5, Cond.eq (.elem (.static "LogRollers" "PART_AT_FIRST" "[I") (.int (Int32.ofNat k.val))) (.int (tb0.getD k.val 0)) ∈ FL := by decide +kernel
set_option maxRecDepth 100000 in
theorem fl_l0 : Cond.laysStatic "LogRollers" "PART_AT_FIRST" "[I" ∈ lw_tbl := by decide +kernel
set_option maxRecDepth 100000 in
theorem fl_s1 : Cond.arrayOf (.static "LogRollers" "KIND_ABOVE" "[I") .int ∈ FL ∧ Cond.eq (.length (.static "LogRollers" "KIND_ABOVE" "[I")) (.int (Int32.ofNat 6)) ∈ FL ∧ ∀ k : Fin 6, Cond.eq (.elem (.static "LogRollers" "KIND_ABOVE" "[I") (.int (Int32.ofNat k.val))) (.int (tb1.getD k.val 0)) ∈ FL := by decide +kernel
set_option maxRecDepth 100000 in
theorem fl_l1 : Cond.laysStatic "LogRollers" "KIND_ABOVE" "[I" ∈ lw_tbl := by decide +kernel
set_option maxRecDepth 100000 in
theorem fl_s2 : Cond.arrayOf (.static "LogRollers" "PART_LEAST" "[I") .int ∈ FL ∧ Cond.eq (.length (.static "LogRollers" "PART_LEAST" "[I")) (.int (Int32.ofNat 5)) ∈ FL ∧ ∀ k : Fin 5, Cond.eq (.elem (.static "LogRollers" "PART_LEAST" "[I") (.int (Int32.ofNat k.val))) (.int (tb2.getD k.val 0)) ∈ FL := by decide +kernel
set_option maxRecDepth 100000 in
theorem fl_l2 : Cond.laysStatic "LogRollers" "PART_LEAST" "[I" ∈ lw_tbl := by decide +kernel
set_option maxRecDepth 100000 in
theorem fl_s3 : Cond.arrayOf (.static "LogRollers" "PART_MOST" "[I") .int ∈ FL ∧ Cond.eq (.length (.static "LogRollers" "PART_MOST" "[I")) (.int (Int32.ofNat 5)) ∈ FL ∧ ∀ k : Fin 5, Cond.eq (.elem (.static "LogRollers" "PART_MOST" "[I") (.int (Int32.ofNat k.val))) (.int (tb3.getD k.val 0)) ∈ FL := by decide +kernel
set_option maxRecDepth 100000 in
theorem fl_l3 : Cond.laysStatic "LogRollers" "PART_MOST" "[I" ∈ lw_tbl := by decide +kernel
set_option maxRecDepth 100000 in
theorem fl_e : Cond.exactly (.static "LogRollers" "PART_AT_FIRST" "[I") "[I" ∈ FL ∧ Cond.eq (.static "java/lang/String" "COMPACT_STRINGS" "Z") (.int 1) ∈ FL ∧ Cond.isRef (.static "jdk/internal/util/Preconditions" "SIOOBE_FORMATTER" "Ljava/util/function/BiFunction;") ∈ FL := by decide +kernel
set_option maxRecDepth 100000 in
theorem fl_w : Cond.laysStatic "java/lang/String" "COMPACT_STRINGS" "Z" ∈ lw_tbl ∧ Cond.initialized "java/lang/String" ∈ lw_tbl ∧ Cond.laysStatic "jdk/internal/util/Preconditions" "SIOOBE_FORMATTER" "Ljava/util/function/BiFunction;" ∈ lw_tbl ∧ Cond.initialized "jdk/internal/util/Preconditions" ∈ lw_tbl ∧ Cond.initialized "LogRollers" ∈ lw_tbl ∧ Cond.arrayOver (.object "LogRollers$Person") ∈ lw_tbl ∧ Cond.arrayOver (.object "LogRollers$Sheet") ∈ lw_tbl ∧ Cond.arrayOver (.object "LogRollers$Way") ∈ lw_tbl ∧ nwF ∈ lw_tbl ∧ nwC ∈ lw_tbl := by decide +kernel
set_option maxRecDepth 100000 in
theorem fl_n : ∀ w ∈ NW, w ∈ lw_tbl ∧ w.onTables = true := by decide +kernel
set_option maxRecDepth 100000 in
theorem fl_r : (∀ i : Fin 10, Cond.stringRef "LogRollers$Tape" (sixT.getD i.val 0) (stxt.getD i.val "") ∈ lw_tbl) ∧ ∀ i : Fin 10, Cond.stringRef "LogRollersModel" (sixM.getD i.val 0) (stxt.getD i.val "") ∈ lw_tbl := by decide +kernel
theorem len_small {args : Array Value} {s : State} {t : Term} {v : Value} (hv : (Term.length t).eval args s none [] s = some v) : ∃ a cell, t.eval args s none [] s = some (.ref a) ∧ s.arrayAt? a = some cell ∧ cell.slots.size < 2 ^ 31 ∧ v = .int cell.slots.size.toInt32 := by
  obtain ⟨a, cell, ht, harr, he⟩ := Term.length_spec hv
  refine ⟨a, cell, ht, harr, ?_, he⟩
  simp only [Term.eval, ht, harr, Option.bind_eq_bind, Option.bind_some] at hv
  by_cases hlt : cell.slots.size < 2147483648
  · exact hlt
  · simp [hlt] at hv
theorem vk_S_c {N : Nat} {len : List Nat} {byt : List (List Int32)} {a1 v1 a2 v2 : Nat → Nat} {A : Nat → Prop} {U : State} {H : Heap} (ea : ∀ i, i < N → a2 i = a1 i) (ev : ∀ i, i < N → v2 i = v1 i) (h : vk_S N len byt a1 v1 A U H) : vk_S N len byt a2 v2 A U H := by
  refine ⟨fun i hi => ?_, fun i j hi hj e => h.2 i j hi hj (by rw [← ea i hi, ← ea j hj]; exact e)⟩
  rw [ea i hi, ev i hi]; exact h.1 i hi
theorem slen_31 : ∀ i : Nat, i < 10 → slen.getD i 0 < 2 ^ 31 ∧ slen.getD i 0 ≤ 5 := by
  intro i hi
  have := slN_5 i hi
  unfold slN at this
  omega
theorem str_of {b : Nat} {s : State} {tm : Nat → Term} (hs : ∀ w ∈ FL, w.before #[Value.ref b] s = true) (h1 : strOk tm) (h2 : strNe tm) : ∃ adK adV : Nat → Nat, vk_S 10 slen sbyt adK adV (fun q : Nat => s.heap.size ≤ q) s s.heap ∧ ∀ i : Nat, i < 10 → (tm i).eval #[Value.ref b] s none [] s = some (.ref (adK i)) :=
  vk_Sof (fun i hi => (slen_31 i hi).1) (fun i hi => hs _ (h1 ⟨i, hi⟩).1) (fun i hi => hs _ (h1 ⟨i, hi⟩).2.1) (fun i hi => hs _ (h1 ⟨i, hi⟩).2.2.1) (fun i hi => hs _ (h1 ⟨i, hi⟩).2.2.2.1) (fun i hi j hj => hs _ ((h1 ⟨i, hi⟩).2.2.2.2 ⟨j, by have := (slen_31 i hi).2; omega⟩ hj)) (fun i j hi hj hne => (h2 ⟨i, hi⟩ ⟨j, hj⟩ (fun e => hne (congrArg Fin.val e))).imp (fun q => hs _ q) (fun q => hs _ q)) (fun a ha => Nat.not_le.mpr ha)
theorem arr_of {s : State} {cA : ClassId} {kA : Class} {comp : ClassId} {ty : FieldType} (h2 : s.vm.classes[cA]? = some kA) (h3 : kA.kind = .array comp ty) : ArrOfT s cA ty := fun n z => ⟨(fun k h => by cases h), kA, h2, comp, h3⟩
set_option maxHeartbeats 4000000 in
theorem EV_start {b : Nat} {s : State} (hts : ∀ w ∈ lw_tbl, w.before #[Value.ref b] s = true) (hgv : (Jvm.Cond.and given_1 narrow_1).before #[Value.ref b] s = true) : ∃ g : GT, EV g (fun q : Nat => s.heap.size ≤ q) s := by
  have hs : ∀ w ∈ FL, w.before #[Value.ref b] s = true := flat_of_before _ hgv
  have hA : ∀ a : Nat, a < s.heap.size → ¬ (fun q : Nat => s.heap.size ≤ q) a := fun a ha => Nat.not_le.mpr ha
  have hG : ∀ w ∈ GW, w.before #[Value.ref b] s = true := fun w hw => hts w (List.mem_filter.mp hw).1
  have hiL := hts _ fl_w.2.2.2.2.1
  obtain ⟨c0, i0, k0⟩ := u_known (C := RX0) (T := TX0) (N := 8) (n := 8) hG u_X0 (hG _ qx_X0)
  obtain ⟨c1, i1, k1⟩ := u_known (C := RX1) (T := TX1) (N := 7) (n := 7) hG u_X1 (hG _ qx_X1)
  obtain ⟨c2, i2, k2⟩ := u_known (C := RX2) (T := TX2) (N := 3) (n := 3) hG u_X2 (hG _ qx_X2)
  obtain ⟨c3, i3, k3⟩ := u_known (C := RX3) (T := TX3) (N := 5) (n := 5) hG u_X3 (hG _ qx_X3)
  obtain ⟨c4, i4, k4⟩ := u_known (C := RX4) (T := TX4) (N := 6) (n := 6) hG u_X4 (hG _ qx_X4)
  obtain ⟨c5, i5, k5⟩ := u_known (C := RX5) (T := TX5) (N := 5) (n := 5) hG u_X5 (hG _ qx_X5)
  obtain ⟨c6, i6, k6⟩ := u_known (C := RX6) (T := TX6) (N := 10) (n := 10) hG u_X6 (hG _ qx_X6)
  obtain ⟨c7, i7, k7⟩ := u_known (C := RX7) (T := TX7) (N := 8) (n := 8) hG u_X7 (hG _ qx_X7)
  obtain ⟨c8, i8, k8⟩ := u_known (C := RX8) (T := TX8) (N := 19) (n := 19) hG u_X8 (hG _ qx_X8)
  obtain ⟨cI, kI, oI, aI1, aI2, aI3⟩ := Cond.arrayClass_spec (hG _ gwI)
  obtain ⟨cJ, kJ, oJ, aJ1, aJ2, aJ3⟩ := Cond.arrayClass_spec (hG _ gwJ)
  obtain ⟨oP, cP, kP, p1, -, p3, p4, p5⟩ := Cond.arrayOver_spec (hts _ fl_w.2.2.2.2.2.1)
  obtain ⟨oS, cS, kS, q1, -, q3, q4, q5⟩ := Cond.arrayOver_spec (hts _ fl_w.2.2.2.2.2.2.1)
  obtain ⟨oW, cW, kW, w1, -, w3, w4, w5⟩ := Cond.arrayOver_spec (hts _ fl_w.2.2.2.2.2.2.2.1)
  obtain ⟨t0, ht0, hT0⟩ := va_Tof (tm := .static "LogRollers" "PART_AT_FIRST" "[I") (ty := .int) (N := 5) (f := tvs tb0) (A := fun q : Nat => s.heap.size ≤ q) (by decide) (hs _ fl_s0.1) (va_eqt (hs _ fl_s0.2.1)) (fun j hj => va_eqt (hs _ (fl_s0.2.2 ⟨j, hj⟩))) hA
  have hZ0 := va_Zref (hts _ fl_l0) hiL ht0 hA
  obtain ⟨t1, ht1, hT1⟩ := va_Tof (tm := .static "LogRollers" "KIND_ABOVE" "[I") (ty := .int) (N := 6) (f := tvs tb1) (A := fun q : Nat => s.heap.size ≤ q) (by decide) (hs _ fl_s1.1) (va_eqt (hs _ fl_s1.2.1)) (fun j hj => va_eqt (hs _ (fl_s1.2.2 ⟨j, hj⟩))) hA
  have hZ1 := va_Zref (hts _ fl_l1) hiL ht1 hA
  obtain ⟨t2, ht2, hT2⟩ := va_Tof (tm := .static "LogRollers" "PART_LEAST" "[I") (ty := .int) (N := 5) (f := tvs tb2) (A := fun q : Nat => s.heap.size ≤ q) (by decide) (hs _ fl_s2.1) (va_eqt (hs _ fl_s2.2.1)) (fun j hj => va_eqt (hs _ (fl_s2.2.2 ⟨j, hj⟩))) hA
  have hZ2 := va_Zref (hts _ fl_l2) hiL ht2 hA
  obtain ⟨t3, ht3, hT3⟩ := va_Tof (tm := .static "LogRollers" "PART_MOST" "[I") (ty := .int) (N := 5) (f := tvs tb3) (A := fun q : Nat => s.heap.size ≤ q) (by decide) (hs _ fl_s3.1) (va_eqt (hs _ fl_s3.2.1)) (fun j hj => va_eqt (hs _ (fl_s3.2.2 ⟨j, hj⟩))) hA
  have hZ3 := va_Zref (hts _ fl_l3) hiL ht3 hA
  obtain ⟨aT, vT, hST, hET⟩ := str_of hs fl_T fl_Tn
  obtain ⟨aM, vM, hSM, hEM⟩ := str_of hs fl_M fl_Mn
  have hCS := va_Zof (A := fun q : Nat => s.heap.size ≤ q) (hts _ fl_w.1) (hts _ fl_w.2.1) (va_eqt (hs _ fl_e.2.1)) hA
  have hSF := va_Zqof (A := fun q : Nat => s.heap.size ≤ q) (hts _ fl_w.2.2.1) (hts _ fl_w.2.2.2.1) (hs _ fl_e.2.2) hA
  obtain ⟨ta, cell, hta, hat, hsz, hv5⟩ := len_small (va_eqt (hs _ fl_s0.2.1))
  have hta0 : ta = t0 := by have := hta.symm.trans ht0; cases this; rfl
  subst hta0
  obtain ⟨hcl, hkn, hst, -⟩ := State.arrayAt?_spec hat
  obtain ⟨x1, x2, x3, x4, y1, y2, y3, y4, y5, y6, -⟩ := Cond.exactly_spec (hs _ fl_e.1)
  have hx1 : x1 = ta := by have := y1.symm.trans hta; cases this; rfl
  subst hx1
  have hx3 : x3 = cell := Option.some.inj (y3.symm.trans hcl)
  subst hx3
  have hx2 : x2 = cI := Option.some.inj (y2.symm.trans (va_nm_int (s := s) aI1))
  subst hx2
  have hs5 : x3.slots.size = 5 := by
    have e5 := Value.int.inj hv5
    have e6 := congrArg Int32.toInt e5
    rw [show (Int32.ofNat 5).toInt = 5 from rfl, show x3.slots.size.toInt32 = nI x3.slots.size from rfl, nI_toInt hsz] at e6
    omega
  have hsl : x3.slots = (arrV x2 5 (tvs tb0)).slots := by
    obtain ⟨ce, z1, -, -, -, -, z6, -⟩ := hT0
    have hce : ce = x3 := Option.some.inj (z1.symm.trans hcl)
    subst hce
    apply Array.ext_getElem?
    intro j
    by_cases hj : j < 5
    · rw [z6 j hj, arrV_read _ _ hj]
    · rw [Array.getElem?_eq_none (by omega), Array.getElem?_eq_none (by rw [arrV_size]; omega)]
  refine ⟨((fun k => ([c0, c1, c2, c3, c4, c5, c6, c7, c8] : List ClassId).getD k c0, fun k => ([i0, i1, i2, i3, i4, i5, i6, i7, i8] : List (Nat → Nat)).getD k i0), fun k => ([x2, cJ, cP, cS, cW] : List ClassId).getD k x2, fun k => if k < 10 then ([x1, t1, t2, t3] : List Nat).getD k 0 else if k < 30 then aT (k - 10) else if k < 50 then vT (k - 30) else if k < 70 then aM (k - 50) else vM (k - 70)), ⟨?_, ?_⟩, fun w hw => va_Nw.of (fl_n w hw).2 (hts w (fl_n w hw).1), va_Nw.of rfl (hts _ fl_w.2.2.2.2.2.2.2.2.1), va_Nw.of rfl (hts _ fl_w.2.2.2.2.2.2.2.2.2), ?_, ⟨?_, ?_⟩, ?_⟩
  · intro k q hq
    match k, hq with
    | 0, hq => cases hq; exact k0
    | 1, hq => cases hq; exact k1
    | 2, hq => cases hq; exact k2
    | 3, hq => cases hq; exact k3
    | 4, hq => cases hq; exact k4
    | 5, hq => cases hq; exact k5
    | 6, hq => cases hq; exact k6
    | 7, hq => cases hq; exact k7
    | 8, hq => cases hq; exact k8
    | k + 9, hq => simp at hq
  · intro k q hq
    match k, hq with
    | 0, hq => cases hq; exact ⟨arr_of aI2 aI3, aI1⟩
    | 1, hq => cases hq; exact ⟨arr_of aJ2 aJ3, aJ1⟩
    | 2, hq => cases hq; exact ⟨arr_of p3 p4, ⟨kP, oP, p3, p4, p1, p5⟩⟩
    | 3, hq => cases hq; exact ⟨arr_of q3 q4, ⟨kS, oS, q3, q4, q1, q5⟩⟩
    | 4, hq => cases hq; exact ⟨arr_of w3 w4, ⟨kW, oW, w3, w4, w1, w5⟩⟩
    | k + 5, hq => simp [gtys] at hq
  · intro C hC
    simp only [List.mem_cons, List.not_mem_nil, or_false] at hC
    rcases hC with rfl | rfl | rfl
    · exact va_AO.of (hts _ fl_w.2.2.2.2.2.1)
    · exact va_AO.of (hts _ fl_w.2.2.2.2.2.2.1)
    · exact va_AO.of (hts _ fl_w.2.2.2.2.2.2.2.1)
  · intro i hi
    show vk_R "LogRollers$Tape" (sixT.getD i 0) (stxt.getD i "") (if 10 + i < 10 then _ else if 10 + i < 30 then aT (10 + i - 10) else _) s
    rw [if_neg (by omega), if_pos (by omega), Nat.add_sub_cancel_left]
    exact vk_R.of (hts _ (fl_r.1 ⟨i, hi⟩)) (hET i hi)
  · intro i hi
    show vk_R "LogRollersModel" (sixM.getD i 0) (stxt.getD i "") (if 50 + i < 10 then _ else if 50 + i < 30 then _ else if 50 + i < 50 then _ else if 50 + i < 70 then aM (50 + i - 50) else _) s
    rw [if_neg (by omega), if_neg (by omega), if_neg (by omega), if_pos (by omega), Nat.add_sub_cancel_left]
    exact vk_R.of (hts _ (fl_r.2 ⟨i, hi⟩)) (hEM i hi)
  · refine ⟨⟨⟨hZ0, hT0⟩, ⟨x3, hcl, y6, hsl, (fun k hk => by rw [hk] at hst; cases hst), hkn, hA _ (Array.getElem?_eq_some_iff.mp hcl).1⟩⟩, ⟨hZ1, hT1⟩, ⟨hZ2, hT2⟩, ⟨hZ3, hT3⟩, hCS, hSF, vk_S_c (fun i hi => ?_) (fun i hi => ?_) hST, vk_S_c (fun i hi => ?_) (fun i hi => ?_) hSM⟩
    · show (if 10 + i < 10 then _ else if 10 + i < 30 then aT (10 + i - 10) else _) = _
      rw [if_neg (by omega), if_pos (by omega), Nat.add_sub_cancel_left]
    · show (if 30 + i < 10 then _ else if 30 + i < 30 then _ else if 30 + i < 50 then vT (30 + i - 30) else _) = _
      rw [if_neg (by omega), if_neg (by omega), if_pos (by omega), Nat.add_sub_cancel_left]
    · show (if 50 + i < 10 then _ else if 50 + i < 30 then _ else if 50 + i < 50 then _ else if 50 + i < 70 then aM (50 + i - 50) else _) = _
      rw [if_neg (by omega), if_neg (by omega), if_neg (by omega), if_pos (by omega), Nat.add_sub_cancel_left]
    · show (if 70 + i < 10 then _ else if 70 + i < 30 then _ else if 70 + i < 50 then _ else if 70 + i < 70 then _ else vM (70 + i - 70)) = _
      rw [if_neg (by omega), if_neg (by omega), if_neg (by omega), if_neg (by omega), Nat.add_sub_cancel_left]
