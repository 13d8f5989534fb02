/-! ===== the words that every method takes with it; what stands around (tables, nest mates, statics, texts) ===== -/
def GW : List Cond := lw_tbl.filter goodWord
theorem gw_in {w : Cond} (h : w ∈ lw_tbl) (hg : goodWord w = true) : w ∈ GW := List.mem_filter.mpr ⟨h, hg⟩
theorem gw_good : GoodIn GW GW := fun w h => ⟨h, good_of_word (List.mem_filter.mp h).2⟩
theorem gw_cons {w : Cond} (h : w ∈ GW) : GoodIn GW (w :: GW) := fun v hv => by
  rcases List.mem_cons.mp hv with e | e
  · subst e; exact gw_good _ h
  · exact gw_good _ e
theorem gw_consL {w : Cond} {L : List Cond} (h : w ∈ GW) (hL : GoodIn GW L) : GoodIn GW (w :: L) := fun v hv => by
  rcases List.mem_cons.mp hv with e | e
  · subst e; exact gw_good _ h
  · exact hL _ e
theorem gw_V {own : String} {idx : Nat} {C : String} {y : MethodName} {c0 : Cond} (h1 : Cond.methodLink own idx y ∈ GW) (h2 : Cond.instanceMethod y ∈ GW) (h3 : Cond.selects C y y ∈ GW) (h4 : Cond.initialized C ∈ GW) (h0 : c0 ∈ GW) : GoodIn GW (wsV own idx C y (c0 :: GW)) :=
  gw_consL h1 (gw_consL h2 (gw_consL h3 (gw_consL h4 (gw_cons h0))))
theorem gw_S {own : String} {idx : Nat} {y : MethodName} {c0 : Cond} (h1 : Cond.methodLink own idx y ∈ GW) (h2 : Cond.static y ∈ GW) (h4 : Cond.initialized own ∈ GW) (h0 : c0 ∈ GW) : GoodIn GW (wsS own idx y (c0 :: GW)) :=
  gw_consL h1 (gw_consL h2 (gw_consL h4 (gw_cons h0)))
/-- the links to nest mates -/
def nwM : List (String × Nat × MethodName) := [("LogRollers$Match", 17, ⟨"LogRollers$Stander", "<init>", "()V"⟩), ("LogRollers$World", 64, ⟨"LogRollers$Person", "<init>", "()V"⟩), ("LogRollers", 42, ⟨"LogRollers$Person", "<init>", "()V"⟩), ("LogRollers", 49, ⟨"LogRollers$Tape", "<init>", "()V"⟩), ("LogRollers", 63, ⟨"LogRollers$Sheet", "<init>", "()V"⟩), ("LogRollers$World", 72, ⟨"LogRollers", "within", "(III)Z"⟩), ("LogRollers$Person", 33, ⟨"LogRollers", "atMost", "(II)I"⟩), ("LogRollers$Way", 28, ⟨"LogRollers", "within", "(III)Z"⟩), ("LogRollers$Match", 114, ⟨"LogRollers", "within", "(III)Z"⟩), ("LogRollers$Stander", 34, ⟨"LogRollers", "atMost", "(II)I"⟩), ("LogRollers$Tape", 33, ⟨"LogRollers$Way", "<init>", "()V"⟩), ("LogRollers$Sheet", 22, ⟨"LogRollers", "within", "(III)Z"⟩)]
def NW : List Cond := nwM.map (fun q => Cond.methodLinkNest q.1 q.2.1 q.2.2 "LogRollers")
abbrev nwF : Cond := .fieldLinkNest "LogRollers$World" 30 "LogRollers" "PART_AT_FIRST" "[I" "LogRollers"
abbrev nwC : Cond := .castable "[I" "java/lang/Cloneable"
abbrev GT : Type := va_G × (Nat → ClassId) × (Nat → Nat)
def gtys (g : GT) : List (ClassId × FieldType) := [(g.2.1 0, .int), (g.2.1 1, .long), (g.2.1 2, .object "LogRollers$Person"), (g.2.1 3, .object "LogRollers$Sheet"), (g.2.1 4, .object "LogRollers$Way")]
def tb0 : List Int32 := [15, 5, 3, 60, 0]
def tb1 : List Int32 := [-1, 0, 0, 2, 0, 4]
def tb2 : List Int32 := [1, 0, 0, 0, 0]
def tb3 : List Int32 := [99, 50, 50, 999, 100]
def tvs (L : List Int32) : Nat → Value := fun j => .int (L.getD j 0)
/-- a static array: its field, its numbers -/
def eS (n : String) (t : Nat) (L : List Int32) (A : Nat → Prop) (U : State) (H : Heap) : Prop := va_Z "LogRollers" n "[I" (.ref t) A U H ∧ va_T .int t L.length (tvs L) A U H
def slen : List Nat := [4, 4, 4, 4, 4, 3, 5, 4, 4, 3]
def sbyt : List (List Int32) := [[116, 117, 114, 110], [108, 101, 97, 110], [108, 101, 102, 116], [116, 105, 99, 107], [101, 108, 115, 101], [114, 117, 110], [99, 104, 101, 99, 107], [98, 97, 99, 107], [119, 97, 105, 116], [104, 111, 112]]
def stxt : List String := ["turn", "lean", "left", "tick", "else", "\x72un", "check", "back", "wait", "hop"]
def sixT : List Nat := [78, 84, 86, 88, 90, 92, 94, 96, 98, 100]
def sixM : List Nat := [204, 210, 212, 214, 216, 218, 220, 222, 224, 226]
/-- the array that is cloned: its cell, but for what the VM keeps of it -/
def eC (g : GT) (A : Nat → Prop) (H : Heap) : Prop := ∃ cell : Cell, H[g.2.2 0]? = some cell ∧ cell.cls = g.2.1 0 ∧ cell.slots = (arrV (g.2.1 0) 5 (tvs tb0)).slots ∧ (∀ k, cell.vm ≠ .statics k) ∧ cell.vm ≠ .unknown ∧ ¬ A (g.2.2 0)
theorem eC.kept {g : GT} {A : Nat → Prop} {H H1 : Heap} (h : eC g A H) (hq : ∀ a : Nat, a < H.size → ¬ A a → H1[a]? = H[a]?) : eC g A H1 := by
  obtain ⟨cell, h1, h2, h3, h4, h5, h6⟩ := h
  exact ⟨cell, by rw [hq _ (Array.getElem?_eq_some_iff.mp h1).1 h6]; exact h1, h2, h3, h4, h5, h6⟩
theorem eC.narrow {g : GT} {A B : Nat → Prop} {H : Heap} (h : eC g A H) (hAB : ∀ q, B q → A q) : eC g B H := by
  obtain ⟨cell, h1, h2, h3, h4, h5, h6⟩ := h
  exact ⟨cell, h1, h2, h3, h4, h5, fun z => h6 (hAB _ z)⟩
def ES (g : GT) (A : Nat → Prop) (U : State) (H : Heap) : Prop :=
  (eS "PART_AT_FIRST" (g.2.2 0) tb0 A U H ∧ eC g A H) ∧ eS "KIND_ABOVE" (g.2.2 1) tb1 A U H ∧ eS "PART_LEAST" (g.2.2 2) tb2 A U H ∧ eS "PART_MOST" (g.2.2 3) tb3 A U H ∧
  va_Z "java/lang/String" "COMPACT_STRINGS" "Z" (.int 1) A U H ∧ va_Zq "jdk/internal/util/Preconditions" "SIOOBE_FORMATTER" "Ljava/util/function/BiFunction;" A U H ∧
  vk_S 10 slen sbyt (fun i => g.2.2 (10 + i)) (fun i => g.2.2 (30 + i)) A U H ∧ vk_S 10 slen sbyt (fun i => g.2.2 (50 + i)) (fun i => g.2.2 (70 + i)) A U H
def ER (g : GT) (U : State) : Prop := (∀ i : Nat, i < 10 → vk_R "LogRollers$Tape" (sixT.getD i 0) (stxt.getD i "") (g.2.2 (10 + i)) U) ∧ ∀ i : Nat, i < 10 → vk_R "LogRollersModel" (sixM.getD i 0) (stxt.getD i "") (g.2.2 (50 + i)) U
def EV (g : GT) (A : Nat → Prop) (U : State) : Prop :=
  va_K g.1 vwCl (gtys g) U ∧ (∀ w ∈ NW, va_Nw w U) ∧ va_Nw nwF U ∧ va_Nw nwC U ∧ (∀ C ∈ (["LogRollers$Person", "LogRollers$Sheet", "LogRollers$Way"] : List String), va_AO C U) ∧ ER g U ∧ ES g A U U.heap
theorem eS.moved {n : String} {t : Nat} {L : List Int32} {A : Nat → Prop} {u U : State} {H : Heap} (hvm : u.vm.Alike U.vm) (h : eS n t L A u H) : eS n t L A U H := ⟨h.1.moved hvm, h.2.moved hvm⟩
theorem eS.kept {n : String} {t : Nat} {L : List Int32} {A : Nat → Prop} {U : State} {H H1 : Heap} (h : eS n t L A U H) (hq : ∀ a : Nat, a < H.size → ¬ A a → H1[a]? = H[a]?) : eS n t L A U H1 := ⟨h.1.kept hq, h.2.kept hq⟩
theorem eS.narrow {n : String} {t : Nat} {L : List Int32} {A B : Nat → Prop} {U : State} {H : Heap} (h : eS n t L A U H) (hAB : ∀ q, B q → A q) : eS n t L B U H := ⟨h.1.narrow hAB, h.2.narrow hAB⟩
theorem ES.moved {g : GT} {A : Nat → Prop} {u U : State} {H : Heap} (hvm : u.vm.Alike U.vm) (h : ES g A u H) : ES g A U H :=
  ⟨⟨h.1.1.moved hvm, h.1.2⟩, h.2.1.moved hvm, h.2.2.1.moved hvm, h.2.2.2.1.moved hvm, h.2.2.2.2.1.moved hvm, h.2.2.2.2.2.1.moved hvm, h.2.2.2.2.2.2.1.moved hvm, h.2.2.2.2.2.2.2.moved hvm⟩
theorem ES.kept {g : GT} {A : Nat → Prop} {U : State} {H H1 : Heap} (h : ES g A U H) (hq : ∀ a : Nat, a < H.size → ¬ A a → H1[a]? = H[a]?) : ES g A U H1 :=
  ⟨⟨h.1.1.kept hq, h.1.2.kept hq⟩, h.2.1.kept hq, h.2.2.1.kept hq, h.2.2.2.1.kept hq, h.2.2.2.2.1.kept hq, h.2.2.2.2.2.1.kept hq, h.2.2.2.2.2.2.1.kept hq, h.2.2.2.2.2.2.2.kept hq⟩
theorem ES.narrow {g : GT} {A B : Nat → Prop} {U : State} {H : Heap} (h : ES g A U H) (hAB : ∀ q, B q → A q) : ES g B U H :=
  ⟨⟨h.1.1.narrow hAB, h.1.2.narrow hAB⟩, h.2.1.narrow hAB, h.2.2.1.narrow hAB, h.2.2.2.1.narrow hAB, h.2.2.2.2.1.narrow hAB, h.2.2.2.2.2.1.narrow hAB, h.2.2.2.2.2.2.1.narrow hAB, h.2.2.2.2.2.2.2.narrow hAB⟩
/-- a static fact stays where the cells outside A stay and the new A has no old cell more -/
theorem nw_warm {s U : State} (hW : s.WarmedH U.vm) (h : ∀ w ∈ NW, va_Nw w s) : ∀ w ∈ NW, va_Nw w U := by
  intro w hw
  obtain ⟨q, hq, rfl⟩ := List.mem_map.mp hw
  exact va_Nw.warmM hW (h _ hw)
theorem nw_same {s U : State} (hv : s.vm = U.vm) (h : ∀ w ∈ NW, va_Nw w s) : ∀ w ∈ NW, va_Nw w U := by
  intro w hw
  obtain ⟨q, hq, rfl⟩ := List.mem_map.mp hw
  exact va_Nw.same rfl hv (h _ hw)
theorem EV.calling {g : GT} {A : Nat → Prop} {U : State} (h : EV g A U) (f : JFrame) (mk : MethodId) (a : Array Value) : EV g A (U.calling f mk a) := by
  obtain ⟨h1, h2, h3, h4, h5, h6, h7⟩ := h
  have hv : U.vm = (U.calling f mk a).vm := rfl
  have ha : U.vm.Alike (U.calling f mk a).vm := Vm.Alike.refl U.vm
  exact ⟨va_K.moved ha h1, nw_same hv h2, va_Nw.same rfl hv h3, va_Nw.same rfl hv h4, fun C hC => (h5 C hC).moved ha, ⟨fun i hi => (h6.1 i hi).same hv.symm, fun i hi => (h6.2 i hi).same hv.symm⟩, h7.moved ha⟩
theorem va_Z.narrowL {C n d : String} {v : Value} {A B : Nat → Prop} {U : State} {H : Heap} (h : va_Z C n d v A U H) (hAB : ∀ q, q < H.size → B q → A q) : va_Z C n d v B U H := by
  obtain ⟨cf, kf, fi, f, a, cell, h1, h2, h3, h4, h5, h6, h7, h8⟩ := h
  exact ⟨cf, kf, fi, f, a, cell, h1, h2, h3, h4, h5, h6, h7, fun z => h8 (hAB a (Array.getElem?_eq_some_iff.mp h5).1 z)⟩
theorem EV.go {g : GT} {A B : Nat → Prop} {s U : State} {H : Heap} {locs : List Loc} (h : EV g A s) (hS : va_S A s.heap H locs) (hAB : ∀ q, B q → A q) (hU : U.heap = H) (hW : s.WarmedH U.vm) : EV g B U := by
  obtain ⟨h1, h2, h3, h4, h5, h6, h7⟩ := h
  refine ⟨va_K.moved hW.alike h1, nw_warm hW h2, va_Nw.warmF hW h3, va_Nw.warmC hW h4, fun C hC => (h5 C hC).moved hW.alike, ⟨fun i hi => (h6.1 i hi).warm hW, fun i hi => (h6.2 i hi).warm hW⟩, ?_⟩
  rw [hU]
  exact ((h7.moved hW.alike).kept hS.2.1).narrow hAB
