section
/-- a private method of a class that the tables say can be made, by its rows of tables_1 -/
def lw_okq (q : MethodName × Nat) : Prop := (q.1.cls ≠ "java/lang/invoke/MethodHandle" ∧ q.1.cls ≠ "java/lang/invoke/VarHandle") ∧ Cond.instantiable q.1.cls q.2 ∈ tables_1 ∧ Cond.privateMethod q.1 ∈ tables_1 ∧ Cond.instanceMethod q.1 ∈ tables_1
theorem lw_p0 : lw_okq (⟨"LogRollers", "finding", "(I)I"⟩, 8) := ⟨⟨by decide +kernel, by decide +kernel⟩, List.mem_of_getElem? (i := 18) (by decide +kernel), List.mem_of_getElem? (i := 277) (by decide +kernel), List.mem_of_getElem? (i := 278) (by decide +kernel)⟩
theorem lw_p1 : lw_okq (⟨"LogRollers", "isPerson", "(I)Z"⟩, 8) := ⟨⟨by decide +kernel, by decide +kernel⟩, List.mem_of_getElem? (i := 18) (by decide +kernel), List.mem_of_getElem? (i := 290) (by decide +kernel), List.mem_of_getElem? (i := 291) (by decide +kernel)⟩
theorem lw_p2 : lw_okq (⟨"LogRollers", "maySet", "(II)Z"⟩, 8) := ⟨⟨by decide +kernel, by decide +kernel⟩, List.mem_of_getElem? (i := 18) (by decide +kernel), List.mem_of_getElem? (i := 302) (by decide +kernel), List.mem_of_getElem? (i := 303) (by decide +kernel)⟩
theorem lw_p3 : lw_okq (⟨"LogRollers$Person", "waiterShove", "(II)I"⟩, 7) := ⟨⟨by decide +kernel, by decide +kernel⟩, List.mem_of_getElem? (i := 109) (by decide +kernel), List.mem_of_getElem? (i := 352) (by decide +kernel), List.mem_of_getElem? (i := 353) (by decide +kernel)⟩
theorem lw_p4 : lw_okq (⟨"LogRollers$Person", "deedShove", "(III)I"⟩, 7) := ⟨⟨by decide +kernel, by decide +kernel⟩, List.mem_of_getElem? (i := 109) (by decide +kernel), List.mem_of_getElem? (i := 365) (by decide +kernel), List.mem_of_getElem? (i := 366) (by decide +kernel)⟩
theorem lw_p5 : lw_okq (⟨"LogRollers", "isPair", "(II)Z"⟩, 8) := ⟨⟨by decide +kernel, by decide +kernel⟩, List.mem_of_getElem? (i := 18) (by decide +kernel), List.mem_of_getElem? (i := 373) (by decide +kernel), List.mem_of_getElem? (i := 374) (by decide +kernel)⟩
theorem lw_p6 : lw_okq (⟨"LogRollers$Match", "roll", "(LLogRollers$Person;LLogRollers$Person;)V"⟩, 8) := ⟨⟨by decide +kernel, by decide +kernel⟩, List.mem_of_getElem? (i := 45) (by decide +kernel), List.mem_of_getElem? (i := 422) (by decide +kernel), List.mem_of_getElem? (i := 423) (by decide +kernel)⟩
theorem lw_p7 : lw_okq (⟨"LogRollers$Match", "stepUnlessSlipping", "(LLogRollers$Person;LLogRollers$Stander;)V"⟩, 8) := ⟨⟨by decide +kernel, by decide +kernel⟩, List.mem_of_getElem? (i := 45) (by decide +kernel), List.mem_of_getElem? (i := 426) (by decide +kernel), List.mem_of_getElem? (i := 427) (by decide +kernel)⟩
theorem lw_p8 : lw_okq (⟨"LogRollers", "endBout", "(LLogRollers$Person;LLogRollers$Person;I)V"⟩, 8) := ⟨⟨by decide +kernel, by decide +kernel⟩, List.mem_of_getElem? (i := 18) (by decide +kernel), List.mem_of_getElem? (i := 441) (by decide +kernel), List.mem_of_getElem? (i := 442) (by decide +kernel)⟩
theorem lw_p9 : lw_okq (⟨"LogRollers", "startAhead", "(LLogRollers$Person;LLogRollers$Person;)V"⟩, 8) := ⟨⟨by decide +kernel, by decide +kernel⟩, List.mem_of_getElem? (i := 18) (by decide +kernel), List.mem_of_getElem? (i := 463) (by decide +kernel), List.mem_of_getElem? (i := 464) (by decide +kernel)⟩
theorem lw_p10 : lw_okq (⟨"LogRollers", "beatenBy", "(II)I"⟩, 8) := ⟨⟨by decide +kernel, by decide +kernel⟩, List.mem_of_getElem? (i := 18) (by decide +kernel), List.mem_of_getElem? (i := 497) (by decide +kernel), List.mem_of_getElem? (i := 498) (by decide +kernel)⟩
theorem lw_p11 : lw_okq (⟨"LogRollers$Tape", "nextToken", "()V"⟩, 6) := ⟨⟨by decide +kernel, by decide +kernel⟩, List.mem_of_getElem? (i := 193) (by decide +kernel), List.mem_of_getElem? (i := 558) (by decide +kernel), List.mem_of_getElem? (i := 559) (by decide +kernel)⟩
theorem lw_p12 : lw_okq (⟨"LogRollers$Tape", "takeWord", "()V"⟩, 6) := ⟨⟨by decide +kernel, by decide +kernel⟩, List.mem_of_getElem? (i := 193) (by decide +kernel), List.mem_of_getElem? (i := 565) (by decide +kernel), List.mem_of_getElem? (i := 566) (by decide +kernel)⟩
theorem lw_p13 : lw_okq (⟨"LogRollers$Tape", "takeNumber", "()V"⟩, 6) := ⟨⟨by decide +kernel, by decide +kernel⟩, List.mem_of_getElem? (i := 193) (by decide +kernel), List.mem_of_getElem? (i := 572) (by decide +kernel), List.mem_of_getElem? (i := 573) (by decide +kernel)⟩
theorem lw_p14 : lw_okq (⟨"LogRollers$Tape", "takeRule", "(LLogRollers$Way;)Z"⟩, 6) := ⟨⟨by decide +kernel, by decide +kernel⟩, List.mem_of_getElem? (i := 193) (by decide +kernel), List.mem_of_getElem? (i := 582) (by decide +kernel), List.mem_of_getElem? (i := 583) (by decide +kernel)⟩
theorem lw_p15 : lw_okq (⟨"LogRollers$Tape", "nameHere", "()I"⟩, 6) := ⟨⟨by decide +kernel, by decide +kernel⟩, List.mem_of_getElem? (i := 193) (by decide +kernel), List.mem_of_getElem? (i := 586) (by decide +kernel), List.mem_of_getElem? (i := 587) (by decide +kernel)⟩
def lw_privs_1 : List (MethodName × Nat) := [(⟨"LogRollers", "finding", "(I)I"⟩, 8), (⟨"LogRollers", "isPerson", "(I)Z"⟩, 8), (⟨"LogRollers", "maySet", "(II)Z"⟩, 8), (⟨"LogRollers$Person", "waiterShove", "(II)I"⟩, 7), (⟨"LogRollers$Person", "deedShove", "(III)I"⟩, 7), (⟨"LogRollers", "isPair", "(II)Z"⟩, 8), (⟨"LogRollers$Match", "roll", "(LLogRollers$Person;LLogRollers$Person;)V"⟩, 8), (⟨"LogRollers$Match", "stepUnlessSlipping", "(LLogRollers$Person;LLogRollers$Stander;)V"⟩, 8), (⟨"LogRollers", "endBout", "(LLogRollers$Person;LLogRollers$Person;I)V"⟩, 8), (⟨"LogRollers", "startAhead", "(LLogRollers$Person;LLogRollers$Person;)V"⟩, 8), (⟨"LogRollers", "beatenBy", "(II)I"⟩, 8), (⟨"LogRollers$Tape", "nextToken", "()V"⟩, 6), (⟨"LogRollers$Tape", "takeWord", "()V"⟩, 6), (⟨"LogRollers$Tape", "takeNumber", "()V"⟩, 6), (⟨"LogRollers$Tape", "takeRule", "(LLogRollers$Way;)Z"⟩, 6), (⟨"LogRollers$Tape", "nameHere", "()I"⟩, 6)]
theorem lw_r1 : ∀ q ∈ lw_privs_1, lw_okq q := List.forall_mem_cons.mpr ⟨lw_p0, List.forall_mem_cons.mpr ⟨lw_p1, List.forall_mem_cons.mpr ⟨lw_p2, List.forall_mem_cons.mpr ⟨lw_p3, List.forall_mem_cons.mpr ⟨lw_p4, List.forall_mem_cons.mpr ⟨lw_p5, List.forall_mem_cons.mpr ⟨lw_p6, List.forall_mem_cons.mpr ⟨lw_p7, List.forall_mem_cons.mpr ⟨lw_p8, List.forall_mem_cons.mpr ⟨lw_p9, List.forall_mem_cons.mpr ⟨lw_p10, List.forall_mem_cons.mpr ⟨lw_p11, List.forall_mem_cons.mpr ⟨lw_p12, List.forall_mem_cons.mpr ⟨lw_p13, List.forall_mem_cons.mpr ⟨lw_p14, List.forall_mem_cons.mpr ⟨lw_p15, fun _ h => absurd h List.not_mem_nil⟩⟩⟩⟩⟩⟩⟩⟩⟩⟩⟩⟩⟩⟩⟩⟩
theorem lw_p16 : lw_okq (⟨"LogRollers$Tape", "isWord", "(Ljava/lang/String;)Z"⟩, 6) := ⟨⟨by decide +kernel, by decide +kernel⟩, List.mem_of_getElem? (i := 193) (by decide +kernel), List.mem_of_getElem? (i := 591) (by decide +kernel), List.mem_of_getElem? (i := 592) (by decide +kernel)⟩
theorem lw_p17 : lw_okq (⟨"LogRollers$Tape", "takeComparison", "()Z"⟩, 6) := ⟨⟨by decide +kernel, by decide +kernel⟩, List.mem_of_getElem? (i := 193) (by decide +kernel), List.mem_of_getElem? (i := 647) (by decide +kernel), List.mem_of_getElem? (i := 648) (by decide +kernel)⟩
theorem lw_p18 : lw_okq (⟨"LogRollers$Tape", "deedHere", "()I"⟩, 6) := ⟨⟨by decide +kernel, by decide +kernel⟩, List.mem_of_getElem? (i := 193) (by decide +kernel), List.mem_of_getElem? (i := 651) (by decide +kernel), List.mem_of_getElem? (i := 652) (by decide +kernel)⟩
theorem lw_p19 : lw_okq (⟨"LogRollers", "sheetFinding", "(III)I"⟩, 8) := ⟨⟨by decide +kernel, by decide +kernel⟩, List.mem_of_getElem? (i := 18) (by decide +kernel), List.mem_of_getElem? (i := 715) (by decide +kernel), List.mem_of_getElem? (i := 716) (by decide +kernel)⟩
theorem lw_p20 : lw_okq (⟨"LogRollersModel", "finds", "(I)I"⟩, 19) := ⟨⟨by decide +kernel, by decide +kernel⟩, List.mem_of_getElem? (i := 760) (by decide +kernel), List.mem_of_getElem? (i := 834) (by decide +kernel), List.mem_of_getElem? (i := 835) (by decide +kernel)⟩
theorem lw_p21 : lw_okq (⟨"LogRollersModel", "isPerson", "(I)Z"⟩, 19) := ⟨⟨by decide +kernel, by decide +kernel⟩, List.mem_of_getElem? (i := 760) (by decide +kernel), List.mem_of_getElem? (i := 843) (by decide +kernel), List.mem_of_getElem? (i := 844) (by decide +kernel)⟩
theorem lw_p22 : lw_okq (⟨"LogRollersModel", "mayBe", "(II)Z"⟩, 19) := ⟨⟨by decide +kernel, by decide +kernel⟩, List.mem_of_getElem? (i := 760) (by decide +kernel), List.mem_of_getElem? (i := 852) (by decide +kernel), List.mem_of_getElem? (i := 853) (by decide +kernel)⟩
theorem lw_p23 : lw_okq (⟨"LogRollersModel", "isOnLog", "(I)Z"⟩, 19) := ⟨⟨by decide +kernel, by decide +kernel⟩, List.mem_of_getElem? (i := 760) (by decide +kernel), List.mem_of_getElem? (i := 860) (by decide +kernel), List.mem_of_getElem? (i := 861) (by decide +kernel)⟩
theorem lw_p24 : lw_okq (⟨"LogRollersModel", "areTwo", "(II)Z"⟩, 19) := ⟨⟨by decide +kernel, by decide +kernel⟩, List.mem_of_getElem? (i := 760) (by decide +kernel), List.mem_of_getElem? (i := 904) (by decide +kernel), List.mem_of_getElem? (i := 905) (by decide +kernel)⟩
theorem lw_p25 : lw_okq (⟨"LogRollersModel", "boutAhead", "(III)I"⟩, 19) := ⟨⟨by decide +kernel, by decide +kernel⟩, List.mem_of_getElem? (i := 760) (by decide +kernel), List.mem_of_getElem? (i := 963) (by decide +kernel), List.mem_of_getElem? (i := 964) (by decide +kernel)⟩
theorem lw_p26 : lw_okq (⟨"LogRollersModel", "beatenBy", "(II)I"⟩, 19) := ⟨⟨by decide +kernel, by decide +kernel⟩, List.mem_of_getElem? (i := 760) (by decide +kernel), List.mem_of_getElem? (i := 989) (by decide +kernel), List.mem_of_getElem? (i := 990) (by decide +kernel)⟩
theorem lw_p27 : lw_okq (⟨"LogRollersModel", "look", "()V"⟩, 19) := ⟨⟨by decide +kernel, by decide +kernel⟩, List.mem_of_getElem? (i := 760) (by decide +kernel), List.mem_of_getElem? (i := 1014) (by decide +kernel), List.mem_of_getElem? (i := 1015) (by decide +kernel)⟩
theorem lw_p28 : lw_okq (⟨"LogRollersModel", "reads", "(I)V"⟩, 19) := ⟨⟨by decide +kernel, by decide +kernel⟩, List.mem_of_getElem? (i := 760) (by decide +kernel), List.mem_of_getElem? (i := 1024) (by decide +kernel), List.mem_of_getElem? (i := 1025) (by decide +kernel)⟩
theorem lw_p29 : lw_okq (⟨"LogRollersModel", "name", "()I"⟩, 19) := ⟨⟨by decide +kernel, by decide +kernel⟩, List.mem_of_getElem? (i := 760) (by decide +kernel), List.mem_of_getElem? (i := 1028) (by decide +kernel), List.mem_of_getElem? (i := 1029) (by decide +kernel)⟩
theorem lw_p30 : lw_okq (⟨"LogRollersModel", "isWord", "(Ljava/lang/String;)Z"⟩, 19) := ⟨⟨by decide +kernel, by decide +kernel⟩, List.mem_of_getElem? (i := 760) (by decide +kernel), List.mem_of_getElem? (i := 1033) (by decide +kernel), List.mem_of_getElem? (i := 1034) (by decide +kernel)⟩
theorem lw_p31 : lw_okq (⟨"LogRollersModel", "must", "(Z)V"⟩, 19) := ⟨⟨by decide +kernel, by decide +kernel⟩, List.mem_of_getElem? (i := 760) (by decide +kernel), List.mem_of_getElem? (i := 1043) (by decide +kernel), List.mem_of_getElem? (i := 1044) (by decide +kernel)⟩
def lw_privs_2 : List (MethodName × Nat) := [(⟨"LogRollers$Tape", "isWord", "(Ljava/lang/String;)Z"⟩, 6), (⟨"LogRollers$Tape", "takeComparison", "()Z"⟩, 6), (⟨"LogRollers$Tape", "deedHere", "()I"⟩, 6), (⟨"LogRollers", "sheetFinding", "(III)I"⟩, 8), (⟨"LogRollersModel", "finds", "(I)I"⟩, 19), (⟨"LogRollersModel", "isPerson", "(I)Z"⟩, 19), (⟨"LogRollersModel", "mayBe", "(II)Z"⟩, 19), (⟨"LogRollersModel", "isOnLog", "(I)Z"⟩, 19), (⟨"LogRollersModel", "areTwo", "(II)Z"⟩, 19), (⟨"LogRollersModel", "boutAhead", "(III)I"⟩, 19), (⟨"LogRollersModel", "beatenBy", "(II)I"⟩, 19), (⟨"LogRollersModel", "look", "()V"⟩, 19), (⟨"LogRollersModel", "reads", "(I)V"⟩, 19), (⟨"LogRollersModel", "name", "()I"⟩, 19), (⟨"LogRollersModel", "isWord", "(Ljava/lang/String;)Z"⟩, 19), (⟨"LogRollersModel", "must", "(Z)V"⟩, 19)]
theorem lw_r2 : ∀ q ∈ lw_privs_2, lw_okq q := List.forall_mem_cons.mpr ⟨lw_p16, List.forall_mem_cons.mpr ⟨lw_p17, List.forall_mem_cons.mpr ⟨lw_p18, List.forall_mem_cons.mpr ⟨lw_p19, List.forall_mem_cons.mpr ⟨lw_p20, List.forall_mem_cons.mpr ⟨lw_p21, List.forall_mem_cons.mpr ⟨lw_p22, List.forall_mem_cons.mpr ⟨lw_p23, List.forall_mem_cons.mpr ⟨lw_p24, List.forall_mem_cons.mpr ⟨lw_p25, List.forall_mem_cons.mpr ⟨lw_p26, List.forall_mem_cons.mpr ⟨lw_p27, List.forall_mem_cons.mpr ⟨lw_p28, List.forall_mem_cons.mpr ⟨lw_p29, List.forall_mem_cons.mpr ⟨lw_p30, List.forall_mem_cons.mpr ⟨lw_p31, fun _ h => absurd h List.not_mem_nil⟩⟩⟩⟩⟩⟩⟩⟩⟩⟩⟩⟩⟩⟩⟩⟩
theorem lw_p32 : lw_okq (⟨"LogRollersModel", "compares", "(I)V"⟩, 19) := ⟨⟨by decide +kernel, by decide +kernel⟩, List.mem_of_getElem? (i := 760) (by decide +kernel), List.mem_of_getElem? (i := 1047) (by decide +kernel), List.mem_of_getElem? (i := 1048) (by decide +kernel)⟩
theorem lw_p33 : lw_okq (⟨"LogRollersModel", "isSign", "(I)Z"⟩, 19) := ⟨⟨by decide +kernel, by decide +kernel⟩, List.mem_of_getElem? (i := 760) (by decide +kernel), List.mem_of_getElem? (i := 1051) (by decide +kernel), List.mem_of_getElem? (i := 1052) (by decide +kernel)⟩
theorem lw_p34 : lw_okq (⟨"LogRollersModel", "deed", "()I"⟩, 19) := ⟨⟨by decide +kernel, by decide +kernel⟩, List.mem_of_getElem? (i := 760) (by decide +kernel), List.mem_of_getElem? (i := 1055) (by decide +kernel), List.mem_of_getElem? (i := 1056) (by decide +kernel)⟩
theorem lw_p35 : lw_okq (⟨"LogRollersModel", "isWay", "(I)Z"⟩, 19) := ⟨⟨by decide +kernel, by decide +kernel⟩, List.mem_of_getElem? (i := 760) (by decide +kernel), List.mem_of_getElem? (i := 1068) (by decide +kernel), List.mem_of_getElem? (i := 1069) (by decide +kernel)⟩
theorem lw_p36 : lw_okq (⟨"LogRollersModel", "whyNot", "(III)I"⟩, 19) := ⟨⟨by decide +kernel, by decide +kernel⟩, List.mem_of_getElem? (i := 760) (by decide +kernel), List.mem_of_getElem? (i := 1101) (by decide +kernel), List.mem_of_getElem? (i := 1102) (by decide +kernel)⟩
theorem lw_p37 : lw_okq (⟨"LogRollersModel", "allFalls", "()I"⟩, 19) := ⟨⟨by decide +kernel, by decide +kernel⟩, List.mem_of_getElem? (i := 760) (by decide +kernel), List.mem_of_getElem? (i := 1125) (by decide +kernel), List.mem_of_getElem? (i := 1126) (by decide +kernel)⟩
def lw_privs_3 : List (MethodName × Nat) := [(⟨"LogRollersModel", "compares", "(I)V"⟩, 19), (⟨"LogRollersModel", "isSign", "(I)Z"⟩, 19), (⟨"LogRollersModel", "deed", "()I"⟩, 19), (⟨"LogRollersModel", "isWay", "(I)Z"⟩, 19), (⟨"LogRollersModel", "whyNot", "(III)I"⟩, 19), (⟨"LogRollersModel", "allFalls", "()I"⟩, 19)]
theorem lw_r3 : ∀ q ∈ lw_privs_3, lw_okq q := List.forall_mem_cons.mpr ⟨lw_p32, List.forall_mem_cons.mpr ⟨lw_p33, List.forall_mem_cons.mpr ⟨lw_p34, List.forall_mem_cons.mpr ⟨lw_p35, List.forall_mem_cons.mpr ⟨lw_p36, List.forall_mem_cons.mpr ⟨lw_p37, fun _ h => absurd h List.not_mem_nil⟩⟩⟩⟩⟩⟩
def lw_privs : List (MethodName × Nat) := lw_privs_1 ++ (lw_privs_2 ++ (lw_privs_3))
def lw_tbl : List Cond := k2_sels lw_privs ++ tables_1
theorem lw_privs_ok : ∀ q ∈ lw_privs, lw_okq q := by
  show ∀ q ∈ lw_privs_1 ++ (lw_privs_2 ++ (lw_privs_3)), lw_okq q
  exact List.forall_mem_append.mpr ⟨lw_r1, List.forall_mem_append.mpr ⟨lw_r2, lw_r3⟩⟩
end
section
def RX0 : String := "LogRollers$Match"
def TX0 : u_T := fun k => match k with
  | 0 => ("LogRollers$Match", "parts", "[I", true)
  | 1 => ("LogRollers$Match", "ways", "[LLogRollers$Way;", true)
  | 2 => ("LogRollers$Match", "turnAheadOf", "[I", true)
  | 3 => ("LogRollers$Match", "first", "LLogRollers$Stander;", true)
  | 4 => ("LogRollers$Match", "second", "LLogRollers$Stander;", true)
  | 5 => ("LogRollers$Match", "turn", "I", false)
  | 6 => ("LogRollers$Match", "ticks", "I", false)
  | _ => ("LogRollers$Match", "z", "I", false)
def tyX0 : Nat → FieldType := fun k => match k with
  | 0 => .array .int
  | 1 => .array (.object "LogRollers$Way")
  | 2 => .array .int
  | 3 => .object "LogRollers$Stander"
  | 4 => .object "LogRollers$Stander"
  | 5 => .int
  | 6 => .int
  | _ => .int
theorem nmX0 : ∀ a, a < 8 → ∀ b, b < 8 → a ≠ b → (TX0 a).2.1 ≠ (TX0 b).2.1 := by decide +kernel
theorem tyX0_ok : ∀ k, k < 8 → parseFieldDescriptor (TX0 k).2.2.1 = some (tyX0 k) := by decide +kernel
abbrev cX0_init : ByteArray := prog_2_method_1_code
def yX0_init : MethodName := ⟨RX0, "<init>", "([I[LLogRollers$Way;)V"⟩
abbrev cX0_takeFrom : ByteArray := prog_2_method_2_code
def yX0_takeFrom : MethodName := ⟨RX0, "takeFrom", "(LLogRollers$Match;)V"⟩
abbrev cX0_begin : ByteArray := prog_2_method_3_code
def yX0_begin : MethodName := ⟨RX0, "begin", "(LLogRollers$Person;LLogRollers$Person;)V"⟩
abbrev cX0_go : ByteArray := prog_2_method_4_code
def yX0_go : MethodName := ⟨RX0, "go", "(LLogRollers$Person;LLogRollers$Person;I)I"⟩
abbrev cX0_tick : ByteArray := prog_2_method_5_code
def yX0_tick : MethodName := ⟨RX0, "tick", "(LLogRollers$Person;LLogRollers$Person;)I"⟩
abbrev cX0_roll : ByteArray := prog_2_method_6_code
def yX0_roll : MethodName := ⟨RX0, "roll", "(LLogRollers$Person;LLogRollers$Person;)V"⟩
abbrev cX0_stepUnlessSlipping : ByteArray := prog_2_method_7_code
def yX0_stepUnlessSlipping : MethodName := ⟨RX0, "stepUnlessSlipping", "(LLogRollers$Person;LLogRollers$Stander;)V"⟩
abbrev cX0_seenBy : ByteArray := prog_2_method_8_code
def yX0_seenBy : MethodName := ⟨RX0, "seenBy", "(LLogRollers$Person;)I"⟩
abbrev cX0_nextShove : ByteArray := prog_2_method_9_code
def yX0_nextShove : MethodName := ⟨RX0, "nextShove", "(LLogRollers$Person;LLogRollers$Stander;)I"⟩
def RX1 : String := "LogRollers$Person"
def TX1 : u_T := fun k => match k with
  | 0 => ("LogRollers$Person", "kind", "I", false)
  | 1 => ("LogRollers$Person", "weight", "I", false)
  | 2 => ("LogRollers$Person", "lag", "I", false)
  | 3 => ("LogRollers$Person", "reach", "I", false)
  | 4 => ("LogRollers$Person", "strength", "I", false)
  | 5 => ("LogRollers$Person", "falls", "I", false)
  | _ => ("LogRollers$Person", "way", "I", false)
def tyX1 : Nat → FieldType := fun k => match k with
  | 0 => .int
  | 1 => .int
  | 2 => .int
  | 3 => .int
  | 4 => .int
  | 5 => .int
  | _ => .int
theorem nmX1 : ∀ a, a < 7 → ∀ b, b < 7 → a ≠ b → (TX1 a).2.1 ≠ (TX1 b).2.1 := by decide +kernel
theorem tyX1_ok : ∀ k, k < 7 → parseFieldDescriptor (TX1 k).2.2.1 = some (tyX1 k) := by decide +kernel
abbrev cX1_init : ByteArray := prog_3_method_1_code
def yX1_init : MethodName := ⟨RX1, "<init>", "()V"⟩
abbrev cX1_begin : ByteArray := prog_3_method_2_code
def yX1_begin : MethodName := ⟨RX1, "begin", "(II)V"⟩
abbrev cX1_takeFrom : ByteArray := prog_3_method_3_code
def yX1_takeFrom : MethodName := ⟨RX1, "takeFrom", "(LLogRollers$Person;)V"⟩
abbrev cX1_trait : ByteArray := prog_3_method_4_code
def yX1_trait : MethodName := ⟨RX1, "trait", "(I)I"⟩
abbrev cX1_change : ByteArray := prog_3_method_5_code
def yX1_change : MethodName := ⟨RX1, "change", "(II)V"⟩
abbrev cX1_shove : ByteArray := prog_3_method_6_code
def yX1_shove : MethodName := ⟨RX1, "shove", "(LLogRollers$Way;IIII)I"⟩
abbrev cX1_waiterShove : ByteArray := prog_3_method_7_code
def yX1_waiterShove : MethodName := ⟨RX1, "waiterShove", "(II)I"⟩
abbrev cX1_deedShove : ByteArray := prog_3_method_8_code
def yX1_deedShove : MethodName := ⟨RX1, "deedShove", "(III)I"⟩
def RX2 : String := "LogRollers$Sheet"
def TX2 : u_T := fun k => match k with
  | 0 => ("LogRollers$Sheet", "bits", "I", false)
  | 1 => ("LogRollers$Sheet", "size", "I", false)
  | _ => ("LogRollers$Sheet", "numbers", "[J", true)
def tyX2 : Nat → FieldType := fun k => match k with
  | 0 => .int
  | 1 => .int
  | _ => .array .long
theorem nmX2 : ∀ a, a < 3 → ∀ b, b < 3 → a ≠ b → (TX2 a).2.1 ≠ (TX2 b).2.1 := by decide +kernel
theorem tyX2_ok : ∀ k, k < 3 → parseFieldDescriptor (TX2 k).2.2.1 = some (tyX2 k) := by decide +kernel
abbrev cX2_init : ByteArray := prog_4_method_1_code
def yX2_init : MethodName := ⟨RX2, "<init>", "()V"⟩
abbrev cX2_begin : ByteArray := prog_4_method_2_code
def yX2_begin : MethodName := ⟨RX2, "begin", "(II)V"⟩
abbrev cX2_isMissing : ByteArray := prog_4_method_3_code
def yX2_isMissing : MethodName := ⟨RX2, "isMissing", "()Z"⟩
abbrev cX2_put : ByteArray := prog_4_method_4_code
def yX2_put : MethodName := ⟨RX2, "put", "(IJ)V"⟩
abbrev cX2_hasRow : ByteArray := prog_4_method_5_code
def yX2_hasRow : MethodName := ⟨RX2, "hasRow", "(II)Z"⟩
def RX3 : String := "LogRollers$Stander"
def TX3 : u_T := fun k => match k with
  | 0 => ("LogRollers$Stander", "feet", "I", false)
  | 1 => ("LogRollers$Stander", "lean", "I", false)
  | 2 => ("LogRollers$Stander", "left", "I", false)
  | 3 => ("LogRollers$Stander", "sight", "I", false)
  | _ => ("LogRollers$Stander", "shove", "I", false)
def tyX3 : Nat → FieldType := fun k => match k with
  | 0 => .int
  | 1 => .int
  | 2 => .int
  | 3 => .int
  | _ => .int
theorem nmX3 : ∀ a, a < 5 → ∀ b, b < 5 → a ≠ b → (TX3 a).2.1 ≠ (TX3 b).2.1 := by decide +kernel
theorem tyX3_ok : ∀ k, k < 5 → parseFieldDescriptor (TX3 k).2.2.1 = some (tyX3 k) := by decide +kernel
abbrev cX3_init : ByteArray := prog_5_method_1_code
def yX3_init : MethodName := ⟨RX3, "<init>", "()V"⟩
abbrev cX3_begin : ByteArray := prog_5_method_2_code
def yX3_begin : MethodName := ⟨RX3, "begin", "(I)V"⟩
abbrev cX3_takeFrom : ByteArray := prog_5_method_3_code
def yX3_takeFrom : MethodName := ⟨RX3, "takeFrom", "(LLogRollers$Stander;)V"⟩
abbrev cX3_cost : ByteArray := prog_5_method_4_code
def yX3_cost : MethodName := ⟨RX3, "cost", "(I)I"⟩
abbrev cX3_decide : ByteArray := prog_5_method_5_code
def yX3_decide : MethodName := ⟨RX3, "decide", "(II)V"⟩
abbrev cX3_step : ByteArray := prog_5_method_6_code
def yX3_step : MethodName := ⟨RX3, "step", "(I)V"⟩
abbrev cX3_sway : ByteArray := prog_5_method_7_code
def yX3_sway : MethodName := ⟨RX3, "sway", "(I)V"⟩
def RX4 : String := "LogRollers$Tape"
def TX4 : u_T := fun k => match k with
  | 0 => ("LogRollers$Tape", "bytes", "[I", true)
  | 1 => ("LogRollers$Tape", "size", "I", false)
  | 2 => ("LogRollers$Tape", "start", "I", false)
  | 3 => ("LogRollers$Tape", "end", "I", false)
  | 4 => ("LogRollers$Tape", "token", "I", false)
  | _ => ("LogRollers$Tape", "value", "I", false)
def tyX4 : Nat → FieldType := fun k => match k with
  | 0 => .array .int
  | 1 => .int
  | 2 => .int
  | 3 => .int
  | 4 => .int
  | _ => .int
theorem nmX4 : ∀ a, a < 6 → ∀ b, b < 6 → a ≠ b → (TX4 a).2.1 ≠ (TX4 b).2.1 := by decide +kernel
theorem tyX4_ok : ∀ k, k < 6 → parseFieldDescriptor (TX4 k).2.2.1 = some (tyX4 k) := by decide +kernel
abbrev cX4_init : ByteArray := prog_6_method_1_code
def yX4_init : MethodName := ⟨RX4, "<init>", "()V"⟩
abbrev cX4_addByte : ByteArray := prog_6_method_2_code
def yX4_addByte : MethodName := ⟨RX4, "addByte", "(I)V"⟩
abbrev cX4_toWay : ByteArray := prog_6_method_3_code
def yX4_toWay : MethodName := ⟨RX4, "toWay", "()LLogRollers$Way;"⟩
abbrev cX4_takeRule : ByteArray := prog_6_method_4_code
def yX4_takeRule : MethodName := ⟨RX4, "takeRule", "(LLogRollers$Way;)Z"⟩
abbrev cX4_takeComparison : ByteArray := prog_6_method_5_code
def yX4_takeComparison : MethodName := ⟨RX4, "takeComparison", "()Z"⟩
abbrev cX4_nextToken : ByteArray := prog_6_method_6_code
def yX4_nextToken : MethodName := ⟨RX4, "nextToken", "()V"⟩
abbrev cX4_takeWord : ByteArray := prog_6_method_7_code
def yX4_takeWord : MethodName := ⟨RX4, "takeWord", "()V"⟩
abbrev cX4_takeNumber : ByteArray := prog_6_method_8_code
def yX4_takeNumber : MethodName := ⟨RX4, "takeNumber", "()V"⟩
abbrev cX4_isLetter : ByteArray := prog_6_method_9_code
def yX4_isLetter : MethodName := ⟨RX4, "isLetter", "(I)Z"⟩
abbrev cX4_isDigit : ByteArray := prog_6_method_10_code
def yX4_isDigit : MethodName := ⟨RX4, "isDigit", "(I)Z"⟩
abbrev cX4_isSign : ByteArray := prog_6_method_11_code
def yX4_isSign : MethodName := ⟨RX4, "isSign", "(I)Z"⟩
abbrev cX4_nameHere : ByteArray := prog_6_method_12_code
def yX4_nameHere : MethodName := ⟨RX4, "nameHere", "()I"⟩
abbrev cX4_deedHere : ByteArray := prog_6_method_13_code
def yX4_deedHere : MethodName := ⟨RX4, "deedHere", "()I"⟩
abbrev cX4_isWord : ByteArray := prog_6_method_14_code
def yX4_isWord : MethodName := ⟨RX4, "isWord", "(Ljava/lang/String;)Z"⟩
def RX5 : String := "LogRollers$Way"
def TX5 : u_T := fun k => match k with
  | 0 => ("LogRollers$Way", "size", "I", false)
  | 1 => ("LogRollers$Way", "names", "[I", true)
  | 2 => ("LogRollers$Way", "signs", "[I", true)
  | 3 => ("LogRollers$Way", "bounds", "[I", true)
  | _ => ("LogRollers$Way", "deeds", "[I", true)
def tyX5 : Nat → FieldType := fun k => match k with
  | 0 => .int
  | 1 => .array .int
  | 2 => .array .int
  | 3 => .array .int
  | _ => .array .int
theorem nmX5 : ∀ a, a < 5 → ∀ b, b < 5 → a ≠ b → (TX5 a).2.1 ≠ (TX5 b).2.1 := by decide +kernel
theorem tyX5_ok : ∀ k, k < 5 → parseFieldDescriptor (TX5 k).2.2.1 = some (tyX5 k) := by decide +kernel
abbrev cX5_init : ByteArray := prog_7_method_1_code
def yX5_init : MethodName := ⟨RX5, "<init>", "()V"⟩
abbrev cX5_addRule : ByteArray := prog_7_method_2_code
def yX5_addRule : MethodName := ⟨RX5, "addRule", "(IIII)V"⟩
abbrev cX5_firstThat : ByteArray := prog_7_method_3_code
def yX5_firstThat : MethodName := ⟨RX5, "firstThat", "(IIII)I"⟩
abbrev cX5_deedOf : ByteArray := prog_7_method_4_code
def yX5_deedOf : MethodName := ⟨RX5, "deedOf", "(I)I"⟩
def RX6 : String := "LogRollers$World"
def TX6 : u_T := fun k => match k with
  | 0 => ("LogRollers$World", "people", "[LLogRollers$Person;", true)
  | 1 => ("LogRollers$World", "peopleCount", "I", false)
  | 2 => ("LogRollers$World", "ways", "[LLogRollers$Way;", true)
  | 3 => ("LogRollers$World", "wayCount", "I", false)
  | 4 => ("LogRollers$World", "parts", "[I", true)
  | 5 => ("LogRollers$World", "match", "LLogRollers$Match;", true)
  | 6 => ("LogRollers$World", "isOccupied", "Z", false)
  | 7 => ("LogRollers$World", "first", "I", false)
  | 8 => ("LogRollers$World", "second", "I", false)
  | _ => ("LogRollers$World", "latestOutcome", "I", false)
def tyX6 : Nat → FieldType := fun k => match k with
  | 0 => .array (.object "LogRollers$Person")
  | 1 => .int
  | 2 => .array (.object "LogRollers$Way")
  | 3 => .int
  | 4 => .array .int
  | 5 => .object "LogRollers$Match"
  | 6 => .boolean
  | 7 => .int
  | 8 => .int
  | _ => .int
theorem nmX6 : ∀ a, a < 10 → ∀ b, b < 10 → a ≠ b → (TX6 a).2.1 ≠ (TX6 b).2.1 := by decide +kernel
theorem tyX6_ok : ∀ k, k < 10 → parseFieldDescriptor (TX6 k).2.2.1 = some (tyX6 k) := by decide +kernel
abbrev cX6_init : ByteArray := prog_8_method_1_code
def yX6_init : MethodName := ⟨RX6, "<init>", "()V"⟩
abbrev cX6_takeFrom : ByteArray := prog_8_method_2_code
def yX6_takeFrom : MethodName := ⟨RX6, "takeFrom", "(LLogRollers$World;)V"⟩
abbrev cX6_isOnLog : ByteArray := prog_8_method_3_code
def yX6_isOnLog : MethodName := ⟨RX6, "isOnLog", "(I)Z"⟩
abbrev cX6_wayAt : ByteArray := prog_8_method_4_code
def yX6_wayAt : MethodName := ⟨RX6, "wayAt", "(I)LLogRollers$Way;"⟩
abbrev cX6_allFalls : ByteArray := prog_8_method_5_code
def yX6_allFalls : MethodName := ⟨RX6, "allFalls", "()I"⟩
def RX7 : String := "LogRollers"
def TX7 : u_T := fun k => match k with
  | 0 => ("LogRollers", "world", "LLogRollers$World;", true)
  | 1 => ("LogRollers", "kept", "LLogRollers$World;", true)
  | 2 => ("LogRollers", "isKept", "Z", false)
  | 3 => ("LogRollers", "other", "LLogRollers$Match;", true)
  | 4 => ("LogRollers", "trial", "LLogRollers$Person;", true)
  | 5 => ("LogRollers", "tape", "LLogRollers$Tape;", true)
  | 6 => ("LogRollers", "sheets", "[LLogRollers$Sheet;", true)
  | _ => ("LogRollers", "found", "[I", true)
def tyX7 : Nat → FieldType := fun k => match k with
  | 0 => .object "LogRollers$World"
  | 1 => .object "LogRollers$World"
  | 2 => .boolean
  | 3 => .object "LogRollers$Match"
  | 4 => .object "LogRollers$Person"
  | 5 => .object "LogRollers$Tape"
  | 6 => .array (.object "LogRollers$Sheet")
  | _ => .array .int
theorem nmX7 : ∀ a, a < 8 → ∀ b, b < 8 → a ≠ b → (TX7 a).2.1 ≠ (TX7 b).2.1 := by decide +kernel
theorem tyX7_ok : ∀ k, k < 8 → parseFieldDescriptor (TX7 k).2.2.1 = some (tyX7 k) := by decide +kernel
abbrev cX7_init : ByteArray := prog_1_method_1_code
def yX7_init : MethodName := ⟨RX7, "<init>", "()V"⟩
abbrev cX7_roller : ByteArray := prog_1_method_2_code
def yX7_roller : MethodName := ⟨RX7, "roller", "(II)I"⟩
abbrev cX7_of : ByteArray := prog_1_method_3_code
def yX7_of : MethodName := ⟨RX7, "of", "(II)I"⟩
abbrev cX7_set : ByteArray := prog_1_method_4_code
def yX7_set : MethodName := ⟨RX7, "set", "(III)I"⟩
abbrev cX7_as : ByteArray := prog_1_method_5_code
def yX7_as : MethodName := ⟨RX7, "as", "(II)I"⟩
abbrev cX7_log : ByteArray := prog_1_method_6_code
def yX7_log : MethodName := ⟨RX7, "log", "(II)I"⟩
abbrev cX7_push : ByteArray := prog_1_method_7_code
def yX7_push : MethodName := ⟨RX7, "push", "(IIIII)I"⟩
abbrev cX7_mount : ByteArray := prog_1_method_8_code
def yX7_mount : MethodName := ⟨RX7, "mount", "(II)I"⟩
abbrev cX7_off : ByteArray := prog_1_method_9_code
def yX7_off : MethodName := ⟨RX7, "off", "()I"⟩
abbrev cX7_bout : ByteArray := prog_1_method_10_code
def yX7_bout : MethodName := ⟨RX7, "bout", "(I)I"⟩
abbrev cX7_stands : ByteArray := prog_1_method_11_code
def yX7_stands : MethodName := ⟨RX7, "stands", "(II)I"⟩
abbrev cX7_now : ByteArray := prog_1_method_12_code
def yX7_now : MethodName := ⟨RX7, "now", "(I)I"⟩
abbrev cX7_seed : ByteArray := prog_1_method_13_code
def yX7_seed : MethodName := ⟨RX7, "seed", "(I)I"⟩
abbrev cX7_ahead : ByteArray := prog_1_method_14_code
def yX7_ahead : MethodName := ⟨RX7, "ahead", "(IIII)I"⟩
abbrev cX7_best : ByteArray := prog_1_method_15_code
def yX7_best : MethodName := ⟨RX7, "best", "(III)I"⟩
abbrev cX7_light : ByteArray := prog_1_method_16_code
def yX7_light : MethodName := ⟨RX7, "light", "(III)I"⟩
abbrev cX7_late : ByteArray := prog_1_method_17_code
def yX7_late : MethodName := ⟨RX7, "late", "(III)I"⟩
abbrev cX7_swing : ByteArray := prog_1_method_18_code
def yX7_swing : MethodName := ⟨RX7, "swing", "(IIII)I"⟩
abbrev cX7_beats : ByteArray := prog_1_method_19_code
def yX7_beats : MethodName := ⟨RX7, "beats", "(II)I"⟩
abbrev cX7_five : ByteArray := prog_1_method_20_code
def yX7_five : MethodName := ⟨RX7, "five", "(III)I"⟩
abbrev cX7_champion : ByteArray := prog_1_method_21_code
def yX7_champion : MethodName := ⟨RX7, "champion", "(I)I"⟩
abbrev cX7_feed : ByteArray := prog_1_method_22_code
def yX7_feed : MethodName := ⟨RX7, "feed", "(II)I"⟩
abbrev cX7_wipe : ByteArray := prog_1_method_23_code
def yX7_wipe : MethodName := ⟨RX7, "wipe", "()I"⟩
abbrev cX7_way : ByteArray := prog_1_method_24_code
def yX7_way : MethodName := ⟨RX7, "way", "()I"⟩
abbrev cX7_rules : ByteArray := prog_1_method_25_code
def yX7_rules : MethodName := ⟨RX7, "rules", "(I)I"⟩
abbrev cX7_holds : ByteArray := prog_1_method_26_code
def yX7_holds : MethodName := ⟨RX7, "holds", "(IIIII)I"⟩
abbrev cX7_sheet : ByteArray := prog_1_method_27_code
def yX7_sheet : MethodName := ⟨RX7, "sheet", "(III)I"⟩
abbrev cX7_write : ByteArray := prog_1_method_28_code
def yX7_write : MethodName := ⟨RX7, "write", "(IIJ)J"⟩
abbrev cX7_copy : ByteArray := prog_1_method_29_code
def yX7_copy : MethodName := ⟨RX7, "copy", "(IIIII)I"⟩
abbrev cX7_film : ByteArray := prog_1_method_30_code
def yX7_film : MethodName := ⟨RX7, "film", "(III)I"⟩
abbrev cX7_read : ByteArray := prog_1_method_31_code
def yX7_read : MethodName := ⟨RX7, "read", "(III)I"⟩
abbrev cX7_image : ByteArray := prog_1_method_32_code
def yX7_image : MethodName := ⟨RX7, "image", "()I"⟩
abbrev cX7_undo : ByteArray := prog_1_method_33_code
def yX7_undo : MethodName := ⟨RX7, "undo", "()I"⟩
abbrev cX7_tear : ByteArray := prog_1_method_34_code
def yX7_tear : MethodName := ⟨RX7, "tear", "()I"⟩
abbrev cX7_count : ByteArray := prog_1_method_35_code
def yX7_count : MethodName := ⟨RX7, "count", "(I)I"⟩
abbrev cX7_status : ByteArray := prog_1_method_36_code
def yX7_status : MethodName := ⟨RX7, "status", "(I)I"⟩
abbrev cX7_finding : ByteArray := prog_1_method_37_code
def yX7_finding : MethodName := ⟨RX7, "finding", "(I)I"⟩
abbrev cX7_within : ByteArray := prog_1_method_38_code
def yX7_within : MethodName := ⟨RX7, "within", "(III)Z"⟩
abbrev cX7_isKind : ByteArray := prog_1_method_39_code
def yX7_isKind : MethodName := ⟨RX7, "isKind", "(I)Z"⟩
abbrev cX7_isSheet : ByteArray := prog_1_method_40_code
def yX7_isSheet : MethodName := ⟨RX7, "isSheet", "(I)Z"⟩
abbrev cX7_isPerson : ByteArray := prog_1_method_41_code
def yX7_isPerson : MethodName := ⟨RX7, "isPerson", "(I)Z"⟩
abbrev cX7_isPair : ByteArray := prog_1_method_42_code
def yX7_isPair : MethodName := ⟨RX7, "isPair", "(II)Z"⟩
abbrev cX7_isSituation : ByteArray := prog_1_method_43_code
def yX7_isSituation : MethodName := ⟨RX7, "isSituation", "(IIII)Z"⟩
abbrev cX7_maySet : ByteArray := prog_1_method_44_code
def yX7_maySet : MethodName := ⟨RX7, "maySet", "(II)Z"⟩
abbrev cX7_isUnder : ByteArray := prog_1_method_45_code
def yX7_isUnder : MethodName := ⟨RX7, "isUnder", "(II)Z"⟩
abbrev cX7_endBout : ByteArray := prog_1_method_46_code
def yX7_endBout : MethodName := ⟨RX7, "endBout", "(LLogRollers$Person;LLogRollers$Person;I)V"⟩
abbrev cX7_startAhead : ByteArray := prog_1_method_47_code
def yX7_startAhead : MethodName := ⟨RX7, "startAhead", "(LLogRollers$Person;LLogRollers$Person;)V"⟩
abbrev cX7_beatenBy : ByteArray := prog_1_method_48_code
def yX7_beatenBy : MethodName := ⟨RX7, "beatenBy", "(II)I"⟩
abbrev cX7_sheetFinding : ByteArray := prog_1_method_49_code
def yX7_sheetFinding : MethodName := ⟨RX7, "sheetFinding", "(III)I"⟩
abbrev cX7_atMost : ByteArray := prog_1_method_50_code
def yX7_atMost : MethodName := ⟨RX7, "atMost", "(II)I"⟩
def RX8 : String := "LogRollersModel"
def TX8 : u_T := fun k => match k with
  | 0 => ("LogRollersModel", "d", "[I", true)
  | 1 => ("LogRollersModel", "e", "[I", true)
  | 2 => ("LogRollersModel", "kept", "[I", true)
  | 3 => ("LogRollersModel", "hasKept", "Z", false)
  | 4 => ("LogRollersModel", "found", "[I", true)
  | 5 => ("LogRollersModel", "swing0", "I", false)
  | 6 => ("LogRollersModel", "swing1", "I", false)
  | 7 => ("LogRollersModel", "tape", "[I", true)
  | 8 => ("LogRollersModel", "taped", "I", false)
  | 9 => ("LogRollersModel", "at", "I", false)
  | 10 => ("LogRollersModel", "from", "I", false)
  | 11 => ("LogRollersModel", "token", "I", false)
  | 12 => ("LogRollersModel", "word", "I", false)
  | 13 => ("LogRollersModel", "value", "I", false)
  | 14 => ("LogRollersModel", "isWrong", "Z", false)
  | 15 => ("LogRollersModel", "bitsOf", "[I", true)
  | 16 => ("LogRollersModel", "sizeOf", "[I", true)
  | 17 => ("LogRollersModel", "number", "[J", true)
  | _ => ("LogRollersModel", "lifted", "[J", true)
def tyX8 : Nat → FieldType := fun k => match k with
  | 0 => .array .int
  | 1 => .array .int
  | 2 => .array .int
  | 3 => .boolean
  | 4 => .array .int
  | 5 => .int
  | 6 => .int
  | 7 => .array .int
  | 8 => .int
  | 9 => .int
  | 10 => .int
  | 11 => .int
  | 12 => .int
  | 13 => .int
  | 14 => .boolean
  | 15 => .array .int
  | 16 => .array .int
  | 17 => .array .long
  | _ => .array .long
theorem nmX8 : ∀ a, a < 19 → ∀ b, b < 19 → a ≠ b → (TX8 a).2.1 ≠ (TX8 b).2.1 := by decide +kernel
theorem tyX8_ok : ∀ k, k < 19 → parseFieldDescriptor (TX8 k).2.2.1 = some (tyX8 k) := by decide +kernel
abbrev cX8_init : ByteArray := prog_10_method_1_code
def yX8_init : MethodName := ⟨RX8, "<init>", "()V"⟩
abbrev cX8_finds : ByteArray := prog_10_method_3_code
def yX8_finds : MethodName := ⟨RX8, "finds", "(I)I"⟩
abbrev cX8_in : ByteArray := prog_10_method_4_code
def yX8_in : MethodName := ⟨RX8, "in", "(JJJ)Z"⟩
abbrev cX8_held : ByteArray := prog_10_method_5_code
def yX8_held : MethodName := ⟨RX8, "held", "(II)I"⟩
abbrev cX8_size : ByteArray := prog_10_method_6_code
def yX8_size : MethodName := ⟨RX8, "size", "(I)I"⟩
abbrev cX8_copies : ByteArray := prog_10_method_7_code
def yX8_copies : MethodName := ⟨RX8, "copies", "([I[I)V"⟩
abbrev cX8_isPerson : ByteArray := prog_10_method_8_code
def yX8_isPerson : MethodName := ⟨RX8, "isPerson", "(I)Z"⟩
abbrev cX8_areTwo : ByteArray := prog_10_method_9_code
def yX8_areTwo : MethodName := ⟨RX8, "areTwo", "(II)Z"⟩
abbrev cX8_isOnLog : ByteArray := prog_10_method_10_code
def yX8_isOnLog : MethodName := ⟨RX8, "isOnLog", "(I)Z"⟩
abbrev cX8_told : ByteArray := prog_10_method_11_code
def yX8_told : MethodName := ⟨RX8, "told", "([III)I"⟩
abbrev cX8_roller : ByteArray := prog_10_method_12_code
def yX8_roller : MethodName := ⟨RX8, "roller", "(II)I"⟩
abbrev cX8_of : ByteArray := prog_10_method_13_code
def yX8_of : MethodName := ⟨RX8, "of", "(II)I"⟩
abbrev cX8_mayBe : ByteArray := prog_10_method_14_code
def yX8_mayBe : MethodName := ⟨RX8, "mayBe", "(II)Z"⟩
abbrev cX8_set : ByteArray := prog_10_method_15_code
def yX8_set : MethodName := ⟨RX8, "set", "(III)I"⟩
abbrev cX8_isOf : ByteArray := prog_10_method_16_code
def yX8_isOf : MethodName := ⟨RX8, "isOf", "(II)Z"⟩
abbrev cX8_as : ByteArray := prog_10_method_17_code
def yX8_as : MethodName := ⟨RX8, "as", "(II)I"⟩
abbrev cX8_log : ByteArray := prog_10_method_18_code
def yX8_log : MethodName := ⟨RX8, "log", "(II)I"⟩
abbrev cX8_ruleOf : ByteArray := prog_10_method_19_code
def yX8_ruleOf : MethodName := ⟨RX8, "ruleOf", "([IIIIII)I"⟩
abbrev cX8_pushOf : ByteArray := prog_10_method_20_code
def yX8_pushOf : MethodName := ⟨RX8, "pushOf", "([IIIIII)I"⟩
abbrev cX8_push : ByteArray := prog_10_method_21_code
def yX8_push : MethodName := ⟨RX8, "push", "(IIIII)I"⟩
abbrev cX8_sees : ByteArray := prog_10_method_22_code
def yX8_sees : MethodName := ⟨RX8, "sees", "([II)I"⟩
abbrev cX8_costOf : ByteArray := prog_10_method_23_code
def yX8_costOf : MethodName := ⟨RX8, "costOf", "(I)I"⟩
abbrev cX8_pushes : ByteArray := prog_10_method_24_code
def yX8_pushes : MethodName := ⟨RX8, "pushes", "([II)I"⟩
abbrev cX8_slips : ByteArray := prog_10_method_25_code
def yX8_slips : MethodName := ⟨RX8, "slips", "([I)Z"⟩
abbrev cX8_steps : ByteArray := prog_10_method_26_code
def yX8_steps : MethodName := ⟨RX8, "steps", "([III)V"⟩
abbrev cX8_falls : ByteArray := prog_10_method_27_code
def yX8_falls : MethodName := ⟨RX8, "falls", "([II)Z"⟩
abbrev cX8_goesBy : ByteArray := prog_10_method_28_code
def yX8_goesBy : MethodName := ⟨RX8, "goesBy", "([I)I"⟩
abbrev cX8_getsOn : ByteArray := prog_10_method_29_code
def yX8_getsOn : MethodName := ⟨RX8, "getsOn", "([III)V"⟩
abbrev cX8_mount : ByteArray := prog_10_method_30_code
def yX8_mount : MethodName := ⟨RX8, "mount", "(II)I"⟩
abbrev cX8_off : ByteArray := prog_10_method_31_code
def yX8_off : MethodName := ⟨RX8, "off", "()I"⟩
abbrev cX8_bout : ByteArray := prog_10_method_32_code
def yX8_bout : MethodName := ⟨RX8, "bout", "(I)I"⟩
abbrev cX8_stands : ByteArray := prog_10_method_33_code
def yX8_stands : MethodName := ⟨RX8, "stands", "(II)I"⟩
abbrev cX8_now : ByteArray := prog_10_method_34_code
def yX8_now : MethodName := ⟨RX8, "now", "(I)I"⟩
abbrev cX8_seed : ByteArray := prog_10_method_35_code
def yX8_seed : MethodName := ⟨RX8, "seed", "(I)I"⟩
abbrev cX8_boutAhead : ByteArray := prog_10_method_36_code
def yX8_boutAhead : MethodName := ⟨RX8, "boutAhead", "(III)I"⟩
abbrev cX8_ahead : ByteArray := prog_10_method_37_code
def yX8_ahead : MethodName := ⟨RX8, "ahead", "(IIII)I"⟩
abbrev cX8_best : ByteArray := prog_10_method_38_code
def yX8_best : MethodName := ⟨RX8, "best", "(III)I"⟩
abbrev cX8_light : ByteArray := prog_10_method_39_code
def yX8_light : MethodName := ⟨RX8, "light", "(III)I"⟩
abbrev cX8_late : ByteArray := prog_10_method_40_code
def yX8_late : MethodName := ⟨RX8, "late", "(III)I"⟩
abbrev cX8_swing : ByteArray := prog_10_method_41_code
def yX8_swing : MethodName := ⟨RX8, "swing", "(IIII)I"⟩
abbrev cX8_beatenBy : ByteArray := prog_10_method_42_code
def yX8_beatenBy : MethodName := ⟨RX8, "beatenBy", "(II)I"⟩
abbrev cX8_beats : ByteArray := prog_10_method_43_code
def yX8_beats : MethodName := ⟨RX8, "beats", "(II)I"⟩
abbrev cX8_five : ByteArray := prog_10_method_44_code
def yX8_five : MethodName := ⟨RX8, "five", "(III)I"⟩
abbrev cX8_champion : ByteArray := prog_10_method_45_code
def yX8_champion : MethodName := ⟨RX8, "champion", "(I)I"⟩
abbrev cX8_feed : ByteArray := prog_10_method_46_code
def yX8_feed : MethodName := ⟨RX8, "feed", "(II)I"⟩
abbrev cX8_wipe : ByteArray := prog_10_method_47_code
def yX8_wipe : MethodName := ⟨RX8, "wipe", "()I"⟩
abbrev cX8_isLetter : ByteArray := prog_10_method_48_code
def yX8_isLetter : MethodName := ⟨RX8, "isLetter", "(I)Z"⟩
abbrev cX8_isDigit : ByteArray := prog_10_method_49_code
def yX8_isDigit : MethodName := ⟨RX8, "isDigit", "(I)Z"⟩
abbrev cX8_look : ByteArray := prog_10_method_50_code
def yX8_look : MethodName := ⟨RX8, "look", "()V"⟩
abbrev cX8_isWord : ByteArray := prog_10_method_51_code
def yX8_isWord : MethodName := ⟨RX8, "isWord", "(Ljava/lang/String;)Z"⟩
abbrev cX8_isSign : ByteArray := prog_10_method_52_code
def yX8_isSign : MethodName := ⟨RX8, "isSign", "(I)Z"⟩
abbrev cX8_must : ByteArray := prog_10_method_53_code
def yX8_must : MethodName := ⟨RX8, "must", "(Z)V"⟩
abbrev cX8_name : ByteArray := prog_10_method_54_code
def yX8_name : MethodName := ⟨RX8, "name", "()I"⟩
abbrev cX8_deed : ByteArray := prog_10_method_55_code
def yX8_deed : MethodName := ⟨RX8, "deed", "()I"⟩
abbrev cX8_compares : ByteArray := prog_10_method_56_code
def yX8_compares : MethodName := ⟨RX8, "compares", "(I)V"⟩
abbrev cX8_reads : ByteArray := prog_10_method_57_code
def yX8_reads : MethodName := ⟨RX8, "reads", "(I)V"⟩
abbrev cX8_way : ByteArray := prog_10_method_58_code
def yX8_way : MethodName := ⟨RX8, "way", "()I"⟩
abbrev cX8_isWay : ByteArray := prog_10_method_59_code
def yX8_isWay : MethodName := ⟨RX8, "isWay", "(I)Z"⟩
abbrev cX8_rules : ByteArray := prog_10_method_60_code
def yX8_rules : MethodName := ⟨RX8, "rules", "(I)I"⟩
abbrev cX8_holds : ByteArray := prog_10_method_61_code
def yX8_holds : MethodName := ⟨RX8, "holds", "(IIIII)I"⟩
abbrev cX8_isSheet : ByteArray := prog_10_method_62_code
def yX8_isSheet : MethodName := ⟨RX8, "isSheet", "(I)Z"⟩
abbrev cX8_lowest : ByteArray := prog_10_method_63_code
def yX8_lowest : MethodName := ⟨RX8, "lowest", "(IJ)J"⟩
abbrev cX8_sheet : ByteArray := prog_10_method_64_code
def yX8_sheet : MethodName := ⟨RX8, "sheet", "(III)I"⟩
abbrev cX8_write : ByteArray := prog_10_method_65_code
def yX8_write : MethodName := ⟨RX8, "write", "(IIJ)J"⟩
abbrev cX8_copy : ByteArray := prog_10_method_66_code
def yX8_copy : MethodName := ⟨RX8, "copy", "(IIIII)I"⟩
abbrev cX8_whyNot : ByteArray := prog_10_method_67_code
def yX8_whyNot : MethodName := ⟨RX8, "whyNot", "(III)I"⟩
abbrev cX8_film : ByteArray := prog_10_method_68_code
def yX8_film : MethodName := ⟨RX8, "film", "(III)I"⟩
abbrev cX8_read : ByteArray := prog_10_method_69_code
def yX8_read : MethodName := ⟨RX8, "read", "(III)I"⟩
abbrev cX8_image : ByteArray := prog_10_method_70_code
def yX8_image : MethodName := ⟨RX8, "image", "()I"⟩
abbrev cX8_undo : ByteArray := prog_10_method_71_code
def yX8_undo : MethodName := ⟨RX8, "undo", "()I"⟩
abbrev cX8_tear : ByteArray := prog_10_method_72_code
def yX8_tear : MethodName := ⟨RX8, "tear", "()I"⟩
abbrev cX8_allFalls : ByteArray := prog_10_method_73_code
def yX8_allFalls : MethodName := ⟨RX8, "allFalls", "()I"⟩
abbrev cX8_count : ByteArray := prog_10_method_74_code
def yX8_count : MethodName := ⟨RX8, "count", "(I)I"⟩
abbrev cX8_status : ByteArray := prog_10_method_75_code
def yX8_status : MethodName := ⟨RX8, "status", "(I)I"⟩
def RJ6 : String := "java/lang/Integer"
abbrev cJ6_bitCount_0f7a4 : ByteArray := prog_12_method_49_code
def yJ6_bitCount_0f7a4 : MethodName := ⟨RJ6, "bitCount", "(I)I"⟩
def RJ9 : String := "java/lang/Math"
abbrev cJ9_abs_0f7a4 : ByteArray := prog_13_method_59_code
def yJ9_abs_0f7a4 : MethodName := ⟨RJ9, "abs", "(I)I"⟩
abbrev cJ9_max_7cf53 : ByteArray := prog_13_method_65_code
def yJ9_max_7cf53 : MethodName := ⟨RJ9, "max", "(II)I"⟩
abbrev cJ9_min_7cf53 : ByteArray := prog_13_method_69_code
def yJ9_min_7cf53 : MethodName := ⟨RJ9, "min", "(II)I"⟩
def RJ0 : String := "java/lang/String"
abbrev cJ0_length_8abf5 : ByteArray := prog_14_method_54_code
def yJ0_length_8abf5 : MethodName := ⟨RJ0, "length", "()I"⟩
abbrev cJ0_charAt_5068e : ByteArray := prog_14_method_56_code
def yJ0_charAt_5068e : MethodName := ⟨RJ0, "charAt", "(I)C"⟩
abbrev cJ0_coder_7d493 : ByteArray := prog_14_method_152_code
def yJ0_coder_7d493 : MethodName := ⟨RJ0, "coder", "()B"⟩
abbrev cJ0_isLatin1_aae02 : ByteArray := prog_14_method_154_code
def yJ0_isLatin1_aae02 : MethodName := ⟨RJ0, "isLatin1", "()Z"⟩
abbrev cJ0_checkIndex_df160 : ByteArray := prog_14_method_155_code
def yJ0_checkIndex_df160 : MethodName := ⟨RJ0, "checkIndex", "(II)V"⟩
def RJ1 : String := "java/lang/StringLatin1"
abbrev cJ1_charAt_3b067 : ByteArray := prog_15_method_2_code
def yJ1_charAt_3b067 : MethodName := ⟨RJ1, "charAt", "([BI)C"⟩
def RJ2 : String := "java/lang/StringUTF16"
abbrev cJ2_getChar_3b067 : ByteArray := prog_16_method_5_code
def yJ2_getChar_3b067 : MethodName := ⟨RJ2, "getChar", "([BI)C"⟩
abbrev cJ2_length_9d52b : ByteArray := prog_16_method_6_code
def yJ2_length_9d52b : MethodName := ⟨RJ2, "length", "([B)I"⟩
abbrev cJ2_charAt_3b067 : ByteArray := prog_16_method_83_code
def yJ2_charAt_3b067 : MethodName := ⟨RJ2, "charAt", "([BI)C"⟩
abbrev cJ2_checkIndex_2214a : ByteArray := prog_16_method_91_code
def yJ2_checkIndex_2214a : MethodName := ⟨RJ2, "checkIndex", "(I[B)V"⟩
def RJ10 : String := "java/lang/System"
def RJ3 : String := "jdk/internal/util/Preconditions"
abbrev cJ3_checkIndex_8e157 : ByteArray := prog_18_method_11_code
def yJ3_checkIndex_8e157 : MethodName := ⟨RJ3, "checkIndex", "(IILjava/util/function/BiFunction;)I"⟩
def RL : String := "LogRollersLaw"
abbrev cL_law : ByteArray := code
def yL_law : MethodName := ⟨RL, "law", "([I)Z"⟩
abbrev vwCl : List vw_C := [(RX0, TX0, 8), (RX1, TX1, 7), (RX2, TX2, 3), (RX3, TX3, 5), (RX4, TX4, 6), (RX5, TX5, 5), (RX6, TX6, 10), (RX7, TX7, 8), (RX8, TX8, 19)]
end
section
/-- an instruction at a place, and the next place -/
def DD (cc : ByteArray) (pc : Nat) (i : Instr) (len q : Nat) : Prop := decode cc pc = .ok (i, len) ∧ pc + len = q
theorem dX0_init_0 : DD cX0_init 0 (.aload_n 0) 1 1 := ⟨by decide +kernel, rfl⟩
theorem dX0_init_1 : DD cX0_init 1 (.invokespecial 3) 3 4 := ⟨by decide +kernel, rfl⟩
theorem dX0_init_4 : DD cX0_init 4 (.aload_n 0) 1 5 := ⟨by decide +kernel, rfl⟩
theorem dX0_init_5 : DD cX0_init 5 (.bipush 10) 2 7 := ⟨by decide +kernel, rfl⟩
theorem dX0_init_7 : DD cX0_init 7 (.newarray .int) 2 9 := ⟨by decide +kernel, rfl⟩
theorem dX0_init_9 : DD cX0_init 9 (.putfield 11) 3 12 := ⟨by decide +kernel, rfl⟩
theorem dX0_init_12 : DD cX0_init 12 (.aload_n 0) 1 13 := ⟨by decide +kernel, rfl⟩
theorem dX0_init_13 : DD cX0_init 13 (.new 15) 3 16 := ⟨by decide +kernel, rfl⟩
theorem dX0_init_16 : DD cX0_init 16 (.dup) 1 17 := ⟨by decide +kernel, rfl⟩
theorem dX0_init_17 : DD cX0_init 17 (.invokespecial 17) 3 20 := ⟨by decide +kernel, rfl⟩
theorem dX0_init_20 : DD cX0_init 20 (.putfield 18) 3 23 := ⟨by decide +kernel, rfl⟩
theorem dX0_init_23 : DD cX0_init 23 (.aload_n 0) 1 24 := ⟨by decide +kernel, rfl⟩
theorem dX0_init_24 : DD cX0_init 24 (.new 15) 3 27 := ⟨by decide +kernel, rfl⟩
theorem dX0_init_27 : DD cX0_init 27 (.dup) 1 28 := ⟨by decide +kernel, rfl⟩
theorem dX0_init_28 : DD cX0_init 28 (.invokespecial 17) 3 31 := ⟨by decide +kernel, rfl⟩
theorem dX0_init_31 : DD cX0_init 31 (.putfield 22) 3 34 := ⟨by decide +kernel, rfl⟩
theorem dX0_init_34 : DD cX0_init 34 (.aload_n 0) 1 35 := ⟨by decide +kernel, rfl⟩
theorem dX0_init_35 : DD cX0_init 35 (.iconst 0) 1 36 := ⟨by decide +kernel, rfl⟩
theorem dX0_init_36 : DD cX0_init 36 (.putfield 25) 3 39 := ⟨by decide +kernel, rfl⟩
theorem dX0_init_39 : DD cX0_init 39 (.aload_n 0) 1 40 := ⟨by decide +kernel, rfl⟩
theorem dX0_init_40 : DD cX0_init 40 (.iconst 0) 1 41 := ⟨by decide +kernel, rfl⟩
theorem dX0_init_41 : DD cX0_init 41 (.putfield 29) 3 44 := ⟨by decide +kernel, rfl⟩
theorem dX0_init_44 : DD cX0_init 44 (.aload_n 0) 1 45 := ⟨by decide +kernel, rfl⟩
theorem dX0_init_45 : DD cX0_init 45 (.iconst 1) 1 46 := ⟨by decide +kernel, rfl⟩
theorem dX0_init_46 : DD cX0_init 46 (.putfield 32) 3 49 := ⟨by decide +kernel, rfl⟩
theorem dX0_init_49 : DD cX0_init 49 (.aload_n 0) 1 50 := ⟨by decide +kernel, rfl⟩
theorem dX0_init_50 : DD cX0_init 50 (.aload_n 1) 1 51 := ⟨by decide +kernel, rfl⟩
theorem dX0_init_51 : DD cX0_init 51 (.putfield 35) 3 54 := ⟨by decide +kernel, rfl⟩
theorem dX0_init_54 : DD cX0_init 54 (.aload_n 0) 1 55 := ⟨by decide +kernel, rfl⟩
theorem dX0_init_55 : DD cX0_init 55 (.aload_n 2) 1 56 := ⟨by decide +kernel, rfl⟩
theorem dX0_init_56 : DD cX0_init 56 (.putfield 38) 3 59 := ⟨by decide +kernel, rfl⟩
theorem dX0_init_59 : DD cX0_init 59 (.return_) 1 60 := ⟨by decide +kernel, rfl⟩
theorem dX0_takeFrom_0 : DD cX0_takeFrom 0 (.iconst 0) 1 1 := ⟨by decide +kernel, rfl⟩
theorem dX0_takeFrom_1 : DD cX0_takeFrom 1 (.istore_n 2) 1 2 := ⟨by decide +kernel, rfl⟩
theorem dX0_takeFrom_2 : DD cX0_takeFrom 2 (.iload_n 2) 1 3 := ⟨by decide +kernel, rfl⟩
theorem dX0_takeFrom_3 : DD cX0_takeFrom 3 (.bipush 10) 2 5 := ⟨by decide +kernel, rfl⟩
theorem dX0_takeFrom_5 : DD cX0_takeFrom 5 (.if_icmp .ge 21) 3 8 := ⟨by decide +kernel, rfl⟩
theorem dX0_takeFrom_8 : DD cX0_takeFrom 8 (.aload_n 0) 1 9 := ⟨by decide +kernel, rfl⟩
theorem dX0_takeFrom_9 : DD cX0_takeFrom 9 (.getfield 11) 3 12 := ⟨by decide +kernel, rfl⟩
theorem dX0_takeFrom_12 : DD cX0_takeFrom 12 (.iload_n 2) 1 13 := ⟨by decide +kernel, rfl⟩
theorem dX0_takeFrom_13 : DD cX0_takeFrom 13 (.aload_n 1) 1 14 := ⟨by decide +kernel, rfl⟩
theorem dX0_takeFrom_14 : DD cX0_takeFrom 14 (.getfield 11) 3 17 := ⟨by decide +kernel, rfl⟩
theorem dX0_takeFrom_17 : DD cX0_takeFrom 17 (.iload_n 2) 1 18 := ⟨by decide +kernel, rfl⟩
theorem dX0_takeFrom_18 : DD cX0_takeFrom 18 (.iaload) 1 19 := ⟨by decide +kernel, rfl⟩
theorem dX0_takeFrom_19 : DD cX0_takeFrom 19 (.iastore) 1 20 := ⟨by decide +kernel, rfl⟩
theorem dX0_takeFrom_20 : DD cX0_takeFrom 20 (.iinc 2 1) 3 23 := ⟨by decide +kernel, rfl⟩
theorem dX0_takeFrom_23 : DD cX0_takeFrom 23 (.goto (-21)) 3 26 := ⟨by decide +kernel, rfl⟩
theorem dX0_takeFrom_26 : DD cX0_takeFrom 26 (.aload_n 0) 1 27 := ⟨by decide +kernel, rfl⟩
theorem dX0_takeFrom_27 : DD cX0_takeFrom 27 (.getfield 18) 3 30 := ⟨by decide +kernel, rfl⟩
theorem dX0_takeFrom_30 : DD cX0_takeFrom 30 (.aload_n 1) 1 31 := ⟨by decide +kernel, rfl⟩
theorem dX0_takeFrom_31 : DD cX0_takeFrom 31 (.getfield 18) 3 34 := ⟨by decide +kernel, rfl⟩
theorem dX0_takeFrom_34 : DD cX0_takeFrom 34 (.invokevirtual 42) 3 37 := ⟨by decide +kernel, rfl⟩
theorem dX0_takeFrom_37 : DD cX0_takeFrom 37 (.aload_n 0) 1 38 := ⟨by decide +kernel, rfl⟩
theorem dX0_takeFrom_38 : DD cX0_takeFrom 38 (.getfield 22) 3 41 := ⟨by decide +kernel, rfl⟩
theorem dX0_takeFrom_41 : DD cX0_takeFrom 41 (.aload_n 1) 1 42 := ⟨by decide +kernel, rfl⟩
theorem dX0_takeFrom_42 : DD cX0_takeFrom 42 (.getfield 22) 3 45 := ⟨by decide +kernel, rfl⟩
theorem dX0_takeFrom_45 : DD cX0_takeFrom 45 (.invokevirtual 42) 3 48 := ⟨by decide +kernel, rfl⟩
theorem dX0_takeFrom_48 : DD cX0_takeFrom 48 (.aload_n 0) 1 49 := ⟨by decide +kernel, rfl⟩
theorem dX0_takeFrom_49 : DD cX0_takeFrom 49 (.aload_n 1) 1 50 := ⟨by decide +kernel, rfl⟩
theorem dX0_takeFrom_50 : DD cX0_takeFrom 50 (.getfield 25) 3 53 := ⟨by decide +kernel, rfl⟩
theorem dX0_takeFrom_53 : DD cX0_takeFrom 53 (.putfield 25) 3 56 := ⟨by decide +kernel, rfl⟩
theorem dX0_takeFrom_56 : DD cX0_takeFrom 56 (.aload_n 0) 1 57 := ⟨by decide +kernel, rfl⟩
theorem dX0_takeFrom_57 : DD cX0_takeFrom 57 (.aload_n 1) 1 58 := ⟨by decide +kernel, rfl⟩
theorem dX0_takeFrom_58 : DD cX0_takeFrom 58 (.getfield 29) 3 61 := ⟨by decide +kernel, rfl⟩
theorem dX0_takeFrom_61 : DD cX0_takeFrom 61 (.putfield 29) 3 64 := ⟨by decide +kernel, rfl⟩
theorem dX0_takeFrom_64 : DD cX0_takeFrom 64 (.aload_n 0) 1 65 := ⟨by decide +kernel, rfl⟩
theorem dX0_takeFrom_65 : DD cX0_takeFrom 65 (.aload_n 1) 1 66 := ⟨by decide +kernel, rfl⟩
theorem dX0_takeFrom_66 : DD cX0_takeFrom 66 (.getfield 32) 3 69 := ⟨by decide +kernel, rfl⟩
theorem dX0_takeFrom_69 : DD cX0_takeFrom 69 (.putfield 32) 3 72 := ⟨by decide +kernel, rfl⟩
theorem dX0_takeFrom_72 : DD cX0_takeFrom 72 (.return_) 1 73 := ⟨by decide +kernel, rfl⟩
theorem dX0_begin_0 : DD cX0_begin 0 (.aload_n 0) 1 1 := ⟨by decide +kernel, rfl⟩
theorem dX0_begin_1 : DD cX0_begin 1 (.getfield 18) 3 4 := ⟨by decide +kernel, rfl⟩
theorem dX0_begin_4 : DD cX0_begin 4 (.aload_n 1) 1 5 := ⟨by decide +kernel, rfl⟩
theorem dX0_begin_5 : DD cX0_begin 5 (.getfield 46) 3 8 := ⟨by decide +kernel, rfl⟩
theorem dX0_begin_8 : DD cX0_begin 8 (.invokevirtual 51) 3 11 := ⟨by decide +kernel, rfl⟩
theorem dX0_begin_11 : DD cX0_begin 11 (.aload_n 0) 1 12 := ⟨by decide +kernel, rfl⟩
theorem dX0_begin_12 : DD cX0_begin 12 (.getfield 22) 3 15 := ⟨by decide +kernel, rfl⟩
theorem dX0_begin_15 : DD cX0_begin 15 (.aload_n 2) 1 16 := ⟨by decide +kernel, rfl⟩
theorem dX0_begin_16 : DD cX0_begin 16 (.getfield 46) 3 19 := ⟨by decide +kernel, rfl⟩
theorem dX0_begin_19 : DD cX0_begin 19 (.invokevirtual 51) 3 22 := ⟨by decide +kernel, rfl⟩
theorem dX0_begin_22 : DD cX0_begin 22 (.aload_n 0) 1 23 := ⟨by decide +kernel, rfl⟩
theorem dX0_begin_23 : DD cX0_begin 23 (.iconst 0) 1 24 := ⟨by decide +kernel, rfl⟩
theorem dX0_begin_24 : DD cX0_begin 24 (.putfield 25) 3 27 := ⟨by decide +kernel, rfl⟩
theorem dX0_begin_27 : DD cX0_begin 27 (.aload_n 0) 1 28 := ⟨by decide +kernel, rfl⟩
theorem dX0_begin_28 : DD cX0_begin 28 (.iconst 0) 1 29 := ⟨by decide +kernel, rfl⟩
theorem dX0_begin_29 : DD cX0_begin 29 (.putfield 29) 3 32 := ⟨by decide +kernel, rfl⟩
theorem dX0_begin_32 : DD cX0_begin 32 (.aload_n 0) 1 33 := ⟨by decide +kernel, rfl⟩
theorem dX0_begin_33 : DD cX0_begin 33 (.getfield 11) 3 36 := ⟨by decide +kernel, rfl⟩
theorem dX0_begin_36 : DD cX0_begin 36 (.iconst 0) 1 37 := ⟨by decide +kernel, rfl⟩
theorem dX0_begin_37 : DD cX0_begin 37 (.iconst 0) 1 38 := ⟨by decide +kernel, rfl⟩
theorem dX0_begin_38 : DD cX0_begin 38 (.iastore) 1 39 := ⟨by decide +kernel, rfl⟩
theorem dX0_begin_39 : DD cX0_begin 39 (.return_) 1 40 := ⟨by decide +kernel, rfl⟩
theorem dX0_go_0 : DD cX0_go 0 (.iconst 0) 1 1 := ⟨by decide +kernel, rfl⟩
theorem dX0_go_1 : DD cX0_go 1 (.istore 4) 2 3 := ⟨by decide +kernel, rfl⟩
theorem dX0_go_3 : DD cX0_go 3 (.iconst 0) 1 4 := ⟨by decide +kernel, rfl⟩
theorem dX0_go_4 : DD cX0_go 4 (.istore 5) 2 6 := ⟨by decide +kernel, rfl⟩
theorem dX0_go_6 : DD cX0_go 6 (.iload 5) 2 8 := ⟨by decide +kernel, rfl⟩
theorem dX0_go_8 : DD cX0_go 8 (.iload_n 3) 1 9 := ⟨by decide +kernel, rfl⟩
theorem dX0_go_9 : DD cX0_go 9 (.if_icmp .ge 22) 3 12 := ⟨by decide +kernel, rfl⟩
theorem dX0_go_12 : DD cX0_go 12 (.iload 4) 2 14 := ⟨by decide +kernel, rfl⟩
theorem dX0_go_14 : DD cX0_go 14 (.ifCond .ne 17) 3 17 := ⟨by decide +kernel, rfl⟩
theorem dX0_go_17 : DD cX0_go 17 (.aload_n 0) 1 18 := ⟨by decide +kernel, rfl⟩
theorem dX0_go_18 : DD cX0_go 18 (.aload_n 1) 1 19 := ⟨by decide +kernel, rfl⟩
theorem dX0_go_19 : DD cX0_go 19 (.aload_n 2) 1 20 := ⟨by decide +kernel, rfl⟩
theorem dX0_go_20 : DD cX0_go 20 (.invokevirtual 55) 3 23 := ⟨by decide +kernel, rfl⟩
theorem dX0_go_23 : DD cX0_go 23 (.istore 4) 2 25 := ⟨by decide +kernel, rfl⟩
theorem dX0_go_25 : DD cX0_go 25 (.iinc 5 1) 3 28 := ⟨by decide +kernel, rfl⟩
theorem dX0_go_28 : DD cX0_go 28 (.goto (-22)) 3 31 := ⟨by decide +kernel, rfl⟩
theorem dX0_go_31 : DD cX0_go 31 (.iload 4) 2 33 := ⟨by decide +kernel, rfl⟩
theorem dX0_go_33 : DD cX0_go 33 (.ireturn) 1 34 := ⟨by decide +kernel, rfl⟩
theorem dX0_tick_0 : DD cX0_tick 0 (.aload_n 0) 1 1 := ⟨by decide +kernel, rfl⟩
theorem dX0_tick_1 : DD cX0_tick 1 (.getfield 18) 3 4 := ⟨by decide +kernel, rfl⟩
theorem dX0_tick_4 : DD cX0_tick 4 (.aload_n 0) 1 5 := ⟨by decide +kernel, rfl⟩
theorem dX0_tick_5 : DD cX0_tick 5 (.aload_n 1) 1 6 := ⟨by decide +kernel, rfl⟩
theorem dX0_tick_6 : DD cX0_tick 6 (.invokevirtual 59) 3 9 := ⟨by decide +kernel, rfl⟩
theorem dX0_tick_9 : DD cX0_tick 9 (.aload_n 0) 1 10 := ⟨by decide +kernel, rfl⟩
theorem dX0_tick_10 : DD cX0_tick 10 (.aload_n 1) 1 11 := ⟨by decide +kernel, rfl⟩
theorem dX0_tick_11 : DD cX0_tick 11 (.aload_n 0) 1 12 := ⟨by decide +kernel, rfl⟩
theorem dX0_tick_12 : DD cX0_tick 12 (.getfield 18) 3 15 := ⟨by decide +kernel, rfl⟩
theorem dX0_tick_15 : DD cX0_tick 15 (.invokevirtual 63) 3 18 := ⟨by decide +kernel, rfl⟩
theorem dX0_tick_18 : DD cX0_tick 18 (.invokevirtual 67) 3 21 := ⟨by decide +kernel, rfl⟩
theorem dX0_tick_21 : DD cX0_tick 21 (.aload_n 0) 1 22 := ⟨by decide +kernel, rfl⟩
theorem dX0_tick_22 : DD cX0_tick 22 (.getfield 22) 3 25 := ⟨by decide +kernel, rfl⟩
theorem dX0_tick_25 : DD cX0_tick 25 (.aload_n 0) 1 26 := ⟨by decide +kernel, rfl⟩
theorem dX0_tick_26 : DD cX0_tick 26 (.aload_n 2) 1 27 := ⟨by decide +kernel, rfl⟩
theorem dX0_tick_27 : DD cX0_tick 27 (.invokevirtual 59) 3 30 := ⟨by decide +kernel, rfl⟩
theorem dX0_tick_30 : DD cX0_tick 30 (.aload_n 0) 1 31 := ⟨by decide +kernel, rfl⟩
theorem dX0_tick_31 : DD cX0_tick 31 (.aload_n 2) 1 32 := ⟨by decide +kernel, rfl⟩
theorem dX0_tick_32 : DD cX0_tick 32 (.aload_n 0) 1 33 := ⟨by decide +kernel, rfl⟩
theorem dX0_tick_33 : DD cX0_tick 33 (.getfield 22) 3 36 := ⟨by decide +kernel, rfl⟩
theorem dX0_tick_36 : DD cX0_tick 36 (.invokevirtual 63) 3 39 := ⟨by decide +kernel, rfl⟩
theorem dX0_tick_39 : DD cX0_tick 39 (.invokevirtual 67) 3 42 := ⟨by decide +kernel, rfl⟩
theorem dX0_tick_42 : DD cX0_tick 42 (.aload_n 0) 1 43 := ⟨by decide +kernel, rfl⟩
theorem dX0_tick_43 : DD cX0_tick 43 (.aload_n 1) 1 44 := ⟨by decide +kernel, rfl⟩
theorem dX0_tick_44 : DD cX0_tick 44 (.aload_n 2) 1 45 := ⟨by decide +kernel, rfl⟩
theorem dX0_tick_45 : DD cX0_tick 45 (.invokevirtual 71) 3 48 := ⟨by decide +kernel, rfl⟩
theorem dX0_tick_48 : DD cX0_tick 48 (.aload_n 0) 1 49 := ⟨by decide +kernel, rfl⟩
theorem dX0_tick_49 : DD cX0_tick 49 (.aload_n 1) 1 50 := ⟨by decide +kernel, rfl⟩
theorem dX0_tick_50 : DD cX0_tick 50 (.aload_n 0) 1 51 := ⟨by decide +kernel, rfl⟩
theorem dX0_tick_51 : DD cX0_tick 51 (.getfield 18) 3 54 := ⟨by decide +kernel, rfl⟩
theorem dX0_tick_54 : DD cX0_tick 54 (.invokevirtual 75) 3 57 := ⟨by decide +kernel, rfl⟩
theorem dX0_tick_57 : DD cX0_tick 57 (.aload_n 0) 1 58 := ⟨by decide +kernel, rfl⟩
theorem dX0_tick_58 : DD cX0_tick 58 (.aload_n 2) 1 59 := ⟨by decide +kernel, rfl⟩
theorem dX0_tick_59 : DD cX0_tick 59 (.aload_n 0) 1 60 := ⟨by decide +kernel, rfl⟩
theorem dX0_tick_60 : DD cX0_tick 60 (.getfield 22) 3 63 := ⟨by decide +kernel, rfl⟩
theorem dX0_tick_63 : DD cX0_tick 63 (.invokevirtual 75) 3 66 := ⟨by decide +kernel, rfl⟩
theorem dX0_tick_66 : DD cX0_tick 66 (.aload_n 0) 1 67 := ⟨by decide +kernel, rfl⟩
theorem dX0_tick_67 : DD cX0_tick 67 (.getfield 18) 3 70 := ⟨by decide +kernel, rfl⟩
theorem dX0_tick_70 : DD cX0_tick 70 (.aload_n 0) 1 71 := ⟨by decide +kernel, rfl⟩
theorem dX0_tick_71 : DD cX0_tick 71 (.getfield 25) 3 74 := ⟨by decide +kernel, rfl⟩
theorem dX0_tick_74 : DD cX0_tick 74 (.invokevirtual 79) 3 77 := ⟨by decide +kernel, rfl⟩
theorem dX0_tick_77 : DD cX0_tick 77 (.aload_n 0) 1 78 := ⟨by decide +kernel, rfl⟩
theorem dX0_tick_78 : DD cX0_tick 78 (.getfield 22) 3 81 := ⟨by decide +kernel, rfl⟩
theorem dX0_tick_81 : DD cX0_tick 81 (.aload_n 0) 1 82 := ⟨by decide +kernel, rfl⟩
theorem dX0_tick_82 : DD cX0_tick 82 (.getfield 25) 3 85 := ⟨by decide +kernel, rfl⟩
theorem dX0_tick_85 : DD cX0_tick 85 (.invokevirtual 79) 3 88 := ⟨by decide +kernel, rfl⟩
theorem dX0_tick_88 : DD cX0_tick 88 (.aload_n 0) 1 89 := ⟨by decide +kernel, rfl⟩
theorem dX0_tick_89 : DD cX0_tick 89 (.dup) 1 90 := ⟨by decide +kernel, rfl⟩
theorem dX0_tick_90 : DD cX0_tick 90 (.getfield 29) 3 93 := ⟨by decide +kernel, rfl⟩
theorem dX0_tick_93 : DD cX0_tick 93 (.iconst 1) 1 94 := ⟨by decide +kernel, rfl⟩
theorem dX0_tick_94 : DD cX0_tick 94 (.iadd) 1 95 := ⟨by decide +kernel, rfl⟩
theorem dX0_tick_95 : DD cX0_tick 95 (.putfield 29) 3 98 := ⟨by decide +kernel, rfl⟩
theorem dX0_tick_98 : DD cX0_tick 98 (.aload_n 0) 1 99 := ⟨by decide +kernel, rfl⟩
theorem dX0_tick_99 : DD cX0_tick 99 (.getfield 11) 3 102 := ⟨by decide +kernel, rfl⟩
theorem dX0_tick_102 : DD cX0_tick 102 (.aload_n 0) 1 103 := ⟨by decide +kernel, rfl⟩
theorem dX0_tick_103 : DD cX0_tick 103 (.getfield 29) 3 106 := ⟨by decide +kernel, rfl⟩
theorem dX0_tick_106 : DD cX0_tick 106 (.bipush 10) 2 108 := ⟨by decide +kernel, rfl⟩
theorem dX0_tick_108 : DD cX0_tick 108 (.irem) 1 109 := ⟨by decide +kernel, rfl⟩
theorem dX0_tick_109 : DD cX0_tick 109 (.aload_n 0) 1 110 := ⟨by decide +kernel, rfl⟩
theorem dX0_tick_110 : DD cX0_tick 110 (.getfield 25) 3 113 := ⟨by decide +kernel, rfl⟩
theorem dX0_tick_113 : DD cX0_tick 113 (.iastore) 1 114 := ⟨by decide +kernel, rfl⟩
theorem dX0_tick_114 : DD cX0_tick 114 (.aload_n 0) 1 115 := ⟨by decide +kernel, rfl⟩
theorem dX0_tick_115 : DD cX0_tick 115 (.getfield 18) 3 118 := ⟨by decide +kernel, rfl⟩
theorem dX0_tick_118 : DD cX0_tick 118 (.getfield 82) 3 121 := ⟨by decide +kernel, rfl⟩
theorem dX0_tick_121 : DD cX0_tick 121 (.invokestatic 85) 3 124 := ⟨by decide +kernel, rfl⟩
theorem dX0_tick_124 : DD cX0_tick 124 (.aload_n 0) 1 125 := ⟨by decide +kernel, rfl⟩
theorem dX0_tick_125 : DD cX0_tick 125 (.getfield 35) 3 128 := ⟨by decide +kernel, rfl⟩
theorem dX0_tick_128 : DD cX0_tick 128 (.iconst 3) 1 129 := ⟨by decide +kernel, rfl⟩
theorem dX0_tick_129 : DD cX0_tick 129 (.iaload) 1 130 := ⟨by decide +kernel, rfl⟩
theorem dX0_tick_130 : DD cX0_tick 130 (.if_icmp .le 7) 3 133 := ⟨by decide +kernel, rfl⟩
theorem dX0_tick_133 : DD cX0_tick 133 (.iconst 1) 1 134 := ⟨by decide +kernel, rfl⟩
theorem dX0_tick_134 : DD cX0_tick 134 (.goto 4) 3 137 := ⟨by decide +kernel, rfl⟩
theorem dX0_tick_137 : DD cX0_tick 137 (.iconst 0) 1 138 := ⟨by decide +kernel, rfl⟩
theorem dX0_tick_138 : DD cX0_tick 138 (.istore_n 3) 1 139 := ⟨by decide +kernel, rfl⟩
theorem dX0_tick_139 : DD cX0_tick 139 (.aload_n 0) 1 140 := ⟨by decide +kernel, rfl⟩
theorem dX0_tick_140 : DD cX0_tick 140 (.getfield 22) 3 143 := ⟨by decide +kernel, rfl⟩
theorem dX0_tick_143 : DD cX0_tick 143 (.getfield 82) 3 146 := ⟨by decide +kernel, rfl⟩
theorem dX0_tick_146 : DD cX0_tick 146 (.invokestatic 85) 3 149 := ⟨by decide +kernel, rfl⟩
theorem dX0_tick_149 : DD cX0_tick 149 (.aload_n 0) 1 150 := ⟨by decide +kernel, rfl⟩
theorem dX0_tick_150 : DD cX0_tick 150 (.getfield 35) 3 153 := ⟨by decide +kernel, rfl⟩
theorem dX0_tick_153 : DD cX0_tick 153 (.iconst 3) 1 154 := ⟨by decide +kernel, rfl⟩
theorem dX0_tick_154 : DD cX0_tick 154 (.iaload) 1 155 := ⟨by decide +kernel, rfl⟩
theorem dX0_tick_155 : DD cX0_tick 155 (.if_icmp .le 7) 3 158 := ⟨by decide +kernel, rfl⟩
theorem dX0_tick_158 : DD cX0_tick 158 (.iconst 2) 1 159 := ⟨by decide +kernel, rfl⟩
theorem dX0_tick_159 : DD cX0_tick 159 (.goto 4) 3 162 := ⟨by decide +kernel, rfl⟩
theorem dX0_tick_162 : DD cX0_tick 162 (.iconst 0) 1 163 := ⟨by decide +kernel, rfl⟩
theorem dX0_tick_163 : DD cX0_tick 163 (.istore 4) 2 165 := ⟨by decide +kernel, rfl⟩
theorem dX0_tick_165 : DD cX0_tick 165 (.iload_n 3) 1 166 := ⟨by decide +kernel, rfl⟩
theorem dX0_tick_166 : DD cX0_tick 166 (.iload 4) 2 168 := ⟨by decide +kernel, rfl⟩
theorem dX0_tick_168 : DD cX0_tick 168 (.iadd) 1 169 := ⟨by decide +kernel, rfl⟩
theorem dX0_tick_169 : DD cX0_tick 169 (.ireturn) 1 170 := ⟨by decide +kernel, rfl⟩
theorem dX0_roll_0 : DD cX0_roll 0 (.aload_n 0) 1 1 := ⟨by decide +kernel, rfl⟩
theorem dX0_roll_1 : DD cX0_roll 1 (.getfield 35) 3 4 := ⟨by decide +kernel, rfl⟩
theorem dX0_roll_4 : DD cX0_roll 4 (.iconst 0) 1 5 := ⟨by decide +kernel, rfl⟩
theorem dX0_roll_5 : DD cX0_roll 5 (.iaload) 1 6 := ⟨by decide +kernel, rfl⟩
theorem dX0_roll_6 : DD cX0_roll 6 (.aload_n 0) 1 7 := ⟨by decide +kernel, rfl⟩
theorem dX0_roll_7 : DD cX0_roll 7 (.getfield 35) 3 10 := ⟨by decide +kernel, rfl⟩
theorem dX0_roll_10 : DD cX0_roll 10 (.iconst 0) 1 11 := ⟨by decide +kernel, rfl⟩
theorem dX0_roll_11 : DD cX0_roll 11 (.iaload) 1 12 := ⟨by decide +kernel, rfl⟩
theorem dX0_roll_12 : DD cX0_roll 12 (.imul) 1 13 := ⟨by decide +kernel, rfl⟩
theorem dX0_roll_13 : DD cX0_roll 13 (.aload_n 1) 1 14 := ⟨by decide +kernel, rfl⟩
theorem dX0_roll_14 : DD cX0_roll 14 (.getfield 91) 3 17 := ⟨by decide +kernel, rfl⟩
theorem dX0_roll_17 : DD cX0_roll 17 (.iadd) 1 18 := ⟨by decide +kernel, rfl⟩
theorem dX0_roll_18 : DD cX0_roll 18 (.aload_n 2) 1 19 := ⟨by decide +kernel, rfl⟩
theorem dX0_roll_19 : DD cX0_roll 19 (.getfield 91) 3 22 := ⟨by decide +kernel, rfl⟩
theorem dX0_roll_22 : DD cX0_roll 22 (.iadd) 1 23 := ⟨by decide +kernel, rfl⟩
theorem dX0_roll_23 : DD cX0_roll 23 (.istore_n 3) 1 24 := ⟨by decide +kernel, rfl⟩
theorem dX0_roll_24 : DD cX0_roll 24 (.iload_n 3) 1 25 := ⟨by decide +kernel, rfl⟩
theorem dX0_roll_25 : DD cX0_roll 25 (.ifCond .le 39) 3 28 := ⟨by decide +kernel, rfl⟩
theorem dX0_roll_28 : DD cX0_roll 28 (.aload_n 0) 1 29 := ⟨by decide +kernel, rfl⟩
theorem dX0_roll_29 : DD cX0_roll 29 (.dup) 1 30 := ⟨by decide +kernel, rfl⟩
theorem dX0_roll_30 : DD cX0_roll 30 (.getfield 25) 3 33 := ⟨by decide +kernel, rfl⟩
theorem dX0_roll_33 : DD cX0_roll 33 (.aload_n 0) 1 34 := ⟨by decide +kernel, rfl⟩
theorem dX0_roll_34 : DD cX0_roll 34 (.getfield 18) 3 37 := ⟨by decide +kernel, rfl⟩
theorem dX0_roll_37 : DD cX0_roll 37 (.getfield 94) 3 40 := ⟨by decide +kernel, rfl⟩
theorem dX0_roll_40 : DD cX0_roll 40 (.aload_n 1) 1 41 := ⟨by decide +kernel, rfl⟩
theorem dX0_roll_41 : DD cX0_roll 41 (.getfield 91) 3 44 := ⟨by decide +kernel, rfl⟩
theorem dX0_roll_44 : DD cX0_roll 44 (.imul) 1 45 := ⟨by decide +kernel, rfl⟩
theorem dX0_roll_45 : DD cX0_roll 45 (.aload_n 0) 1 46 := ⟨by decide +kernel, rfl⟩
theorem dX0_roll_46 : DD cX0_roll 46 (.getfield 22) 3 49 := ⟨by decide +kernel, rfl⟩
theorem dX0_roll_49 : DD cX0_roll 49 (.getfield 94) 3 52 := ⟨by decide +kernel, rfl⟩
theorem dX0_roll_52 : DD cX0_roll 52 (.aload_n 2) 1 53 := ⟨by decide +kernel, rfl⟩
theorem dX0_roll_53 : DD cX0_roll 53 (.getfield 91) 3 56 := ⟨by decide +kernel, rfl⟩
theorem dX0_roll_56 : DD cX0_roll 56 (.imul) 1 57 := ⟨by decide +kernel, rfl⟩
theorem dX0_roll_57 : DD cX0_roll 57 (.iadd) 1 58 := ⟨by decide +kernel, rfl⟩
theorem dX0_roll_58 : DD cX0_roll 58 (.iload_n 3) 1 59 := ⟨by decide +kernel, rfl⟩
theorem dX0_roll_59 : DD cX0_roll 59 (.idiv) 1 60 := ⟨by decide +kernel, rfl⟩
theorem dX0_roll_60 : DD cX0_roll 60 (.iadd) 1 61 := ⟨by decide +kernel, rfl⟩
theorem dX0_roll_61 : DD cX0_roll 61 (.putfield 25) 3 64 := ⟨by decide +kernel, rfl⟩
theorem dX0_roll_64 : DD cX0_roll 64 (.aload_n 0) 1 65 := ⟨by decide +kernel, rfl⟩
theorem dX0_roll_65 : DD cX0_roll 65 (.dup) 1 66 := ⟨by decide +kernel, rfl⟩
theorem dX0_roll_66 : DD cX0_roll 66 (.getfield 25) 3 69 := ⟨by decide +kernel, rfl⟩
theorem dX0_roll_69 : DD cX0_roll 69 (.aload_n 0) 1 70 := ⟨by decide +kernel, rfl⟩
theorem dX0_roll_70 : DD cX0_roll 70 (.getfield 25) 3 73 := ⟨by decide +kernel, rfl⟩
theorem dX0_roll_73 : DD cX0_roll 73 (.aload_n 0) 1 74 := ⟨by decide +kernel, rfl⟩
theorem dX0_roll_74 : DD cX0_roll 74 (.getfield 35) 3 77 := ⟨by decide +kernel, rfl⟩
theorem dX0_roll_77 : DD cX0_roll 77 (.iconst 1) 1 78 := ⟨by decide +kernel, rfl⟩
theorem dX0_roll_78 : DD cX0_roll 78 (.iaload) 1 79 := ⟨by decide +kernel, rfl⟩
theorem dX0_roll_79 : DD cX0_roll 79 (.aload_n 0) 1 80 := ⟨by decide +kernel, rfl⟩
theorem dX0_roll_80 : DD cX0_roll 80 (.getfield 35) 3 83 := ⟨by decide +kernel, rfl⟩
theorem dX0_roll_83 : DD cX0_roll 83 (.iconst 2) 1 84 := ⟨by decide +kernel, rfl⟩
theorem dX0_roll_84 : DD cX0_roll 84 (.iaload) 1 85 := ⟨by decide +kernel, rfl⟩
theorem dX0_roll_85 : DD cX0_roll 85 (.iadd) 1 86 := ⟨by decide +kernel, rfl⟩
theorem dX0_roll_86 : DD cX0_roll 86 (.imul) 1 87 := ⟨by decide +kernel, rfl⟩
theorem dX0_roll_87 : DD cX0_roll 87 (.bipush 100) 2 89 := ⟨by decide +kernel, rfl⟩
theorem dX0_roll_89 : DD cX0_roll 89 (.idiv) 1 90 := ⟨by decide +kernel, rfl⟩
theorem dX0_roll_90 : DD cX0_roll 90 (.isub) 1 91 := ⟨by decide +kernel, rfl⟩
theorem dX0_roll_91 : DD cX0_roll 91 (.putfield 25) 3 94 := ⟨by decide +kernel, rfl⟩
theorem dX0_roll_94 : DD cX0_roll 94 (.return_) 1 95 := ⟨by decide +kernel, rfl⟩
theorem dX0_stepUnlessSlipping_0 : DD cX0_stepUnlessSlipping 0 (.aload_n 0) 1 1 := ⟨by decide +kernel, rfl⟩
theorem dX0_stepUnlessSlipping_1 : DD cX0_stepUnlessSlipping 1 (.aload_n 0) 1 2 := ⟨by decide +kernel, rfl⟩
theorem dX0_stepUnlessSlipping_2 : DD cX0_stepUnlessSlipping 2 (.getfield 32) 3 5 := ⟨by decide +kernel, rfl⟩
theorem dX0_stepUnlessSlipping_5 : DD cX0_stepUnlessSlipping 5 (.ldc 97) 2 7 := ⟨by decide +kernel, rfl⟩
theorem dX0_stepUnlessSlipping_7 : DD cX0_stepUnlessSlipping 7 (.imul) 1 8 := ⟨by decide +kernel, rfl⟩
theorem dX0_stepUnlessSlipping_8 : DD cX0_stepUnlessSlipping 8 (.sipush 12345) 3 11 := ⟨by decide +kernel, rfl⟩
theorem dX0_stepUnlessSlipping_11 : DD cX0_stepUnlessSlipping 11 (.iadd) 1 12 := ⟨by decide +kernel, rfl⟩
theorem dX0_stepUnlessSlipping_12 : DD cX0_stepUnlessSlipping 12 (.putfield 32) 3 15 := ⟨by decide +kernel, rfl⟩
theorem dX0_stepUnlessSlipping_15 : DD cX0_stepUnlessSlipping 15 (.aload_n 0) 1 16 := ⟨by decide +kernel, rfl⟩
theorem dX0_stepUnlessSlipping_16 : DD cX0_stepUnlessSlipping 16 (.getfield 32) 3 19 := ⟨by decide +kernel, rfl⟩
theorem dX0_stepUnlessSlipping_19 : DD cX0_stepUnlessSlipping 19 (.bipush 8) 2 21 := ⟨by decide +kernel, rfl⟩
theorem dX0_stepUnlessSlipping_21 : DD cX0_stepUnlessSlipping 21 (.iushr) 1 22 := ⟨by decide +kernel, rfl⟩
theorem dX0_stepUnlessSlipping_22 : DD cX0_stepUnlessSlipping 22 (.bipush 100) 2 24 := ⟨by decide +kernel, rfl⟩
theorem dX0_stepUnlessSlipping_24 : DD cX0_stepUnlessSlipping 24 (.irem) 1 25 := ⟨by decide +kernel, rfl⟩
theorem dX0_stepUnlessSlipping_25 : DD cX0_stepUnlessSlipping 25 (.aload_n 0) 1 26 := ⟨by decide +kernel, rfl⟩
theorem dX0_stepUnlessSlipping_26 : DD cX0_stepUnlessSlipping 26 (.getfield 35) 3 29 := ⟨by decide +kernel, rfl⟩
theorem dX0_stepUnlessSlipping_29 : DD cX0_stepUnlessSlipping 29 (.iconst 4) 1 30 := ⟨by decide +kernel, rfl⟩
theorem dX0_stepUnlessSlipping_30 : DD cX0_stepUnlessSlipping 30 (.iaload) 1 31 := ⟨by decide +kernel, rfl⟩
theorem dX0_stepUnlessSlipping_31 : DD cX0_stepUnlessSlipping 31 (.if_icmp .lt 11) 3 34 := ⟨by decide +kernel, rfl⟩
theorem dX0_stepUnlessSlipping_34 : DD cX0_stepUnlessSlipping 34 (.aload_n 2) 1 35 := ⟨by decide +kernel, rfl⟩
theorem dX0_stepUnlessSlipping_35 : DD cX0_stepUnlessSlipping 35 (.aload_n 1) 1 36 := ⟨by decide +kernel, rfl⟩
theorem dX0_stepUnlessSlipping_36 : DD cX0_stepUnlessSlipping 36 (.getfield 98) 3 39 := ⟨by decide +kernel, rfl⟩
theorem dX0_stepUnlessSlipping_39 : DD cX0_stepUnlessSlipping 39 (.invokevirtual 101) 3 42 := ⟨by decide +kernel, rfl⟩
theorem dX0_stepUnlessSlipping_42 : DD cX0_stepUnlessSlipping 42 (.return_) 1 43 := ⟨by decide +kernel, rfl⟩
theorem dX0_seenBy_0 : DD cX0_seenBy 0 (.aload_n 0) 1 1 := ⟨by decide +kernel, rfl⟩
theorem dX0_seenBy_1 : DD cX0_seenBy 1 (.getfield 29) 3 4 := ⟨by decide +kernel, rfl⟩
theorem dX0_seenBy_4 : DD cX0_seenBy 4 (.aload_n 1) 1 5 := ⟨by decide +kernel, rfl⟩
theorem dX0_seenBy_5 : DD cX0_seenBy 5 (.getfield 104) 3 8 := ⟨by decide +kernel, rfl⟩
theorem dX0_seenBy_8 : DD cX0_seenBy 8 (.isub) 1 9 := ⟨by decide +kernel, rfl⟩
theorem dX0_seenBy_9 : DD cX0_seenBy 9 (.istore_n 2) 1 10 := ⟨by decide +kernel, rfl⟩
theorem dX0_seenBy_10 : DD cX0_seenBy 10 (.iload_n 2) 1 11 := ⟨by decide +kernel, rfl⟩
theorem dX0_seenBy_11 : DD cX0_seenBy 11 (.ifCond .ge 7) 3 14 := ⟨by decide +kernel, rfl⟩
theorem dX0_seenBy_14 : DD cX0_seenBy 14 (.iconst 0) 1 15 := ⟨by decide +kernel, rfl⟩
theorem dX0_seenBy_15 : DD cX0_seenBy 15 (.goto 12) 3 18 := ⟨by decide +kernel, rfl⟩
theorem dX0_seenBy_18 : DD cX0_seenBy 18 (.aload_n 0) 1 19 := ⟨by decide +kernel, rfl⟩
theorem dX0_seenBy_19 : DD cX0_seenBy 19 (.getfield 11) 3 22 := ⟨by decide +kernel, rfl⟩
theorem dX0_seenBy_22 : DD cX0_seenBy 22 (.iload_n 2) 1 23 := ⟨by decide +kernel, rfl⟩
theorem dX0_seenBy_23 : DD cX0_seenBy 23 (.bipush 10) 2 25 := ⟨by decide +kernel, rfl⟩
theorem dX0_seenBy_25 : DD cX0_seenBy 25 (.irem) 1 26 := ⟨by decide +kernel, rfl⟩
theorem dX0_seenBy_26 : DD cX0_seenBy 26 (.iaload) 1 27 := ⟨by decide +kernel, rfl⟩
theorem dX0_seenBy_27 : DD cX0_seenBy 27 (.ireturn) 1 28 := ⟨by decide +kernel, rfl⟩
theorem dX0_nextShove_0 : DD cX0_nextShove 0 (.aload_n 1) 1 1 := ⟨by decide +kernel, rfl⟩
theorem dX0_nextShove_1 : DD cX0_nextShove 1 (.getfield 107) 3 4 := ⟨by decide +kernel, rfl⟩
theorem dX0_nextShove_4 : DD cX0_nextShove 4 (.iconst 0) 1 5 := ⟨by decide +kernel, rfl⟩
theorem dX0_nextShove_5 : DD cX0_nextShove 5 (.iconst 5) 1 6 := ⟨by decide +kernel, rfl⟩
theorem dX0_nextShove_6 : DD cX0_nextShove 6 (.invokestatic 110) 3 9 := ⟨by decide +kernel, rfl⟩
theorem dX0_nextShove_9 : DD cX0_nextShove 9 (.ifCond .eq 15) 3 12 := ⟨by decide +kernel, rfl⟩
theorem dX0_nextShove_12 : DD cX0_nextShove 12 (.aload_n 0) 1 13 := ⟨by decide +kernel, rfl⟩
theorem dX0_nextShove_13 : DD cX0_nextShove 13 (.getfield 38) 3 16 := ⟨by decide +kernel, rfl⟩
theorem dX0_nextShove_16 : DD cX0_nextShove 16 (.aload_n 1) 1 17 := ⟨by decide +kernel, rfl⟩
theorem dX0_nextShove_17 : DD cX0_nextShove 17 (.getfield 107) 3 20 := ⟨by decide +kernel, rfl⟩
theorem dX0_nextShove_20 : DD cX0_nextShove 20 (.aaload) 1 21 := ⟨by decide +kernel, rfl⟩
theorem dX0_nextShove_21 : DD cX0_nextShove 21 (.goto 4) 3 24 := ⟨by decide +kernel, rfl⟩
theorem dX0_nextShove_24 : DD cX0_nextShove 24 (.aconst_null) 1 25 := ⟨by decide +kernel, rfl⟩
theorem dX0_nextShove_25 : DD cX0_nextShove 25 (.astore_n 3) 1 26 := ⟨by decide +kernel, rfl⟩
theorem dX0_nextShove_26 : DD cX0_nextShove 26 (.aload_n 1) 1 27 := ⟨by decide +kernel, rfl⟩
theorem dX0_nextShove_27 : DD cX0_nextShove 27 (.aload_n 3) 1 28 := ⟨by decide +kernel, rfl⟩
theorem dX0_nextShove_28 : DD cX0_nextShove 28 (.aload_n 0) 1 29 := ⟨by decide +kernel, rfl⟩
theorem dX0_nextShove_29 : DD cX0_nextShove 29 (.aload_n 1) 1 30 := ⟨by decide +kernel, rfl⟩
theorem dX0_nextShove_30 : DD cX0_nextShove 30 (.invokevirtual 59) 3 33 := ⟨by decide +kernel, rfl⟩
theorem dX0_nextShove_33 : DD cX0_nextShove 33 (.aload_n 2) 1 34 := ⟨by decide +kernel, rfl⟩
theorem dX0_nextShove_34 : DD cX0_nextShove 34 (.getfield 82) 3 37 := ⟨by decide +kernel, rfl⟩
theorem dX0_nextShove_37 : DD cX0_nextShove 37 (.aload_n 2) 1 38 := ⟨by decide +kernel, rfl⟩
theorem dX0_nextShove_38 : DD cX0_nextShove 38 (.getfield 114) 3 41 := ⟨by decide +kernel, rfl⟩
theorem dX0_nextShove_41 : DD cX0_nextShove 41 (.aload_n 0) 1 42 := ⟨by decide +kernel, rfl⟩
theorem dX0_nextShove_42 : DD cX0_nextShove 42 (.getfield 29) 3 45 := ⟨by decide +kernel, rfl⟩
theorem dX0_nextShove_45 : DD cX0_nextShove 45 (.invokevirtual 117) 3 48 := ⟨by decide +kernel, rfl⟩
theorem dX0_nextShove_48 : DD cX0_nextShove 48 (.istore 4) 2 50 := ⟨by decide +kernel, rfl⟩
theorem dX0_nextShove_50 : DD cX0_nextShove 50 (.aload_n 2) 1 51 := ⟨by decide +kernel, rfl⟩
theorem dX0_nextShove_51 : DD cX0_nextShove 51 (.getfield 114) 3 54 := ⟨by decide +kernel, rfl⟩
theorem dX0_nextShove_54 : DD cX0_nextShove 54 (.iload 4) 2 56 := ⟨by decide +kernel, rfl⟩
theorem dX0_nextShove_56 : DD cX0_nextShove 56 (.invokestatic 120) 3 59 := ⟨by decide +kernel, rfl⟩
theorem dX0_nextShove_59 : DD cX0_nextShove 59 (.if_icmp .ge 7) 3 62 := ⟨by decide +kernel, rfl⟩
theorem dX0_nextShove_62 : DD cX0_nextShove 62 (.iconst 0) 1 63 := ⟨by decide +kernel, rfl⟩
theorem dX0_nextShove_63 : DD cX0_nextShove 63 (.goto 5) 3 66 := ⟨by decide +kernel, rfl⟩
theorem dX0_nextShove_66 : DD cX0_nextShove 66 (.iload 4) 2 68 := ⟨by decide +kernel, rfl⟩
theorem dX0_nextShove_68 : DD cX0_nextShove 68 (.ireturn) 1 69 := ⟨by decide +kernel, rfl⟩
theorem dX1_init_0 : DD cX1_init 0 (.aload_n 0) 1 1 := ⟨by decide +kernel, rfl⟩
theorem dX1_init_1 : DD cX1_init 1 (.invokespecial 3) 3 4 := ⟨by decide +kernel, rfl⟩
theorem dX1_init_4 : DD cX1_init 4 (.return_) 1 5 := ⟨by decide +kernel, rfl⟩
theorem dX1_begin_0 : DD cX1_begin 0 (.aload_n 0) 1 1 := ⟨by decide +kernel, rfl⟩
theorem dX1_begin_1 : DD cX1_begin 1 (.iload_n 1) 1 2 := ⟨by decide +kernel, rfl⟩
theorem dX1_begin_2 : DD cX1_begin 2 (.putfield 9) 3 5 := ⟨by decide +kernel, rfl⟩
theorem dX1_begin_5 : DD cX1_begin 5 (.aload_n 0) 1 6 := ⟨by decide +kernel, rfl⟩
theorem dX1_begin_6 : DD cX1_begin 6 (.iload_n 2) 1 7 := ⟨by decide +kernel, rfl⟩
theorem dX1_begin_7 : DD cX1_begin 7 (.putfield 15) 3 10 := ⟨by decide +kernel, rfl⟩
theorem dX1_begin_10 : DD cX1_begin 10 (.aload_n 0) 1 11 := ⟨by decide +kernel, rfl⟩
theorem dX1_begin_11 : DD cX1_begin 11 (.iconst 2) 1 12 := ⟨by decide +kernel, rfl⟩
theorem dX1_begin_12 : DD cX1_begin 12 (.putfield 18) 3 15 := ⟨by decide +kernel, rfl⟩
theorem dX1_begin_15 : DD cX1_begin 15 (.aload_n 0) 1 16 := ⟨by decide +kernel, rfl⟩
theorem dX1_begin_16 : DD cX1_begin 16 (.bipush 20) 2 18 := ⟨by decide +kernel, rfl⟩
theorem dX1_begin_18 : DD cX1_begin 18 (.putfield 21) 3 21 := ⟨by decide +kernel, rfl⟩
theorem dX1_begin_21 : DD cX1_begin 21 (.aload_n 0) 1 22 := ⟨by decide +kernel, rfl⟩
theorem dX1_begin_22 : DD cX1_begin 22 (.sipush 300) 3 25 := ⟨by decide +kernel, rfl⟩
theorem dX1_begin_25 : DD cX1_begin 25 (.putfield 24) 3 28 := ⟨by decide +kernel, rfl⟩
theorem dX1_begin_28 : DD cX1_begin 28 (.aload_n 0) 1 29 := ⟨by decide +kernel, rfl⟩
theorem dX1_begin_29 : DD cX1_begin 29 (.iconst 0) 1 30 := ⟨by decide +kernel, rfl⟩
theorem dX1_begin_30 : DD cX1_begin 30 (.putfield 27) 3 33 := ⟨by decide +kernel, rfl⟩
theorem dX1_begin_33 : DD cX1_begin 33 (.aload_n 0) 1 34 := ⟨by decide +kernel, rfl⟩
theorem dX1_begin_34 : DD cX1_begin 34 (.iconst (-1)) 1 35 := ⟨by decide +kernel, rfl⟩
theorem dX1_begin_35 : DD cX1_begin 35 (.putfield 30) 3 38 := ⟨by decide +kernel, rfl⟩
theorem dX1_begin_38 : DD cX1_begin 38 (.return_) 1 39 := ⟨by decide +kernel, rfl⟩
theorem dX1_takeFrom_0 : DD cX1_takeFrom 0 (.aload_n 0) 1 1 := ⟨by decide +kernel, rfl⟩
theorem dX1_takeFrom_1 : DD cX1_takeFrom 1 (.aload_n 1) 1 2 := ⟨by decide +kernel, rfl⟩
theorem dX1_takeFrom_2 : DD cX1_takeFrom 2 (.getfield 9) 3 5 := ⟨by decide +kernel, rfl⟩
theorem dX1_takeFrom_5 : DD cX1_takeFrom 5 (.putfield 9) 3 8 := ⟨by decide +kernel, rfl⟩
theorem dX1_takeFrom_8 : DD cX1_takeFrom 8 (.aload_n 0) 1 9 := ⟨by decide +kernel, rfl⟩
theorem dX1_takeFrom_9 : DD cX1_takeFrom 9 (.aload_n 1) 1 10 := ⟨by decide +kernel, rfl⟩
theorem dX1_takeFrom_10 : DD cX1_takeFrom 10 (.getfield 15) 3 13 := ⟨by decide +kernel, rfl⟩
theorem dX1_takeFrom_13 : DD cX1_takeFrom 13 (.putfield 15) 3 16 := ⟨by decide +kernel, rfl⟩
theorem dX1_takeFrom_16 : DD cX1_takeFrom 16 (.aload_n 0) 1 17 := ⟨by decide +kernel, rfl⟩
theorem dX1_takeFrom_17 : DD cX1_takeFrom 17 (.aload_n 1) 1 18 := ⟨by decide +kernel, rfl⟩
theorem dX1_takeFrom_18 : DD cX1_takeFrom 18 (.getfield 18) 3 21 := ⟨by decide +kernel, rfl⟩
theorem dX1_takeFrom_21 : DD cX1_takeFrom 21 (.putfield 18) 3 24 := ⟨by decide +kernel, rfl⟩
theorem dX1_takeFrom_24 : DD cX1_takeFrom 24 (.aload_n 0) 1 25 := ⟨by decide +kernel, rfl⟩
theorem dX1_takeFrom_25 : DD cX1_takeFrom 25 (.aload_n 1) 1 26 := ⟨by decide +kernel, rfl⟩
theorem dX1_takeFrom_26 : DD cX1_takeFrom 26 (.getfield 21) 3 29 := ⟨by decide +kernel, rfl⟩
theorem dX1_takeFrom_29 : DD cX1_takeFrom 29 (.putfield 21) 3 32 := ⟨by decide +kernel, rfl⟩
theorem dX1_takeFrom_32 : DD cX1_takeFrom 32 (.aload_n 0) 1 33 := ⟨by decide +kernel, rfl⟩
theorem dX1_takeFrom_33 : DD cX1_takeFrom 33 (.aload_n 1) 1 34 := ⟨by decide +kernel, rfl⟩
theorem dX1_takeFrom_34 : DD cX1_takeFrom 34 (.getfield 24) 3 37 := ⟨by decide +kernel, rfl⟩
theorem dX1_takeFrom_37 : DD cX1_takeFrom 37 (.putfield 24) 3 40 := ⟨by decide +kernel, rfl⟩
theorem dX1_takeFrom_40 : DD cX1_takeFrom 40 (.aload_n 0) 1 41 := ⟨by decide +kernel, rfl⟩
theorem dX1_takeFrom_41 : DD cX1_takeFrom 41 (.aload_n 1) 1 42 := ⟨by decide +kernel, rfl⟩
theorem dX1_takeFrom_42 : DD cX1_takeFrom 42 (.getfield 27) 3 45 := ⟨by decide +kernel, rfl⟩
theorem dX1_takeFrom_45 : DD cX1_takeFrom 45 (.putfield 27) 3 48 := ⟨by decide +kernel, rfl⟩
theorem dX1_takeFrom_48 : DD cX1_takeFrom 48 (.aload_n 0) 1 49 := ⟨by decide +kernel, rfl⟩
theorem dX1_takeFrom_49 : DD cX1_takeFrom 49 (.aload_n 1) 1 50 := ⟨by decide +kernel, rfl⟩
theorem dX1_takeFrom_50 : DD cX1_takeFrom 50 (.getfield 30) 3 53 := ⟨by decide +kernel, rfl⟩
theorem dX1_takeFrom_53 : DD cX1_takeFrom 53 (.putfield 30) 3 56 := ⟨by decide +kernel, rfl⟩
theorem dX1_takeFrom_56 : DD cX1_takeFrom 56 (.return_) 1 57 := ⟨by decide +kernel, rfl⟩
theorem dX1_trait_0 : DD cX1_trait 0 (.iload_n 1) 1 1 := ⟨by decide +kernel, rfl⟩
theorem dX1_trait_1 : DD cX1_trait 1 (.tableswitch 69 0 5 #[39, 44, 49, 54, 59, 64]) 39 40 := ⟨by decide +kernel, rfl⟩
theorem dX1_trait_40 : DD cX1_trait 40 (.aload_n 0) 1 41 := ⟨by decide +kernel, rfl⟩
theorem dX1_trait_41 : DD cX1_trait 41 (.getfield 9) 3 44 := ⟨by decide +kernel, rfl⟩
theorem dX1_trait_44 : DD cX1_trait 44 (.ireturn) 1 45 := ⟨by decide +kernel, rfl⟩
theorem dX1_trait_45 : DD cX1_trait 45 (.aload_n 0) 1 46 := ⟨by decide +kernel, rfl⟩
theorem dX1_trait_46 : DD cX1_trait 46 (.getfield 15) 3 49 := ⟨by decide +kernel, rfl⟩
theorem dX1_trait_49 : DD cX1_trait 49 (.ireturn) 1 50 := ⟨by decide +kernel, rfl⟩
theorem dX1_trait_50 : DD cX1_trait 50 (.aload_n 0) 1 51 := ⟨by decide +kernel, rfl⟩
theorem dX1_trait_51 : DD cX1_trait 51 (.getfield 18) 3 54 := ⟨by decide +kernel, rfl⟩
theorem dX1_trait_54 : DD cX1_trait 54 (.ireturn) 1 55 := ⟨by decide +kernel, rfl⟩
theorem dX1_trait_55 : DD cX1_trait 55 (.aload_n 0) 1 56 := ⟨by decide +kernel, rfl⟩
theorem dX1_trait_56 : DD cX1_trait 56 (.getfield 21) 3 59 := ⟨by decide +kernel, rfl⟩
theorem dX1_trait_59 : DD cX1_trait 59 (.ireturn) 1 60 := ⟨by decide +kernel, rfl⟩
theorem dX1_trait_60 : DD cX1_trait 60 (.aload_n 0) 1 61 := ⟨by decide +kernel, rfl⟩
theorem dX1_trait_61 : DD cX1_trait 61 (.getfield 24) 3 64 := ⟨by decide +kernel, rfl⟩
theorem dX1_trait_64 : DD cX1_trait 64 (.ireturn) 1 65 := ⟨by decide +kernel, rfl⟩
theorem dX1_trait_65 : DD cX1_trait 65 (.aload_n 0) 1 66 := ⟨by decide +kernel, rfl⟩
theorem dX1_trait_66 : DD cX1_trait 66 (.getfield 27) 3 69 := ⟨by decide +kernel, rfl⟩
theorem dX1_trait_69 : DD cX1_trait 69 (.ireturn) 1 70 := ⟨by decide +kernel, rfl⟩
theorem dX1_trait_70 : DD cX1_trait 70 (.aload_n 0) 1 71 := ⟨by decide +kernel, rfl⟩
theorem dX1_trait_71 : DD cX1_trait 71 (.getfield 30) 3 74 := ⟨by decide +kernel, rfl⟩
theorem dX1_trait_74 : DD cX1_trait 74 (.ireturn) 1 75 := ⟨by decide +kernel, rfl⟩
theorem dX1_change_0 : DD cX1_change 0 (.iload_n 1) 1 1 := ⟨by decide +kernel, rfl⟩
theorem dX1_change_1 : DD cX1_change 1 (.tableswitch 79 1 6 #[39, 47, 55, 63, 79, 71]) 39 40 := ⟨by decide +kernel, rfl⟩
theorem dX1_change_40 : DD cX1_change 40 (.aload_n 0) 1 41 := ⟨by decide +kernel, rfl⟩
theorem dX1_change_41 : DD cX1_change 41 (.iload_n 2) 1 42 := ⟨by decide +kernel, rfl⟩
theorem dX1_change_42 : DD cX1_change 42 (.putfield 15) 3 45 := ⟨by decide +kernel, rfl⟩
theorem dX1_change_45 : DD cX1_change 45 (.goto 35) 3 48 := ⟨by decide +kernel, rfl⟩
theorem dX1_change_48 : DD cX1_change 48 (.aload_n 0) 1 49 := ⟨by decide +kernel, rfl⟩
theorem dX1_change_49 : DD cX1_change 49 (.iload_n 2) 1 50 := ⟨by decide +kernel, rfl⟩
theorem dX1_change_50 : DD cX1_change 50 (.putfield 18) 3 53 := ⟨by decide +kernel, rfl⟩
theorem dX1_change_53 : DD cX1_change 53 (.goto 27) 3 56 := ⟨by decide +kernel, rfl⟩
theorem dX1_change_56 : DD cX1_change 56 (.aload_n 0) 1 57 := ⟨by decide +kernel, rfl⟩
theorem dX1_change_57 : DD cX1_change 57 (.iload_n 2) 1 58 := ⟨by decide +kernel, rfl⟩
theorem dX1_change_58 : DD cX1_change 58 (.putfield 21) 3 61 := ⟨by decide +kernel, rfl⟩
theorem dX1_change_61 : DD cX1_change 61 (.goto 19) 3 64 := ⟨by decide +kernel, rfl⟩
theorem dX1_change_64 : DD cX1_change 64 (.aload_n 0) 1 65 := ⟨by decide +kernel, rfl⟩
theorem dX1_change_65 : DD cX1_change 65 (.iload_n 2) 1 66 := ⟨by decide +kernel, rfl⟩
theorem dX1_change_66 : DD cX1_change 66 (.putfield 24) 3 69 := ⟨by decide +kernel, rfl⟩
theorem dX1_change_69 : DD cX1_change 69 (.goto 11) 3 72 := ⟨by decide +kernel, rfl⟩
theorem dX1_change_72 : DD cX1_change 72 (.aload_n 0) 1 73 := ⟨by decide +kernel, rfl⟩
theorem dX1_change_73 : DD cX1_change 73 (.iload_n 2) 1 74 := ⟨by decide +kernel, rfl⟩
theorem dX1_change_74 : DD cX1_change 74 (.putfield 30) 3 77 := ⟨by decide +kernel, rfl⟩
theorem dX1_change_77 : DD cX1_change 77 (.goto 3) 3 80 := ⟨by decide +kernel, rfl⟩
theorem dX1_change_80 : DD cX1_change 80 (.return_) 1 81 := ⟨by decide +kernel, rfl⟩
theorem dX1_shove_0 : DD cX1_shove 0 (.aload_n 0) 1 1 := ⟨by decide +kernel, rfl⟩
theorem dX1_shove_1 : DD cX1_shove 1 (.getfield 9) 3 4 := ⟨by decide +kernel, rfl⟩
theorem dX1_shove_4 : DD cX1_shove 4 (.tableswitch 139 1 5 #[36, 51, 63, 94, 103]) 36 40 := ⟨by decide +kernel, rfl⟩
theorem dX1_shove_40 : DD cX1_shove 40 (.iload 4) 2 42 := ⟨by decide +kernel, rfl⟩
theorem dX1_shove_42 : DD cX1_shove 42 (.iconst 2) 1 43 := ⟨by decide +kernel, rfl⟩
theorem dX1_shove_43 : DD cX1_shove 43 (.if_icmp .lt 10) 3 46 := ⟨by decide +kernel, rfl⟩
theorem dX1_shove_46 : DD cX1_shove 46 (.aload_n 0) 1 47 := ⟨by decide +kernel, rfl⟩
theorem dX1_shove_47 : DD cX1_shove 47 (.getfield 21) 3 50 := ⟨by decide +kernel, rfl⟩
theorem dX1_shove_50 : DD cX1_shove 50 (.goto 4) 3 53 := ⟨by decide +kernel, rfl⟩
theorem dX1_shove_53 : DD cX1_shove 53 (.iconst 0) 1 54 := ⟨by decide +kernel, rfl⟩
theorem dX1_shove_54 : DD cX1_shove 54 (.ireturn) 1 55 := ⟨by decide +kernel, rfl⟩
theorem dX1_shove_55 : DD cX1_shove 55 (.iload_n 2) 1 56 := ⟨by decide +kernel, rfl⟩
theorem dX1_shove_56 : DD cX1_shove 56 (.iconst 2) 1 57 := ⟨by decide +kernel, rfl⟩
theorem dX1_shove_57 : DD cX1_shove 57 (.idiv) 1 58 := ⟨by decide +kernel, rfl⟩
theorem dX1_shove_58 : DD cX1_shove 58 (.ineg) 1 59 := ⟨by decide +kernel, rfl⟩
theorem dX1_shove_59 : DD cX1_shove 59 (.aload_n 0) 1 60 := ⟨by decide +kernel, rfl⟩
theorem dX1_shove_60 : DD cX1_shove 60 (.getfield 21) 3 63 := ⟨by decide +kernel, rfl⟩
theorem dX1_shove_63 : DD cX1_shove 63 (.invokestatic 33) 3 66 := ⟨by decide +kernel, rfl⟩
theorem dX1_shove_66 : DD cX1_shove 66 (.ireturn) 1 67 := ⟨by decide +kernel, rfl⟩
theorem dX1_shove_67 : DD cX1_shove 67 (.iload_n 2) 1 68 := ⟨by decide +kernel, rfl⟩
theorem dX1_shove_68 : DD cX1_shove 68 (.iconst 5) 1 69 := ⟨by decide +kernel, rfl⟩
theorem dX1_shove_69 : DD cX1_shove 69 (.if_icmp .ge 9) 3 72 := ⟨by decide +kernel, rfl⟩
theorem dX1_shove_72 : DD cX1_shove 72 (.iload_n 2) 1 73 := ⟨by decide +kernel, rfl⟩
theorem dX1_shove_73 : DD cX1_shove 73 (.bipush (-5)) 2 75 := ⟨by decide +kernel, rfl⟩
theorem dX1_shove_75 : DD cX1_shove 75 (.if_icmp .gt 17) 3 78 := ⟨by decide +kernel, rfl⟩
theorem dX1_shove_78 : DD cX1_shove 78 (.iload_n 2) 1 79 := ⟨by decide +kernel, rfl⟩
theorem dX1_shove_79 : DD cX1_shove 79 (.iconst 2) 1 80 := ⟨by decide +kernel, rfl⟩
theorem dX1_shove_80 : DD cX1_shove 80 (.idiv) 1 81 := ⟨by decide +kernel, rfl⟩
theorem dX1_shove_81 : DD cX1_shove 81 (.ineg) 1 82 := ⟨by decide +kernel, rfl⟩
theorem dX1_shove_82 : DD cX1_shove 82 (.aload_n 0) 1 83 := ⟨by decide +kernel, rfl⟩
theorem dX1_shove_83 : DD cX1_shove 83 (.getfield 21) 3 86 := ⟨by decide +kernel, rfl⟩
theorem dX1_shove_86 : DD cX1_shove 86 (.invokestatic 33) 3 89 := ⟨by decide +kernel, rfl⟩
theorem dX1_shove_89 : DD cX1_shove 89 (.goto 8) 3 92 := ⟨by decide +kernel, rfl⟩
theorem dX1_shove_92 : DD cX1_shove 92 (.aload_n 0) 1 93 := ⟨by decide +kernel, rfl⟩
theorem dX1_shove_93 : DD cX1_shove 93 (.getfield 21) 3 96 := ⟨by decide +kernel, rfl⟩
theorem dX1_shove_96 : DD cX1_shove 96 (.ineg) 1 97 := ⟨by decide +kernel, rfl⟩
theorem dX1_shove_97 : DD cX1_shove 97 (.ireturn) 1 98 := ⟨by decide +kernel, rfl⟩
theorem dX1_shove_98 : DD cX1_shove 98 (.aload_n 0) 1 99 := ⟨by decide +kernel, rfl⟩
theorem dX1_shove_99 : DD cX1_shove 99 (.iload 4) 2 101 := ⟨by decide +kernel, rfl⟩
theorem dX1_shove_101 : DD cX1_shove 101 (.iload 5) 2 103 := ⟨by decide +kernel, rfl⟩
theorem dX1_shove_103 : DD cX1_shove 103 (.invokevirtual 37) 3 106 := ⟨by decide +kernel, rfl⟩
theorem dX1_shove_106 : DD cX1_shove 106 (.ireturn) 1 107 := ⟨by decide +kernel, rfl⟩
theorem dX1_shove_107 : DD cX1_shove 107 (.aload_n 1) 1 108 := ⟨by decide +kernel, rfl⟩
theorem dX1_shove_108 : DD cX1_shove 108 (.ifnonnull 14) 3 111 := ⟨by decide +kernel, rfl⟩
theorem dX1_shove_111 : DD cX1_shove 111 (.aload_n 0) 1 112 := ⟨by decide +kernel, rfl⟩
theorem dX1_shove_112 : DD cX1_shove 112 (.iload 4) 2 114 := ⟨by decide +kernel, rfl⟩
theorem dX1_shove_114 : DD cX1_shove 114 (.iload 5) 2 116 := ⟨by decide +kernel, rfl⟩
theorem dX1_shove_116 : DD cX1_shove 116 (.invokevirtual 37) 3 119 := ⟨by decide +kernel, rfl⟩
theorem dX1_shove_119 : DD cX1_shove 119 (.goto 23) 3 122 := ⟨by decide +kernel, rfl⟩
theorem dX1_shove_122 : DD cX1_shove 122 (.aload_n 0) 1 123 := ⟨by decide +kernel, rfl⟩
theorem dX1_shove_123 : DD cX1_shove 123 (.aload_n 1) 1 124 := ⟨by decide +kernel, rfl⟩
theorem dX1_shove_124 : DD cX1_shove 124 (.aload_n 1) 1 125 := ⟨by decide +kernel, rfl⟩
theorem dX1_shove_125 : DD cX1_shove 125 (.iload_n 2) 1 126 := ⟨by decide +kernel, rfl⟩
theorem dX1_shove_126 : DD cX1_shove 126 (.iload_n 3) 1 127 := ⟨by decide +kernel, rfl⟩
theorem dX1_shove_127 : DD cX1_shove 127 (.iload 4) 2 129 := ⟨by decide +kernel, rfl⟩
theorem dX1_shove_129 : DD cX1_shove 129 (.iload 5) 2 131 := ⟨by decide +kernel, rfl⟩
theorem dX1_shove_131 : DD cX1_shove 131 (.invokevirtual 40) 3 134 := ⟨by decide +kernel, rfl⟩
theorem dX1_shove_134 : DD cX1_shove 134 (.invokevirtual 46) 3 137 := ⟨by decide +kernel, rfl⟩
theorem dX1_shove_137 : DD cX1_shove 137 (.iload_n 2) 1 138 := ⟨by decide +kernel, rfl⟩
theorem dX1_shove_138 : DD cX1_shove 138 (.iload_n 3) 1 139 := ⟨by decide +kernel, rfl⟩
theorem dX1_shove_139 : DD cX1_shove 139 (.invokevirtual 50) 3 142 := ⟨by decide +kernel, rfl⟩
theorem dX1_shove_142 : DD cX1_shove 142 (.ireturn) 1 143 := ⟨by decide +kernel, rfl⟩
theorem dX1_shove_143 : DD cX1_shove 143 (.iconst 0) 1 144 := ⟨by decide +kernel, rfl⟩
theorem dX1_shove_144 : DD cX1_shove 144 (.ireturn) 1 145 := ⟨by decide +kernel, rfl⟩
theorem dX1_waiterShove_0 : DD cX1_waiterShove 0 (.iload_n 2) 1 1 := ⟨by decide +kernel, rfl⟩
theorem dX1_waiterShove_1 : DD cX1_waiterShove 1 (.bipush 19) 2 3 := ⟨by decide +kernel, rfl⟩
theorem dX1_waiterShove_3 : DD cX1_waiterShove 3 (.if_icmp .le 17) 3 6 := ⟨by decide +kernel, rfl⟩
theorem dX1_waiterShove_6 : DD cX1_waiterShove 6 (.iload_n 1) 1 7 := ⟨by decide +kernel, rfl⟩
theorem dX1_waiterShove_7 : DD cX1_waiterShove 7 (.iconst 1) 1 8 := ⟨by decide +kernel, rfl⟩
theorem dX1_waiterShove_8 : DD cX1_waiterShove 8 (.if_icmp .lt 12) 3 11 := ⟨by decide +kernel, rfl⟩
theorem dX1_waiterShove_11 : DD cX1_waiterShove 11 (.aload_n 0) 1 12 := ⟨by decide +kernel, rfl⟩
theorem dX1_waiterShove_12 : DD cX1_waiterShove 12 (.getfield 21) 3 15 := ⟨by decide +kernel, rfl⟩
theorem dX1_waiterShove_15 : DD cX1_waiterShove 15 (.iconst 3) 1 16 := ⟨by decide +kernel, rfl⟩
theorem dX1_waiterShove_16 : DD cX1_waiterShove 16 (.idiv) 1 17 := ⟨by decide +kernel, rfl⟩
theorem dX1_waiterShove_17 : DD cX1_waiterShove 17 (.goto 4) 3 20 := ⟨by decide +kernel, rfl⟩
theorem dX1_waiterShove_20 : DD cX1_waiterShove 20 (.iconst 0) 1 21 := ⟨by decide +kernel, rfl⟩
theorem dX1_waiterShove_21 : DD cX1_waiterShove 21 (.ireturn) 1 22 := ⟨by decide +kernel, rfl⟩
theorem dX1_deedShove_0 : DD cX1_deedShove 0 (.iload_n 1) 1 1 := ⟨by decide +kernel, rfl⟩
theorem dX1_deedShove_1 : DD cX1_deedShove 1 (.tableswitch 70 0 4 #[35, 40, 52, 70, 58]) 35 36 := ⟨by decide +kernel, rfl⟩
theorem dX1_deedShove_36 : DD cX1_deedShove 36 (.aload_n 0) 1 37 := ⟨by decide +kernel, rfl⟩
theorem dX1_deedShove_37 : DD cX1_deedShove 37 (.getfield 21) 3 40 := ⟨by decide +kernel, rfl⟩
theorem dX1_deedShove_40 : DD cX1_deedShove 40 (.ireturn) 1 41 := ⟨by decide +kernel, rfl⟩
theorem dX1_deedShove_41 : DD cX1_deedShove 41 (.iload_n 2) 1 42 := ⟨by decide +kernel, rfl⟩
theorem dX1_deedShove_42 : DD cX1_deedShove 42 (.iconst 2) 1 43 := ⟨by decide +kernel, rfl⟩
theorem dX1_deedShove_43 : DD cX1_deedShove 43 (.idiv) 1 44 := ⟨by decide +kernel, rfl⟩
theorem dX1_deedShove_44 : DD cX1_deedShove 44 (.ineg) 1 45 := ⟨by decide +kernel, rfl⟩
theorem dX1_deedShove_45 : DD cX1_deedShove 45 (.aload_n 0) 1 46 := ⟨by decide +kernel, rfl⟩
theorem dX1_deedShove_46 : DD cX1_deedShove 46 (.getfield 21) 3 49 := ⟨by decide +kernel, rfl⟩
theorem dX1_deedShove_49 : DD cX1_deedShove 49 (.invokestatic 33) 3 52 := ⟨by decide +kernel, rfl⟩
theorem dX1_deedShove_52 : DD cX1_deedShove 52 (.ireturn) 1 53 := ⟨by decide +kernel, rfl⟩
theorem dX1_deedShove_53 : DD cX1_deedShove 53 (.aload_n 0) 1 54 := ⟨by decide +kernel, rfl⟩
theorem dX1_deedShove_54 : DD cX1_deedShove 54 (.getfield 21) 3 57 := ⟨by decide +kernel, rfl⟩
theorem dX1_deedShove_57 : DD cX1_deedShove 57 (.ineg) 1 58 := ⟨by decide +kernel, rfl⟩
theorem dX1_deedShove_58 : DD cX1_deedShove 58 (.ireturn) 1 59 := ⟨by decide +kernel, rfl⟩
theorem dX1_deedShove_59 : DD cX1_deedShove 59 (.iload_n 3) 1 60 := ⟨by decide +kernel, rfl⟩
theorem dX1_deedShove_60 : DD cX1_deedShove 60 (.iconst 2) 1 61 := ⟨by decide +kernel, rfl⟩
theorem dX1_deedShove_61 : DD cX1_deedShove 61 (.idiv) 1 62 := ⟨by decide +kernel, rfl⟩
theorem dX1_deedShove_62 : DD cX1_deedShove 62 (.ineg) 1 63 := ⟨by decide +kernel, rfl⟩
theorem dX1_deedShove_63 : DD cX1_deedShove 63 (.aload_n 0) 1 64 := ⟨by decide +kernel, rfl⟩
theorem dX1_deedShove_64 : DD cX1_deedShove 64 (.getfield 21) 3 67 := ⟨by decide +kernel, rfl⟩
theorem dX1_deedShove_67 : DD cX1_deedShove 67 (.invokestatic 33) 3 70 := ⟨by decide +kernel, rfl⟩
theorem dX1_deedShove_70 : DD cX1_deedShove 70 (.ireturn) 1 71 := ⟨by decide +kernel, rfl⟩
theorem dX1_deedShove_71 : DD cX1_deedShove 71 (.iconst 0) 1 72 := ⟨by decide +kernel, rfl⟩
theorem dX1_deedShove_72 : DD cX1_deedShove 72 (.ireturn) 1 73 := ⟨by decide +kernel, rfl⟩
theorem dX2_init_0 : DD cX2_init 0 (.aload_n 0) 1 1 := ⟨by decide +kernel, rfl⟩
theorem dX2_init_1 : DD cX2_init 1 (.invokespecial 3) 3 4 := ⟨by decide +kernel, rfl⟩
theorem dX2_init_4 : DD cX2_init 4 (.aload_n 0) 1 5 := ⟨by decide +kernel, rfl⟩
theorem dX2_init_5 : DD cX2_init 5 (.iconst 0) 1 6 := ⟨by decide +kernel, rfl⟩
theorem dX2_init_6 : DD cX2_init 6 (.putfield 9) 3 9 := ⟨by decide +kernel, rfl⟩
theorem dX2_init_9 : DD cX2_init 9 (.aload_n 0) 1 10 := ⟨by decide +kernel, rfl⟩
theorem dX2_init_10 : DD cX2_init 10 (.iconst 0) 1 11 := ⟨by decide +kernel, rfl⟩
theorem dX2_init_11 : DD cX2_init 11 (.putfield 15) 3 14 := ⟨by decide +kernel, rfl⟩
theorem dX2_init_14 : DD cX2_init 14 (.aload_n 0) 1 15 := ⟨by decide +kernel, rfl⟩
theorem dX2_init_15 : DD cX2_init 15 (.bipush 40) 2 17 := ⟨by decide +kernel, rfl⟩
theorem dX2_init_17 : DD cX2_init 17 (.newarray .long) 2 19 := ⟨by decide +kernel, rfl⟩
theorem dX2_init_19 : DD cX2_init 19 (.putfield 18) 3 22 := ⟨by decide +kernel, rfl⟩
theorem dX2_init_22 : DD cX2_init 22 (.return_) 1 23 := ⟨by decide +kernel, rfl⟩
theorem dX2_begin_0 : DD cX2_begin 0 (.aload_n 0) 1 1 := ⟨by decide +kernel, rfl⟩
theorem dX2_begin_1 : DD cX2_begin 1 (.iload_n 1) 1 2 := ⟨by decide +kernel, rfl⟩
theorem dX2_begin_2 : DD cX2_begin 2 (.putfield 9) 3 5 := ⟨by decide +kernel, rfl⟩
theorem dX2_begin_5 : DD cX2_begin 5 (.aload_n 0) 1 6 := ⟨by decide +kernel, rfl⟩
theorem dX2_begin_6 : DD cX2_begin 6 (.iload_n 2) 1 7 := ⟨by decide +kernel, rfl⟩
theorem dX2_begin_7 : DD cX2_begin 7 (.putfield 15) 3 10 := ⟨by decide +kernel, rfl⟩
theorem dX2_begin_10 : DD cX2_begin 10 (.iconst 0) 1 11 := ⟨by decide +kernel, rfl⟩
theorem dX2_begin_11 : DD cX2_begin 11 (.istore_n 3) 1 12 := ⟨by decide +kernel, rfl⟩
theorem dX2_begin_12 : DD cX2_begin 12 (.iload_n 3) 1 13 := ⟨by decide +kernel, rfl⟩
theorem dX2_begin_13 : DD cX2_begin 13 (.bipush 40) 2 15 := ⟨by decide +kernel, rfl⟩
theorem dX2_begin_15 : DD cX2_begin 15 (.if_icmp .ge 16) 3 18 := ⟨by decide +kernel, rfl⟩
theorem dX2_begin_18 : DD cX2_begin 18 (.aload_n 0) 1 19 := ⟨by decide +kernel, rfl⟩
theorem dX2_begin_19 : DD cX2_begin 19 (.getfield 18) 3 22 := ⟨by decide +kernel, rfl⟩
theorem dX2_begin_22 : DD cX2_begin 22 (.iload_n 3) 1 23 := ⟨by decide +kernel, rfl⟩
theorem dX2_begin_23 : DD cX2_begin 23 (.lconst 0) 1 24 := ⟨by decide +kernel, rfl⟩
theorem dX2_begin_24 : DD cX2_begin 24 (.lastore) 1 25 := ⟨by decide +kernel, rfl⟩
theorem dX2_begin_25 : DD cX2_begin 25 (.iinc 3 1) 3 28 := ⟨by decide +kernel, rfl⟩
theorem dX2_begin_28 : DD cX2_begin 28 (.goto (-16)) 3 31 := ⟨by decide +kernel, rfl⟩
theorem dX2_begin_31 : DD cX2_begin 31 (.return_) 1 32 := ⟨by decide +kernel, rfl⟩
theorem dX2_isMissing_0 : DD cX2_isMissing 0 (.aload_n 0) 1 1 := ⟨by decide +kernel, rfl⟩
theorem dX2_isMissing_1 : DD cX2_isMissing 1 (.getfield 9) 3 4 := ⟨by decide +kernel, rfl⟩
theorem dX2_isMissing_4 : DD cX2_isMissing 4 (.ifCond .ne 7) 3 7 := ⟨by decide +kernel, rfl⟩
theorem dX2_isMissing_7 : DD cX2_isMissing 7 (.iconst 1) 1 8 := ⟨by decide +kernel, rfl⟩
theorem dX2_isMissing_8 : DD cX2_isMissing 8 (.goto 4) 3 11 := ⟨by decide +kernel, rfl⟩
theorem dX2_isMissing_11 : DD cX2_isMissing 11 (.iconst 0) 1 12 := ⟨by decide +kernel, rfl⟩
theorem dX2_isMissing_12 : DD cX2_isMissing 12 (.ireturn) 1 13 := ⟨by decide +kernel, rfl⟩
theorem dX2_put_0 : DD cX2_put 0 (.iload_n 1) 1 1 := ⟨by decide +kernel, rfl⟩
theorem dX2_put_1 : DD cX2_put 1 (.iconst 0) 1 2 := ⟨by decide +kernel, rfl⟩
theorem dX2_put_2 : DD cX2_put 2 (.aload_n 0) 1 3 := ⟨by decide +kernel, rfl⟩
theorem dX2_put_3 : DD cX2_put 3 (.getfield 15) 3 6 := ⟨by decide +kernel, rfl⟩
theorem dX2_put_6 : DD cX2_put 6 (.iconst 1) 1 7 := ⟨by decide +kernel, rfl⟩
theorem dX2_put_7 : DD cX2_put 7 (.isub) 1 8 := ⟨by decide +kernel, rfl⟩
theorem dX2_put_8 : DD cX2_put 8 (.invokestatic 22) 3 11 := ⟨by decide +kernel, rfl⟩
theorem dX2_put_11 : DD cX2_put 11 (.ifCond .eq 42) 3 14 := ⟨by decide +kernel, rfl⟩
theorem dX2_put_14 : DD cX2_put 14 (.aload_n 0) 1 15 := ⟨by decide +kernel, rfl⟩
theorem dX2_put_15 : DD cX2_put 15 (.getfield 18) 3 18 := ⟨by decide +kernel, rfl⟩
theorem dX2_put_18 : DD cX2_put 18 (.iload_n 1) 1 19 := ⟨by decide +kernel, rfl⟩
theorem dX2_put_19 : DD cX2_put 19 (.aload_n 0) 1 20 := ⟨by decide +kernel, rfl⟩
theorem dX2_put_20 : DD cX2_put 20 (.getfield 9) 3 23 := ⟨by decide +kernel, rfl⟩
theorem dX2_put_23 : DD cX2_put 23 (.bipush 8) 2 25 := ⟨by decide +kernel, rfl⟩
theorem dX2_put_25 : DD cX2_put 25 (.if_icmp .ne 10) 3 28 := ⟨by decide +kernel, rfl⟩
theorem dX2_put_28 : DD cX2_put 28 (.lload_n 2) 1 29 := ⟨by decide +kernel, rfl⟩
theorem dX2_put_29 : DD cX2_put 29 (.l2i) 1 30 := ⟨by decide +kernel, rfl⟩
theorem dX2_put_30 : DD cX2_put 30 (.i2b) 1 31 := ⟨by decide +kernel, rfl⟩
theorem dX2_put_31 : DD cX2_put 31 (.i2l) 1 32 := ⟨by decide +kernel, rfl⟩
theorem dX2_put_32 : DD cX2_put 32 (.goto 20) 3 35 := ⟨by decide +kernel, rfl⟩
theorem dX2_put_35 : DD cX2_put 35 (.aload_n 0) 1 36 := ⟨by decide +kernel, rfl⟩
theorem dX2_put_36 : DD cX2_put 36 (.getfield 9) 3 39 := ⟨by decide +kernel, rfl⟩
theorem dX2_put_39 : DD cX2_put 39 (.bipush 16) 2 41 := ⟨by decide +kernel, rfl⟩
theorem dX2_put_41 : DD cX2_put 41 (.if_icmp .ne 10) 3 44 := ⟨by decide +kernel, rfl⟩
theorem dX2_put_44 : DD cX2_put 44 (.lload_n 2) 1 45 := ⟨by decide +kernel, rfl⟩
theorem dX2_put_45 : DD cX2_put 45 (.l2i) 1 46 := ⟨by decide +kernel, rfl⟩
theorem dX2_put_46 : DD cX2_put 46 (.i2s) 1 47 := ⟨by decide +kernel, rfl⟩
theorem dX2_put_47 : DD cX2_put 47 (.i2l) 1 48 := ⟨by decide +kernel, rfl⟩
theorem dX2_put_48 : DD cX2_put 48 (.goto 4) 3 51 := ⟨by decide +kernel, rfl⟩
theorem dX2_put_51 : DD cX2_put 51 (.lload_n 2) 1 52 := ⟨by decide +kernel, rfl⟩
theorem dX2_put_52 : DD cX2_put 52 (.lastore) 1 53 := ⟨by decide +kernel, rfl⟩
theorem dX2_put_53 : DD cX2_put 53 (.return_) 1 54 := ⟨by decide +kernel, rfl⟩
theorem dX2_hasRow_0 : DD cX2_hasRow 0 (.iload_n 1) 1 1 := ⟨by decide +kernel, rfl⟩
theorem dX2_hasRow_1 : DD cX2_hasRow 1 (.ifCond .lt 29) 3 4 := ⟨by decide +kernel, rfl⟩
theorem dX2_hasRow_4 : DD cX2_hasRow 4 (.iload_n 2) 1 5 := ⟨by decide +kernel, rfl⟩
theorem dX2_hasRow_5 : DD cX2_hasRow 5 (.ifCond .lt 25) 3 8 := ⟨by decide +kernel, rfl⟩
theorem dX2_hasRow_8 : DD cX2_hasRow 8 (.iload_n 1) 1 9 := ⟨by decide +kernel, rfl⟩
theorem dX2_hasRow_9 : DD cX2_hasRow 9 (.aload_n 0) 1 10 := ⟨by decide +kernel, rfl⟩
theorem dX2_hasRow_10 : DD cX2_hasRow 10 (.getfield 15) 3 13 := ⟨by decide +kernel, rfl⟩
theorem dX2_hasRow_13 : DD cX2_hasRow 13 (.if_icmp .gt 17) 3 16 := ⟨by decide +kernel, rfl⟩
theorem dX2_hasRow_16 : DD cX2_hasRow 16 (.iload_n 2) 1 17 := ⟨by decide +kernel, rfl⟩
theorem dX2_hasRow_17 : DD cX2_hasRow 17 (.aload_n 0) 1 18 := ⟨by decide +kernel, rfl⟩
theorem dX2_hasRow_18 : DD cX2_hasRow 18 (.getfield 15) 3 21 := ⟨by decide +kernel, rfl⟩
theorem dX2_hasRow_21 : DD cX2_hasRow 21 (.iload_n 1) 1 22 := ⟨by decide +kernel, rfl⟩
theorem dX2_hasRow_22 : DD cX2_hasRow 22 (.isub) 1 23 := ⟨by decide +kernel, rfl⟩
theorem dX2_hasRow_23 : DD cX2_hasRow 23 (.if_icmp .gt 7) 3 26 := ⟨by decide +kernel, rfl⟩
theorem dX2_hasRow_26 : DD cX2_hasRow 26 (.iconst 1) 1 27 := ⟨by decide +kernel, rfl⟩
theorem dX2_hasRow_27 : DD cX2_hasRow 27 (.goto 4) 3 30 := ⟨by decide +kernel, rfl⟩
theorem dX2_hasRow_30 : DD cX2_hasRow 30 (.iconst 0) 1 31 := ⟨by decide +kernel, rfl⟩
theorem dX2_hasRow_31 : DD cX2_hasRow 31 (.ireturn) 1 32 := ⟨by decide +kernel, rfl⟩
theorem dX3_init_0 : DD cX3_init 0 (.aload_n 0) 1 1 := ⟨by decide +kernel, rfl⟩
theorem dX3_init_1 : DD cX3_init 1 (.invokespecial 1) 3 4 := ⟨by decide +kernel, rfl⟩
theorem dX3_init_4 : DD cX3_init 4 (.return_) 1 5 := ⟨by decide +kernel, rfl⟩
theorem dX3_begin_0 : DD cX3_begin 0 (.aload_n 0) 1 1 := ⟨by decide +kernel, rfl⟩
theorem dX3_begin_1 : DD cX3_begin 1 (.iconst 0) 1 2 := ⟨by decide +kernel, rfl⟩
theorem dX3_begin_2 : DD cX3_begin 2 (.putfield 7) 3 5 := ⟨by decide +kernel, rfl⟩
theorem dX3_begin_5 : DD cX3_begin 5 (.aload_n 0) 1 6 := ⟨by decide +kernel, rfl⟩
theorem dX3_begin_6 : DD cX3_begin 6 (.iconst 0) 1 7 := ⟨by decide +kernel, rfl⟩
theorem dX3_begin_7 : DD cX3_begin 7 (.putfield 13) 3 10 := ⟨by decide +kernel, rfl⟩
theorem dX3_begin_10 : DD cX3_begin 10 (.aload_n 0) 1 11 := ⟨by decide +kernel, rfl⟩
theorem dX3_begin_11 : DD cX3_begin 11 (.iload_n 1) 1 12 := ⟨by decide +kernel, rfl⟩
theorem dX3_begin_12 : DD cX3_begin 12 (.putfield 16) 3 15 := ⟨by decide +kernel, rfl⟩
theorem dX3_begin_15 : DD cX3_begin 15 (.return_) 1 16 := ⟨by decide +kernel, rfl⟩
theorem dX3_takeFrom_0 : DD cX3_takeFrom 0 (.aload_n 0) 1 1 := ⟨by decide +kernel, rfl⟩
theorem dX3_takeFrom_1 : DD cX3_takeFrom 1 (.aload_n 1) 1 2 := ⟨by decide +kernel, rfl⟩
theorem dX3_takeFrom_2 : DD cX3_takeFrom 2 (.getfield 7) 3 5 := ⟨by decide +kernel, rfl⟩
theorem dX3_takeFrom_5 : DD cX3_takeFrom 5 (.putfield 7) 3 8 := ⟨by decide +kernel, rfl⟩
theorem dX3_takeFrom_8 : DD cX3_takeFrom 8 (.aload_n 0) 1 9 := ⟨by decide +kernel, rfl⟩
theorem dX3_takeFrom_9 : DD cX3_takeFrom 9 (.aload_n 1) 1 10 := ⟨by decide +kernel, rfl⟩
theorem dX3_takeFrom_10 : DD cX3_takeFrom 10 (.getfield 13) 3 13 := ⟨by decide +kernel, rfl⟩
theorem dX3_takeFrom_13 : DD cX3_takeFrom 13 (.putfield 13) 3 16 := ⟨by decide +kernel, rfl⟩
theorem dX3_takeFrom_16 : DD cX3_takeFrom 16 (.aload_n 0) 1 17 := ⟨by decide +kernel, rfl⟩
theorem dX3_takeFrom_17 : DD cX3_takeFrom 17 (.aload_n 1) 1 18 := ⟨by decide +kernel, rfl⟩
theorem dX3_takeFrom_18 : DD cX3_takeFrom 18 (.getfield 16) 3 21 := ⟨by decide +kernel, rfl⟩
theorem dX3_takeFrom_21 : DD cX3_takeFrom 21 (.putfield 16) 3 24 := ⟨by decide +kernel, rfl⟩
theorem dX3_takeFrom_24 : DD cX3_takeFrom 24 (.return_) 1 25 := ⟨by decide +kernel, rfl⟩
theorem dX3_cost_0 : DD cX3_cost 0 (.iload_n 0) 1 1 := ⟨by decide +kernel, rfl⟩
theorem dX3_cost_1 : DD cX3_cost 1 (.ifCond .ne 7) 3 4 := ⟨by decide +kernel, rfl⟩
theorem dX3_cost_4 : DD cX3_cost 4 (.iconst 0) 1 5 := ⟨by decide +kernel, rfl⟩
theorem dX3_cost_5 : DD cX3_cost 5 (.goto 12) 3 8 := ⟨by decide +kernel, rfl⟩
theorem dX3_cost_8 : DD cX3_cost 8 (.iload_n 0) 1 9 := ⟨by decide +kernel, rfl⟩
theorem dX3_cost_9 : DD cX3_cost 9 (.invokestatic 19) 3 12 := ⟨by decide +kernel, rfl⟩
theorem dX3_cost_12 : DD cX3_cost 12 (.bipush 10) 2 14 := ⟨by decide +kernel, rfl⟩
theorem dX3_cost_14 : DD cX3_cost 14 (.idiv) 1 15 := ⟨by decide +kernel, rfl⟩
theorem dX3_cost_15 : DD cX3_cost 15 (.iconst 1) 1 16 := ⟨by decide +kernel, rfl⟩
theorem dX3_cost_16 : DD cX3_cost 16 (.iadd) 1 17 := ⟨by decide +kernel, rfl⟩
theorem dX3_cost_17 : DD cX3_cost 17 (.ireturn) 1 18 := ⟨by decide +kernel, rfl⟩
theorem dX3_decide_0 : DD cX3_decide 0 (.aload_n 0) 1 1 := ⟨by decide +kernel, rfl⟩
theorem dX3_decide_1 : DD cX3_decide 1 (.iload_n 1) 1 2 := ⟨by decide +kernel, rfl⟩
theorem dX3_decide_2 : DD cX3_decide 2 (.putfield 25) 3 5 := ⟨by decide +kernel, rfl⟩
theorem dX3_decide_5 : DD cX3_decide 5 (.aload_n 0) 1 6 := ⟨by decide +kernel, rfl⟩
theorem dX3_decide_6 : DD cX3_decide 6 (.iload_n 2) 1 7 := ⟨by decide +kernel, rfl⟩
theorem dX3_decide_7 : DD cX3_decide 7 (.putfield 28) 3 10 := ⟨by decide +kernel, rfl⟩
theorem dX3_decide_10 : DD cX3_decide 10 (.aload_n 0) 1 11 := ⟨by decide +kernel, rfl⟩
theorem dX3_decide_11 : DD cX3_decide 11 (.dup) 1 12 := ⟨by decide +kernel, rfl⟩
theorem dX3_decide_12 : DD cX3_decide 12 (.getfield 16) 3 15 := ⟨by decide +kernel, rfl⟩
theorem dX3_decide_15 : DD cX3_decide 15 (.iload_n 2) 1 16 := ⟨by decide +kernel, rfl⟩
theorem dX3_decide_16 : DD cX3_decide 16 (.invokestatic 31) 3 19 := ⟨by decide +kernel, rfl⟩
theorem dX3_decide_19 : DD cX3_decide 19 (.isub) 1 20 := ⟨by decide +kernel, rfl⟩
theorem dX3_decide_20 : DD cX3_decide 20 (.putfield 16) 3 23 := ⟨by decide +kernel, rfl⟩
theorem dX3_decide_23 : DD cX3_decide 23 (.return_) 1 24 := ⟨by decide +kernel, rfl⟩
theorem dX3_step_0 : DD cX3_step 0 (.aload_n 0) 1 1 := ⟨by decide +kernel, rfl⟩
theorem dX3_step_1 : DD cX3_step 1 (.dup) 1 2 := ⟨by decide +kernel, rfl⟩
theorem dX3_step_2 : DD cX3_step 2 (.getfield 7) 3 5 := ⟨by decide +kernel, rfl⟩
theorem dX3_step_5 : DD cX3_step 5 (.aload_n 0) 1 6 := ⟨by decide +kernel, rfl⟩
theorem dX3_step_6 : DD cX3_step 6 (.getfield 25) 3 9 := ⟨by decide +kernel, rfl⟩
theorem dX3_step_9 : DD cX3_step 9 (.aload_n 0) 1 10 := ⟨by decide +kernel, rfl⟩
theorem dX3_step_10 : DD cX3_step 10 (.getfield 7) 3 13 := ⟨by decide +kernel, rfl⟩
theorem dX3_step_13 : DD cX3_step 13 (.isub) 1 14 := ⟨by decide +kernel, rfl⟩
theorem dX3_step_14 : DD cX3_step 14 (.iload_n 1) 1 15 := ⟨by decide +kernel, rfl⟩
theorem dX3_step_15 : DD cX3_step 15 (.invokestatic 34) 3 18 := ⟨by decide +kernel, rfl⟩
theorem dX3_step_18 : DD cX3_step 18 (.iadd) 1 19 := ⟨by decide +kernel, rfl⟩
theorem dX3_step_19 : DD cX3_step 19 (.putfield 7) 3 22 := ⟨by decide +kernel, rfl⟩
theorem dX3_step_22 : DD cX3_step 22 (.return_) 1 23 := ⟨by decide +kernel, rfl⟩
theorem dX3_sway_0 : DD cX3_sway 0 (.aload_n 0) 1 1 := ⟨by decide +kernel, rfl⟩
theorem dX3_sway_1 : DD cX3_sway 1 (.dup) 1 2 := ⟨by decide +kernel, rfl⟩
theorem dX3_sway_2 : DD cX3_sway 2 (.getfield 13) 3 5 := ⟨by decide +kernel, rfl⟩
theorem dX3_sway_5 : DD cX3_sway 5 (.iload_n 1) 1 6 := ⟨by decide +kernel, rfl⟩
theorem dX3_sway_6 : DD cX3_sway 6 (.aload_n 0) 1 7 := ⟨by decide +kernel, rfl⟩
theorem dX3_sway_7 : DD cX3_sway 7 (.getfield 7) 3 10 := ⟨by decide +kernel, rfl⟩
theorem dX3_sway_10 : DD cX3_sway 10 (.isub) 1 11 := ⟨by decide +kernel, rfl⟩
theorem dX3_sway_11 : DD cX3_sway 11 (.iconst 4) 1 12 := ⟨by decide +kernel, rfl⟩
theorem dX3_sway_12 : DD cX3_sway 12 (.idiv) 1 13 := ⟨by decide +kernel, rfl⟩
theorem dX3_sway_13 : DD cX3_sway 13 (.iadd) 1 14 := ⟨by decide +kernel, rfl⟩
theorem dX3_sway_14 : DD cX3_sway 14 (.putfield 13) 3 17 := ⟨by decide +kernel, rfl⟩
theorem dX3_sway_17 : DD cX3_sway 17 (.aload_n 0) 1 18 := ⟨by decide +kernel, rfl⟩
theorem dX3_sway_18 : DD cX3_sway 18 (.dup) 1 19 := ⟨by decide +kernel, rfl⟩
theorem dX3_sway_19 : DD cX3_sway 19 (.getfield 13) 3 22 := ⟨by decide +kernel, rfl⟩
theorem dX3_sway_22 : DD cX3_sway 22 (.aload_n 0) 1 23 := ⟨by decide +kernel, rfl⟩
theorem dX3_sway_23 : DD cX3_sway 23 (.getfield 13) 3 26 := ⟨by decide +kernel, rfl⟩
theorem dX3_sway_26 : DD cX3_sway 26 (.bipush 8) 2 28 := ⟨by decide +kernel, rfl⟩
theorem dX3_sway_28 : DD cX3_sway 28 (.idiv) 1 29 := ⟨by decide +kernel, rfl⟩
theorem dX3_sway_29 : DD cX3_sway 29 (.isub) 1 30 := ⟨by decide +kernel, rfl⟩
theorem dX3_sway_30 : DD cX3_sway 30 (.putfield 13) 3 33 := ⟨by decide +kernel, rfl⟩
theorem dX3_sway_33 : DD cX3_sway 33 (.return_) 1 34 := ⟨by decide +kernel, rfl⟩
theorem dX4_init_0 : DD cX4_init 0 (.aload_n 0) 1 1 := ⟨by decide +kernel, rfl⟩
theorem dX4_init_1 : DD cX4_init 1 (.invokespecial 3) 3 4 := ⟨by decide +kernel, rfl⟩
theorem dX4_init_4 : DD cX4_init 4 (.aload_n 0) 1 5 := ⟨by decide +kernel, rfl⟩
theorem dX4_init_5 : DD cX4_init 5 (.bipush 100) 2 7 := ⟨by decide +kernel, rfl⟩
theorem dX4_init_7 : DD cX4_init 7 (.newarray .int) 2 9 := ⟨by decide +kernel, rfl⟩
theorem dX4_init_9 : DD cX4_init 9 (.putfield 9) 3 12 := ⟨by decide +kernel, rfl⟩
theorem dX4_init_12 : DD cX4_init 12 (.aload_n 0) 1 13 := ⟨by decide +kernel, rfl⟩
theorem dX4_init_13 : DD cX4_init 13 (.iconst 0) 1 14 := ⟨by decide +kernel, rfl⟩
theorem dX4_init_14 : DD cX4_init 14 (.putfield 15) 3 17 := ⟨by decide +kernel, rfl⟩
theorem dX4_init_17 : DD cX4_init 17 (.aload_n 0) 1 18 := ⟨by decide +kernel, rfl⟩
theorem dX4_init_18 : DD cX4_init 18 (.iconst 0) 1 19 := ⟨by decide +kernel, rfl⟩
theorem dX4_init_19 : DD cX4_init 19 (.putfield 19) 3 22 := ⟨by decide +kernel, rfl⟩
theorem dX4_init_22 : DD cX4_init 22 (.aload_n 0) 1 23 := ⟨by decide +kernel, rfl⟩
theorem dX4_init_23 : DD cX4_init 23 (.iconst 0) 1 24 := ⟨by decide +kernel, rfl⟩
theorem dX4_init_24 : DD cX4_init 24 (.putfield 22) 3 27 := ⟨by decide +kernel, rfl⟩
theorem dX4_init_27 : DD cX4_init 27 (.aload_n 0) 1 28 := ⟨by decide +kernel, rfl⟩
theorem dX4_init_28 : DD cX4_init 28 (.iconst (-1)) 1 29 := ⟨by decide +kernel, rfl⟩
theorem dX4_init_29 : DD cX4_init 29 (.putfield 25) 3 32 := ⟨by decide +kernel, rfl⟩
theorem dX4_init_32 : DD cX4_init 32 (.aload_n 0) 1 33 := ⟨by decide +kernel, rfl⟩
theorem dX4_init_33 : DD cX4_init 33 (.iconst 0) 1 34 := ⟨by decide +kernel, rfl⟩
theorem dX4_init_34 : DD cX4_init 34 (.putfield 28) 3 37 := ⟨by decide +kernel, rfl⟩
theorem dX4_init_37 : DD cX4_init 37 (.return_) 1 38 := ⟨by decide +kernel, rfl⟩
theorem dX4_addByte_0 : DD cX4_addByte 0 (.aload_n 0) 1 1 := ⟨by decide +kernel, rfl⟩
theorem dX4_addByte_1 : DD cX4_addByte 1 (.getfield 15) 3 4 := ⟨by decide +kernel, rfl⟩
theorem dX4_addByte_4 : DD cX4_addByte 4 (.bipush 100) 2 6 := ⟨by decide +kernel, rfl⟩
theorem dX4_addByte_6 : DD cX4_addByte 6 (.if_icmp .ge 23) 3 9 := ⟨by decide +kernel, rfl⟩
theorem dX4_addByte_9 : DD cX4_addByte 9 (.aload_n 0) 1 10 := ⟨by decide +kernel, rfl⟩
theorem dX4_addByte_10 : DD cX4_addByte 10 (.getfield 9) 3 13 := ⟨by decide +kernel, rfl⟩
theorem dX4_addByte_13 : DD cX4_addByte 13 (.aload_n 0) 1 14 := ⟨by decide +kernel, rfl⟩
theorem dX4_addByte_14 : DD cX4_addByte 14 (.getfield 15) 3 17 := ⟨by decide +kernel, rfl⟩
theorem dX4_addByte_17 : DD cX4_addByte 17 (.iload_n 1) 1 18 := ⟨by decide +kernel, rfl⟩
theorem dX4_addByte_18 : DD cX4_addByte 18 (.iastore) 1 19 := ⟨by decide +kernel, rfl⟩
theorem dX4_addByte_19 : DD cX4_addByte 19 (.aload_n 0) 1 20 := ⟨by decide +kernel, rfl⟩
theorem dX4_addByte_20 : DD cX4_addByte 20 (.dup) 1 21 := ⟨by decide +kernel, rfl⟩
theorem dX4_addByte_21 : DD cX4_addByte 21 (.getfield 15) 3 24 := ⟨by decide +kernel, rfl⟩
theorem dX4_addByte_24 : DD cX4_addByte 24 (.iconst 1) 1 25 := ⟨by decide +kernel, rfl⟩
theorem dX4_addByte_25 : DD cX4_addByte 25 (.iadd) 1 26 := ⟨by decide +kernel, rfl⟩
theorem dX4_addByte_26 : DD cX4_addByte 26 (.putfield 15) 3 29 := ⟨by decide +kernel, rfl⟩
theorem dX4_addByte_29 : DD cX4_addByte 29 (.return_) 1 30 := ⟨by decide +kernel, rfl⟩
theorem dX4_toWay_0 : DD cX4_toWay 0 (.new 31) 3 3 := ⟨by decide +kernel, rfl⟩
theorem dX4_toWay_3 : DD cX4_toWay 3 (.dup) 1 4 := ⟨by decide +kernel, rfl⟩
theorem dX4_toWay_4 : DD cX4_toWay 4 (.invokespecial 33) 3 7 := ⟨by decide +kernel, rfl⟩
theorem dX4_toWay_7 : DD cX4_toWay 7 (.astore_n 1) 1 8 := ⟨by decide +kernel, rfl⟩
theorem dX4_toWay_8 : DD cX4_toWay 8 (.aload_n 0) 1 9 := ⟨by decide +kernel, rfl⟩
theorem dX4_toWay_9 : DD cX4_toWay 9 (.iconst 0) 1 10 := ⟨by decide +kernel, rfl⟩
theorem dX4_toWay_10 : DD cX4_toWay 10 (.putfield 22) 3 13 := ⟨by decide +kernel, rfl⟩
theorem dX4_toWay_13 : DD cX4_toWay 13 (.aload_n 0) 1 14 := ⟨by decide +kernel, rfl⟩
theorem dX4_toWay_14 : DD cX4_toWay 14 (.invokevirtual 34) 3 17 := ⟨by decide +kernel, rfl⟩
theorem dX4_toWay_17 : DD cX4_toWay 17 (.iconst 0) 1 18 := ⟨by decide +kernel, rfl⟩
theorem dX4_toWay_18 : DD cX4_toWay 18 (.istore_n 2) 1 19 := ⟨by decide +kernel, rfl⟩
theorem dX4_toWay_19 : DD cX4_toWay 19 (.iload_n 2) 1 20 := ⟨by decide +kernel, rfl⟩
theorem dX4_toWay_20 : DD cX4_toWay 20 (.bipush 6) 2 22 := ⟨by decide +kernel, rfl⟩
theorem dX4_toWay_22 : DD cX4_toWay 22 (.if_icmp .ge 44) 3 25 := ⟨by decide +kernel, rfl⟩
theorem dX4_toWay_25 : DD cX4_toWay 25 (.aload_n 0) 1 26 := ⟨by decide +kernel, rfl⟩
theorem dX4_toWay_26 : DD cX4_toWay 26 (.aload_n 1) 1 27 := ⟨by decide +kernel, rfl⟩
theorem dX4_toWay_27 : DD cX4_toWay 27 (.invokevirtual 37) 3 30 := ⟨by decide +kernel, rfl⟩
theorem dX4_toWay_30 : DD cX4_toWay 30 (.ifCond .ne 5) 3 33 := ⟨by decide +kernel, rfl⟩
theorem dX4_toWay_33 : DD cX4_toWay 33 (.aconst_null) 1 34 := ⟨by decide +kernel, rfl⟩
theorem dX4_toWay_34 : DD cX4_toWay 34 (.areturn) 1 35 := ⟨by decide +kernel, rfl⟩
theorem dX4_toWay_35 : DD cX4_toWay 35 (.aload_n 0) 1 36 := ⟨by decide +kernel, rfl⟩
theorem dX4_toWay_36 : DD cX4_toWay 36 (.getfield 25) 3 39 := ⟨by decide +kernel, rfl⟩
theorem dX4_toWay_39 : DD cX4_toWay 39 (.iconst (-1)) 1 40 := ⟨by decide +kernel, rfl⟩
theorem dX4_toWay_40 : DD cX4_toWay 40 (.if_icmp .ne 5) 3 43 := ⟨by decide +kernel, rfl⟩
theorem dX4_toWay_43 : DD cX4_toWay 43 (.aload_n 1) 1 44 := ⟨by decide +kernel, rfl⟩
theorem dX4_toWay_44 : DD cX4_toWay 44 (.areturn) 1 45 := ⟨by decide +kernel, rfl⟩
theorem dX4_toWay_45 : DD cX4_toWay 45 (.aload_n 0) 1 46 := ⟨by decide +kernel, rfl⟩
theorem dX4_toWay_46 : DD cX4_toWay 46 (.getfield 25) 3 49 := ⟨by decide +kernel, rfl⟩
theorem dX4_toWay_49 : DD cX4_toWay 49 (.bipush 59) 2 51 := ⟨by decide +kernel, rfl⟩
theorem dX4_toWay_51 : DD cX4_toWay 51 (.if_icmp .eq 5) 3 54 := ⟨by decide +kernel, rfl⟩
theorem dX4_toWay_54 : DD cX4_toWay 54 (.aconst_null) 1 55 := ⟨by decide +kernel, rfl⟩
theorem dX4_toWay_55 : DD cX4_toWay 55 (.areturn) 1 56 := ⟨by decide +kernel, rfl⟩
theorem dX4_toWay_56 : DD cX4_toWay 56 (.aload_n 0) 1 57 := ⟨by decide +kernel, rfl⟩
theorem dX4_toWay_57 : DD cX4_toWay 57 (.invokevirtual 34) 3 60 := ⟨by decide +kernel, rfl⟩
theorem dX4_toWay_60 : DD cX4_toWay 60 (.iinc 2 1) 3 63 := ⟨by decide +kernel, rfl⟩
theorem dX4_toWay_63 : DD cX4_toWay 63 (.goto (-44)) 3 66 := ⟨by decide +kernel, rfl⟩
theorem dX4_toWay_66 : DD cX4_toWay 66 (.aconst_null) 1 67 := ⟨by decide +kernel, rfl⟩
theorem dX4_toWay_67 : DD cX4_toWay 67 (.areturn) 1 68 := ⟨by decide +kernel, rfl⟩
theorem dX4_takeRule_0 : DD cX4_takeRule 0 (.aload_n 0) 1 1 := ⟨by decide +kernel, rfl⟩
theorem dX4_takeRule_1 : DD cX4_takeRule 1 (.invokevirtual 41) 3 4 := ⟨by decide +kernel, rfl⟩
theorem dX4_takeRule_4 : DD cX4_takeRule 4 (.istore_n 2) 1 5 := ⟨by decide +kernel, rfl⟩
theorem dX4_takeRule_5 : DD cX4_takeRule 5 (.iload_n 2) 1 6 := ⟨by decide +kernel, rfl⟩
theorem dX4_takeRule_6 : DD cX4_takeRule 6 (.ifCond .ge 5) 3 9 := ⟨by decide +kernel, rfl⟩
theorem dX4_takeRule_9 : DD cX4_takeRule 9 (.iconst 0) 1 10 := ⟨by decide +kernel, rfl⟩
theorem dX4_takeRule_10 : DD cX4_takeRule 10 (.ireturn) 1 11 := ⟨by decide +kernel, rfl⟩
theorem dX4_takeRule_11 : DD cX4_takeRule 11 (.aload_n 0) 1 12 := ⟨by decide +kernel, rfl⟩
theorem dX4_takeRule_12 : DD cX4_takeRule 12 (.invokevirtual 34) 3 15 := ⟨by decide +kernel, rfl⟩
theorem dX4_takeRule_15 : DD cX4_takeRule 15 (.aload_n 0) 1 16 := ⟨by decide +kernel, rfl⟩
theorem dX4_takeRule_16 : DD cX4_takeRule 16 (.getfield 25) 3 19 := ⟨by decide +kernel, rfl⟩
theorem dX4_takeRule_19 : DD cX4_takeRule 19 (.istore_n 3) 1 20 := ⟨by decide +kernel, rfl⟩
theorem dX4_takeRule_20 : DD cX4_takeRule 20 (.iconst 0) 1 21 := ⟨by decide +kernel, rfl⟩
theorem dX4_takeRule_21 : DD cX4_takeRule 21 (.istore 4) 2 23 := ⟨by decide +kernel, rfl⟩
theorem dX4_takeRule_23 : DD cX4_takeRule 23 (.iload_n 2) 1 24 := ⟨by decide +kernel, rfl⟩
theorem dX4_takeRule_24 : DD cX4_takeRule 24 (.iconst 4) 1 25 := ⟨by decide +kernel, rfl⟩
theorem dX4_takeRule_25 : DD cX4_takeRule 25 (.if_icmp .eq 18) 3 28 := ⟨by decide +kernel, rfl⟩
theorem dX4_takeRule_28 : DD cX4_takeRule 28 (.aload_n 0) 1 29 := ⟨by decide +kernel, rfl⟩
theorem dX4_takeRule_29 : DD cX4_takeRule 29 (.invokevirtual 45) 3 32 := ⟨by decide +kernel, rfl⟩
theorem dX4_takeRule_32 : DD cX4_takeRule 32 (.ifCond .ne 5) 3 35 := ⟨by decide +kernel, rfl⟩
theorem dX4_takeRule_35 : DD cX4_takeRule 35 (.iconst 0) 1 36 := ⟨by decide +kernel, rfl⟩
theorem dX4_takeRule_36 : DD cX4_takeRule 36 (.ireturn) 1 37 := ⟨by decide +kernel, rfl⟩
theorem dX4_takeRule_37 : DD cX4_takeRule 37 (.aload_n 0) 1 38 := ⟨by decide +kernel, rfl⟩
theorem dX4_takeRule_38 : DD cX4_takeRule 38 (.getfield 28) 3 41 := ⟨by decide +kernel, rfl⟩
theorem dX4_takeRule_41 : DD cX4_takeRule 41 (.istore 4) 2 43 := ⟨by decide +kernel, rfl⟩
theorem dX4_takeRule_43 : DD cX4_takeRule 43 (.aload_n 0) 1 44 := ⟨by decide +kernel, rfl⟩
theorem dX4_takeRule_44 : DD cX4_takeRule 44 (.getfield 25) 3 47 := ⟨by decide +kernel, rfl⟩
theorem dX4_takeRule_47 : DD cX4_takeRule 47 (.bipush 58) 2 49 := ⟨by decide +kernel, rfl⟩
theorem dX4_takeRule_49 : DD cX4_takeRule 49 (.if_icmp .eq 5) 3 52 := ⟨by decide +kernel, rfl⟩
theorem dX4_takeRule_52 : DD cX4_takeRule 52 (.iconst 0) 1 53 := ⟨by decide +kernel, rfl⟩
theorem dX4_takeRule_53 : DD cX4_takeRule 53 (.ireturn) 1 54 := ⟨by decide +kernel, rfl⟩
theorem dX4_takeRule_54 : DD cX4_takeRule 54 (.aload_n 0) 1 55 := ⟨by decide +kernel, rfl⟩
theorem dX4_takeRule_55 : DD cX4_takeRule 55 (.invokevirtual 34) 3 58 := ⟨by decide +kernel, rfl⟩
theorem dX4_takeRule_58 : DD cX4_takeRule 58 (.aload_n 0) 1 59 := ⟨by decide +kernel, rfl⟩
theorem dX4_takeRule_59 : DD cX4_takeRule 59 (.invokevirtual 49) 3 62 := ⟨by decide +kernel, rfl⟩
theorem dX4_takeRule_62 : DD cX4_takeRule 62 (.istore 5) 2 64 := ⟨by decide +kernel, rfl⟩
theorem dX4_takeRule_64 : DD cX4_takeRule 64 (.iload 5) 2 66 := ⟨by decide +kernel, rfl⟩
theorem dX4_takeRule_66 : DD cX4_takeRule 66 (.ifCond .ge 5) 3 69 := ⟨by decide +kernel, rfl⟩
theorem dX4_takeRule_69 : DD cX4_takeRule 69 (.iconst 0) 1 70 := ⟨by decide +kernel, rfl⟩
theorem dX4_takeRule_70 : DD cX4_takeRule 70 (.ireturn) 1 71 := ⟨by decide +kernel, rfl⟩
theorem dX4_takeRule_71 : DD cX4_takeRule 71 (.aload_n 0) 1 72 := ⟨by decide +kernel, rfl⟩
theorem dX4_takeRule_72 : DD cX4_takeRule 72 (.invokevirtual 34) 3 75 := ⟨by decide +kernel, rfl⟩
theorem dX4_takeRule_75 : DD cX4_takeRule 75 (.aload_n 1) 1 76 := ⟨by decide +kernel, rfl⟩
theorem dX4_takeRule_76 : DD cX4_takeRule 76 (.iload_n 2) 1 77 := ⟨by decide +kernel, rfl⟩
theorem dX4_takeRule_77 : DD cX4_takeRule 77 (.iload_n 3) 1 78 := ⟨by decide +kernel, rfl⟩
theorem dX4_takeRule_78 : DD cX4_takeRule 78 (.iload 4) 2 80 := ⟨by decide +kernel, rfl⟩
theorem dX4_takeRule_80 : DD cX4_takeRule 80 (.iload 5) 2 82 := ⟨by decide +kernel, rfl⟩
theorem dX4_takeRule_82 : DD cX4_takeRule 82 (.invokevirtual 52) 3 85 := ⟨by decide +kernel, rfl⟩
theorem dX4_takeRule_85 : DD cX4_takeRule 85 (.iconst 1) 1 86 := ⟨by decide +kernel, rfl⟩
theorem dX4_takeRule_86 : DD cX4_takeRule 86 (.ireturn) 1 87 := ⟨by decide +kernel, rfl⟩
theorem dX4_takeComparison_0 : DD cX4_takeComparison 0 (.aload_n 0) 1 1 := ⟨by decide +kernel, rfl⟩
theorem dX4_takeComparison_1 : DD cX4_takeComparison 1 (.getfield 25) 3 4 := ⟨by decide +kernel, rfl⟩
theorem dX4_takeComparison_4 : DD cX4_takeComparison 4 (.bipush 60) 2 6 := ⟨by decide +kernel, rfl⟩
theorem dX4_takeComparison_6 : DD cX4_takeComparison 6 (.if_icmp .eq 14) 3 9 := ⟨by decide +kernel, rfl⟩
theorem dX4_takeComparison_9 : DD cX4_takeComparison 9 (.aload_n 0) 1 10 := ⟨by decide +kernel, rfl⟩
theorem dX4_takeComparison_10 : DD cX4_takeComparison 10 (.getfield 25) 3 13 := ⟨by decide +kernel, rfl⟩
theorem dX4_takeComparison_13 : DD cX4_takeComparison 13 (.bipush 62) 2 15 := ⟨by decide +kernel, rfl⟩
theorem dX4_takeComparison_15 : DD cX4_takeComparison 15 (.if_icmp .eq 5) 3 18 := ⟨by decide +kernel, rfl⟩
theorem dX4_takeComparison_18 : DD cX4_takeComparison 18 (.iconst 0) 1 19 := ⟨by decide +kernel, rfl⟩
theorem dX4_takeComparison_19 : DD cX4_takeComparison 19 (.ireturn) 1 20 := ⟨by decide +kernel, rfl⟩
theorem dX4_takeComparison_20 : DD cX4_takeComparison 20 (.aload_n 0) 1 21 := ⟨by decide +kernel, rfl⟩
theorem dX4_takeComparison_21 : DD cX4_takeComparison 21 (.invokevirtual 34) 3 24 := ⟨by decide +kernel, rfl⟩
theorem dX4_takeComparison_24 : DD cX4_takeComparison 24 (.aload_n 0) 1 25 := ⟨by decide +kernel, rfl⟩
theorem dX4_takeComparison_25 : DD cX4_takeComparison 25 (.getfield 25) 3 28 := ⟨by decide +kernel, rfl⟩
theorem dX4_takeComparison_28 : DD cX4_takeComparison 28 (.bipush 45) 2 30 := ⟨by decide +kernel, rfl⟩
theorem dX4_takeComparison_30 : DD cX4_takeComparison 30 (.if_icmp .ne 7) 3 33 := ⟨by decide +kernel, rfl⟩
theorem dX4_takeComparison_33 : DD cX4_takeComparison 33 (.iconst 1) 1 34 := ⟨by decide +kernel, rfl⟩
theorem dX4_takeComparison_34 : DD cX4_takeComparison 34 (.goto 4) 3 37 := ⟨by decide +kernel, rfl⟩
theorem dX4_takeComparison_37 : DD cX4_takeComparison 37 (.iconst 0) 1 38 := ⟨by decide +kernel, rfl⟩
theorem dX4_takeComparison_38 : DD cX4_takeComparison 38 (.istore_n 1) 1 39 := ⟨by decide +kernel, rfl⟩
theorem dX4_takeComparison_39 : DD cX4_takeComparison 39 (.iload_n 1) 1 40 := ⟨by decide +kernel, rfl⟩
theorem dX4_takeComparison_40 : DD cX4_takeComparison 40 (.ifCond .eq 7) 3 43 := ⟨by decide +kernel, rfl⟩
theorem dX4_takeComparison_43 : DD cX4_takeComparison 43 (.aload_n 0) 1 44 := ⟨by decide +kernel, rfl⟩
theorem dX4_takeComparison_44 : DD cX4_takeComparison 44 (.invokevirtual 34) 3 47 := ⟨by decide +kernel, rfl⟩
theorem dX4_takeComparison_47 : DD cX4_takeComparison 47 (.aload_n 0) 1 48 := ⟨by decide +kernel, rfl⟩
theorem dX4_takeComparison_48 : DD cX4_takeComparison 48 (.getfield 25) 3 51 := ⟨by decide +kernel, rfl⟩
theorem dX4_takeComparison_51 : DD cX4_takeComparison 51 (.bipush (-3)) 2 53 := ⟨by decide +kernel, rfl⟩
theorem dX4_takeComparison_53 : DD cX4_takeComparison 53 (.if_icmp .eq 5) 3 56 := ⟨by decide +kernel, rfl⟩
theorem dX4_takeComparison_56 : DD cX4_takeComparison 56 (.iconst 0) 1 57 := ⟨by decide +kernel, rfl⟩
theorem dX4_takeComparison_57 : DD cX4_takeComparison 57 (.ireturn) 1 58 := ⟨by decide +kernel, rfl⟩
theorem dX4_takeComparison_58 : DD cX4_takeComparison 58 (.iload_n 1) 1 59 := ⟨by decide +kernel, rfl⟩
theorem dX4_takeComparison_59 : DD cX4_takeComparison 59 (.ifCond .eq 11) 3 62 := ⟨by decide +kernel, rfl⟩
theorem dX4_takeComparison_62 : DD cX4_takeComparison 62 (.aload_n 0) 1 63 := ⟨by decide +kernel, rfl⟩
theorem dX4_takeComparison_63 : DD cX4_takeComparison 63 (.getfield 28) 3 66 := ⟨by decide +kernel, rfl⟩
theorem dX4_takeComparison_66 : DD cX4_takeComparison 66 (.ineg) 1 67 := ⟨by decide +kernel, rfl⟩
theorem dX4_takeComparison_67 : DD cX4_takeComparison 67 (.goto 7) 3 70 := ⟨by decide +kernel, rfl⟩
theorem dX4_takeComparison_70 : DD cX4_takeComparison 70 (.aload_n 0) 1 71 := ⟨by decide +kernel, rfl⟩
theorem dX4_takeComparison_71 : DD cX4_takeComparison 71 (.getfield 28) 3 74 := ⟨by decide +kernel, rfl⟩
theorem dX4_takeComparison_74 : DD cX4_takeComparison 74 (.istore_n 2) 1 75 := ⟨by decide +kernel, rfl⟩
theorem dX4_takeComparison_75 : DD cX4_takeComparison 75 (.aload_n 0) 1 76 := ⟨by decide +kernel, rfl⟩
theorem dX4_takeComparison_76 : DD cX4_takeComparison 76 (.invokevirtual 34) 3 79 := ⟨by decide +kernel, rfl⟩
theorem dX4_takeComparison_79 : DD cX4_takeComparison 79 (.aload_n 0) 1 80 := ⟨by decide +kernel, rfl⟩
theorem dX4_takeComparison_80 : DD cX4_takeComparison 80 (.iload_n 2) 1 81 := ⟨by decide +kernel, rfl⟩
theorem dX4_takeComparison_81 : DD cX4_takeComparison 81 (.putfield 28) 3 84 := ⟨by decide +kernel, rfl⟩
theorem dX4_takeComparison_84 : DD cX4_takeComparison 84 (.iconst 1) 1 85 := ⟨by decide +kernel, rfl⟩
theorem dX4_takeComparison_85 : DD cX4_takeComparison 85 (.ireturn) 1 86 := ⟨by decide +kernel, rfl⟩
theorem dX4_nextToken_0 : DD cX4_nextToken 0 (.aload_n 0) 1 1 := ⟨by decide +kernel, rfl⟩
theorem dX4_nextToken_1 : DD cX4_nextToken 1 (.aload_n 0) 1 2 := ⟨by decide +kernel, rfl⟩
theorem dX4_nextToken_2 : DD cX4_nextToken 2 (.getfield 22) 3 5 := ⟨by decide +kernel, rfl⟩
theorem dX4_nextToken_5 : DD cX4_nextToken 5 (.putfield 19) 3 8 := ⟨by decide +kernel, rfl⟩
theorem dX4_nextToken_8 : DD cX4_nextToken 8 (.aload_n 0) 1 9 := ⟨by decide +kernel, rfl⟩
theorem dX4_nextToken_9 : DD cX4_nextToken 9 (.getfield 19) 3 12 := ⟨by decide +kernel, rfl⟩
theorem dX4_nextToken_12 : DD cX4_nextToken 12 (.aload_n 0) 1 13 := ⟨by decide +kernel, rfl⟩
theorem dX4_nextToken_13 : DD cX4_nextToken 13 (.getfield 15) 3 16 := ⟨by decide +kernel, rfl⟩
theorem dX4_nextToken_16 : DD cX4_nextToken 16 (.if_icmp .ge 30) 3 19 := ⟨by decide +kernel, rfl⟩
theorem dX4_nextToken_19 : DD cX4_nextToken 19 (.aload_n 0) 1 20 := ⟨by decide +kernel, rfl⟩
theorem dX4_nextToken_20 : DD cX4_nextToken 20 (.getfield 9) 3 23 := ⟨by decide +kernel, rfl⟩
theorem dX4_nextToken_23 : DD cX4_nextToken 23 (.aload_n 0) 1 24 := ⟨by decide +kernel, rfl⟩
theorem dX4_nextToken_24 : DD cX4_nextToken 24 (.getfield 19) 3 27 := ⟨by decide +kernel, rfl⟩
theorem dX4_nextToken_27 : DD cX4_nextToken 27 (.iaload) 1 28 := ⟨by decide +kernel, rfl⟩
theorem dX4_nextToken_28 : DD cX4_nextToken 28 (.bipush 32) 2 30 := ⟨by decide +kernel, rfl⟩
theorem dX4_nextToken_30 : DD cX4_nextToken 30 (.if_icmp .ne 16) 3 33 := ⟨by decide +kernel, rfl⟩
theorem dX4_nextToken_33 : DD cX4_nextToken 33 (.aload_n 0) 1 34 := ⟨by decide +kernel, rfl⟩
theorem dX4_nextToken_34 : DD cX4_nextToken 34 (.dup) 1 35 := ⟨by decide +kernel, rfl⟩
theorem dX4_nextToken_35 : DD cX4_nextToken 35 (.getfield 19) 3 38 := ⟨by decide +kernel, rfl⟩
theorem dX4_nextToken_38 : DD cX4_nextToken 38 (.iconst 1) 1 39 := ⟨by decide +kernel, rfl⟩
theorem dX4_nextToken_39 : DD cX4_nextToken 39 (.iadd) 1 40 := ⟨by decide +kernel, rfl⟩
theorem dX4_nextToken_40 : DD cX4_nextToken 40 (.putfield 19) 3 43 := ⟨by decide +kernel, rfl⟩
theorem dX4_nextToken_43 : DD cX4_nextToken 43 (.goto (-35)) 3 46 := ⟨by decide +kernel, rfl⟩
theorem dX4_nextToken_46 : DD cX4_nextToken 46 (.aload_n 0) 1 47 := ⟨by decide +kernel, rfl⟩
theorem dX4_nextToken_47 : DD cX4_nextToken 47 (.aload_n 0) 1 48 := ⟨by decide +kernel, rfl⟩
theorem dX4_nextToken_48 : DD cX4_nextToken 48 (.getfield 19) 3 51 := ⟨by decide +kernel, rfl⟩
theorem dX4_nextToken_51 : DD cX4_nextToken 51 (.putfield 22) 3 54 := ⟨by decide +kernel, rfl⟩
theorem dX4_nextToken_54 : DD cX4_nextToken 54 (.aload_n 0) 1 55 := ⟨by decide +kernel, rfl⟩
theorem dX4_nextToken_55 : DD cX4_nextToken 55 (.getfield 19) 3 58 := ⟨by decide +kernel, rfl⟩
theorem dX4_nextToken_58 : DD cX4_nextToken 58 (.aload_n 0) 1 59 := ⟨by decide +kernel, rfl⟩
theorem dX4_nextToken_59 : DD cX4_nextToken 59 (.getfield 15) 3 62 := ⟨by decide +kernel, rfl⟩
theorem dX4_nextToken_62 : DD cX4_nextToken 62 (.if_icmp .lt 11) 3 65 := ⟨by decide +kernel, rfl⟩
theorem dX4_nextToken_65 : DD cX4_nextToken 65 (.aload_n 0) 1 66 := ⟨by decide +kernel, rfl⟩
theorem dX4_nextToken_66 : DD cX4_nextToken 66 (.iconst (-1)) 1 67 := ⟨by decide +kernel, rfl⟩
theorem dX4_nextToken_67 : DD cX4_nextToken 67 (.putfield 25) 3 70 := ⟨by decide +kernel, rfl⟩
theorem dX4_nextToken_70 : DD cX4_nextToken 70 (.goto 90) 3 73 := ⟨by decide +kernel, rfl⟩
theorem dX4_nextToken_73 : DD cX4_nextToken 73 (.aload_n 0) 1 74 := ⟨by decide +kernel, rfl⟩
theorem dX4_nextToken_74 : DD cX4_nextToken 74 (.getfield 9) 3 77 := ⟨by decide +kernel, rfl⟩
theorem dX4_nextToken_77 : DD cX4_nextToken 77 (.aload_n 0) 1 78 := ⟨by decide +kernel, rfl⟩
theorem dX4_nextToken_78 : DD cX4_nextToken 78 (.getfield 19) 3 81 := ⟨by decide +kernel, rfl⟩
theorem dX4_nextToken_81 : DD cX4_nextToken 81 (.iaload) 1 82 := ⟨by decide +kernel, rfl⟩
theorem dX4_nextToken_82 : DD cX4_nextToken 82 (.invokestatic 56) 3 85 := ⟨by decide +kernel, rfl⟩
theorem dX4_nextToken_85 : DD cX4_nextToken 85 (.ifCond .eq 10) 3 88 := ⟨by decide +kernel, rfl⟩
theorem dX4_nextToken_88 : DD cX4_nextToken 88 (.aload_n 0) 1 89 := ⟨by decide +kernel, rfl⟩
theorem dX4_nextToken_89 : DD cX4_nextToken 89 (.invokevirtual 60) 3 92 := ⟨by decide +kernel, rfl⟩
theorem dX4_nextToken_92 : DD cX4_nextToken 92 (.goto 68) 3 95 := ⟨by decide +kernel, rfl⟩
theorem dX4_nextToken_95 : DD cX4_nextToken 95 (.aload_n 0) 1 96 := ⟨by decide +kernel, rfl⟩
theorem dX4_nextToken_96 : DD cX4_nextToken 96 (.getfield 9) 3 99 := ⟨by decide +kernel, rfl⟩
theorem dX4_nextToken_99 : DD cX4_nextToken 99 (.aload_n 0) 1 100 := ⟨by decide +kernel, rfl⟩
theorem dX4_nextToken_100 : DD cX4_nextToken 100 (.getfield 19) 3 103 := ⟨by decide +kernel, rfl⟩
theorem dX4_nextToken_103 : DD cX4_nextToken 103 (.iaload) 1 104 := ⟨by decide +kernel, rfl⟩
theorem dX4_nextToken_104 : DD cX4_nextToken 104 (.invokestatic 63) 3 107 := ⟨by decide +kernel, rfl⟩
theorem dX4_nextToken_107 : DD cX4_nextToken 107 (.ifCond .eq 10) 3 110 := ⟨by decide +kernel, rfl⟩
theorem dX4_nextToken_110 : DD cX4_nextToken 110 (.aload_n 0) 1 111 := ⟨by decide +kernel, rfl⟩
theorem dX4_nextToken_111 : DD cX4_nextToken 111 (.invokevirtual 66) 3 114 := ⟨by decide +kernel, rfl⟩
theorem dX4_nextToken_114 : DD cX4_nextToken 114 (.goto 46) 3 117 := ⟨by decide +kernel, rfl⟩
theorem dX4_nextToken_117 : DD cX4_nextToken 117 (.aload_n 0) 1 118 := ⟨by decide +kernel, rfl⟩
theorem dX4_nextToken_118 : DD cX4_nextToken 118 (.aload_n 0) 1 119 := ⟨by decide +kernel, rfl⟩
theorem dX4_nextToken_119 : DD cX4_nextToken 119 (.getfield 9) 3 122 := ⟨by decide +kernel, rfl⟩
theorem dX4_nextToken_122 : DD cX4_nextToken 122 (.aload_n 0) 1 123 := ⟨by decide +kernel, rfl⟩
theorem dX4_nextToken_123 : DD cX4_nextToken 123 (.getfield 19) 3 126 := ⟨by decide +kernel, rfl⟩
theorem dX4_nextToken_126 : DD cX4_nextToken 126 (.iaload) 1 127 := ⟨by decide +kernel, rfl⟩
theorem dX4_nextToken_127 : DD cX4_nextToken 127 (.invokestatic 69) 3 130 := ⟨by decide +kernel, rfl⟩
theorem dX4_nextToken_130 : DD cX4_nextToken 130 (.ifCond .eq 15) 3 133 := ⟨by decide +kernel, rfl⟩
theorem dX4_nextToken_133 : DD cX4_nextToken 133 (.aload_n 0) 1 134 := ⟨by decide +kernel, rfl⟩
theorem dX4_nextToken_134 : DD cX4_nextToken 134 (.getfield 9) 3 137 := ⟨by decide +kernel, rfl⟩
theorem dX4_nextToken_137 : DD cX4_nextToken 137 (.aload_n 0) 1 138 := ⟨by decide +kernel, rfl⟩
theorem dX4_nextToken_138 : DD cX4_nextToken 138 (.getfield 19) 3 141 := ⟨by decide +kernel, rfl⟩
theorem dX4_nextToken_141 : DD cX4_nextToken 141 (.iaload) 1 142 := ⟨by decide +kernel, rfl⟩
theorem dX4_nextToken_142 : DD cX4_nextToken 142 (.goto 5) 3 145 := ⟨by decide +kernel, rfl⟩
theorem dX4_nextToken_145 : DD cX4_nextToken 145 (.bipush (-4)) 2 147 := ⟨by decide +kernel, rfl⟩
theorem dX4_nextToken_147 : DD cX4_nextToken 147 (.putfield 25) 3 150 := ⟨by decide +kernel, rfl⟩
theorem dX4_nextToken_150 : DD cX4_nextToken 150 (.aload_n 0) 1 151 := ⟨by decide +kernel, rfl⟩
theorem dX4_nextToken_151 : DD cX4_nextToken 151 (.aload_n 0) 1 152 := ⟨by decide +kernel, rfl⟩
theorem dX4_nextToken_152 : DD cX4_nextToken 152 (.getfield 19) 3 155 := ⟨by decide +kernel, rfl⟩
theorem dX4_nextToken_155 : DD cX4_nextToken 155 (.iconst 1) 1 156 := ⟨by decide +kernel, rfl⟩
theorem dX4_nextToken_156 : DD cX4_nextToken 156 (.iadd) 1 157 := ⟨by decide +kernel, rfl⟩
theorem dX4_nextToken_157 : DD cX4_nextToken 157 (.putfield 22) 3 160 := ⟨by decide +kernel, rfl⟩
theorem dX4_nextToken_160 : DD cX4_nextToken 160 (.return_) 1 161 := ⟨by decide +kernel, rfl⟩
theorem dX4_takeWord_0 : DD cX4_takeWord 0 (.aload_n 0) 1 1 := ⟨by decide +kernel, rfl⟩
theorem dX4_takeWord_1 : DD cX4_takeWord 1 (.getfield 22) 3 4 := ⟨by decide +kernel, rfl⟩
theorem dX4_takeWord_4 : DD cX4_takeWord 4 (.aload_n 0) 1 5 := ⟨by decide +kernel, rfl⟩
theorem dX4_takeWord_5 : DD cX4_takeWord 5 (.getfield 15) 3 8 := ⟨by decide +kernel, rfl⟩
theorem dX4_takeWord_8 : DD cX4_takeWord 8 (.if_icmp .ge 31) 3 11 := ⟨by decide +kernel, rfl⟩
theorem dX4_takeWord_11 : DD cX4_takeWord 11 (.aload_n 0) 1 12 := ⟨by decide +kernel, rfl⟩
theorem dX4_takeWord_12 : DD cX4_takeWord 12 (.getfield 9) 3 15 := ⟨by decide +kernel, rfl⟩
theorem dX4_takeWord_15 : DD cX4_takeWord 15 (.aload_n 0) 1 16 := ⟨by decide +kernel, rfl⟩
theorem dX4_takeWord_16 : DD cX4_takeWord 16 (.getfield 22) 3 19 := ⟨by decide +kernel, rfl⟩
theorem dX4_takeWord_19 : DD cX4_takeWord 19 (.iaload) 1 20 := ⟨by decide +kernel, rfl⟩
theorem dX4_takeWord_20 : DD cX4_takeWord 20 (.invokestatic 56) 3 23 := ⟨by decide +kernel, rfl⟩
theorem dX4_takeWord_23 : DD cX4_takeWord 23 (.ifCond .eq 16) 3 26 := ⟨by decide +kernel, rfl⟩
theorem dX4_takeWord_26 : DD cX4_takeWord 26 (.aload_n 0) 1 27 := ⟨by decide +kernel, rfl⟩
theorem dX4_takeWord_27 : DD cX4_takeWord 27 (.dup) 1 28 := ⟨by decide +kernel, rfl⟩
theorem dX4_takeWord_28 : DD cX4_takeWord 28 (.getfield 22) 3 31 := ⟨by decide +kernel, rfl⟩
theorem dX4_takeWord_31 : DD cX4_takeWord 31 (.iconst 1) 1 32 := ⟨by decide +kernel, rfl⟩
theorem dX4_takeWord_32 : DD cX4_takeWord 32 (.iadd) 1 33 := ⟨by decide +kernel, rfl⟩
theorem dX4_takeWord_33 : DD cX4_takeWord 33 (.putfield 22) 3 36 := ⟨by decide +kernel, rfl⟩
theorem dX4_takeWord_36 : DD cX4_takeWord 36 (.goto (-36)) 3 39 := ⟨by decide +kernel, rfl⟩
theorem dX4_takeWord_39 : DD cX4_takeWord 39 (.aload_n 0) 1 40 := ⟨by decide +kernel, rfl⟩
theorem dX4_takeWord_40 : DD cX4_takeWord 40 (.bipush (-2)) 2 42 := ⟨by decide +kernel, rfl⟩
theorem dX4_takeWord_42 : DD cX4_takeWord 42 (.putfield 25) 3 45 := ⟨by decide +kernel, rfl⟩
theorem dX4_takeWord_45 : DD cX4_takeWord 45 (.return_) 1 46 := ⟨by decide +kernel, rfl⟩
theorem dX4_takeNumber_0 : DD cX4_takeNumber 0 (.iconst 0) 1 1 := ⟨by decide +kernel, rfl⟩
theorem dX4_takeNumber_1 : DD cX4_takeNumber 1 (.istore_n 1) 1 2 := ⟨by decide +kernel, rfl⟩
theorem dX4_takeNumber_2 : DD cX4_takeNumber 2 (.aload_n 0) 1 3 := ⟨by decide +kernel, rfl⟩
theorem dX4_takeNumber_3 : DD cX4_takeNumber 3 (.getfield 22) 3 6 := ⟨by decide +kernel, rfl⟩
theorem dX4_takeNumber_6 : DD cX4_takeNumber 6 (.aload_n 0) 1 7 := ⟨by decide +kernel, rfl⟩
theorem dX4_takeNumber_7 : DD cX4_takeNumber 7 (.getfield 15) 3 10 := ⟨by decide +kernel, rfl⟩
theorem dX4_takeNumber_10 : DD cX4_takeNumber 10 (.if_icmp .ge 55) 3 13 := ⟨by decide +kernel, rfl⟩
theorem dX4_takeNumber_13 : DD cX4_takeNumber 13 (.aload_n 0) 1 14 := ⟨by decide +kernel, rfl⟩
theorem dX4_takeNumber_14 : DD cX4_takeNumber 14 (.getfield 9) 3 17 := ⟨by decide +kernel, rfl⟩
theorem dX4_takeNumber_17 : DD cX4_takeNumber 17 (.aload_n 0) 1 18 := ⟨by decide +kernel, rfl⟩
theorem dX4_takeNumber_18 : DD cX4_takeNumber 18 (.getfield 22) 3 21 := ⟨by decide +kernel, rfl⟩
theorem dX4_takeNumber_21 : DD cX4_takeNumber 21 (.iaload) 1 22 := ⟨by decide +kernel, rfl⟩
theorem dX4_takeNumber_22 : DD cX4_takeNumber 22 (.invokestatic 63) 3 25 := ⟨by decide +kernel, rfl⟩
theorem dX4_takeNumber_25 : DD cX4_takeNumber 25 (.ifCond .eq 40) 3 28 := ⟨by decide +kernel, rfl⟩
theorem dX4_takeNumber_28 : DD cX4_takeNumber 28 (.iload_n 1) 1 29 := ⟨by decide +kernel, rfl⟩
theorem dX4_takeNumber_29 : DD cX4_takeNumber 29 (.bipush 10) 2 31 := ⟨by decide +kernel, rfl⟩
theorem dX4_takeNumber_31 : DD cX4_takeNumber 31 (.imul) 1 32 := ⟨by decide +kernel, rfl⟩
theorem dX4_takeNumber_32 : DD cX4_takeNumber 32 (.aload_n 0) 1 33 := ⟨by decide +kernel, rfl⟩
theorem dX4_takeNumber_33 : DD cX4_takeNumber 33 (.getfield 9) 3 36 := ⟨by decide +kernel, rfl⟩
theorem dX4_takeNumber_36 : DD cX4_takeNumber 36 (.aload_n 0) 1 37 := ⟨by decide +kernel, rfl⟩
theorem dX4_takeNumber_37 : DD cX4_takeNumber 37 (.getfield 22) 3 40 := ⟨by decide +kernel, rfl⟩
theorem dX4_takeNumber_40 : DD cX4_takeNumber 40 (.iaload) 1 41 := ⟨by decide +kernel, rfl⟩
theorem dX4_takeNumber_41 : DD cX4_takeNumber 41 (.iadd) 1 42 := ⟨by decide +kernel, rfl⟩
theorem dX4_takeNumber_42 : DD cX4_takeNumber 42 (.bipush 48) 2 44 := ⟨by decide +kernel, rfl⟩
theorem dX4_takeNumber_44 : DD cX4_takeNumber 44 (.isub) 1 45 := ⟨by decide +kernel, rfl⟩
theorem dX4_takeNumber_45 : DD cX4_takeNumber 45 (.sipush 1000) 3 48 := ⟨by decide +kernel, rfl⟩
theorem dX4_takeNumber_48 : DD cX4_takeNumber 48 (.invokestatic 72) 3 51 := ⟨by decide +kernel, rfl⟩
theorem dX4_takeNumber_51 : DD cX4_takeNumber 51 (.istore_n 1) 1 52 := ⟨by decide +kernel, rfl⟩
theorem dX4_takeNumber_52 : DD cX4_takeNumber 52 (.aload_n 0) 1 53 := ⟨by decide +kernel, rfl⟩
theorem dX4_takeNumber_53 : DD cX4_takeNumber 53 (.dup) 1 54 := ⟨by decide +kernel, rfl⟩
theorem dX4_takeNumber_54 : DD cX4_takeNumber 54 (.getfield 22) 3 57 := ⟨by decide +kernel, rfl⟩
theorem dX4_takeNumber_57 : DD cX4_takeNumber 57 (.iconst 1) 1 58 := ⟨by decide +kernel, rfl⟩
theorem dX4_takeNumber_58 : DD cX4_takeNumber 58 (.iadd) 1 59 := ⟨by decide +kernel, rfl⟩
theorem dX4_takeNumber_59 : DD cX4_takeNumber 59 (.putfield 22) 3 62 := ⟨by decide +kernel, rfl⟩
theorem dX4_takeNumber_62 : DD cX4_takeNumber 62 (.goto (-60)) 3 65 := ⟨by decide +kernel, rfl⟩
theorem dX4_takeNumber_65 : DD cX4_takeNumber 65 (.aload_n 0) 1 66 := ⟨by decide +kernel, rfl⟩
theorem dX4_takeNumber_66 : DD cX4_takeNumber 66 (.iload_n 1) 1 67 := ⟨by decide +kernel, rfl⟩
theorem dX4_takeNumber_67 : DD cX4_takeNumber 67 (.putfield 28) 3 70 := ⟨by decide +kernel, rfl⟩
theorem dX4_takeNumber_70 : DD cX4_takeNumber 70 (.aload_n 0) 1 71 := ⟨by decide +kernel, rfl⟩
theorem dX4_takeNumber_71 : DD cX4_takeNumber 71 (.iload_n 1) 1 72 := ⟨by decide +kernel, rfl⟩
theorem dX4_takeNumber_72 : DD cX4_takeNumber 72 (.sipush 999) 3 75 := ⟨by decide +kernel, rfl⟩
theorem dX4_takeNumber_75 : DD cX4_takeNumber 75 (.if_icmp .le 8) 3 78 := ⟨by decide +kernel, rfl⟩
theorem dX4_takeNumber_78 : DD cX4_takeNumber 78 (.bipush (-4)) 2 80 := ⟨by decide +kernel, rfl⟩
theorem dX4_takeNumber_80 : DD cX4_takeNumber 80 (.goto 5) 3 83 := ⟨by decide +kernel, rfl⟩
theorem dX4_takeNumber_83 : DD cX4_takeNumber 83 (.bipush (-3)) 2 85 := ⟨by decide +kernel, rfl⟩
theorem dX4_takeNumber_85 : DD cX4_takeNumber 85 (.putfield 25) 3 88 := ⟨by decide +kernel, rfl⟩
theorem dX4_takeNumber_88 : DD cX4_takeNumber 88 (.return_) 1 89 := ⟨by decide +kernel, rfl⟩
theorem dX4_isLetter_0 : DD cX4_isLetter 0 (.iload_n 0) 1 1 := ⟨by decide +kernel, rfl⟩
theorem dX4_isLetter_1 : DD cX4_isLetter 1 (.bipush 97) 2 3 := ⟨by decide +kernel, rfl⟩
theorem dX4_isLetter_3 : DD cX4_isLetter 3 (.if_icmp .lt 13) 3 6 := ⟨by decide +kernel, rfl⟩
theorem dX4_isLetter_6 : DD cX4_isLetter 6 (.iload_n 0) 1 7 := ⟨by decide +kernel, rfl⟩
theorem dX4_isLetter_7 : DD cX4_isLetter 7 (.bipush 122) 2 9 := ⟨by decide +kernel, rfl⟩
theorem dX4_isLetter_9 : DD cX4_isLetter 9 (.if_icmp .gt 7) 3 12 := ⟨by decide +kernel, rfl⟩
theorem dX4_isLetter_12 : DD cX4_isLetter 12 (.iconst 1) 1 13 := ⟨by decide +kernel, rfl⟩
theorem dX4_isLetter_13 : DD cX4_isLetter 13 (.goto 4) 3 16 := ⟨by decide +kernel, rfl⟩
theorem dX4_isLetter_16 : DD cX4_isLetter 16 (.iconst 0) 1 17 := ⟨by decide +kernel, rfl⟩
theorem dX4_isLetter_17 : DD cX4_isLetter 17 (.ireturn) 1 18 := ⟨by decide +kernel, rfl⟩
theorem dX4_isDigit_0 : DD cX4_isDigit 0 (.iload_n 0) 1 1 := ⟨by decide +kernel, rfl⟩
theorem dX4_isDigit_1 : DD cX4_isDigit 1 (.bipush 48) 2 3 := ⟨by decide +kernel, rfl⟩
theorem dX4_isDigit_3 : DD cX4_isDigit 3 (.if_icmp .lt 13) 3 6 := ⟨by decide +kernel, rfl⟩
theorem dX4_isDigit_6 : DD cX4_isDigit 6 (.iload_n 0) 1 7 := ⟨by decide +kernel, rfl⟩
theorem dX4_isDigit_7 : DD cX4_isDigit 7 (.bipush 57) 2 9 := ⟨by decide +kernel, rfl⟩
theorem dX4_isDigit_9 : DD cX4_isDigit 9 (.if_icmp .gt 7) 3 12 := ⟨by decide +kernel, rfl⟩
theorem dX4_isDigit_12 : DD cX4_isDigit 12 (.iconst 1) 1 13 := ⟨by decide +kernel, rfl⟩
theorem dX4_isDigit_13 : DD cX4_isDigit 13 (.goto 4) 3 16 := ⟨by decide +kernel, rfl⟩
theorem dX4_isDigit_16 : DD cX4_isDigit 16 (.iconst 0) 1 17 := ⟨by decide +kernel, rfl⟩
theorem dX4_isDigit_17 : DD cX4_isDigit 17 (.ireturn) 1 18 := ⟨by decide +kernel, rfl⟩
theorem dX4_isSign_0 : DD cX4_isSign 0 (.iload_n 0) 1 1 := ⟨by decide +kernel, rfl⟩
theorem dX4_isSign_1 : DD cX4_isSign 1 (.bipush 60) 2 3 := ⟨by decide +kernel, rfl⟩
theorem dX4_isSign_3 : DD cX4_isSign 3 (.if_icmp .eq 27) 3 6 := ⟨by decide +kernel, rfl⟩
theorem dX4_isSign_6 : DD cX4_isSign 6 (.iload_n 0) 1 7 := ⟨by decide +kernel, rfl⟩
theorem dX4_isSign_7 : DD cX4_isSign 7 (.bipush 62) 2 9 := ⟨by decide +kernel, rfl⟩
theorem dX4_isSign_9 : DD cX4_isSign 9 (.if_icmp .eq 21) 3 12 := ⟨by decide +kernel, rfl⟩
theorem dX4_isSign_12 : DD cX4_isSign 12 (.iload_n 0) 1 13 := ⟨by decide +kernel, rfl⟩
theorem dX4_isSign_13 : DD cX4_isSign 13 (.bipush 45) 2 15 := ⟨by decide +kernel, rfl⟩
theorem dX4_isSign_15 : DD cX4_isSign 15 (.if_icmp .eq 15) 3 18 := ⟨by decide +kernel, rfl⟩
theorem dX4_isSign_18 : DD cX4_isSign 18 (.iload_n 0) 1 19 := ⟨by decide +kernel, rfl⟩
theorem dX4_isSign_19 : DD cX4_isSign 19 (.bipush 58) 2 21 := ⟨by decide +kernel, rfl⟩
theorem dX4_isSign_21 : DD cX4_isSign 21 (.if_icmp .eq 9) 3 24 := ⟨by decide +kernel, rfl⟩
theorem dX4_isSign_24 : DD cX4_isSign 24 (.iload_n 0) 1 25 := ⟨by decide +kernel, rfl⟩
theorem dX4_isSign_25 : DD cX4_isSign 25 (.bipush 59) 2 27 := ⟨by decide +kernel, rfl⟩
theorem dX4_isSign_27 : DD cX4_isSign 27 (.if_icmp .ne 7) 3 30 := ⟨by decide +kernel, rfl⟩
theorem dX4_isSign_30 : DD cX4_isSign 30 (.iconst 1) 1 31 := ⟨by decide +kernel, rfl⟩
theorem dX4_isSign_31 : DD cX4_isSign 31 (.goto 4) 3 34 := ⟨by decide +kernel, rfl⟩
theorem dX4_isSign_34 : DD cX4_isSign 34 (.iconst 0) 1 35 := ⟨by decide +kernel, rfl⟩
theorem dX4_isSign_35 : DD cX4_isSign 35 (.ireturn) 1 36 := ⟨by decide +kernel, rfl⟩
theorem dX4_nameHere_0 : DD cX4_nameHere 0 (.aload_n 0) 1 1 := ⟨by decide +kernel, rfl⟩
theorem dX4_nameHere_1 : DD cX4_nameHere 1 (.ldc 78) 2 3 := ⟨by decide +kernel, rfl⟩
theorem dX4_nameHere_3 : DD cX4_nameHere 3 (.invokevirtual 80) 3 6 := ⟨by decide +kernel, rfl⟩
theorem dX4_nameHere_6 : DD cX4_nameHere 6 (.ifCond .eq 5) 3 9 := ⟨by decide +kernel, rfl⟩
theorem dX4_nameHere_9 : DD cX4_nameHere 9 (.iconst 0) 1 10 := ⟨by decide +kernel, rfl⟩
theorem dX4_nameHere_10 : DD cX4_nameHere 10 (.ireturn) 1 11 := ⟨by decide +kernel, rfl⟩
theorem dX4_nameHere_11 : DD cX4_nameHere 11 (.aload_n 0) 1 12 := ⟨by decide +kernel, rfl⟩
theorem dX4_nameHere_12 : DD cX4_nameHere 12 (.ldc 84) 2 14 := ⟨by decide +kernel, rfl⟩
theorem dX4_nameHere_14 : DD cX4_nameHere 14 (.invokevirtual 80) 3 17 := ⟨by decide +kernel, rfl⟩
theorem dX4_nameHere_17 : DD cX4_nameHere 17 (.ifCond .eq 5) 3 20 := ⟨by decide +kernel, rfl⟩
theorem dX4_nameHere_20 : DD cX4_nameHere 20 (.iconst 1) 1 21 := ⟨by decide +kernel, rfl⟩
theorem dX4_nameHere_21 : DD cX4_nameHere 21 (.ireturn) 1 22 := ⟨by decide +kernel, rfl⟩
theorem dX4_nameHere_22 : DD cX4_nameHere 22 (.aload_n 0) 1 23 := ⟨by decide +kernel, rfl⟩
theorem dX4_nameHere_23 : DD cX4_nameHere 23 (.ldc 86) 2 25 := ⟨by decide +kernel, rfl⟩
theorem dX4_nameHere_25 : DD cX4_nameHere 25 (.invokevirtual 80) 3 28 := ⟨by decide +kernel, rfl⟩
theorem dX4_nameHere_28 : DD cX4_nameHere 28 (.ifCond .eq 5) 3 31 := ⟨by decide +kernel, rfl⟩
theorem dX4_nameHere_31 : DD cX4_nameHere 31 (.iconst 2) 1 32 := ⟨by decide +kernel, rfl⟩
theorem dX4_nameHere_32 : DD cX4_nameHere 32 (.ireturn) 1 33 := ⟨by decide +kernel, rfl⟩
theorem dX4_nameHere_33 : DD cX4_nameHere 33 (.aload_n 0) 1 34 := ⟨by decide +kernel, rfl⟩
theorem dX4_nameHere_34 : DD cX4_nameHere 34 (.ldc 88) 2 36 := ⟨by decide +kernel, rfl⟩
theorem dX4_nameHere_36 : DD cX4_nameHere 36 (.invokevirtual 80) 3 39 := ⟨by decide +kernel, rfl⟩
theorem dX4_nameHere_39 : DD cX4_nameHere 39 (.ifCond .eq 5) 3 42 := ⟨by decide +kernel, rfl⟩
theorem dX4_nameHere_42 : DD cX4_nameHere 42 (.iconst 3) 1 43 := ⟨by decide +kernel, rfl⟩
theorem dX4_nameHere_43 : DD cX4_nameHere 43 (.ireturn) 1 44 := ⟨by decide +kernel, rfl⟩
theorem dX4_nameHere_44 : DD cX4_nameHere 44 (.aload_n 0) 1 45 := ⟨by decide +kernel, rfl⟩
theorem dX4_nameHere_45 : DD cX4_nameHere 45 (.ldc 90) 2 47 := ⟨by decide +kernel, rfl⟩
theorem dX4_nameHere_47 : DD cX4_nameHere 47 (.invokevirtual 80) 3 50 := ⟨by decide +kernel, rfl⟩
theorem dX4_nameHere_50 : DD cX4_nameHere 50 (.ifCond .eq 7) 3 53 := ⟨by decide +kernel, rfl⟩
theorem dX4_nameHere_53 : DD cX4_nameHere 53 (.iconst 4) 1 54 := ⟨by decide +kernel, rfl⟩
theorem dX4_nameHere_54 : DD cX4_nameHere 54 (.goto 4) 3 57 := ⟨by decide +kernel, rfl⟩
theorem dX4_nameHere_57 : DD cX4_nameHere 57 (.iconst (-1)) 1 58 := ⟨by decide +kernel, rfl⟩
theorem dX4_nameHere_58 : DD cX4_nameHere 58 (.ireturn) 1 59 := ⟨by decide +kernel, rfl⟩
theorem dX4_deedHere_0 : DD cX4_deedHere 0 (.aload_n 0) 1 1 := ⟨by decide +kernel, rfl⟩
theorem dX4_deedHere_1 : DD cX4_deedHere 1 (.ldc 92) 2 3 := ⟨by decide +kernel, rfl⟩
theorem dX4_deedHere_3 : DD cX4_deedHere 3 (.invokevirtual 80) 3 6 := ⟨by decide +kernel, rfl⟩
theorem dX4_deedHere_6 : DD cX4_deedHere 6 (.ifCond .eq 5) 3 9 := ⟨by decide +kernel, rfl⟩
theorem dX4_deedHere_9 : DD cX4_deedHere 9 (.iconst 0) 1 10 := ⟨by decide +kernel, rfl⟩
theorem dX4_deedHere_10 : DD cX4_deedHere 10 (.ireturn) 1 11 := ⟨by decide +kernel, rfl⟩
theorem dX4_deedHere_11 : DD cX4_deedHere 11 (.aload_n 0) 1 12 := ⟨by decide +kernel, rfl⟩
theorem dX4_deedHere_12 : DD cX4_deedHere 12 (.ldc 94) 2 14 := ⟨by decide +kernel, rfl⟩
theorem dX4_deedHere_14 : DD cX4_deedHere 14 (.invokevirtual 80) 3 17 := ⟨by decide +kernel, rfl⟩
theorem dX4_deedHere_17 : DD cX4_deedHere 17 (.ifCond .eq 5) 3 20 := ⟨by decide +kernel, rfl⟩
theorem dX4_deedHere_20 : DD cX4_deedHere 20 (.iconst 1) 1 21 := ⟨by decide +kernel, rfl⟩
theorem dX4_deedHere_21 : DD cX4_deedHere 21 (.ireturn) 1 22 := ⟨by decide +kernel, rfl⟩
theorem dX4_deedHere_22 : DD cX4_deedHere 22 (.aload_n 0) 1 23 := ⟨by decide +kernel, rfl⟩
theorem dX4_deedHere_23 : DD cX4_deedHere 23 (.ldc 96) 2 25 := ⟨by decide +kernel, rfl⟩
theorem dX4_deedHere_25 : DD cX4_deedHere 25 (.invokevirtual 80) 3 28 := ⟨by decide +kernel, rfl⟩
theorem dX4_deedHere_28 : DD cX4_deedHere 28 (.ifCond .eq 5) 3 31 := ⟨by decide +kernel, rfl⟩
theorem dX4_deedHere_31 : DD cX4_deedHere 31 (.iconst 2) 1 32 := ⟨by decide +kernel, rfl⟩
theorem dX4_deedHere_32 : DD cX4_deedHere 32 (.ireturn) 1 33 := ⟨by decide +kernel, rfl⟩
theorem dX4_deedHere_33 : DD cX4_deedHere 33 (.aload_n 0) 1 34 := ⟨by decide +kernel, rfl⟩
theorem dX4_deedHere_34 : DD cX4_deedHere 34 (.ldc 98) 2 36 := ⟨by decide +kernel, rfl⟩
theorem dX4_deedHere_36 : DD cX4_deedHere 36 (.invokevirtual 80) 3 39 := ⟨by decide +kernel, rfl⟩
theorem dX4_deedHere_39 : DD cX4_deedHere 39 (.ifCond .eq 5) 3 42 := ⟨by decide +kernel, rfl⟩
theorem dX4_deedHere_42 : DD cX4_deedHere 42 (.iconst 3) 1 43 := ⟨by decide +kernel, rfl⟩
theorem dX4_deedHere_43 : DD cX4_deedHere 43 (.ireturn) 1 44 := ⟨by decide +kernel, rfl⟩
theorem dX4_deedHere_44 : DD cX4_deedHere 44 (.aload_n 0) 1 45 := ⟨by decide +kernel, rfl⟩
theorem dX4_deedHere_45 : DD cX4_deedHere 45 (.ldc 100) 2 47 := ⟨by decide +kernel, rfl⟩
theorem dX4_deedHere_47 : DD cX4_deedHere 47 (.invokevirtual 80) 3 50 := ⟨by decide +kernel, rfl⟩
theorem dX4_deedHere_50 : DD cX4_deedHere 50 (.ifCond .eq 7) 3 53 := ⟨by decide +kernel, rfl⟩
theorem dX4_deedHere_53 : DD cX4_deedHere 53 (.iconst 4) 1 54 := ⟨by decide +kernel, rfl⟩
theorem dX4_deedHere_54 : DD cX4_deedHere 54 (.goto 4) 3 57 := ⟨by decide +kernel, rfl⟩
theorem dX4_deedHere_57 : DD cX4_deedHere 57 (.iconst (-1)) 1 58 := ⟨by decide +kernel, rfl⟩
theorem dX4_deedHere_58 : DD cX4_deedHere 58 (.ireturn) 1 59 := ⟨by decide +kernel, rfl⟩
theorem dX4_isWord_0 : DD cX4_isWord 0 (.aload_n 0) 1 1 := ⟨by decide +kernel, rfl⟩
theorem dX4_isWord_1 : DD cX4_isWord 1 (.getfield 25) 3 4 := ⟨by decide +kernel, rfl⟩
theorem dX4_isWord_4 : DD cX4_isWord 4 (.bipush (-2)) 2 6 := ⟨by decide +kernel, rfl⟩
theorem dX4_isWord_6 : DD cX4_isWord 6 (.if_icmp .ne 19) 3 9 := ⟨by decide +kernel, rfl⟩
theorem dX4_isWord_9 : DD cX4_isWord 9 (.aload_n 0) 1 10 := ⟨by decide +kernel, rfl⟩
theorem dX4_isWord_10 : DD cX4_isWord 10 (.getfield 22) 3 13 := ⟨by decide +kernel, rfl⟩
theorem dX4_isWord_13 : DD cX4_isWord 13 (.aload_n 0) 1 14 := ⟨by decide +kernel, rfl⟩
theorem dX4_isWord_14 : DD cX4_isWord 14 (.getfield 19) 3 17 := ⟨by decide +kernel, rfl⟩
theorem dX4_isWord_17 : DD cX4_isWord 17 (.isub) 1 18 := ⟨by decide +kernel, rfl⟩
theorem dX4_isWord_18 : DD cX4_isWord 18 (.aload_n 1) 1 19 := ⟨by decide +kernel, rfl⟩
theorem dX4_isWord_19 : DD cX4_isWord 19 (.invokevirtual 102) 3 22 := ⟨by decide +kernel, rfl⟩
theorem dX4_isWord_22 : DD cX4_isWord 22 (.if_icmp .eq 5) 3 25 := ⟨by decide +kernel, rfl⟩
theorem dX4_isWord_25 : DD cX4_isWord 25 (.iconst 0) 1 26 := ⟨by decide +kernel, rfl⟩
theorem dX4_isWord_26 : DD cX4_isWord 26 (.ireturn) 1 27 := ⟨by decide +kernel, rfl⟩
theorem dX4_isWord_27 : DD cX4_isWord 27 (.iconst 0) 1 28 := ⟨by decide +kernel, rfl⟩
theorem dX4_isWord_28 : DD cX4_isWord 28 (.istore_n 2) 1 29 := ⟨by decide +kernel, rfl⟩
theorem dX4_isWord_29 : DD cX4_isWord 29 (.iload_n 2) 1 30 := ⟨by decide +kernel, rfl⟩
theorem dX4_isWord_30 : DD cX4_isWord 30 (.aload_n 1) 1 31 := ⟨by decide +kernel, rfl⟩
theorem dX4_isWord_31 : DD cX4_isWord 31 (.invokevirtual 102) 3 34 := ⟨by decide +kernel, rfl⟩
theorem dX4_isWord_34 : DD cX4_isWord 34 (.if_icmp .ge 30) 3 37 := ⟨by decide +kernel, rfl⟩
theorem dX4_isWord_37 : DD cX4_isWord 37 (.aload_n 0) 1 38 := ⟨by decide +kernel, rfl⟩
theorem dX4_isWord_38 : DD cX4_isWord 38 (.getfield 9) 3 41 := ⟨by decide +kernel, rfl⟩
theorem dX4_isWord_41 : DD cX4_isWord 41 (.aload_n 0) 1 42 := ⟨by decide +kernel, rfl⟩
theorem dX4_isWord_42 : DD cX4_isWord 42 (.getfield 19) 3 45 := ⟨by decide +kernel, rfl⟩
theorem dX4_isWord_45 : DD cX4_isWord 45 (.iload_n 2) 1 46 := ⟨by decide +kernel, rfl⟩
theorem dX4_isWord_46 : DD cX4_isWord 46 (.iadd) 1 47 := ⟨by decide +kernel, rfl⟩
theorem dX4_isWord_47 : DD cX4_isWord 47 (.iaload) 1 48 := ⟨by decide +kernel, rfl⟩
theorem dX4_isWord_48 : DD cX4_isWord 48 (.aload_n 1) 1 49 := ⟨by decide +kernel, rfl⟩
theorem dX4_isWord_49 : DD cX4_isWord 49 (.iload_n 2) 1 50 := ⟨by decide +kernel, rfl⟩
theorem dX4_isWord_50 : DD cX4_isWord 50 (.invokevirtual 107) 3 53 := ⟨by decide +kernel, rfl⟩
theorem dX4_isWord_53 : DD cX4_isWord 53 (.if_icmp .eq 5) 3 56 := ⟨by decide +kernel, rfl⟩
theorem dX4_isWord_56 : DD cX4_isWord 56 (.iconst 0) 1 57 := ⟨by decide +kernel, rfl⟩
theorem dX4_isWord_57 : DD cX4_isWord 57 (.ireturn) 1 58 := ⟨by decide +kernel, rfl⟩
theorem dX4_isWord_58 : DD cX4_isWord 58 (.iinc 2 1) 3 61 := ⟨by decide +kernel, rfl⟩
theorem dX4_isWord_61 : DD cX4_isWord 61 (.goto (-32)) 3 64 := ⟨by decide +kernel, rfl⟩
theorem dX4_isWord_64 : DD cX4_isWord 64 (.iconst 1) 1 65 := ⟨by decide +kernel, rfl⟩
theorem dX4_isWord_65 : DD cX4_isWord 65 (.ireturn) 1 66 := ⟨by decide +kernel, rfl⟩
theorem dX5_init_0 : DD cX5_init 0 (.aload_n 0) 1 1 := ⟨by decide +kernel, rfl⟩
theorem dX5_init_1 : DD cX5_init 1 (.invokespecial 3) 3 4 := ⟨by decide +kernel, rfl⟩
theorem dX5_init_4 : DD cX5_init 4 (.aload_n 0) 1 5 := ⟨by decide +kernel, rfl⟩
theorem dX5_init_5 : DD cX5_init 5 (.iconst 0) 1 6 := ⟨by decide +kernel, rfl⟩
theorem dX5_init_6 : DD cX5_init 6 (.putfield 9) 3 9 := ⟨by decide +kernel, rfl⟩
theorem dX5_init_9 : DD cX5_init 9 (.aload_n 0) 1 10 := ⟨by decide +kernel, rfl⟩
theorem dX5_init_10 : DD cX5_init 10 (.bipush 6) 2 12 := ⟨by decide +kernel, rfl⟩
theorem dX5_init_12 : DD cX5_init 12 (.newarray .int) 2 14 := ⟨by decide +kernel, rfl⟩
theorem dX5_init_14 : DD cX5_init 14 (.putfield 15) 3 17 := ⟨by decide +kernel, rfl⟩
theorem dX5_init_17 : DD cX5_init 17 (.aload_n 0) 1 18 := ⟨by decide +kernel, rfl⟩
theorem dX5_init_18 : DD cX5_init 18 (.bipush 6) 2 20 := ⟨by decide +kernel, rfl⟩
theorem dX5_init_20 : DD cX5_init 20 (.newarray .int) 2 22 := ⟨by decide +kernel, rfl⟩
theorem dX5_init_22 : DD cX5_init 22 (.putfield 19) 3 25 := ⟨by decide +kernel, rfl⟩
theorem dX5_init_25 : DD cX5_init 25 (.aload_n 0) 1 26 := ⟨by decide +kernel, rfl⟩
theorem dX5_init_26 : DD cX5_init 26 (.bipush 6) 2 28 := ⟨by decide +kernel, rfl⟩
theorem dX5_init_28 : DD cX5_init 28 (.newarray .int) 2 30 := ⟨by decide +kernel, rfl⟩
theorem dX5_init_30 : DD cX5_init 30 (.putfield 22) 3 33 := ⟨by decide +kernel, rfl⟩
theorem dX5_init_33 : DD cX5_init 33 (.aload_n 0) 1 34 := ⟨by decide +kernel, rfl⟩
theorem dX5_init_34 : DD cX5_init 34 (.bipush 6) 2 36 := ⟨by decide +kernel, rfl⟩
theorem dX5_init_36 : DD cX5_init 36 (.newarray .int) 2 38 := ⟨by decide +kernel, rfl⟩
theorem dX5_init_38 : DD cX5_init 38 (.putfield 25) 3 41 := ⟨by decide +kernel, rfl⟩
theorem dX5_init_41 : DD cX5_init 41 (.return_) 1 42 := ⟨by decide +kernel, rfl⟩
theorem dX5_addRule_0 : DD cX5_addRule 0 (.aload_n 0) 1 1 := ⟨by decide +kernel, rfl⟩
theorem dX5_addRule_1 : DD cX5_addRule 1 (.getfield 9) 3 4 := ⟨by decide +kernel, rfl⟩
theorem dX5_addRule_4 : DD cX5_addRule 4 (.bipush 6) 2 6 := ⟨by decide +kernel, rfl⟩
theorem dX5_addRule_6 : DD cX5_addRule 6 (.if_icmp .ge 54) 3 9 := ⟨by decide +kernel, rfl⟩
theorem dX5_addRule_9 : DD cX5_addRule 9 (.aload_n 0) 1 10 := ⟨by decide +kernel, rfl⟩
theorem dX5_addRule_10 : DD cX5_addRule 10 (.getfield 15) 3 13 := ⟨by decide +kernel, rfl⟩
theorem dX5_addRule_13 : DD cX5_addRule 13 (.aload_n 0) 1 14 := ⟨by decide +kernel, rfl⟩
theorem dX5_addRule_14 : DD cX5_addRule 14 (.getfield 9) 3 17 := ⟨by decide +kernel, rfl⟩
theorem dX5_addRule_17 : DD cX5_addRule 17 (.iload_n 1) 1 18 := ⟨by decide +kernel, rfl⟩
theorem dX5_addRule_18 : DD cX5_addRule 18 (.iastore) 1 19 := ⟨by decide +kernel, rfl⟩
theorem dX5_addRule_19 : DD cX5_addRule 19 (.aload_n 0) 1 20 := ⟨by decide +kernel, rfl⟩
theorem dX5_addRule_20 : DD cX5_addRule 20 (.getfield 19) 3 23 := ⟨by decide +kernel, rfl⟩
theorem dX5_addRule_23 : DD cX5_addRule 23 (.aload_n 0) 1 24 := ⟨by decide +kernel, rfl⟩
theorem dX5_addRule_24 : DD cX5_addRule 24 (.getfield 9) 3 27 := ⟨by decide +kernel, rfl⟩
theorem dX5_addRule_27 : DD cX5_addRule 27 (.iload_n 2) 1 28 := ⟨by decide +kernel, rfl⟩
theorem dX5_addRule_28 : DD cX5_addRule 28 (.iastore) 1 29 := ⟨by decide +kernel, rfl⟩
theorem dX5_addRule_29 : DD cX5_addRule 29 (.aload_n 0) 1 30 := ⟨by decide +kernel, rfl⟩
theorem dX5_addRule_30 : DD cX5_addRule 30 (.getfield 22) 3 33 := ⟨by decide +kernel, rfl⟩
theorem dX5_addRule_33 : DD cX5_addRule 33 (.aload_n 0) 1 34 := ⟨by decide +kernel, rfl⟩
theorem dX5_addRule_34 : DD cX5_addRule 34 (.getfield 9) 3 37 := ⟨by decide +kernel, rfl⟩
theorem dX5_addRule_37 : DD cX5_addRule 37 (.iload_n 3) 1 38 := ⟨by decide +kernel, rfl⟩
theorem dX5_addRule_38 : DD cX5_addRule 38 (.iastore) 1 39 := ⟨by decide +kernel, rfl⟩
theorem dX5_addRule_39 : DD cX5_addRule 39 (.aload_n 0) 1 40 := ⟨by decide +kernel, rfl⟩
theorem dX5_addRule_40 : DD cX5_addRule 40 (.getfield 25) 3 43 := ⟨by decide +kernel, rfl⟩
theorem dX5_addRule_43 : DD cX5_addRule 43 (.aload_n 0) 1 44 := ⟨by decide +kernel, rfl⟩
theorem dX5_addRule_44 : DD cX5_addRule 44 (.getfield 9) 3 47 := ⟨by decide +kernel, rfl⟩
theorem dX5_addRule_47 : DD cX5_addRule 47 (.iload 4) 2 49 := ⟨by decide +kernel, rfl⟩
theorem dX5_addRule_49 : DD cX5_addRule 49 (.iastore) 1 50 := ⟨by decide +kernel, rfl⟩
theorem dX5_addRule_50 : DD cX5_addRule 50 (.aload_n 0) 1 51 := ⟨by decide +kernel, rfl⟩
theorem dX5_addRule_51 : DD cX5_addRule 51 (.dup) 1 52 := ⟨by decide +kernel, rfl⟩
theorem dX5_addRule_52 : DD cX5_addRule 52 (.getfield 9) 3 55 := ⟨by decide +kernel, rfl⟩
theorem dX5_addRule_55 : DD cX5_addRule 55 (.iconst 1) 1 56 := ⟨by decide +kernel, rfl⟩
theorem dX5_addRule_56 : DD cX5_addRule 56 (.iadd) 1 57 := ⟨by decide +kernel, rfl⟩
theorem dX5_addRule_57 : DD cX5_addRule 57 (.putfield 9) 3 60 := ⟨by decide +kernel, rfl⟩
theorem dX5_addRule_60 : DD cX5_addRule 60 (.return_) 1 61 := ⟨by decide +kernel, rfl⟩
theorem dX5_firstThat_0 : DD cX5_firstThat 0 (.iconst 0) 1 1 := ⟨by decide +kernel, rfl⟩
theorem dX5_firstThat_1 : DD cX5_firstThat 1 (.istore 5) 2 3 := ⟨by decide +kernel, rfl⟩
theorem dX5_firstThat_3 : DD cX5_firstThat 3 (.iload 5) 2 5 := ⟨by decide +kernel, rfl⟩
theorem dX5_firstThat_5 : DD cX5_firstThat 5 (.aload_n 0) 1 6 := ⟨by decide +kernel, rfl⟩
theorem dX5_firstThat_6 : DD cX5_firstThat 6 (.getfield 9) 3 9 := ⟨by decide +kernel, rfl⟩
theorem dX5_firstThat_9 : DD cX5_firstThat 9 (.if_icmp .ge 116) 3 12 := ⟨by decide +kernel, rfl⟩
theorem dX5_firstThat_12 : DD cX5_firstThat 12 (.aload_n 0) 1 13 := ⟨by decide +kernel, rfl⟩
theorem dX5_firstThat_13 : DD cX5_firstThat 13 (.getfield 15) 3 16 := ⟨by decide +kernel, rfl⟩
theorem dX5_firstThat_16 : DD cX5_firstThat 16 (.iload 5) 2 18 := ⟨by decide +kernel, rfl⟩
theorem dX5_firstThat_18 : DD cX5_firstThat 18 (.iaload) 1 19 := ⟨by decide +kernel, rfl⟩
theorem dX5_firstThat_19 : DD cX5_firstThat 19 (.istore 6) 2 21 := ⟨by decide +kernel, rfl⟩
theorem dX5_firstThat_21 : DD cX5_firstThat 21 (.iload 6) 2 23 := ⟨by decide +kernel, rfl⟩
theorem dX5_firstThat_23 : DD cX5_firstThat 23 (.ifCond .ne 7) 3 26 := ⟨by decide +kernel, rfl⟩
theorem dX5_firstThat_26 : DD cX5_firstThat 26 (.iload_n 1) 1 27 := ⟨by decide +kernel, rfl⟩
theorem dX5_firstThat_27 : DD cX5_firstThat 27 (.goto 25) 3 30 := ⟨by decide +kernel, rfl⟩
theorem dX5_firstThat_30 : DD cX5_firstThat 30 (.iload 6) 2 32 := ⟨by decide +kernel, rfl⟩
theorem dX5_firstThat_32 : DD cX5_firstThat 32 (.iconst 1) 1 33 := ⟨by decide +kernel, rfl⟩
theorem dX5_firstThat_33 : DD cX5_firstThat 33 (.if_icmp .ne 7) 3 36 := ⟨by decide +kernel, rfl⟩
theorem dX5_firstThat_36 : DD cX5_firstThat 36 (.iload_n 2) 1 37 := ⟨by decide +kernel, rfl⟩
theorem dX5_firstThat_37 : DD cX5_firstThat 37 (.goto 15) 3 40 := ⟨by decide +kernel, rfl⟩
theorem dX5_firstThat_40 : DD cX5_firstThat 40 (.iload 6) 2 42 := ⟨by decide +kernel, rfl⟩
theorem dX5_firstThat_42 : DD cX5_firstThat 42 (.iconst 2) 1 43 := ⟨by decide +kernel, rfl⟩
theorem dX5_firstThat_43 : DD cX5_firstThat 43 (.if_icmp .ne 7) 3 46 := ⟨by decide +kernel, rfl⟩
theorem dX5_firstThat_46 : DD cX5_firstThat 46 (.iload_n 3) 1 47 := ⟨by decide +kernel, rfl⟩
theorem dX5_firstThat_47 : DD cX5_firstThat 47 (.goto 5) 3 50 := ⟨by decide +kernel, rfl⟩
theorem dX5_firstThat_50 : DD cX5_firstThat 50 (.iload 4) 2 52 := ⟨by decide +kernel, rfl⟩
theorem dX5_firstThat_52 : DD cX5_firstThat 52 (.istore 7) 2 54 := ⟨by decide +kernel, rfl⟩
theorem dX5_firstThat_54 : DD cX5_firstThat 54 (.aload_n 0) 1 55 := ⟨by decide +kernel, rfl⟩
theorem dX5_firstThat_55 : DD cX5_firstThat 55 (.getfield 19) 3 58 := ⟨by decide +kernel, rfl⟩
theorem dX5_firstThat_58 : DD cX5_firstThat 58 (.iload 5) 2 60 := ⟨by decide +kernel, rfl⟩
theorem dX5_firstThat_60 : DD cX5_firstThat 60 (.iaload) 1 61 := ⟨by decide +kernel, rfl⟩
theorem dX5_firstThat_61 : DD cX5_firstThat 61 (.bipush 60) 2 63 := ⟨by decide +kernel, rfl⟩
theorem dX5_firstThat_63 : DD cX5_firstThat 63 (.if_icmp .ne 23) 3 66 := ⟨by decide +kernel, rfl⟩
theorem dX5_firstThat_66 : DD cX5_firstThat 66 (.iload 7) 2 68 := ⟨by decide +kernel, rfl⟩
theorem dX5_firstThat_68 : DD cX5_firstThat 68 (.aload_n 0) 1 69 := ⟨by decide +kernel, rfl⟩
theorem dX5_firstThat_69 : DD cX5_firstThat 69 (.getfield 22) 3 72 := ⟨by decide +kernel, rfl⟩
theorem dX5_firstThat_72 : DD cX5_firstThat 72 (.iload 5) 2 74 := ⟨by decide +kernel, rfl⟩
theorem dX5_firstThat_74 : DD cX5_firstThat 74 (.iaload) 1 75 := ⟨by decide +kernel, rfl⟩
theorem dX5_firstThat_75 : DD cX5_firstThat 75 (.if_icmp .ge 7) 3 78 := ⟨by decide +kernel, rfl⟩
theorem dX5_firstThat_78 : DD cX5_firstThat 78 (.iconst 1) 1 79 := ⟨by decide +kernel, rfl⟩
theorem dX5_firstThat_79 : DD cX5_firstThat 79 (.goto 24) 3 82 := ⟨by decide +kernel, rfl⟩
theorem dX5_firstThat_82 : DD cX5_firstThat 82 (.iconst 0) 1 83 := ⟨by decide +kernel, rfl⟩
theorem dX5_firstThat_83 : DD cX5_firstThat 83 (.goto 20) 3 86 := ⟨by decide +kernel, rfl⟩
theorem dX5_firstThat_86 : DD cX5_firstThat 86 (.iload 7) 2 88 := ⟨by decide +kernel, rfl⟩
theorem dX5_firstThat_88 : DD cX5_firstThat 88 (.aload_n 0) 1 89 := ⟨by decide +kernel, rfl⟩
theorem dX5_firstThat_89 : DD cX5_firstThat 89 (.getfield 22) 3 92 := ⟨by decide +kernel, rfl⟩
theorem dX5_firstThat_92 : DD cX5_firstThat 92 (.iload 5) 2 94 := ⟨by decide +kernel, rfl⟩
theorem dX5_firstThat_94 : DD cX5_firstThat 94 (.iaload) 1 95 := ⟨by decide +kernel, rfl⟩
theorem dX5_firstThat_95 : DD cX5_firstThat 95 (.if_icmp .le 7) 3 98 := ⟨by decide +kernel, rfl⟩
theorem dX5_firstThat_98 : DD cX5_firstThat 98 (.iconst 1) 1 99 := ⟨by decide +kernel, rfl⟩
theorem dX5_firstThat_99 : DD cX5_firstThat 99 (.goto 4) 3 102 := ⟨by decide +kernel, rfl⟩
theorem dX5_firstThat_102 : DD cX5_firstThat 102 (.iconst 0) 1 103 := ⟨by decide +kernel, rfl⟩
theorem dX5_firstThat_103 : DD cX5_firstThat 103 (.istore 8) 2 105 := ⟨by decide +kernel, rfl⟩
theorem dX5_firstThat_105 : DD cX5_firstThat 105 (.iload 8) 2 107 := ⟨by decide +kernel, rfl⟩
theorem dX5_firstThat_107 : DD cX5_firstThat 107 (.ifCond .ne 9) 3 110 := ⟨by decide +kernel, rfl⟩
theorem dX5_firstThat_110 : DD cX5_firstThat 110 (.iload 6) 2 112 := ⟨by decide +kernel, rfl⟩
theorem dX5_firstThat_112 : DD cX5_firstThat 112 (.iconst 4) 1 113 := ⟨by decide +kernel, rfl⟩
theorem dX5_firstThat_113 : DD cX5_firstThat 113 (.if_icmp .ne 6) 3 116 := ⟨by decide +kernel, rfl⟩
theorem dX5_firstThat_116 : DD cX5_firstThat 116 (.iload 5) 2 118 := ⟨by decide +kernel, rfl⟩
theorem dX5_firstThat_118 : DD cX5_firstThat 118 (.ireturn) 1 119 := ⟨by decide +kernel, rfl⟩
theorem dX5_firstThat_119 : DD cX5_firstThat 119 (.iinc 5 1) 3 122 := ⟨by decide +kernel, rfl⟩
theorem dX5_firstThat_122 : DD cX5_firstThat 122 (.goto (-119)) 3 125 := ⟨by decide +kernel, rfl⟩
theorem dX5_firstThat_125 : DD cX5_firstThat 125 (.iconst (-1)) 1 126 := ⟨by decide +kernel, rfl⟩
theorem dX5_firstThat_126 : DD cX5_firstThat 126 (.ireturn) 1 127 := ⟨by decide +kernel, rfl⟩
theorem dX5_deedOf_0 : DD cX5_deedOf 0 (.iload_n 1) 1 1 := ⟨by decide +kernel, rfl⟩
theorem dX5_deedOf_1 : DD cX5_deedOf 1 (.iconst 0) 1 2 := ⟨by decide +kernel, rfl⟩
theorem dX5_deedOf_2 : DD cX5_deedOf 2 (.aload_n 0) 1 3 := ⟨by decide +kernel, rfl⟩
theorem dX5_deedOf_3 : DD cX5_deedOf 3 (.getfield 9) 3 6 := ⟨by decide +kernel, rfl⟩
theorem dX5_deedOf_6 : DD cX5_deedOf 6 (.iconst 1) 1 7 := ⟨by decide +kernel, rfl⟩
theorem dX5_deedOf_7 : DD cX5_deedOf 7 (.isub) 1 8 := ⟨by decide +kernel, rfl⟩
theorem dX5_deedOf_8 : DD cX5_deedOf 8 (.invokestatic 28) 3 11 := ⟨by decide +kernel, rfl⟩
theorem dX5_deedOf_11 : DD cX5_deedOf 11 (.ifCond .eq 12) 3 14 := ⟨by decide +kernel, rfl⟩
theorem dX5_deedOf_14 : DD cX5_deedOf 14 (.aload_n 0) 1 15 := ⟨by decide +kernel, rfl⟩
theorem dX5_deedOf_15 : DD cX5_deedOf 15 (.getfield 25) 3 18 := ⟨by decide +kernel, rfl⟩
theorem dX5_deedOf_18 : DD cX5_deedOf 18 (.iload_n 1) 1 19 := ⟨by decide +kernel, rfl⟩
theorem dX5_deedOf_19 : DD cX5_deedOf 19 (.iaload) 1 20 := ⟨by decide +kernel, rfl⟩
theorem dX5_deedOf_20 : DD cX5_deedOf 20 (.goto 4) 3 23 := ⟨by decide +kernel, rfl⟩
theorem dX5_deedOf_23 : DD cX5_deedOf 23 (.iconst 3) 1 24 := ⟨by decide +kernel, rfl⟩
theorem dX5_deedOf_24 : DD cX5_deedOf 24 (.ireturn) 1 25 := ⟨by decide +kernel, rfl⟩
theorem dX6_init_0 : DD cX6_init 0 (.aload_n 0) 1 1 := ⟨by decide +kernel, rfl⟩
theorem dX6_init_1 : DD cX6_init 1 (.invokespecial 3) 3 4 := ⟨by decide +kernel, rfl⟩
theorem dX6_init_4 : DD cX6_init 4 (.aload_n 0) 1 5 := ⟨by decide +kernel, rfl⟩
theorem dX6_init_5 : DD cX6_init 5 (.bipush 8) 2 7 := ⟨by decide +kernel, rfl⟩
theorem dX6_init_7 : DD cX6_init 7 (.anewarray 9) 3 10 := ⟨by decide +kernel, rfl⟩
theorem dX6_init_10 : DD cX6_init 10 (.putfield 11) 3 13 := ⟨by decide +kernel, rfl⟩
theorem dX6_init_13 : DD cX6_init 13 (.aload_n 0) 1 14 := ⟨by decide +kernel, rfl⟩
theorem dX6_init_14 : DD cX6_init 14 (.iconst 0) 1 15 := ⟨by decide +kernel, rfl⟩
theorem dX6_init_15 : DD cX6_init 15 (.putfield 17) 3 18 := ⟨by decide +kernel, rfl⟩
theorem dX6_init_18 : DD cX6_init 18 (.aload_n 0) 1 19 := ⟨by decide +kernel, rfl⟩
theorem dX6_init_19 : DD cX6_init 19 (.bipush 6) 2 21 := ⟨by decide +kernel, rfl⟩
theorem dX6_init_21 : DD cX6_init 21 (.anewarray 21) 3 24 := ⟨by decide +kernel, rfl⟩
theorem dX6_init_24 : DD cX6_init 24 (.putfield 23) 3 27 := ⟨by decide +kernel, rfl⟩
theorem dX6_init_27 : DD cX6_init 27 (.aload_n 0) 1 28 := ⟨by decide +kernel, rfl⟩
theorem dX6_init_28 : DD cX6_init 28 (.iconst 0) 1 29 := ⟨by decide +kernel, rfl⟩
theorem dX6_init_29 : DD cX6_init 29 (.putfield 27) 3 32 := ⟨by decide +kernel, rfl⟩
theorem dX6_init_32 : DD cX6_init 32 (.aload_n 0) 1 33 := ⟨by decide +kernel, rfl⟩
theorem dX6_init_33 : DD cX6_init 33 (.getstatic 30) 3 36 := ⟨by decide +kernel, rfl⟩
theorem dX6_init_36 : DD cX6_init 36 (.invokevirtual 34) 3 39 := ⟨by decide +kernel, rfl⟩
theorem dX6_init_39 : DD cX6_init 39 (.checkcast 35) 3 42 := ⟨by decide +kernel, rfl⟩
theorem dX6_init_42 : DD cX6_init 42 (.putfield 39) 3 45 := ⟨by decide +kernel, rfl⟩
theorem dX6_init_45 : DD cX6_init 45 (.aload_n 0) 1 46 := ⟨by decide +kernel, rfl⟩
theorem dX6_init_46 : DD cX6_init 46 (.new 42) 3 49 := ⟨by decide +kernel, rfl⟩
theorem dX6_init_49 : DD cX6_init 49 (.dup) 1 50 := ⟨by decide +kernel, rfl⟩
theorem dX6_init_50 : DD cX6_init 50 (.aload_n 0) 1 51 := ⟨by decide +kernel, rfl⟩
theorem dX6_init_51 : DD cX6_init 51 (.getfield 39) 3 54 := ⟨by decide +kernel, rfl⟩
theorem dX6_init_54 : DD cX6_init 54 (.aload_n 0) 1 55 := ⟨by decide +kernel, rfl⟩
theorem dX6_init_55 : DD cX6_init 55 (.getfield 23) 3 58 := ⟨by decide +kernel, rfl⟩
theorem dX6_init_58 : DD cX6_init 58 (.invokespecial 44) 3 61 := ⟨by decide +kernel, rfl⟩
theorem dX6_init_61 : DD cX6_init 61 (.putfield 47) 3 64 := ⟨by decide +kernel, rfl⟩
theorem dX6_init_64 : DD cX6_init 64 (.aload_n 0) 1 65 := ⟨by decide +kernel, rfl⟩
theorem dX6_init_65 : DD cX6_init 65 (.iconst 0) 1 66 := ⟨by decide +kernel, rfl⟩
theorem dX6_init_66 : DD cX6_init 66 (.putfield 51) 3 69 := ⟨by decide +kernel, rfl⟩
theorem dX6_init_69 : DD cX6_init 69 (.aload_n 0) 1 70 := ⟨by decide +kernel, rfl⟩
theorem dX6_init_70 : DD cX6_init 70 (.iconst 0) 1 71 := ⟨by decide +kernel, rfl⟩
theorem dX6_init_71 : DD cX6_init 71 (.putfield 55) 3 74 := ⟨by decide +kernel, rfl⟩
theorem dX6_init_74 : DD cX6_init 74 (.aload_n 0) 1 75 := ⟨by decide +kernel, rfl⟩
theorem dX6_init_75 : DD cX6_init 75 (.iconst 0) 1 76 := ⟨by decide +kernel, rfl⟩
theorem dX6_init_76 : DD cX6_init 76 (.putfield 58) 3 79 := ⟨by decide +kernel, rfl⟩
theorem dX6_init_79 : DD cX6_init 79 (.aload_n 0) 1 80 := ⟨by decide +kernel, rfl⟩
theorem dX6_init_80 : DD cX6_init 80 (.iconst 0) 1 81 := ⟨by decide +kernel, rfl⟩
theorem dX6_init_81 : DD cX6_init 81 (.putfield 61) 3 84 := ⟨by decide +kernel, rfl⟩
theorem dX6_init_84 : DD cX6_init 84 (.iconst 0) 1 85 := ⟨by decide +kernel, rfl⟩
theorem dX6_init_85 : DD cX6_init 85 (.istore_n 1) 1 86 := ⟨by decide +kernel, rfl⟩
theorem dX6_init_86 : DD cX6_init 86 (.iload_n 1) 1 87 := ⟨by decide +kernel, rfl⟩
theorem dX6_init_87 : DD cX6_init 87 (.bipush 8) 2 89 := ⟨by decide +kernel, rfl⟩
theorem dX6_init_89 : DD cX6_init 89 (.if_icmp .ge 22) 3 92 := ⟨by decide +kernel, rfl⟩
theorem dX6_init_92 : DD cX6_init 92 (.aload_n 0) 1 93 := ⟨by decide +kernel, rfl⟩
theorem dX6_init_93 : DD cX6_init 93 (.getfield 11) 3 96 := ⟨by decide +kernel, rfl⟩
theorem dX6_init_96 : DD cX6_init 96 (.iload_n 1) 1 97 := ⟨by decide +kernel, rfl⟩
theorem dX6_init_97 : DD cX6_init 97 (.new 9) 3 100 := ⟨by decide +kernel, rfl⟩
theorem dX6_init_100 : DD cX6_init 100 (.dup) 1 101 := ⟨by decide +kernel, rfl⟩
theorem dX6_init_101 : DD cX6_init 101 (.invokespecial 64) 3 104 := ⟨by decide +kernel, rfl⟩
theorem dX6_init_104 : DD cX6_init 104 (.aastore) 1 105 := ⟨by decide +kernel, rfl⟩
theorem dX6_init_105 : DD cX6_init 105 (.iinc 1 1) 3 108 := ⟨by decide +kernel, rfl⟩
theorem dX6_init_108 : DD cX6_init 108 (.goto (-22)) 3 111 := ⟨by decide +kernel, rfl⟩
theorem dX6_init_111 : DD cX6_init 111 (.return_) 1 112 := ⟨by decide +kernel, rfl⟩
theorem dX6_takeFrom_0 : DD cX6_takeFrom 0 (.iconst 0) 1 1 := ⟨by decide +kernel, rfl⟩
theorem dX6_takeFrom_1 : DD cX6_takeFrom 1 (.istore_n 2) 1 2 := ⟨by decide +kernel, rfl⟩
theorem dX6_takeFrom_2 : DD cX6_takeFrom 2 (.iload_n 2) 1 3 := ⟨by decide +kernel, rfl⟩
theorem dX6_takeFrom_3 : DD cX6_takeFrom 3 (.bipush 8) 2 5 := ⟨by decide +kernel, rfl⟩
theorem dX6_takeFrom_5 : DD cX6_takeFrom 5 (.if_icmp .ge 24) 3 8 := ⟨by decide +kernel, rfl⟩
theorem dX6_takeFrom_8 : DD cX6_takeFrom 8 (.aload_n 0) 1 9 := ⟨by decide +kernel, rfl⟩
theorem dX6_takeFrom_9 : DD cX6_takeFrom 9 (.getfield 11) 3 12 := ⟨by decide +kernel, rfl⟩
theorem dX6_takeFrom_12 : DD cX6_takeFrom 12 (.iload_n 2) 1 13 := ⟨by decide +kernel, rfl⟩
theorem dX6_takeFrom_13 : DD cX6_takeFrom 13 (.aaload) 1 14 := ⟨by decide +kernel, rfl⟩
theorem dX6_takeFrom_14 : DD cX6_takeFrom 14 (.aload_n 1) 1 15 := ⟨by decide +kernel, rfl⟩
theorem dX6_takeFrom_15 : DD cX6_takeFrom 15 (.getfield 11) 3 18 := ⟨by decide +kernel, rfl⟩
theorem dX6_takeFrom_18 : DD cX6_takeFrom 18 (.iload_n 2) 1 19 := ⟨by decide +kernel, rfl⟩
theorem dX6_takeFrom_19 : DD cX6_takeFrom 19 (.aaload) 1 20 := ⟨by decide +kernel, rfl⟩
theorem dX6_takeFrom_20 : DD cX6_takeFrom 20 (.invokevirtual 65) 3 23 := ⟨by decide +kernel, rfl⟩
theorem dX6_takeFrom_23 : DD cX6_takeFrom 23 (.iinc 2 1) 3 26 := ⟨by decide +kernel, rfl⟩
theorem dX6_takeFrom_26 : DD cX6_takeFrom 26 (.goto (-24)) 3 29 := ⟨by decide +kernel, rfl⟩
theorem dX6_takeFrom_29 : DD cX6_takeFrom 29 (.aload_n 0) 1 30 := ⟨by decide +kernel, rfl⟩
theorem dX6_takeFrom_30 : DD cX6_takeFrom 30 (.aload_n 1) 1 31 := ⟨by decide +kernel, rfl⟩
theorem dX6_takeFrom_31 : DD cX6_takeFrom 31 (.getfield 17) 3 34 := ⟨by decide +kernel, rfl⟩
theorem dX6_takeFrom_34 : DD cX6_takeFrom 34 (.putfield 17) 3 37 := ⟨by decide +kernel, rfl⟩
theorem dX6_takeFrom_37 : DD cX6_takeFrom 37 (.iconst 0) 1 38 := ⟨by decide +kernel, rfl⟩
theorem dX6_takeFrom_38 : DD cX6_takeFrom 38 (.istore_n 2) 1 39 := ⟨by decide +kernel, rfl⟩
theorem dX6_takeFrom_39 : DD cX6_takeFrom 39 (.iload_n 2) 1 40 := ⟨by decide +kernel, rfl⟩
theorem dX6_takeFrom_40 : DD cX6_takeFrom 40 (.bipush 6) 2 42 := ⟨by decide +kernel, rfl⟩
theorem dX6_takeFrom_42 : DD cX6_takeFrom 42 (.if_icmp .ge 21) 3 45 := ⟨by decide +kernel, rfl⟩
theorem dX6_takeFrom_45 : DD cX6_takeFrom 45 (.aload_n 0) 1 46 := ⟨by decide +kernel, rfl⟩
theorem dX6_takeFrom_46 : DD cX6_takeFrom 46 (.getfield 23) 3 49 := ⟨by decide +kernel, rfl⟩
theorem dX6_takeFrom_49 : DD cX6_takeFrom 49 (.iload_n 2) 1 50 := ⟨by decide +kernel, rfl⟩
theorem dX6_takeFrom_50 : DD cX6_takeFrom 50 (.aload_n 1) 1 51 := ⟨by decide +kernel, rfl⟩
theorem dX6_takeFrom_51 : DD cX6_takeFrom 51 (.getfield 23) 3 54 := ⟨by decide +kernel, rfl⟩
theorem dX6_takeFrom_54 : DD cX6_takeFrom 54 (.iload_n 2) 1 55 := ⟨by decide +kernel, rfl⟩
theorem dX6_takeFrom_55 : DD cX6_takeFrom 55 (.aaload) 1 56 := ⟨by decide +kernel, rfl⟩
theorem dX6_takeFrom_56 : DD cX6_takeFrom 56 (.aastore) 1 57 := ⟨by decide +kernel, rfl⟩
theorem dX6_takeFrom_57 : DD cX6_takeFrom 57 (.iinc 2 1) 3 60 := ⟨by decide +kernel, rfl⟩
theorem dX6_takeFrom_60 : DD cX6_takeFrom 60 (.goto (-21)) 3 63 := ⟨by decide +kernel, rfl⟩
theorem dX6_takeFrom_63 : DD cX6_takeFrom 63 (.aload_n 0) 1 64 := ⟨by decide +kernel, rfl⟩
theorem dX6_takeFrom_64 : DD cX6_takeFrom 64 (.aload_n 1) 1 65 := ⟨by decide +kernel, rfl⟩
theorem dX6_takeFrom_65 : DD cX6_takeFrom 65 (.getfield 27) 3 68 := ⟨by decide +kernel, rfl⟩
theorem dX6_takeFrom_68 : DD cX6_takeFrom 68 (.putfield 27) 3 71 := ⟨by decide +kernel, rfl⟩
theorem dX6_takeFrom_71 : DD cX6_takeFrom 71 (.iconst 0) 1 72 := ⟨by decide +kernel, rfl⟩
theorem dX6_takeFrom_72 : DD cX6_takeFrom 72 (.istore_n 2) 1 73 := ⟨by decide +kernel, rfl⟩
theorem dX6_takeFrom_73 : DD cX6_takeFrom 73 (.iload_n 2) 1 74 := ⟨by decide +kernel, rfl⟩
theorem dX6_takeFrom_74 : DD cX6_takeFrom 74 (.iconst 5) 1 75 := ⟨by decide +kernel, rfl⟩
theorem dX6_takeFrom_75 : DD cX6_takeFrom 75 (.if_icmp .ge 21) 3 78 := ⟨by decide +kernel, rfl⟩
theorem dX6_takeFrom_78 : DD cX6_takeFrom 78 (.aload_n 0) 1 79 := ⟨by decide +kernel, rfl⟩
theorem dX6_takeFrom_79 : DD cX6_takeFrom 79 (.getfield 39) 3 82 := ⟨by decide +kernel, rfl⟩
theorem dX6_takeFrom_82 : DD cX6_takeFrom 82 (.iload_n 2) 1 83 := ⟨by decide +kernel, rfl⟩
theorem dX6_takeFrom_83 : DD cX6_takeFrom 83 (.aload_n 1) 1 84 := ⟨by decide +kernel, rfl⟩
theorem dX6_takeFrom_84 : DD cX6_takeFrom 84 (.getfield 39) 3 87 := ⟨by decide +kernel, rfl⟩
theorem dX6_takeFrom_87 : DD cX6_takeFrom 87 (.iload_n 2) 1 88 := ⟨by decide +kernel, rfl⟩
theorem dX6_takeFrom_88 : DD cX6_takeFrom 88 (.iaload) 1 89 := ⟨by decide +kernel, rfl⟩
theorem dX6_takeFrom_89 : DD cX6_takeFrom 89 (.iastore) 1 90 := ⟨by decide +kernel, rfl⟩
theorem dX6_takeFrom_90 : DD cX6_takeFrom 90 (.iinc 2 1) 3 93 := ⟨by decide +kernel, rfl⟩
theorem dX6_takeFrom_93 : DD cX6_takeFrom 93 (.goto (-20)) 3 96 := ⟨by decide +kernel, rfl⟩
theorem dX6_takeFrom_96 : DD cX6_takeFrom 96 (.aload_n 0) 1 97 := ⟨by decide +kernel, rfl⟩
theorem dX6_takeFrom_97 : DD cX6_takeFrom 97 (.getfield 47) 3 100 := ⟨by decide +kernel, rfl⟩
theorem dX6_takeFrom_100 : DD cX6_takeFrom 100 (.aload_n 1) 1 101 := ⟨by decide +kernel, rfl⟩
theorem dX6_takeFrom_101 : DD cX6_takeFrom 101 (.getfield 47) 3 104 := ⟨by decide +kernel, rfl⟩
theorem dX6_takeFrom_104 : DD cX6_takeFrom 104 (.invokevirtual 69) 3 107 := ⟨by decide +kernel, rfl⟩
theorem dX6_takeFrom_107 : DD cX6_takeFrom 107 (.aload_n 0) 1 108 := ⟨by decide +kernel, rfl⟩
theorem dX6_takeFrom_108 : DD cX6_takeFrom 108 (.aload_n 1) 1 109 := ⟨by decide +kernel, rfl⟩
theorem dX6_takeFrom_109 : DD cX6_takeFrom 109 (.getfield 51) 3 112 := ⟨by decide +kernel, rfl⟩
theorem dX6_takeFrom_112 : DD cX6_takeFrom 112 (.putfield 51) 3 115 := ⟨by decide +kernel, rfl⟩
theorem dX6_takeFrom_115 : DD cX6_takeFrom 115 (.aload_n 0) 1 116 := ⟨by decide +kernel, rfl⟩
theorem dX6_takeFrom_116 : DD cX6_takeFrom 116 (.aload_n 1) 1 117 := ⟨by decide +kernel, rfl⟩
theorem dX6_takeFrom_117 : DD cX6_takeFrom 117 (.getfield 55) 3 120 := ⟨by decide +kernel, rfl⟩
theorem dX6_takeFrom_120 : DD cX6_takeFrom 120 (.putfield 55) 3 123 := ⟨by decide +kernel, rfl⟩
theorem dX6_takeFrom_123 : DD cX6_takeFrom 123 (.aload_n 0) 1 124 := ⟨by decide +kernel, rfl⟩
theorem dX6_takeFrom_124 : DD cX6_takeFrom 124 (.aload_n 1) 1 125 := ⟨by decide +kernel, rfl⟩
theorem dX6_takeFrom_125 : DD cX6_takeFrom 125 (.getfield 58) 3 128 := ⟨by decide +kernel, rfl⟩
theorem dX6_takeFrom_128 : DD cX6_takeFrom 128 (.putfield 58) 3 131 := ⟨by decide +kernel, rfl⟩
theorem dX6_takeFrom_131 : DD cX6_takeFrom 131 (.aload_n 0) 1 132 := ⟨by decide +kernel, rfl⟩
theorem dX6_takeFrom_132 : DD cX6_takeFrom 132 (.aload_n 1) 1 133 := ⟨by decide +kernel, rfl⟩
theorem dX6_takeFrom_133 : DD cX6_takeFrom 133 (.getfield 61) 3 136 := ⟨by decide +kernel, rfl⟩
theorem dX6_takeFrom_136 : DD cX6_takeFrom 136 (.putfield 61) 3 139 := ⟨by decide +kernel, rfl⟩
theorem dX6_takeFrom_139 : DD cX6_takeFrom 139 (.return_) 1 140 := ⟨by decide +kernel, rfl⟩
theorem dX6_isOnLog_0 : DD cX6_isOnLog 0 (.aload_n 0) 1 1 := ⟨by decide +kernel, rfl⟩
theorem dX6_isOnLog_1 : DD cX6_isOnLog 1 (.getfield 51) 3 4 := ⟨by decide +kernel, rfl⟩
theorem dX6_isOnLog_4 : DD cX6_isOnLog 4 (.ifCond .eq 23) 3 7 := ⟨by decide +kernel, rfl⟩
theorem dX6_isOnLog_7 : DD cX6_isOnLog 7 (.iload_n 1) 1 8 := ⟨by decide +kernel, rfl⟩
theorem dX6_isOnLog_8 : DD cX6_isOnLog 8 (.aload_n 0) 1 9 := ⟨by decide +kernel, rfl⟩
theorem dX6_isOnLog_9 : DD cX6_isOnLog 9 (.getfield 55) 3 12 := ⟨by decide +kernel, rfl⟩
theorem dX6_isOnLog_12 : DD cX6_isOnLog 12 (.if_icmp .eq 11) 3 15 := ⟨by decide +kernel, rfl⟩
theorem dX6_isOnLog_15 : DD cX6_isOnLog 15 (.iload_n 1) 1 16 := ⟨by decide +kernel, rfl⟩
theorem dX6_isOnLog_16 : DD cX6_isOnLog 16 (.aload_n 0) 1 17 := ⟨by decide +kernel, rfl⟩
theorem dX6_isOnLog_17 : DD cX6_isOnLog 17 (.getfield 58) 3 20 := ⟨by decide +kernel, rfl⟩
theorem dX6_isOnLog_20 : DD cX6_isOnLog 20 (.if_icmp .ne 7) 3 23 := ⟨by decide +kernel, rfl⟩
theorem dX6_isOnLog_23 : DD cX6_isOnLog 23 (.iconst 1) 1 24 := ⟨by decide +kernel, rfl⟩
theorem dX6_isOnLog_24 : DD cX6_isOnLog 24 (.goto 4) 3 27 := ⟨by decide +kernel, rfl⟩
theorem dX6_isOnLog_27 : DD cX6_isOnLog 27 (.iconst 0) 1 28 := ⟨by decide +kernel, rfl⟩
theorem dX6_isOnLog_28 : DD cX6_isOnLog 28 (.ireturn) 1 29 := ⟨by decide +kernel, rfl⟩
theorem dX6_wayAt_0 : DD cX6_wayAt 0 (.iload_n 1) 1 1 := ⟨by decide +kernel, rfl⟩
theorem dX6_wayAt_1 : DD cX6_wayAt 1 (.iconst 0) 1 2 := ⟨by decide +kernel, rfl⟩
theorem dX6_wayAt_2 : DD cX6_wayAt 2 (.aload_n 0) 1 3 := ⟨by decide +kernel, rfl⟩
theorem dX6_wayAt_3 : DD cX6_wayAt 3 (.getfield 27) 3 6 := ⟨by decide +kernel, rfl⟩
theorem dX6_wayAt_6 : DD cX6_wayAt 6 (.iconst 1) 1 7 := ⟨by decide +kernel, rfl⟩
theorem dX6_wayAt_7 : DD cX6_wayAt 7 (.isub) 1 8 := ⟨by decide +kernel, rfl⟩
theorem dX6_wayAt_8 : DD cX6_wayAt 8 (.invokestatic 72) 3 11 := ⟨by decide +kernel, rfl⟩
theorem dX6_wayAt_11 : DD cX6_wayAt 11 (.ifCond .eq 12) 3 14 := ⟨by decide +kernel, rfl⟩
theorem dX6_wayAt_14 : DD cX6_wayAt 14 (.aload_n 0) 1 15 := ⟨by decide +kernel, rfl⟩
theorem dX6_wayAt_15 : DD cX6_wayAt 15 (.getfield 23) 3 18 := ⟨by decide +kernel, rfl⟩
theorem dX6_wayAt_18 : DD cX6_wayAt 18 (.iload_n 1) 1 19 := ⟨by decide +kernel, rfl⟩
theorem dX6_wayAt_19 : DD cX6_wayAt 19 (.aaload) 1 20 := ⟨by decide +kernel, rfl⟩
theorem dX6_wayAt_20 : DD cX6_wayAt 20 (.goto 4) 3 23 := ⟨by decide +kernel, rfl⟩
theorem dX6_wayAt_23 : DD cX6_wayAt 23 (.aconst_null) 1 24 := ⟨by decide +kernel, rfl⟩
theorem dX6_wayAt_24 : DD cX6_wayAt 24 (.areturn) 1 25 := ⟨by decide +kernel, rfl⟩
theorem dX6_allFalls_0 : DD cX6_allFalls 0 (.iconst 0) 1 1 := ⟨by decide +kernel, rfl⟩
theorem dX6_allFalls_1 : DD cX6_allFalls 1 (.istore_n 1) 1 2 := ⟨by decide +kernel, rfl⟩
theorem dX6_allFalls_2 : DD cX6_allFalls 2 (.iconst 0) 1 3 := ⟨by decide +kernel, rfl⟩
theorem dX6_allFalls_3 : DD cX6_allFalls 3 (.istore_n 2) 1 4 := ⟨by decide +kernel, rfl⟩
theorem dX6_allFalls_4 : DD cX6_allFalls 4 (.iload_n 2) 1 5 := ⟨by decide +kernel, rfl⟩
theorem dX6_allFalls_5 : DD cX6_allFalls 5 (.aload_n 0) 1 6 := ⟨by decide +kernel, rfl⟩
theorem dX6_allFalls_6 : DD cX6_allFalls 6 (.getfield 17) 3 9 := ⟨by decide +kernel, rfl⟩
theorem dX6_allFalls_9 : DD cX6_allFalls 9 (.if_icmp .ge 21) 3 12 := ⟨by decide +kernel, rfl⟩
theorem dX6_allFalls_12 : DD cX6_allFalls 12 (.iload_n 1) 1 13 := ⟨by decide +kernel, rfl⟩
theorem dX6_allFalls_13 : DD cX6_allFalls 13 (.aload_n 0) 1 14 := ⟨by decide +kernel, rfl⟩
theorem dX6_allFalls_14 : DD cX6_allFalls 14 (.getfield 11) 3 17 := ⟨by decide +kernel, rfl⟩
theorem dX6_allFalls_17 : DD cX6_allFalls 17 (.iload_n 2) 1 18 := ⟨by decide +kernel, rfl⟩
theorem dX6_allFalls_18 : DD cX6_allFalls 18 (.aaload) 1 19 := ⟨by decide +kernel, rfl⟩
theorem dX6_allFalls_19 : DD cX6_allFalls 19 (.getfield 76) 3 22 := ⟨by decide +kernel, rfl⟩
theorem dX6_allFalls_22 : DD cX6_allFalls 22 (.iadd) 1 23 := ⟨by decide +kernel, rfl⟩
theorem dX6_allFalls_23 : DD cX6_allFalls 23 (.istore_n 1) 1 24 := ⟨by decide +kernel, rfl⟩
theorem dX6_allFalls_24 : DD cX6_allFalls 24 (.iinc 2 1) 3 27 := ⟨by decide +kernel, rfl⟩
theorem dX6_allFalls_27 : DD cX6_allFalls 27 (.goto (-23)) 3 30 := ⟨by decide +kernel, rfl⟩
theorem dX6_allFalls_30 : DD cX6_allFalls 30 (.iload_n 1) 1 31 := ⟨by decide +kernel, rfl⟩
theorem dX6_allFalls_31 : DD cX6_allFalls 31 (.ireturn) 1 32 := ⟨by decide +kernel, rfl⟩
theorem dJ6_bitCount_0f7a4_0 : DD cJ6_bitCount_0f7a4 0 (.iload_n 0) 1 1 := ⟨by decide +kernel, rfl⟩
theorem dJ6_bitCount_0f7a4_1 : DD cJ6_bitCount_0f7a4 1 (.iload_n 0) 1 2 := ⟨by decide +kernel, rfl⟩
theorem dJ6_bitCount_0f7a4_2 : DD cJ6_bitCount_0f7a4 2 (.iconst 1) 1 3 := ⟨by decide +kernel, rfl⟩
theorem dJ6_bitCount_0f7a4_3 : DD cJ6_bitCount_0f7a4 3 (.iushr) 1 4 := ⟨by decide +kernel, rfl⟩
theorem dJ6_bitCount_0f7a4_4 : DD cJ6_bitCount_0f7a4 4 (.ldc_w 265) 3 7 := ⟨by decide +kernel, rfl⟩
theorem dJ6_bitCount_0f7a4_7 : DD cJ6_bitCount_0f7a4 7 (.iand) 1 8 := ⟨by decide +kernel, rfl⟩
theorem dJ6_bitCount_0f7a4_8 : DD cJ6_bitCount_0f7a4 8 (.isub) 1 9 := ⟨by decide +kernel, rfl⟩
theorem dJ6_bitCount_0f7a4_9 : DD cJ6_bitCount_0f7a4 9 (.istore_n 0) 1 10 := ⟨by decide +kernel, rfl⟩
theorem dJ6_bitCount_0f7a4_10 : DD cJ6_bitCount_0f7a4 10 (.iload_n 0) 1 11 := ⟨by decide +kernel, rfl⟩
theorem dJ6_bitCount_0f7a4_11 : DD cJ6_bitCount_0f7a4 11 (.ldc_w 266) 3 14 := ⟨by decide +kernel, rfl⟩
theorem dJ6_bitCount_0f7a4_14 : DD cJ6_bitCount_0f7a4 14 (.iand) 1 15 := ⟨by decide +kernel, rfl⟩
theorem dJ6_bitCount_0f7a4_15 : DD cJ6_bitCount_0f7a4 15 (.iload_n 0) 1 16 := ⟨by decide +kernel, rfl⟩
theorem dJ6_bitCount_0f7a4_16 : DD cJ6_bitCount_0f7a4 16 (.iconst 2) 1 17 := ⟨by decide +kernel, rfl⟩
theorem dJ6_bitCount_0f7a4_17 : DD cJ6_bitCount_0f7a4 17 (.iushr) 1 18 := ⟨by decide +kernel, rfl⟩
theorem dJ6_bitCount_0f7a4_18 : DD cJ6_bitCount_0f7a4 18 (.ldc_w 266) 3 21 := ⟨by decide +kernel, rfl⟩
theorem dJ6_bitCount_0f7a4_21 : DD cJ6_bitCount_0f7a4 21 (.iand) 1 22 := ⟨by decide +kernel, rfl⟩
theorem dJ6_bitCount_0f7a4_22 : DD cJ6_bitCount_0f7a4 22 (.iadd) 1 23 := ⟨by decide +kernel, rfl⟩
theorem dJ6_bitCount_0f7a4_23 : DD cJ6_bitCount_0f7a4 23 (.istore_n 0) 1 24 := ⟨by decide +kernel, rfl⟩
theorem dJ6_bitCount_0f7a4_24 : DD cJ6_bitCount_0f7a4 24 (.iload_n 0) 1 25 := ⟨by decide +kernel, rfl⟩
theorem dJ6_bitCount_0f7a4_25 : DD cJ6_bitCount_0f7a4 25 (.iload_n 0) 1 26 := ⟨by decide +kernel, rfl⟩
theorem dJ6_bitCount_0f7a4_26 : DD cJ6_bitCount_0f7a4 26 (.iconst 4) 1 27 := ⟨by decide +kernel, rfl⟩
theorem dJ6_bitCount_0f7a4_27 : DD cJ6_bitCount_0f7a4 27 (.iushr) 1 28 := ⟨by decide +kernel, rfl⟩
theorem dJ6_bitCount_0f7a4_28 : DD cJ6_bitCount_0f7a4 28 (.iadd) 1 29 := ⟨by decide +kernel, rfl⟩
theorem dJ6_bitCount_0f7a4_29 : DD cJ6_bitCount_0f7a4 29 (.ldc_w 267) 3 32 := ⟨by decide +kernel, rfl⟩
theorem dJ6_bitCount_0f7a4_32 : DD cJ6_bitCount_0f7a4 32 (.iand) 1 33 := ⟨by decide +kernel, rfl⟩
theorem dJ6_bitCount_0f7a4_33 : DD cJ6_bitCount_0f7a4 33 (.istore_n 0) 1 34 := ⟨by decide +kernel, rfl⟩
theorem dJ6_bitCount_0f7a4_34 : DD cJ6_bitCount_0f7a4 34 (.iload_n 0) 1 35 := ⟨by decide +kernel, rfl⟩
theorem dJ6_bitCount_0f7a4_35 : DD cJ6_bitCount_0f7a4 35 (.iload_n 0) 1 36 := ⟨by decide +kernel, rfl⟩
theorem dJ6_bitCount_0f7a4_36 : DD cJ6_bitCount_0f7a4 36 (.bipush 8) 2 38 := ⟨by decide +kernel, rfl⟩
theorem dJ6_bitCount_0f7a4_38 : DD cJ6_bitCount_0f7a4 38 (.iushr) 1 39 := ⟨by decide +kernel, rfl⟩
theorem dJ6_bitCount_0f7a4_39 : DD cJ6_bitCount_0f7a4 39 (.iadd) 1 40 := ⟨by decide +kernel, rfl⟩
theorem dJ6_bitCount_0f7a4_40 : DD cJ6_bitCount_0f7a4 40 (.istore_n 0) 1 41 := ⟨by decide +kernel, rfl⟩
theorem dJ6_bitCount_0f7a4_41 : DD cJ6_bitCount_0f7a4 41 (.iload_n 0) 1 42 := ⟨by decide +kernel, rfl⟩
theorem dJ6_bitCount_0f7a4_42 : DD cJ6_bitCount_0f7a4 42 (.iload_n 0) 1 43 := ⟨by decide +kernel, rfl⟩
theorem dJ6_bitCount_0f7a4_43 : DD cJ6_bitCount_0f7a4 43 (.bipush 16) 2 45 := ⟨by decide +kernel, rfl⟩
theorem dJ6_bitCount_0f7a4_45 : DD cJ6_bitCount_0f7a4 45 (.iushr) 1 46 := ⟨by decide +kernel, rfl⟩
theorem dJ6_bitCount_0f7a4_46 : DD cJ6_bitCount_0f7a4 46 (.iadd) 1 47 := ⟨by decide +kernel, rfl⟩
theorem dJ6_bitCount_0f7a4_47 : DD cJ6_bitCount_0f7a4 47 (.istore_n 0) 1 48 := ⟨by decide +kernel, rfl⟩
theorem dJ6_bitCount_0f7a4_48 : DD cJ6_bitCount_0f7a4 48 (.iload_n 0) 1 49 := ⟨by decide +kernel, rfl⟩
theorem dJ6_bitCount_0f7a4_49 : DD cJ6_bitCount_0f7a4 49 (.bipush 63) 2 51 := ⟨by decide +kernel, rfl⟩
theorem dJ6_bitCount_0f7a4_51 : DD cJ6_bitCount_0f7a4 51 (.iand) 1 52 := ⟨by decide +kernel, rfl⟩
theorem dJ6_bitCount_0f7a4_52 : DD cJ6_bitCount_0f7a4 52 (.ireturn) 1 53 := ⟨by decide +kernel, rfl⟩
theorem dJ9_abs_0f7a4_0 : DD cJ9_abs_0f7a4 0 (.iload_n 0) 1 1 := ⟨by decide +kernel, rfl⟩
theorem dJ9_abs_0f7a4_1 : DD cJ9_abs_0f7a4 1 (.ifCond .ge 8) 3 4 := ⟨by decide +kernel, rfl⟩
theorem dJ9_abs_0f7a4_4 : DD cJ9_abs_0f7a4 4 (.iload_n 0) 1 5 := ⟨by decide +kernel, rfl⟩
theorem dJ9_abs_0f7a4_5 : DD cJ9_abs_0f7a4 5 (.ineg) 1 6 := ⟨by decide +kernel, rfl⟩
theorem dJ9_abs_0f7a4_6 : DD cJ9_abs_0f7a4 6 (.goto 4) 3 9 := ⟨by decide +kernel, rfl⟩
theorem dJ9_abs_0f7a4_9 : DD cJ9_abs_0f7a4 9 (.iload_n 0) 1 10 := ⟨by decide +kernel, rfl⟩
theorem dJ9_abs_0f7a4_10 : DD cJ9_abs_0f7a4 10 (.ireturn) 1 11 := ⟨by decide +kernel, rfl⟩
theorem dJ9_max_7cf53_0 : DD cJ9_max_7cf53 0 (.iload_n 0) 1 1 := ⟨by decide +kernel, rfl⟩
theorem dJ9_max_7cf53_1 : DD cJ9_max_7cf53 1 (.iload_n 1) 1 2 := ⟨by decide +kernel, rfl⟩
theorem dJ9_max_7cf53_2 : DD cJ9_max_7cf53 2 (.if_icmp .lt 7) 3 5 := ⟨by decide +kernel, rfl⟩
theorem dJ9_max_7cf53_5 : DD cJ9_max_7cf53 5 (.iload_n 0) 1 6 := ⟨by decide +kernel, rfl⟩
theorem dJ9_max_7cf53_6 : DD cJ9_max_7cf53 6 (.goto 4) 3 9 := ⟨by decide +kernel, rfl⟩
theorem dJ9_max_7cf53_9 : DD cJ9_max_7cf53 9 (.iload_n 1) 1 10 := ⟨by decide +kernel, rfl⟩
theorem dJ9_max_7cf53_10 : DD cJ9_max_7cf53 10 (.ireturn) 1 11 := ⟨by decide +kernel, rfl⟩
theorem dJ9_min_7cf53_0 : DD cJ9_min_7cf53 0 (.iload_n 0) 1 1 := ⟨by decide +kernel, rfl⟩
theorem dJ9_min_7cf53_1 : DD cJ9_min_7cf53 1 (.iload_n 1) 1 2 := ⟨by decide +kernel, rfl⟩
theorem dJ9_min_7cf53_2 : DD cJ9_min_7cf53 2 (.if_icmp .gt 7) 3 5 := ⟨by decide +kernel, rfl⟩
theorem dJ9_min_7cf53_5 : DD cJ9_min_7cf53 5 (.iload_n 0) 1 6 := ⟨by decide +kernel, rfl⟩
theorem dJ9_min_7cf53_6 : DD cJ9_min_7cf53 6 (.goto 4) 3 9 := ⟨by decide +kernel, rfl⟩
theorem dJ9_min_7cf53_9 : DD cJ9_min_7cf53 9 (.iload_n 1) 1 10 := ⟨by decide +kernel, rfl⟩
theorem dJ9_min_7cf53_10 : DD cJ9_min_7cf53 10 (.ireturn) 1 11 := ⟨by decide +kernel, rfl⟩
theorem dJ0_length_8abf5_0 : DD cJ0_length_8abf5 0 (.aload_n 0) 1 1 := ⟨by decide +kernel, rfl⟩
theorem dJ0_length_8abf5_1 : DD cJ0_length_8abf5 1 (.getfield 9) 3 4 := ⟨by decide +kernel, rfl⟩
theorem dJ0_length_8abf5_4 : DD cJ0_length_8abf5 4 (.arraylength) 1 5 := ⟨by decide +kernel, rfl⟩
theorem dJ0_length_8abf5_5 : DD cJ0_length_8abf5 5 (.aload_n 0) 1 6 := ⟨by decide +kernel, rfl⟩
theorem dJ0_length_8abf5_6 : DD cJ0_length_8abf5 6 (.invokevirtual 335) 3 9 := ⟨by decide +kernel, rfl⟩
theorem dJ0_length_8abf5_9 : DD cJ0_length_8abf5 9 (.ishr) 1 10 := ⟨by decide +kernel, rfl⟩
theorem dJ0_length_8abf5_10 : DD cJ0_length_8abf5 10 (.ireturn) 1 11 := ⟨by decide +kernel, rfl⟩
theorem dJ0_charAt_5068e_0 : DD cJ0_charAt_5068e 0 (.aload_n 0) 1 1 := ⟨by decide +kernel, rfl⟩
theorem dJ0_charAt_5068e_1 : DD cJ0_charAt_5068e 1 (.invokevirtual 492) 3 4 := ⟨by decide +kernel, rfl⟩
theorem dJ0_charAt_5068e_4 : DD cJ0_charAt_5068e 4 (.ifCond .eq 12) 3 7 := ⟨by decide +kernel, rfl⟩
theorem dJ0_charAt_5068e_7 : DD cJ0_charAt_5068e 7 (.aload_n 0) 1 8 := ⟨by decide +kernel, rfl⟩
theorem dJ0_charAt_5068e_8 : DD cJ0_charAt_5068e 8 (.getfield 9) 3 11 := ⟨by decide +kernel, rfl⟩
theorem dJ0_charAt_5068e_11 : DD cJ0_charAt_5068e 11 (.iload_n 1) 1 12 := ⟨by decide +kernel, rfl⟩
theorem dJ0_charAt_5068e_12 : DD cJ0_charAt_5068e 12 (.invokestatic 495) 3 15 := ⟨by decide +kernel, rfl⟩
theorem dJ0_charAt_5068e_15 : DD cJ0_charAt_5068e 15 (.ireturn) 1 16 := ⟨by decide +kernel, rfl⟩
theorem dJ0_charAt_5068e_16 : DD cJ0_charAt_5068e 16 (.aload_n 0) 1 17 := ⟨by decide +kernel, rfl⟩
theorem dJ0_charAt_5068e_17 : DD cJ0_charAt_5068e 17 (.getfield 9) 3 20 := ⟨by decide +kernel, rfl⟩
theorem dJ0_charAt_5068e_20 : DD cJ0_charAt_5068e 20 (.iload_n 1) 1 21 := ⟨by decide +kernel, rfl⟩
theorem dJ0_charAt_5068e_21 : DD cJ0_charAt_5068e 21 (.invokestatic 498) 3 24 := ⟨by decide +kernel, rfl⟩
theorem dJ0_charAt_5068e_24 : DD cJ0_charAt_5068e 24 (.ireturn) 1 25 := ⟨by decide +kernel, rfl⟩
theorem dJ0_coder_7d493_0 : DD cJ0_coder_7d493 0 (.getstatic 38) 3 3 := ⟨by decide +kernel, rfl⟩
theorem dJ0_coder_7d493_3 : DD cJ0_coder_7d493 3 (.ifCond .eq 10) 3 6 := ⟨by decide +kernel, rfl⟩
theorem dJ0_coder_7d493_6 : DD cJ0_coder_7d493 6 (.aload_n 0) 1 7 := ⟨by decide +kernel, rfl⟩
theorem dJ0_coder_7d493_7 : DD cJ0_coder_7d493 7 (.getfield 15) 3 10 := ⟨by decide +kernel, rfl⟩
theorem dJ0_coder_7d493_10 : DD cJ0_coder_7d493 10 (.goto 4) 3 13 := ⟨by decide +kernel, rfl⟩
theorem dJ0_coder_7d493_13 : DD cJ0_coder_7d493 13 (.iconst 1) 1 14 := ⟨by decide +kernel, rfl⟩
theorem dJ0_coder_7d493_14 : DD cJ0_coder_7d493 14 (.ireturn) 1 15 := ⟨by decide +kernel, rfl⟩
theorem dJ0_isLatin1_aae02_0 : DD cJ0_isLatin1_aae02 0 (.getstatic 38) 3 3 := ⟨by decide +kernel, rfl⟩
theorem dJ0_isLatin1_aae02_3 : DD cJ0_isLatin1_aae02 3 (.ifCond .eq 14) 3 6 := ⟨by decide +kernel, rfl⟩
theorem dJ0_isLatin1_aae02_6 : DD cJ0_isLatin1_aae02 6 (.aload_n 0) 1 7 := ⟨by decide +kernel, rfl⟩
theorem dJ0_isLatin1_aae02_7 : DD cJ0_isLatin1_aae02 7 (.getfield 15) 3 10 := ⟨by decide +kernel, rfl⟩
theorem dJ0_isLatin1_aae02_10 : DD cJ0_isLatin1_aae02 10 (.ifCond .ne 7) 3 13 := ⟨by decide +kernel, rfl⟩
theorem dJ0_isLatin1_aae02_13 : DD cJ0_isLatin1_aae02 13 (.iconst 1) 1 14 := ⟨by decide +kernel, rfl⟩
theorem dJ0_isLatin1_aae02_14 : DD cJ0_isLatin1_aae02 14 (.goto 4) 3 17 := ⟨by decide +kernel, rfl⟩
theorem dJ0_isLatin1_aae02_17 : DD cJ0_isLatin1_aae02 17 (.iconst 0) 1 18 := ⟨by decide +kernel, rfl⟩
theorem dJ0_isLatin1_aae02_18 : DD cJ0_isLatin1_aae02 18 (.ireturn) 1 19 := ⟨by decide +kernel, rfl⟩
theorem dJ0_checkIndex_df160_0 : DD cJ0_checkIndex_df160 0 (.iload_n 0) 1 1 := ⟨by decide +kernel, rfl⟩
theorem dJ0_checkIndex_df160_1 : DD cJ0_checkIndex_df160 1 (.iload_n 1) 1 2 := ⟨by decide +kernel, rfl⟩
theorem dJ0_checkIndex_df160_2 : DD cJ0_checkIndex_df160 2 (.getstatic 1053) 3 5 := ⟨by decide +kernel, rfl⟩
theorem dJ0_checkIndex_df160_5 : DD cJ0_checkIndex_df160 5 (.invokestatic 1059) 3 8 := ⟨by decide +kernel, rfl⟩
theorem dJ0_checkIndex_df160_8 : DD cJ0_checkIndex_df160 8 (.pop) 1 9 := ⟨by decide +kernel, rfl⟩
theorem dJ0_checkIndex_df160_9 : DD cJ0_checkIndex_df160 9 (.return_) 1 10 := ⟨by decide +kernel, rfl⟩
theorem dJ1_charAt_3b067_0 : DD cJ1_charAt_3b067 0 (.iload_n 1) 1 1 := ⟨by decide +kernel, rfl⟩
theorem dJ1_charAt_3b067_1 : DD cJ1_charAt_3b067 1 (.aload_n 0) 1 2 := ⟨by decide +kernel, rfl⟩
theorem dJ1_charAt_3b067_2 : DD cJ1_charAt_3b067 2 (.arraylength) 1 3 := ⟨by decide +kernel, rfl⟩
theorem dJ1_charAt_3b067_3 : DD cJ1_charAt_3b067 3 (.invokestatic 9) 3 6 := ⟨by decide +kernel, rfl⟩
theorem dJ1_charAt_3b067_6 : DD cJ1_charAt_3b067 6 (.aload_n 0) 1 7 := ⟨by decide +kernel, rfl⟩
theorem dJ1_charAt_3b067_7 : DD cJ1_charAt_3b067 7 (.iload_n 1) 1 8 := ⟨by decide +kernel, rfl⟩
theorem dJ1_charAt_3b067_8 : DD cJ1_charAt_3b067 8 (.baload) 1 9 := ⟨by decide +kernel, rfl⟩
theorem dJ1_charAt_3b067_9 : DD cJ1_charAt_3b067 9 (.sipush 255) 3 12 := ⟨by decide +kernel, rfl⟩
theorem dJ1_charAt_3b067_12 : DD cJ1_charAt_3b067 12 (.iand) 1 13 := ⟨by decide +kernel, rfl⟩
theorem dJ1_charAt_3b067_13 : DD cJ1_charAt_3b067 13 (.i2c) 1 14 := ⟨by decide +kernel, rfl⟩
theorem dJ1_charAt_3b067_14 : DD cJ1_charAt_3b067 14 (.ireturn) 1 15 := ⟨by decide +kernel, rfl⟩
theorem dJ2_getChar_3b067_0 : DD cJ2_getChar_3b067 0 (.getstatic 44) 3 3 := ⟨by decide +kernel, rfl⟩
theorem dJ2_getChar_3b067_3 : DD cJ2_getChar_3b067 3 (.ifCond .ne 25) 3 6 := ⟨by decide +kernel, rfl⟩
theorem dJ2_getChar_3b067_6 : DD cJ2_getChar_3b067 6 (.iload_n 1) 1 7 := ⟨by decide +kernel, rfl⟩
theorem dJ2_getChar_3b067_7 : DD cJ2_getChar_3b067 7 (.ifCond .lt 11) 3 10 := ⟨by decide +kernel, rfl⟩
theorem dJ2_getChar_3b067_10 : DD cJ2_getChar_3b067 10 (.iload_n 1) 1 11 := ⟨by decide +kernel, rfl⟩
theorem dJ2_getChar_3b067_11 : DD cJ2_getChar_3b067 11 (.aload_n 0) 1 12 := ⟨by decide +kernel, rfl⟩
theorem dJ2_getChar_3b067_12 : DD cJ2_getChar_3b067 12 (.invokestatic 48) 3 15 := ⟨by decide +kernel, rfl⟩
theorem dJ2_getChar_3b067_15 : DD cJ2_getChar_3b067 15 (.if_icmp .lt 13) 3 18 := ⟨by decide +kernel, rfl⟩
theorem dJ2_getChar_3b067_18 : DD cJ2_getChar_3b067 18 (.new 52) 3 21 := ⟨by decide +kernel, rfl⟩
theorem dJ2_getChar_3b067_21 : DD cJ2_getChar_3b067 21 (.dup) 1 22 := ⟨by decide +kernel, rfl⟩
theorem dJ2_getChar_3b067_22 : DD cJ2_getChar_3b067 22 (.ldc 54) 2 24 := ⟨by decide +kernel, rfl⟩
theorem dJ2_getChar_3b067_24 : DD cJ2_getChar_3b067 24 (.invokespecial 56) 3 27 := ⟨by decide +kernel, rfl⟩
theorem dJ2_getChar_3b067_27 : DD cJ2_getChar_3b067 27 (.athrow) 1 28 := ⟨by decide +kernel, rfl⟩
theorem dJ2_getChar_3b067_28 : DD cJ2_getChar_3b067 28 (.iload_n 1) 1 29 := ⟨by decide +kernel, rfl⟩
theorem dJ2_getChar_3b067_29 : DD cJ2_getChar_3b067 29 (.iconst 1) 1 30 := ⟨by decide +kernel, rfl⟩
theorem dJ2_getChar_3b067_30 : DD cJ2_getChar_3b067 30 (.ishl) 1 31 := ⟨by decide +kernel, rfl⟩
theorem dJ2_getChar_3b067_31 : DD cJ2_getChar_3b067 31 (.istore_n 1) 1 32 := ⟨by decide +kernel, rfl⟩
theorem dJ2_getChar_3b067_32 : DD cJ2_getChar_3b067 32 (.aload_n 0) 1 33 := ⟨by decide +kernel, rfl⟩
theorem dJ2_getChar_3b067_33 : DD cJ2_getChar_3b067 33 (.iload_n 1) 1 34 := ⟨by decide +kernel, rfl⟩
theorem dJ2_getChar_3b067_34 : DD cJ2_getChar_3b067 34 (.iinc 1 1) 3 37 := ⟨by decide +kernel, rfl⟩
theorem dJ2_getChar_3b067_37 : DD cJ2_getChar_3b067 37 (.baload) 1 38 := ⟨by decide +kernel, rfl⟩
theorem dJ2_getChar_3b067_38 : DD cJ2_getChar_3b067 38 (.sipush 255) 3 41 := ⟨by decide +kernel, rfl⟩
theorem dJ2_getChar_3b067_41 : DD cJ2_getChar_3b067 41 (.iand) 1 42 := ⟨by decide +kernel, rfl⟩
theorem dJ2_getChar_3b067_42 : DD cJ2_getChar_3b067 42 (.getstatic 59) 3 45 := ⟨by decide +kernel, rfl⟩
theorem dJ2_getChar_3b067_45 : DD cJ2_getChar_3b067 45 (.ishl) 1 46 := ⟨by decide +kernel, rfl⟩
theorem dJ2_getChar_3b067_46 : DD cJ2_getChar_3b067 46 (.aload_n 0) 1 47 := ⟨by decide +kernel, rfl⟩
theorem dJ2_getChar_3b067_47 : DD cJ2_getChar_3b067 47 (.iload_n 1) 1 48 := ⟨by decide +kernel, rfl⟩
theorem dJ2_getChar_3b067_48 : DD cJ2_getChar_3b067 48 (.baload) 1 49 := ⟨by decide +kernel, rfl⟩
theorem dJ2_getChar_3b067_49 : DD cJ2_getChar_3b067 49 (.sipush 255) 3 52 := ⟨by decide +kernel, rfl⟩
theorem dJ2_getChar_3b067_52 : DD cJ2_getChar_3b067 52 (.iand) 1 53 := ⟨by decide +kernel, rfl⟩
theorem dJ2_getChar_3b067_53 : DD cJ2_getChar_3b067 53 (.getstatic 63) 3 56 := ⟨by decide +kernel, rfl⟩
theorem dJ2_getChar_3b067_56 : DD cJ2_getChar_3b067 56 (.ishl) 1 57 := ⟨by decide +kernel, rfl⟩
theorem dJ2_getChar_3b067_57 : DD cJ2_getChar_3b067 57 (.ior) 1 58 := ⟨by decide +kernel, rfl⟩
theorem dJ2_getChar_3b067_58 : DD cJ2_getChar_3b067 58 (.i2c) 1 59 := ⟨by decide +kernel, rfl⟩
theorem dJ2_getChar_3b067_59 : DD cJ2_getChar_3b067 59 (.ireturn) 1 60 := ⟨by decide +kernel, rfl⟩
theorem dJ2_length_9d52b_0 : DD cJ2_length_9d52b 0 (.aload_n 0) 1 1 := ⟨by decide +kernel, rfl⟩
theorem dJ2_length_9d52b_1 : DD cJ2_length_9d52b 1 (.arraylength) 1 2 := ⟨by decide +kernel, rfl⟩
theorem dJ2_length_9d52b_2 : DD cJ2_length_9d52b 2 (.iconst 1) 1 3 := ⟨by decide +kernel, rfl⟩
theorem dJ2_length_9d52b_3 : DD cJ2_length_9d52b 3 (.ishr) 1 4 := ⟨by decide +kernel, rfl⟩
theorem dJ2_length_9d52b_4 : DD cJ2_length_9d52b 4 (.ireturn) 1 5 := ⟨by decide +kernel, rfl⟩
theorem dJ2_charAt_3b067_0 : DD cJ2_charAt_3b067 0 (.iload_n 1) 1 1 := ⟨by decide +kernel, rfl⟩
theorem dJ2_charAt_3b067_1 : DD cJ2_charAt_3b067 1 (.aload_n 0) 1 2 := ⟨by decide +kernel, rfl⟩
theorem dJ2_charAt_3b067_2 : DD cJ2_charAt_3b067 2 (.invokestatic 67) 3 5 := ⟨by decide +kernel, rfl⟩
theorem dJ2_charAt_3b067_5 : DD cJ2_charAt_3b067 5 (.aload_n 0) 1 6 := ⟨by decide +kernel, rfl⟩
theorem dJ2_charAt_3b067_6 : DD cJ2_charAt_3b067 6 (.iload_n 1) 1 7 := ⟨by decide +kernel, rfl⟩
theorem dJ2_charAt_3b067_7 : DD cJ2_charAt_3b067 7 (.invokestatic 71) 3 10 := ⟨by decide +kernel, rfl⟩
theorem dJ2_charAt_3b067_10 : DD cJ2_charAt_3b067 10 (.ireturn) 1 11 := ⟨by decide +kernel, rfl⟩
theorem dJ2_checkIndex_2214a_0 : DD cJ2_checkIndex_2214a 0 (.iload_n 0) 1 1 := ⟨by decide +kernel, rfl⟩
theorem dJ2_checkIndex_2214a_1 : DD cJ2_checkIndex_2214a 1 (.aload_n 1) 1 2 := ⟨by decide +kernel, rfl⟩
theorem dJ2_checkIndex_2214a_2 : DD cJ2_checkIndex_2214a 2 (.invokestatic 48) 3 5 := ⟨by decide +kernel, rfl⟩
theorem dJ2_checkIndex_2214a_5 : DD cJ2_checkIndex_2214a 5 (.invokestatic 414) 3 8 := ⟨by decide +kernel, rfl⟩
theorem dJ2_checkIndex_2214a_8 : DD cJ2_checkIndex_2214a 8 (.return_) 1 9 := ⟨by decide +kernel, rfl⟩
theorem dJ3_checkIndex_8e157_0 : DD cJ3_checkIndex_8e157 0 (.iload_n 0) 1 1 := ⟨by decide +kernel, rfl⟩
theorem dJ3_checkIndex_8e157_1 : DD cJ3_checkIndex_8e157 1 (.ifCond .lt 8) 3 4 := ⟨by decide +kernel, rfl⟩
theorem dJ3_checkIndex_8e157_4 : DD cJ3_checkIndex_8e157 4 (.iload_n 0) 1 5 := ⟨by decide +kernel, rfl⟩
theorem dJ3_checkIndex_8e157_5 : DD cJ3_checkIndex_8e157 5 (.iload_n 1) 1 6 := ⟨by decide +kernel, rfl⟩
theorem dJ3_checkIndex_8e157_6 : DD cJ3_checkIndex_8e157 6 (.if_icmp .lt 10) 3 9 := ⟨by decide +kernel, rfl⟩
theorem dJ3_checkIndex_8e157_9 : DD cJ3_checkIndex_8e157 9 (.aload_n 2) 1 10 := ⟨by decide +kernel, rfl⟩
theorem dJ3_checkIndex_8e157_10 : DD cJ3_checkIndex_8e157 10 (.iload_n 0) 1 11 := ⟨by decide +kernel, rfl⟩
theorem dJ3_checkIndex_8e157_11 : DD cJ3_checkIndex_8e157 11 (.iload_n 1) 1 12 := ⟨by decide +kernel, rfl⟩
theorem dJ3_checkIndex_8e157_12 : DD cJ3_checkIndex_8e157 12 (.invokestatic 95) 3 15 := ⟨by decide +kernel, rfl⟩
theorem dJ3_checkIndex_8e157_15 : DD cJ3_checkIndex_8e157 15 (.athrow) 1 16 := ⟨by decide +kernel, rfl⟩
theorem dJ3_checkIndex_8e157_16 : DD cJ3_checkIndex_8e157 16 (.iload_n 0) 1 17 := ⟨by decide +kernel, rfl⟩
theorem dJ3_checkIndex_8e157_17 : DD cJ3_checkIndex_8e157 17 (.ireturn) 1 18 := ⟨by decide +kernel, rfl⟩
end
section
/-! ===== the words that every method takes with it; what stands around (tables, nest mates, statics, texts) ===== -/
def GW : List Cond := lw_tbl.filter goodWord
theorem gw_in {w : Cond} (h : w ∈ lw_tbl) (hg : goodWord w = true) : w ∈ GW := List.mem_filter.mpr ⟨h, hg⟩
theorem gw_good : GoodIn GW GW := fun w h => ⟨h, good_of_word (List.mem_filter.mp h).2⟩
theorem gw_cons {w : Cond} (h : w ∈ GW) : GoodIn GW (w :: GW) := fun v hv => by
  rcases List.mem_cons.mp hv with e | e
  · subst e; exact gw_good _ h
  · exact gw_good _ e
theorem gw_consL {w : Cond} {L : List Cond} (h : w ∈ GW) (hL : GoodIn GW L) : GoodIn GW (w :: L) := fun v hv => by
  rcases List.mem_cons.mp hv with e | e
  · subst e; exact gw_good _ h
  · exact hL _ e
theorem gw_V {own : String} {idx : Nat} {C : String} {y : MethodName} {c0 : Cond} (h1 : Cond.methodLink own idx y ∈ GW) (h2 : Cond.instanceMethod y ∈ GW) (h3 : Cond.selects C y y ∈ GW) (h4 : Cond.initialized C ∈ GW) (h0 : c0 ∈ GW) : GoodIn GW (wsV own idx C y (c0 :: GW)) :=
  gw_consL h1 (gw_consL h2 (gw_consL h3 (gw_consL h4 (gw_cons h0))))
theorem gw_S {own : String} {idx : Nat} {y : MethodName} {c0 : Cond} (h1 : Cond.methodLink own idx y ∈ GW) (h2 : Cond.static y ∈ GW) (h4 : Cond.initialized own ∈ GW) (h0 : c0 ∈ GW) : GoodIn GW (wsS own idx y (c0 :: GW)) :=
  gw_consL h1 (gw_consL h2 (gw_consL h4 (gw_cons h0)))
/-- the links to nest mates -/
def nwM : List (String × Nat × MethodName) := [("LogRollers$Match", 17, ⟨"LogRollers$Stander", "<init>", "()V"⟩), ("LogRollers$World", 64, ⟨"LogRollers$Person", "<init>", "()V"⟩), ("LogRollers", 42, ⟨"LogRollers$Person", "<init>", "()V"⟩), ("LogRollers", 49, ⟨"LogRollers$Tape", "<init>", "()V"⟩), ("LogRollers", 63, ⟨"LogRollers$Sheet", "<init>", "()V"⟩), ("LogRollers$World", 72, ⟨"LogRollers", "within", "(III)Z"⟩), ("LogRollers$Person", 33, ⟨"LogRollers", "atMost", "(II)I"⟩), ("LogRollers$Way", 28, ⟨"LogRollers", "within", "(III)Z"⟩), ("LogRollers$Match", 110, ⟨"LogRollers", "within", "(III)Z"⟩), ("LogRollers$Stander", 34, ⟨"LogRollers", "atMost", "(II)I"⟩), ("LogRollers$Tape", 33, ⟨"LogRollers$Way", "<init>", "()V"⟩), ("LogRollers$Sheet", 22, ⟨"LogRollers", "within", "(III)Z"⟩)]
def NW : List Cond := nwM.map (fun q => Cond.methodLinkNest q.1 q.2.1 q.2.2 "LogRollers")
abbrev nwF : Cond := .fieldLinkNest "LogRollers$World" 30 "LogRollers" "PART_AT_FIRST" "[I" "LogRollers"
abbrev nwC : Cond := .castable "[I" "java/lang/Cloneable"
abbrev GT : Type := va_G × (Nat → ClassId) × (Nat → Nat)
def gtys (g : GT) : List (ClassId × FieldType) := [(g.2.1 0, .int), (g.2.1 1, .long), (g.2.1 2, .object "LogRollers$Person"), (g.2.1 3, .object "LogRollers$Sheet"), (g.2.1 4, .object "LogRollers$Way")]
def tb0 : List Int32 := [15, 5, 3, 60, 0]
def tb1 : List Int32 := [-1, 0, 0, 2, 0, 4]
def tb2 : List Int32 := [1, 0, 0, 0, 0]
def tb3 : List Int32 := [99, 50, 50, 999, 100]
def tvs (L : List Int32) : Nat → Value := fun j => .int (L.getD j 0)
/-- a static array: its field, its numbers -/
def eS (n : String) (t : Nat) (L : List Int32) (A : Nat → Prop) (U : State) (H : Heap) : Prop := va_Z "LogRollers" n "[I" (.ref t) A U H ∧ va_T .int t L.length (tvs L) A U H
def slen : List Nat := [4, 4, 4, 4, 4, 3, 5, 4, 4, 3]
def sbyt : List (List Int32) := [[116, 117, 114, 110], [108, 101, 97, 110], [108, 101, 102, 116], [116, 105, 99, 107], [101, 108, 115, 101], [114, 117, 110], [99, 104, 101, 99, 107], [98, 97, 99, 107], [119, 97, 105, 116], [104, 111, 112]]
def stxt : List String := ["turn", "lean", "left", "tick", "else", "\x72un", "check", "back", "wait", "hop"]
def sixT : List Nat := [78, 84, 86, 88, 90, 92, 94, 96, 98, 100]
def sixM : List Nat := [204, 210, 212, 214, 216, 218, 220, 222, 224, 226]
def ES (g : GT) (A : Nat → Prop) (U : State) (H : Heap) : Prop :=
  eS "PART_AT_FIRST" (g.2.2 0) tb0 A U H ∧ eS "KIND_ABOVE" (g.2.2 1) tb1 A U H ∧ eS "PART_LEAST" (g.2.2 2) tb2 A U H ∧ eS "PART_MOST" (g.2.2 3) tb3 A U H ∧
  va_Z "java/lang/String" "COMPACT_STRINGS" "Z" (.int 1) A U H ∧ va_Zq "jdk/internal/util/Preconditions" "SIOOBE_FORMATTER" "Ljava/util/function/BiFunction;" A U H ∧
  vk_S 10 slen sbyt (fun i => g.2.2 (10 + i)) (fun i => g.2.2 (30 + i)) A U H ∧ vk_S 10 slen sbyt (fun i => g.2.2 (50 + i)) (fun i => g.2.2 (70 + i)) A U H
def ER (g : GT) (U : State) : Prop := (∀ i : Nat, i < 10 → vk_R "LogRollers$Tape" (sixT.getD i 0) (stxt.getD i "") (g.2.2 (10 + i)) U) ∧ ∀ i : Nat, i < 10 → vk_R "LogRollersModel" (sixM.getD i 0) (stxt.getD i "") (g.2.2 (50 + i)) U
def EV (g : GT) (A : Nat → Prop) (U : State) : Prop :=
  va_K g.1 vwCl (gtys g) U ∧ (∀ w ∈ NW, va_Nw w U) ∧ va_Nw nwF U ∧ va_Nw nwC U ∧ (∀ C ∈ (["LogRollers$Person", "LogRollers$Sheet", "LogRollers$Way"] : List String), va_AO C U) ∧ ER g U ∧ ES g A U U.heap
theorem eS.moved {n : String} {t : Nat} {L : List Int32} {A : Nat → Prop} {u U : State} {H : Heap} (hvm : u.vm.Alike U.vm) (h : eS n t L A u H) : eS n t L A U H := ⟨h.1.moved hvm, h.2.moved hvm⟩
theorem eS.kept {n : String} {t : Nat} {L : List Int32} {A : Nat → Prop} {U : State} {H H1 : Heap} (h : eS n t L A U H) (hq : ∀ a : Nat, a < H.size → ¬ A a → H1[a]? = H[a]?) : eS n t L A U H1 := ⟨h.1.kept hq, h.2.kept hq⟩
theorem eS.narrow {n : String} {t : Nat} {L : List Int32} {A B : Nat → Prop} {U : State} {H : Heap} (h : eS n t L A U H) (hAB : ∀ q, B q → A q) : eS n t L B U H := ⟨h.1.narrow hAB, h.2.narrow hAB⟩
theorem ES.moved {g : GT} {A : Nat → Prop} {u U : State} {H : Heap} (hvm : u.vm.Alike U.vm) (h : ES g A u H) : ES g A U H :=
  ⟨h.1.moved hvm, h.2.1.moved hvm, h.2.2.1.moved hvm, h.2.2.2.1.moved hvm, h.2.2.2.2.1.moved hvm, h.2.2.2.2.2.1.moved hvm, h.2.2.2.2.2.2.1.moved hvm, h.2.2.2.2.2.2.2.moved hvm⟩
theorem ES.kept {g : GT} {A : Nat → Prop} {U : State} {H H1 : Heap} (h : ES g A U H) (hq : ∀ a : Nat, a < H.size → ¬ A a → H1[a]? = H[a]?) : ES g A U H1 :=
  ⟨h.1.kept hq, h.2.1.kept hq, h.2.2.1.kept hq, h.2.2.2.1.kept hq, h.2.2.2.2.1.kept hq, h.2.2.2.2.2.1.kept hq, h.2.2.2.2.2.2.1.kept hq, h.2.2.2.2.2.2.2.kept hq⟩
theorem ES.narrow {g : GT} {A B : Nat → Prop} {U : State} {H : Heap} (h : ES g A U H) (hAB : ∀ q, B q → A q) : ES g B U H :=
  ⟨h.1.narrow hAB, h.2.1.narrow hAB, h.2.2.1.narrow hAB, h.2.2.2.1.narrow hAB, h.2.2.2.2.1.narrow hAB, h.2.2.2.2.2.1.narrow hAB, h.2.2.2.2.2.2.1.narrow hAB, h.2.2.2.2.2.2.2.narrow hAB⟩
/-- a static fact stays where the cells outside A stay and the new A has no old cell more -/
theorem nw_warm {s U : State} (hW : s.WarmedH U.vm) (h : ∀ w ∈ NW, va_Nw w s) : ∀ w ∈ NW, va_Nw w U := by
  intro w hw
  obtain ⟨q, hq, rfl⟩ := List.mem_map.mp hw
  exact va_Nw.warmM hW (h _ hw)
theorem nw_same {s U : State} (hv : s.vm = U.vm) (h : ∀ w ∈ NW, va_Nw w s) : ∀ w ∈ NW, va_Nw w U := by
  intro w hw
  obtain ⟨q, hq, rfl⟩ := List.mem_map.mp hw
  exact va_Nw.same rfl hv (h _ hw)
theorem EV.calling {g : GT} {A : Nat → Prop} {U : State} (h : EV g A U) (f : JFrame) (mk : MethodId) (a : Array Value) : EV g A (U.calling f mk a) := by
  obtain ⟨h1, h2, h3, h4, h5, h6, h7⟩ := h
  have hv : U.vm = (U.calling f mk a).vm := rfl
  have ha : U.vm.Alike (U.calling f mk a).vm := Vm.Alike.refl U.vm
  exact ⟨va_K.moved ha h1, nw_same hv h2, va_Nw.same rfl hv h3, va_Nw.same rfl hv h4, fun C hC => (h5 C hC).moved ha, ⟨fun i hi => (h6.1 i hi).same hv.symm, fun i hi => (h6.2 i hi).same hv.symm⟩, h7.moved ha⟩
theorem va_Z.narrowL {C n d : String} {v : Value} {A B : Nat → Prop} {U : State} {H : Heap} (h : va_Z C n d v A U H) (hAB : ∀ q, q < H.size → B q → A q) : va_Z C n d v B U H := by
  obtain ⟨cf, kf, fi, f, a, cell, h1, h2, h3, h4, h5, h6, h7, h8⟩ := h
  exact ⟨cf, kf, fi, f, a, cell, h1, h2, h3, h4, h5, h6, h7, fun z => h8 (hAB a (Array.getElem?_eq_some_iff.mp h5).1 z)⟩
theorem EV.go {g : GT} {A B : Nat → Prop} {s U : State} {H : Heap} {locs : List Loc} (h : EV g A s) (hS : va_S A s.heap H locs) (hAB : ∀ q, B q → A q) (hU : U.heap = H) (hW : s.WarmedH U.vm) : EV g B U := by
  obtain ⟨h1, h2, h3, h4, h5, h6, h7⟩ := h
  refine ⟨va_K.moved hW.alike h1, nw_warm hW h2, va_Nw.warmF hW h3, va_Nw.warmC hW h4, fun C hC => (h5 C hC).moved hW.alike, ⟨fun i hi => (h6.1 i hi).warm hW, fun i hi => (h6.2 i hi).warm hW⟩, ?_⟩
  rw [hU]
  exact ((h7.moved hW.alike).kept hS.2.1).narrow hAB
end
section
/-! ===== the judgement: a heap as a function from addresses to cells ===== -/
abbrev Hp : Type := Nat → Option va_E
def HP (g : GT) (h : Hp) (H : Heap) : Prop := ∀ (a : Nat) (c : va_E), h a = some c → va_at g.1 vwCl (a, c) H
def dm (h : Hp) (sz : Nat) : Nat → Prop := fun q => h q ≠ none ∨ sz ≤ q
def hU (h : Hp) (a : Nat) (c : va_E) : Hp := fun x => if x = a then some c else h x
theorem hU_s {h : Hp} {a : Nat} {c : va_E} : hU h a c a = some c := by simp [hU]
theorem hU_n {h : Hp} {a b : Nat} {c : va_E} (hne : b ≠ a) : hU h a c b = h b := by simp [hU, hne]
theorem hU_u {h : Hp} {a : Nat} {c d : va_E} : hU (hU h a c) a d = hU h a d := by
  funext x; unfold hU; by_cases hx : x = a <;> simp [hx]
theorem hU_w {h : Hp} {a b : Nat} {c d : va_E} (hne : a ≠ b) : hU (hU h a c) b d = hU (hU h b d) a c := by
  funext x; unfold hU
  by_cases hx : x = a
  · subst hx; simp [hne]
  · simp [hx]
theorem hU_id {h : Hp} {a : Nat} {c : va_E} (ha : h a = some c) : hU h a c = h := by
  funext x; unfold hU; by_cases hx : x = a
  · subst hx; simp [ha]
  · simp [hx]
theorem HP.lt {g : GT} {h : Hp} {H : Heap} (hp : HP g h H) {a : Nat} {c : va_E} (ha : h a = some c) : a < H.size := (hp a c ha).lt
theorem HP.one {g : GT} {h : Hp} {H : Heap} (hp : HP g h H) {a : Nat} {c : va_E} (ha : h a = some c) : va_P g.1 vwCl [(a, c)] H := by
  intro k q hk
  match k, hk with
  | 0, hk => cases hk; exact hp a c ha
  | k + 1, hk => simp at hk
theorem HD1 {A : Nat → Prop} {a : Nat} {c : va_E} (ha : A a) : va_D A [(a, c)] := by
  refine ⟨fun i j x y hi hj _ => ?_, fun k q hk => ?_⟩
  · have h1 := (List.getElem?_eq_some_iff.mp hi).1
    have h2 := (List.getElem?_eq_some_iff.mp hj).1
    simp at h1 h2; omega
  · match k, hk with
    | 0, hk => cases hk; exact ha
    | k + 1, hk => simp at hk
theorem HP.set {g : GT} {h : Hp} {H H1 : Heap} (hp : HP g h H) {a : Nat} {c : va_E} (he : va_at g.1 vwCl (a, c) H1) (oq : ∀ q : Nat, q ≠ a → H1[q]? = H[q]?) : HP g (hU h a c) H1 := by
  intro x d hx
  by_cases hxa : x = a
  · subst hxa; rw [hU_s] at hx; cases hx; exact he
  · rw [hU_n hxa] at hx; exact (hp x d hx).kept (oq x hxa)
theorem HP.kept {g : GT} {h : Hp} {H H1 : Heap} (hp : HP g h H) (oq : ∀ q : Nat, q < H.size → H1[q]? = H[q]?) : HP g h H1 := fun x d hx => (hp x d hx).kept (oq x (hp.lt hx))
abbrev KT : Type := Program × Launch × Env × Room × State × MethodId × Array Value × List Frame × Method × Code × (State → Prop) × Nat × GT × (Nat → Prop)
def VJ (K : KT) (k n : Nat) (h : Hp) (pc : Nat) (lv : List (Nat × Value)) (st : List Value) : Prop := match K with
  | (p, l, e, R, s, m, args, below, meth, c, Q, nL, g, A) => ∀ (H : Heap) (locs : List Loc) (ls : Array Slot), HP g h H → (∀ a, h a ≠ none → A a) → va_S A s.heap H locs → lv_has ls nL lv → W p l e R s m args below meth c H locs k n Q (F0 m pc ls st)
def Cx (K : KT) (l0 : Launch) (g0 : GT) (cc : ByteArray) (own : String) (nL0 : Nat) (rm : Room) : Prop := match K with
  | (p, l, e, R, s, m, args, below, meth, c, Q, nL, g, A) => p.tables.exec = Jvm.exec ∧ c.code = cc ∧ c.maxLocals = nL ∧ s.vm.findClass own = some m.cls ∧ (∀ w ∈ GW, w.before args s = true) ∧ EV g A s ∧ (∀ q, s.heap.size ≤ q → A q) ∧ meth.locks = false ∧ l = l0 ∧ g = g0 ∧ R = rm ∧ nL = nL0
def QFp (g : GT) (A : Nat → Prop) (P : Option Value → Hp → Prop) : Array Value → State → Outcome → State → Prop := fun _ st oc t => (∃ (r : Option Value) (h2 : Hp), oc = .returned r ∧ P r h2 ∧ HP g h2 t.heap ∧ ∀ a, h2 a ≠ none → A a) ∧ va_F A st t
def Rt (K : KT) (ret : Option FieldType) (P : Option Value → Hp → Prop) (mc ms : Nat) : Prop := match K with
  | (p, l, e, R, s, m, args, below, meth, c, Q, nL, g, A) => meth.sig.returnType = ret ∧ Q = MQ below (QFp g A P) args s mc ms A
def MC (l : Launch) (g : GT) (y : MethodName) (cc : ByteArray) (nL : Nat) (ret : Option FieldType) (rm : Room) (av : List Value) (h : Hp) (P : Option Value → Hp → Prop) (mc ms : Nat) : Prop :=
  ∀ sz : Nat, Met l y (Cond.code y cc nL ret :: GW) rm (va_Pc av (fun U => U.heap.size = sz ∧ HP g h U.heap ∧ EV g (dm h sz) U)) (QFp g (dm h sz) P) mc ms (dm h sz)
abbrev MF (l : Launch) (g : GT) (y : MethodName) (cc : ByteArray) (nL : Nat) (ret : Option FieldType) (rm : Room) (av : List Value) (h : Hp) (r : Option Value) (h2 : Hp) : Prop := MC l g y cc nL ret rm av h (fun r' h' => r' = r ∧ h' = h2) 0 0
theorem mc_of {l : Launch} {g : GT} {y : MethodName} {cc : ByteArray} {nL : Nat} {ret : Option FieldType} {rm : Room} {av : List Value} {h : Hp} {P : Option Value → Hp → Prop} {mc ms : Nat} (hy : plainName y.cls = true) (hlen : (lg_sl av).length ≤ nL)
    (body : ∀ K : KT, Cx K l g cc y.cls nL rm → Rt K ret P mc ms → VJ K 0 0 h 0 (lv_args 0 av) []) : MC l g y cc nL ret rm av h P mc ms := by
  intro sz
  refine Met.ofW (cc := cc) (maxL := nL) (ret := ret) hy rfl ?_
  intro p e s m args below meth c s₁ B hml hv
  obtain ⟨rfl, hsz, hP, hE⟩ := hv
  subst hsz
  have hts := atoms_spec (ws := Cond.code y cc nL ret :: GW) B.pre
  have hown : s.vm.findClass y.cls = some m.cls := findClass_of_methodNamed B.named
  have hb := body (p, l, e, rm, s, m, av.toArray, below, meth, c, MQ below (QFp g (dm h s.heap.size) P) av.toArray s mc ms (dm h s.heap.size), nL, g, dm h s.heap.size)
    ⟨B.exec, B.bytes, hml, hown, fun w hw => hts w (List.mem_cons_of_mem _ hw), hE, fun q hq => Or.inr hq, B.notSynchronized, rfl, rfl, rfl, rfl⟩ ⟨B.returns, rfl⟩
  have hl := lv_entry av (n := nL) hlen
  rw [lg_entry_eq]
  exact hb s.heap [] _ hP (fun a ha => Or.inl ha) va_S.rf hl
section VR
variable {K : KT} {l0 : Launch} {g0 : GT} {cc : ByteArray} {own : String} {nL0 : Nat} {rm : Room} {k n : Nat} {h : Hp} {pc pc1 : Nat} {lv : List (Nat × Value)} {st : List Value}
theorem v_nmi {x : Int32} (kk : ∀ y : Int32, y = x → VJ K k n h pc lv (.int y :: st)) : VJ K k n h pc lv (.int x :: st) := kk x rfl
theorem v_nml {x : Int64} (kk : ∀ y : Int64, y = x → VJ K k n h pc lv (.long y :: st)) : VJ K k n h pc lv (.long x :: st) := kk x rfl
theorem v_eqi {x y : Int32} (e : x = y) (kk : VJ K k n h pc lv (.int y :: st)) : VJ K k n h pc lv (.int x :: st) := e ▸ kk
theorem v_eqh {h2 : Hp} (e : h = h2) (kk : VJ K k n h2 pc lv st) : VJ K k n h pc lv st := e ▸ kk
theorem v_eqs {st2 : List Value} (e : st = st2) (kk : VJ K k n h pc lv st2) : VJ K k n h pc lv st := e ▸ kk
theorem v_eqv {lv2 : List (Nat × Value)} (e : lv = lv2) (kk : VJ K k n h pc lv2 st) : VJ K k n h pc lv st := e ▸ kk
theorem v_lv {lv2 : List (Nat × Value)} (ks : List Nat) (e : lv_pick lv ks = lv2) (kk : VJ K k n h pc lv2 st) : VJ K k n h pc lv st := by
  obtain ⟨p, l, e, R, s, m, args, below, meth, c, Q, nL, g, A⟩ := K
  exact fun H locs ls h1 h2 h3 h4 => kk H locs ls h1 h2 h3 (lv_sub h4 ks ‹_›)
theorem v_widen {k2 n2 : Nat} (h1 : k ≤ k2) (h2 : n ≤ n2) (kk : VJ K k2 n2 h pc lv st) : VJ K k n h pc lv st := by
  obtain ⟨p, l, e, R, s, m, args, below, meth, c, Q, nL, g, A⟩ := K
  exact fun H locs ls a1 a2 a3 a4 => W.widen h1 h2 (kk H locs ls a1 a2 a3 a4)

theorem v_iconst (X : Cx K l0 g0 cc own nL0 rm) {i : Int} {v : Int32} (hd : DD cc pc (.iconst i) 1 pc1) (hv : Int32.ofInt i = v) (kk : VJ K k n h pc1 lv (.int v :: st)) : VJ K k n h pc lv (st) := by
  obtain ⟨p, l, e, R, s, m, args, below, meth, c, Q, nL, g, A⟩ := K
  obtain ⟨hx, hb, hml, hown, hts, hE, hA, hlk, rfl, rfl, rfl, rfl⟩ := X
  obtain ⟨hd, rfl⟩ := hd
  exact fun H locs ls h1 h2 h3 h4 => lv_iconst hx hb hd hv (kk H locs ls h1 h2 h3 h4)
theorem v_bipush (X : Cx K l0 g0 cc own nL0 rm) {i : Int} {v : Int32} (hd : DD cc pc (.bipush i) 2 pc1) (hv : (Int8.ofInt i).toInt32 = v) (kk : VJ K k n h pc1 lv (.int v :: st)) : VJ K k n h pc lv (st) := by
  obtain ⟨p, l, e, R, s, m, args, below, meth, c, Q, nL, g, A⟩ := K
  obtain ⟨hx, hb, hml, hown, hts, hE, hA, hlk, rfl, rfl, rfl, rfl⟩ := X
  obtain ⟨hd, rfl⟩ := hd
  exact fun H locs ls h1 h2 h3 h4 => lv_bipush hx hb hd hv (kk H locs ls h1 h2 h3 h4)
theorem v_sipush (X : Cx K l0 g0 cc own nL0 rm) {i : Int} {v : Int32} (hd : DD cc pc (.sipush i) 3 pc1) (hv : (Int16.ofInt i).toInt32 = v) (kk : VJ K k n h pc1 lv (.int v :: st)) : VJ K k n h pc lv (st) := by
  obtain ⟨p, l, e, R, s, m, args, below, meth, c, Q, nL, g, A⟩ := K
  obtain ⟨hx, hb, hml, hown, hts, hE, hA, hlk, rfl, rfl, rfl, rfl⟩ := X
  obtain ⟨hd, rfl⟩ := hd
  exact fun H locs ls h1 h2 h3 h4 => lv_sipush hx hb hd hv (kk H locs ls h1 h2 h3 h4)
theorem v_lconst (X : Cx K l0 g0 cc own nL0 rm) {i : Fin 2} {v : Int64} (hd : DD cc pc (.lconst i) 1 pc1) (hv : Int64.ofNat (i : Nat) = v) (kk : VJ K k n h pc1 lv (.long v :: st)) : VJ K k n h pc lv (st) := by
  obtain ⟨p, l, e, R, s, m, args, below, meth, c, Q, nL, g, A⟩ := K
  obtain ⟨hx, hb, hml, hown, hts, hE, hA, hlk, rfl, rfl, rfl, rfl⟩ := X
  obtain ⟨hd, rfl⟩ := hd
  exact fun H locs ls h1 h2 h3 h4 => lv_lconst hx hb hd hv (kk H locs ls h1 h2 h3 h4)
theorem v_null (X : Cx K l0 g0 cc own nL0 rm) (hd : DD cc pc (.aconst_null) 1 pc1) (kk : VJ K k n h pc1 lv (.null :: st)) : VJ K k n h pc lv (st) := by
  obtain ⟨p, l, e, R, s, m, args, below, meth, c, Q, nL, g, A⟩ := K
  obtain ⟨hx, hb, hml, hown, hts, hE, hA, hlk, rfl, rfl, rfl, rfl⟩ := X
  obtain ⟨hd, rfl⟩ := hd
  exact fun H locs ls h1 h2 h3 h4 => lv_null hx hb hd (kk H locs ls h1 h2 h3 h4)
theorem v_ldc (X : Cx K l0 g0 cc own nL0 rm) {i : Nat} {v : Int32} (hd : DD cc pc (.ldc i) 2 pc1) (hw : Cond.constant own i v ∈ GW) (kk : VJ K k n h pc1 lv (.int v :: st)) : VJ K k n h pc lv (st) := by
  obtain ⟨p, l, e, R, s, m, args, below, meth, c, Q, nL, g, A⟩ := K
  obtain ⟨hx, hb, hml, hown, hts, hE, hA, hlk, rfl, rfl, rfl, rfl⟩ := X
  obtain ⟨hd, rfl⟩ := hd
  exact fun H locs ls h1 h2 h3 h4 => lv_ldc hx hb hown (hts _ hw) hd (kk H locs ls h1 h2 h3 h4)
theorem v_ldcw (X : Cx K l0 g0 cc own nL0 rm) {i : Nat} {v : Int32} (hd : DD cc pc (.ldc_w i) 3 pc1) (hw : Cond.constant own i v ∈ GW) (kk : VJ K k n h pc1 lv (.int v :: st)) : VJ K k n h pc lv (st) := by
  obtain ⟨p, l, e, R, s, m, args, below, meth, c, Q, nL, g, A⟩ := K
  obtain ⟨hx, hb, hml, hown, hts, hE, hA, hlk, rfl, rfl, rfl, rfl⟩ := X
  obtain ⟨hd, rfl⟩ := hd
  exact fun H locs ls h1 h2 h3 h4 => lv_ldcw hx hb hown (hts _ hw) hd (kk H locs ls h1 h2 h3 h4)
theorem v_ldc2 (X : Cx K l0 g0 cc own nL0 rm) {i : Nat} {v : Int64} (hd : DD cc pc (.ldc2_w i) 3 pc1) (hw : Cond.constantLong own i v ∈ GW) (kk : VJ K k n h pc1 lv (.long v :: st)) : VJ K k n h pc lv (st) := by
  obtain ⟨p, l, e, R, s, m, args, below, meth, c, Q, nL, g, A⟩ := K
  obtain ⟨hx, hb, hml, hown, hts, hE, hA, hlk, rfl, rfl, rfl, rfl⟩ := X
  obtain ⟨hd, rfl⟩ := hd
  exact fun H locs ls h1 h2 h3 h4 => lv_ldc2 hx hb hown (hts _ hw) hd (kk H locs ls h1 h2 h3 h4)
theorem v_iload_n (X : Cx K l0 g0 cc own nL0 rm) {j : Fin 4} {x : Int32} (hd : DD cc pc (.iload_n j) 1 pc1) (q : Nat) (hq : lv[q]? = some ((j : Nat), .int x)) (kk : VJ K k n h pc1 lv (.int x :: st)) : VJ K k n h pc lv (st) := by
  obtain ⟨p, l, e, R, s, m, args, below, meth, c, Q, nL, g, A⟩ := K
  obtain ⟨hx, hb, hml, hown, hts, hE, hA, hlk, rfl, rfl, rfl, rfl⟩ := X
  obtain ⟨hd, rfl⟩ := hd
  exact fun H locs ls h1 h2 h3 h4 => lv_iload_n hx hb hd rfl (lv_at h4 q hq) (kk H locs ls h1 h2 h3 h4)
theorem v_iload (X : Cx K l0 g0 cc own nL0 rm) {j : Nat} {x : Int32} (hd : DD cc pc (.iload j) 2 pc1) (q : Nat) (hq : lv[q]? = some (j, .int x)) (kk : VJ K k n h pc1 lv (.int x :: st)) : VJ K k n h pc lv (st) := by
  obtain ⟨p, l, e, R, s, m, args, below, meth, c, Q, nL, g, A⟩ := K
  obtain ⟨hx, hb, hml, hown, hts, hE, hA, hlk, rfl, rfl, rfl, rfl⟩ := X
  obtain ⟨hd, rfl⟩ := hd
  exact fun H locs ls h1 h2 h3 h4 => lv_iload hx hb hd (lv_at h4 q hq) (kk H locs ls h1 h2 h3 h4)
theorem v_lload_n (X : Cx K l0 g0 cc own nL0 rm) {j : Fin 4} {x : Int64} (hd : DD cc pc (.lload_n j) 1 pc1) (q : Nat) (hq : lv[q]? = some ((j : Nat), .long x)) (kk : VJ K k n h pc1 lv (.long x :: st)) : VJ K k n h pc lv (st) := by
  obtain ⟨p, l, e, R, s, m, args, below, meth, c, Q, nL, g, A⟩ := K
  obtain ⟨hx, hb, hml, hown, hts, hE, hA, hlk, rfl, rfl, rfl, rfl⟩ := X
  obtain ⟨hd, rfl⟩ := hd
  exact fun H locs ls h1 h2 h3 h4 => lv_lload_n hx hb hd rfl (lv_at h4 q hq) (kk H locs ls h1 h2 h3 h4)
theorem v_lload (X : Cx K l0 g0 cc own nL0 rm) {j : Nat} {x : Int64} (hd : DD cc pc (.lload j) 2 pc1) (q : Nat) (hq : lv[q]? = some (j, .long x)) (kk : VJ K k n h pc1 lv (.long x :: st)) : VJ K k n h pc lv (st) := by
  obtain ⟨p, l, e, R, s, m, args, below, meth, c, Q, nL, g, A⟩ := K
  obtain ⟨hx, hb, hml, hown, hts, hE, hA, hlk, rfl, rfl, rfl, rfl⟩ := X
  obtain ⟨hd, rfl⟩ := hd
  exact fun H locs ls h1 h2 h3 h4 => lv_lload hx hb hd (lv_at h4 q hq) (kk H locs ls h1 h2 h3 h4)
theorem v_aload_n (X : Cx K l0 g0 cc own nL0 rm) {j : Fin 4} {x : Nat} (hd : DD cc pc (.aload_n j) 1 pc1) (q : Nat) (hq : lv[q]? = some ((j : Nat), .ref x)) (kk : VJ K k n h pc1 lv (.ref x :: st)) : VJ K k n h pc lv (st) := by
  obtain ⟨p, l, e, R, s, m, args, below, meth, c, Q, nL, g, A⟩ := K
  obtain ⟨hx, hb, hml, hown, hts, hE, hA, hlk, rfl, rfl, rfl, rfl⟩ := X
  obtain ⟨hd, rfl⟩ := hd
  exact fun H locs ls h1 h2 h3 h4 => lv_aload_n hx hb hd rfl (lv_at h4 q hq) (kk H locs ls h1 h2 h3 h4)
theorem v_aload (X : Cx K l0 g0 cc own nL0 rm) {j : Nat} {x : Nat} (hd : DD cc pc (.aload j) 2 pc1) (q : Nat) (hq : lv[q]? = some (j, .ref x)) (kk : VJ K k n h pc1 lv (.ref x :: st)) : VJ K k n h pc lv (st) := by
  obtain ⟨p, l, e, R, s, m, args, below, meth, c, Q, nL, g, A⟩ := K
  obtain ⟨hx, hb, hml, hown, hts, hE, hA, hlk, rfl, rfl, rfl, rfl⟩ := X
  obtain ⟨hd, rfl⟩ := hd
  exact fun H locs ls h1 h2 h3 h4 => lv_aload hx hb hd (lv_at h4 q hq) (kk H locs ls h1 h2 h3 h4)
theorem v_aload_nN (X : Cx K l0 g0 cc own nL0 rm) {j : Fin 4} (hd : DD cc pc (.aload_n j) 1 pc1) (q : Nat) (hq : lv[q]? = some ((j : Nat), .null)) (kk : VJ K k n h pc1 lv (.null :: st)) : VJ K k n h pc lv (st) := by
  obtain ⟨p, l, e, R, s, m, args, below, meth, c, Q, nL, g, A⟩ := K
  obtain ⟨hx, hb, hml, hown, hts, hE, hA, hlk, rfl, rfl, rfl, rfl⟩ := X
  obtain ⟨hd, rfl⟩ := hd
  exact fun H locs ls h1 h2 h3 h4 => lv_aload_nN hx hb hd rfl (lv_at h4 q hq) (kk H locs ls h1 h2 h3 h4)
theorem v_aloadN (X : Cx K l0 g0 cc own nL0 rm) {j : Nat} (hd : DD cc pc (.aload j) 2 pc1) (q : Nat) (hq : lv[q]? = some (j, .null)) (kk : VJ K k n h pc1 lv (.null :: st)) : VJ K k n h pc lv (st) := by
  obtain ⟨p, l, e, R, s, m, args, below, meth, c, Q, nL, g, A⟩ := K
  obtain ⟨hx, hb, hml, hown, hts, hE, hA, hlk, rfl, rfl, rfl, rfl⟩ := X
  obtain ⟨hd, rfl⟩ := hd
  exact fun H locs ls h1 h2 h3 h4 => lv_aloadN hx hb hd (lv_at h4 q hq) (kk H locs ls h1 h2 h3 h4)
theorem v_istore_n (X : Cx K l0 g0 cc own nL0 rm) {j : Fin 4} {x : Int32} {lv1 : List (Nat × Value)} (hd : DD cc pc (.istore_n j) 1 pc1) (hn : (j : Nat) < nL0) (hl : ((j : Nat), Value.int x) :: lv.filter (fun q => !(q.1 == (j : Nat)) && !(q.1 + 1 == (j : Nat) && q.2.category == 2)) = lv1) (kk : VJ K k n h pc1 lv1 st) : VJ K k n h pc lv (.int x :: st) := by
  obtain ⟨p, l, e, R, s, m, args, below, meth, c, Q, nL, g, A⟩ := K
  obtain ⟨hx, hb, hml, hown, hts, hE, hA, hlk, rfl, rfl, rfl, rfl⟩ := X
  obtain ⟨hd, rfl⟩ := hd
  exact fun H locs ls h1 h2 h3 h4 => lv_istore_n hx hb hd rfl h4 hn hl (fun ls' h4' => kk H locs ls' h1 h2 h3 h4')
theorem v_istore (X : Cx K l0 g0 cc own nL0 rm) {j : Nat} {x : Int32} {lv1 : List (Nat × Value)} (hd : DD cc pc (.istore j) 2 pc1) (hn : j < nL0) (hl : (j, Value.int x) :: lv.filter (fun q => !(q.1 == j) && !(q.1 + 1 == j && q.2.category == 2)) = lv1) (kk : VJ K k n h pc1 lv1 st) : VJ K k n h pc lv (.int x :: st) := by
  obtain ⟨p, l, e, R, s, m, args, below, meth, c, Q, nL, g, A⟩ := K
  obtain ⟨hx, hb, hml, hown, hts, hE, hA, hlk, rfl, rfl, rfl, rfl⟩ := X
  obtain ⟨hd, rfl⟩ := hd
  exact fun H locs ls h1 h2 h3 h4 => lv_istore hx hb hd h4 hn hl (fun ls' h4' => kk H locs ls' h1 h2 h3 h4')
theorem v_astore_n (X : Cx K l0 g0 cc own nL0 rm) {j : Fin 4} {x : Nat} {lv1 : List (Nat × Value)} (hd : DD cc pc (.astore_n j) 1 pc1) (hn : (j : Nat) < nL0) (hl : ((j : Nat), Value.ref x) :: lv.filter (fun q => !(q.1 == (j : Nat)) && !(q.1 + 1 == (j : Nat) && q.2.category == 2)) = lv1) (kk : VJ K k n h pc1 lv1 st) : VJ K k n h pc lv (.ref x :: st) := by
  obtain ⟨p, l, e, R, s, m, args, below, meth, c, Q, nL, g, A⟩ := K
  obtain ⟨hx, hb, hml, hown, hts, hE, hA, hlk, rfl, rfl, rfl, rfl⟩ := X
  obtain ⟨hd, rfl⟩ := hd
  exact fun H locs ls h1 h2 h3 h4 => lv_astore_n hx hb hd rfl h4 hn hl (fun ls' h4' => kk H locs ls' h1 h2 h3 h4')
theorem v_astore (X : Cx K l0 g0 cc own nL0 rm) {j : Nat} {x : Nat} {lv1 : List (Nat × Value)} (hd : DD cc pc (.astore j) 2 pc1) (hn : j < nL0) (hl : (j, Value.ref x) :: lv.filter (fun q => !(q.1 == j) && !(q.1 + 1 == j && q.2.category == 2)) = lv1) (kk : VJ K k n h pc1 lv1 st) : VJ K k n h pc lv (.ref x :: st) := by
  obtain ⟨p, l, e, R, s, m, args, below, meth, c, Q, nL, g, A⟩ := K
  obtain ⟨hx, hb, hml, hown, hts, hE, hA, hlk, rfl, rfl, rfl, rfl⟩ := X
  obtain ⟨hd, rfl⟩ := hd
  exact fun H locs ls h1 h2 h3 h4 => lv_astore hx hb hd h4 hn hl (fun ls' h4' => kk H locs ls' h1 h2 h3 h4')
theorem v_lstore_n (X : Cx K l0 g0 cc own nL0 rm) {j : Fin 4} {x : Int64} {lv1 : List (Nat × Value)} (hd : DD cc pc (.lstore_n j) 1 pc1) (hn : (j : Nat) + 1 < nL0) (hl : ((j : Nat), Value.long x) :: lv.filter (fun q => !(q.1 == (j : Nat)) && (!(q.1 == (j : Nat) + 1) && !(q.1 + 1 == (j : Nat) && q.2.category == 2))) = lv1) (kk : VJ K k n h pc1 lv1 st) : VJ K k n h pc lv (.long x :: st) := by
  obtain ⟨p, l, e, R, s, m, args, below, meth, c, Q, nL, g, A⟩ := K
  obtain ⟨hx, hb, hml, hown, hts, hE, hA, hlk, rfl, rfl, rfl, rfl⟩ := X
  obtain ⟨hd, rfl⟩ := hd
  exact fun H locs ls h1 h2 h3 h4 => lv_lstore_n hx hb hd rfl h4 hn hl (fun ls' h4' => kk H locs ls' h1 h2 h3 h4')
theorem v_lstore (X : Cx K l0 g0 cc own nL0 rm) {j : Nat} {x : Int64} {lv1 : List (Nat × Value)} (hd : DD cc pc (.lstore j) 2 pc1) (hn : j + 1 < nL0) (hl : (j, Value.long x) :: lv.filter (fun q => !(q.1 == j) && (!(q.1 == j + 1) && !(q.1 + 1 == j && q.2.category == 2))) = lv1) (kk : VJ K k n h pc1 lv1 st) : VJ K k n h pc lv (.long x :: st) := by
  obtain ⟨p, l, e, R, s, m, args, below, meth, c, Q, nL, g, A⟩ := K
  obtain ⟨hx, hb, hml, hown, hts, hE, hA, hlk, rfl, rfl, rfl, rfl⟩ := X
  obtain ⟨hd, rfl⟩ := hd
  exact fun H locs ls h1 h2 h3 h4 => lv_lstore hx hb hd h4 hn hl (fun ls' h4' => kk H locs ls' h1 h2 h3 h4')
theorem v_astore_nN (X : Cx K l0 g0 cc own nL0 rm) {j : Fin 4} {lv1 : List (Nat × Value)} (hd : DD cc pc (.astore_n j) 1 pc1) (hn : (j : Nat) < nL0) (hl : ((j : Nat), Value.null) :: lv.filter (fun q => !(q.1 == (j : Nat)) && !(q.1 + 1 == (j : Nat) && q.2.category == 2)) = lv1) (kk : VJ K k n h pc1 lv1 st) : VJ K k n h pc lv (.null :: st) := by
  obtain ⟨p, l, e, R, s, m, args, below, meth, c, Q, nL, g, A⟩ := K
  obtain ⟨hx, hb, hml, hown, hts, hE, hA, hlk, rfl, rfl, rfl, rfl⟩ := X
  obtain ⟨hd, rfl⟩ := hd
  exact fun H locs ls h1 h2 h3 h4 => lv_astore_nN hx hb hd rfl h4 hn hl (fun ls' h4' => kk H locs ls' h1 h2 h3 h4')
theorem v_astoreN (X : Cx K l0 g0 cc own nL0 rm) {j : Nat} {lv1 : List (Nat × Value)} (hd : DD cc pc (.astore j) 2 pc1) (hn : j < nL0) (hl : (j, Value.null) :: lv.filter (fun q => !(q.1 == j) && !(q.1 + 1 == j && q.2.category == 2)) = lv1) (kk : VJ K k n h pc1 lv1 st) : VJ K k n h pc lv (.null :: st) := by
  obtain ⟨p, l, e, R, s, m, args, below, meth, c, Q, nL, g, A⟩ := K
  obtain ⟨hx, hb, hml, hown, hts, hE, hA, hlk, rfl, rfl, rfl, rfl⟩ := X
  obtain ⟨hd, rfl⟩ := hd
  exact fun H locs ls h1 h2 h3 h4 => lv_astoreN hx hb hd h4 hn hl (fun ls' h4' => kk H locs ls' h1 h2 h3 h4')
theorem v_iinc (X : Cx K l0 g0 cc own nL0 rm) {j : Nat} {i : Int} {x v : Int32} {lv1 : List (Nat × Value)} (hd : DD cc pc (.iinc j i) 3 pc1) (q : Nat) (hq : lv[q]? = some (j, .int x)) (hv : x + Int32.ofInt i = v) (hn : j < nL0) (hl : (j, Value.int v) :: lv.filter (fun q => !(q.1 == j) && !(q.1 + 1 == j && q.2.category == 2)) = lv1) (kk : VJ K k n h pc1 lv1 st) : VJ K k n h pc lv st := by
  obtain ⟨p, l, e, R, s, m, args, below, meth, c, Q, nL, g, A⟩ := K
  obtain ⟨hx, hb, hml, hown, hts, hE, hA, hlk, rfl, rfl, rfl, rfl⟩ := X
  obtain ⟨hd, rfl⟩ := hd
  exact fun H locs ls h1 h2 h3 h4 => lv_iinc hx hb hd h4 (k := q) hq hv hn hl (fun ls' h4' => kk H locs ls' h1 h2 h3 h4')
theorem v_iadd (X : Cx K l0 g0 cc own nL0 rm) {x y : Int32} (hd : DD cc pc (.iadd) 1 pc1) (kk : VJ K k n h pc1 lv (.int (x + y) :: st)) : VJ K k n h pc lv (.int y :: .int x :: st) := by
  obtain ⟨p, l, e, R, s, m, args, below, meth, c, Q, nL, g, A⟩ := K
  obtain ⟨hx, hb, hml, hown, hts, hE, hA, hlk, rfl, rfl, rfl, rfl⟩ := X
  obtain ⟨hd, rfl⟩ := hd
  exact fun H locs ls h1 h2 h3 h4 => lv_iadd hx hb hd (kk H locs ls h1 h2 h3 h4)
theorem v_isub (X : Cx K l0 g0 cc own nL0 rm) {x y : Int32} (hd : DD cc pc (.isub) 1 pc1) (kk : VJ K k n h pc1 lv (.int (x - y) :: st)) : VJ K k n h pc lv (.int y :: .int x :: st) := by
  obtain ⟨p, l, e, R, s, m, args, below, meth, c, Q, nL, g, A⟩ := K
  obtain ⟨hx, hb, hml, hown, hts, hE, hA, hlk, rfl, rfl, rfl, rfl⟩ := X
  obtain ⟨hd, rfl⟩ := hd
  exact fun H locs ls h1 h2 h3 h4 => lv_isub hx hb hd (kk H locs ls h1 h2 h3 h4)
theorem v_imul (X : Cx K l0 g0 cc own nL0 rm) {x y : Int32} (hd : DD cc pc (.imul) 1 pc1) (kk : VJ K k n h pc1 lv (.int (x * y) :: st)) : VJ K k n h pc lv (.int y :: .int x :: st) := by
  obtain ⟨p, l, e, R, s, m, args, below, meth, c, Q, nL, g, A⟩ := K
  obtain ⟨hx, hb, hml, hown, hts, hE, hA, hlk, rfl, rfl, rfl, rfl⟩ := X
  obtain ⟨hd, rfl⟩ := hd
  exact fun H locs ls h1 h2 h3 h4 => lv_imul hx hb hd (kk H locs ls h1 h2 h3 h4)
theorem v_iand (X : Cx K l0 g0 cc own nL0 rm) {x y : Int32} (hd : DD cc pc (.iand) 1 pc1) (kk : VJ K k n h pc1 lv (.int (x &&& y) :: st)) : VJ K k n h pc lv (.int y :: .int x :: st) := by
  obtain ⟨p, l, e, R, s, m, args, below, meth, c, Q, nL, g, A⟩ := K
  obtain ⟨hx, hb, hml, hown, hts, hE, hA, hlk, rfl, rfl, rfl, rfl⟩ := X
  obtain ⟨hd, rfl⟩ := hd
  exact fun H locs ls h1 h2 h3 h4 => lv_iand hx hb hd (kk H locs ls h1 h2 h3 h4)
theorem v_ior (X : Cx K l0 g0 cc own nL0 rm) {x y : Int32} (hd : DD cc pc (.ior) 1 pc1) (kk : VJ K k n h pc1 lv (.int (x ||| y) :: st)) : VJ K k n h pc lv (.int y :: .int x :: st) := by
  obtain ⟨p, l, e, R, s, m, args, below, meth, c, Q, nL, g, A⟩ := K
  obtain ⟨hx, hb, hml, hown, hts, hE, hA, hlk, rfl, rfl, rfl, rfl⟩ := X
  obtain ⟨hd, rfl⟩ := hd
  exact fun H locs ls h1 h2 h3 h4 => lv_ior hx hb hd (kk H locs ls h1 h2 h3 h4)
theorem v_ixor (X : Cx K l0 g0 cc own nL0 rm) {x y : Int32} (hd : DD cc pc (.ixor) 1 pc1) (kk : VJ K k n h pc1 lv (.int (x ^^^ y) :: st)) : VJ K k n h pc lv (.int y :: .int x :: st) := by
  obtain ⟨p, l, e, R, s, m, args, below, meth, c, Q, nL, g, A⟩ := K
  obtain ⟨hx, hb, hml, hown, hts, hE, hA, hlk, rfl, rfl, rfl, rfl⟩ := X
  obtain ⟨hd, rfl⟩ := hd
  exact fun H locs ls h1 h2 h3 h4 => lv_ixor hx hb hd (kk H locs ls h1 h2 h3 h4)
theorem v_ladd (X : Cx K l0 g0 cc own nL0 rm) {x y : Int64} (hd : DD cc pc (.ladd) 1 pc1) (kk : VJ K k n h pc1 lv (.long (x + y) :: st)) : VJ K k n h pc lv (.long y :: .long x :: st) := by
  obtain ⟨p, l, e, R, s, m, args, below, meth, c, Q, nL, g, A⟩ := K
  obtain ⟨hx, hb, hml, hown, hts, hE, hA, hlk, rfl, rfl, rfl, rfl⟩ := X
  obtain ⟨hd, rfl⟩ := hd
  exact fun H locs ls h1 h2 h3 h4 => lv_ladd hx hb hd (kk H locs ls h1 h2 h3 h4)
theorem v_lsub (X : Cx K l0 g0 cc own nL0 rm) {x y : Int64} (hd : DD cc pc (.lsub) 1 pc1) (kk : VJ K k n h pc1 lv (.long (x - y) :: st)) : VJ K k n h pc lv (.long y :: .long x :: st) := by
  obtain ⟨p, l, e, R, s, m, args, below, meth, c, Q, nL, g, A⟩ := K
  obtain ⟨hx, hb, hml, hown, hts, hE, hA, hlk, rfl, rfl, rfl, rfl⟩ := X
  obtain ⟨hd, rfl⟩ := hd
  exact fun H locs ls h1 h2 h3 h4 => lv_lsub hx hb hd (kk H locs ls h1 h2 h3 h4)
theorem v_lmul (X : Cx K l0 g0 cc own nL0 rm) {x y : Int64} (hd : DD cc pc (.lmul) 1 pc1) (kk : VJ K k n h pc1 lv (.long (x * y) :: st)) : VJ K k n h pc lv (.long y :: .long x :: st) := by
  obtain ⟨p, l, e, R, s, m, args, below, meth, c, Q, nL, g, A⟩ := K
  obtain ⟨hx, hb, hml, hown, hts, hE, hA, hlk, rfl, rfl, rfl, rfl⟩ := X
  obtain ⟨hd, rfl⟩ := hd
  exact fun H locs ls h1 h2 h3 h4 => lv_lmul hx hb hd (kk H locs ls h1 h2 h3 h4)
theorem v_land (X : Cx K l0 g0 cc own nL0 rm) {x y : Int64} (hd : DD cc pc (.land) 1 pc1) (kk : VJ K k n h pc1 lv (.long (x &&& y) :: st)) : VJ K k n h pc lv (.long y :: .long x :: st) := by
  obtain ⟨p, l, e, R, s, m, args, below, meth, c, Q, nL, g, A⟩ := K
  obtain ⟨hx, hb, hml, hown, hts, hE, hA, hlk, rfl, rfl, rfl, rfl⟩ := X
  obtain ⟨hd, rfl⟩ := hd
  exact fun H locs ls h1 h2 h3 h4 => lv_land hx hb hd (kk H locs ls h1 h2 h3 h4)
theorem v_lor (X : Cx K l0 g0 cc own nL0 rm) {x y : Int64} (hd : DD cc pc (.lor) 1 pc1) (kk : VJ K k n h pc1 lv (.long (x ||| y) :: st)) : VJ K k n h pc lv (.long y :: .long x :: st) := by
  obtain ⟨p, l, e, R, s, m, args, below, meth, c, Q, nL, g, A⟩ := K
  obtain ⟨hx, hb, hml, hown, hts, hE, hA, hlk, rfl, rfl, rfl, rfl⟩ := X
  obtain ⟨hd, rfl⟩ := hd
  exact fun H locs ls h1 h2 h3 h4 => lv_lor hx hb hd (kk H locs ls h1 h2 h3 h4)
theorem v_lxor (X : Cx K l0 g0 cc own nL0 rm) {x y : Int64} (hd : DD cc pc (.lxor) 1 pc1) (kk : VJ K k n h pc1 lv (.long (x ^^^ y) :: st)) : VJ K k n h pc lv (.long y :: .long x :: st) := by
  obtain ⟨p, l, e, R, s, m, args, below, meth, c, Q, nL, g, A⟩ := K
  obtain ⟨hx, hb, hml, hown, hts, hE, hA, hlk, rfl, rfl, rfl, rfl⟩ := X
  obtain ⟨hd, rfl⟩ := hd
  exact fun H locs ls h1 h2 h3 h4 => lv_lxor hx hb hd (kk H locs ls h1 h2 h3 h4)
theorem v_idiv (X : Cx K l0 g0 cc own nL0 rm) {x y : Int32} (hd : DD cc pc (.idiv) 1 pc1) (hne : ¬ y = 0) (kk : VJ K k n h pc1 lv (.int (x / y) :: st)) : VJ K k n h pc lv (.int y :: .int x :: st) := by
  obtain ⟨p, l, e, R, s, m, args, below, meth, c, Q, nL, g, A⟩ := K
  obtain ⟨hx, hb, hml, hown, hts, hE, hA, hlk, rfl, rfl, rfl, rfl⟩ := X
  obtain ⟨hd, rfl⟩ := hd
  exact fun H locs ls h1 h2 h3 h4 => lv_idiv hx hb hd hne (kk H locs ls h1 h2 h3 h4)
theorem v_irem (X : Cx K l0 g0 cc own nL0 rm) {x y : Int32} (hd : DD cc pc (.irem) 1 pc1) (hne : ¬ y = 0) (kk : VJ K k n h pc1 lv (.int (x - x / y * y) :: st)) : VJ K k n h pc lv (.int y :: .int x :: st) := by
  obtain ⟨p, l, e, R, s, m, args, below, meth, c, Q, nL, g, A⟩ := K
  obtain ⟨hx, hb, hml, hown, hts, hE, hA, hlk, rfl, rfl, rfl, rfl⟩ := X
  obtain ⟨hd, rfl⟩ := hd
  exact fun H locs ls h1 h2 h3 h4 => lv_irem hx hb hd hne (kk H locs ls h1 h2 h3 h4)
theorem v_ineg (X : Cx K l0 g0 cc own nL0 rm) {x : Int32} (hd : DD cc pc (.ineg) 1 pc1) (kk : VJ K k n h pc1 lv (.int (-x) :: st)) : VJ K k n h pc lv (.int x :: st) := by
  obtain ⟨p, l, e, R, s, m, args, below, meth, c, Q, nL, g, A⟩ := K
  obtain ⟨hx, hb, hml, hown, hts, hE, hA, hlk, rfl, rfl, rfl, rfl⟩ := X
  obtain ⟨hd, rfl⟩ := hd
  exact fun H locs ls h1 h2 h3 h4 => lv_ineg hx hb hd (kk H locs ls h1 h2 h3 h4)
theorem v_ishl (X : Cx K l0 g0 cc own nL0 rm) {x y : Int32} (hd : DD cc pc (.ishl) 1 pc1) (kk : VJ K k n h pc1 lv (.int (x <<< (y &&& 31)) :: st)) : VJ K k n h pc lv (.int y :: .int x :: st) := by
  obtain ⟨p, l, e, R, s, m, args, below, meth, c, Q, nL, g, A⟩ := K
  obtain ⟨hx, hb, hml, hown, hts, hE, hA, hlk, rfl, rfl, rfl, rfl⟩ := X
  obtain ⟨hd, rfl⟩ := hd
  exact fun H locs ls h1 h2 h3 h4 => lv_ishl hx hb hd (kk H locs ls h1 h2 h3 h4)
theorem v_ishr (X : Cx K l0 g0 cc own nL0 rm) {x y : Int32} (hd : DD cc pc (.ishr) 1 pc1) (kk : VJ K k n h pc1 lv (.int (x >>> (y &&& 31)) :: st)) : VJ K k n h pc lv (.int y :: .int x :: st) := by
  obtain ⟨p, l, e, R, s, m, args, below, meth, c, Q, nL, g, A⟩ := K
  obtain ⟨hx, hb, hml, hown, hts, hE, hA, hlk, rfl, rfl, rfl, rfl⟩ := X
  obtain ⟨hd, rfl⟩ := hd
  exact fun H locs ls h1 h2 h3 h4 => lv_ishr hx hb hd (kk H locs ls h1 h2 h3 h4)
theorem v_iushr (X : Cx K l0 g0 cc own nL0 rm) {x y : Int32} (hd : DD cc pc (.iushr) 1 pc1) (kk : VJ K k n h pc1 lv (.int ((x.toUInt32 >>> (y.toUInt32 &&& Int32.toUInt32 31)).toInt32) :: st)) : VJ K k n h pc lv (.int y :: .int x :: st) := by
  obtain ⟨p, l, e, R, s, m, args, below, meth, c, Q, nL, g, A⟩ := K
  obtain ⟨hx, hb, hml, hown, hts, hE, hA, hlk, rfl, rfl, rfl, rfl⟩ := X
  obtain ⟨hd, rfl⟩ := hd
  exact fun H locs ls h1 h2 h3 h4 => lv_iushr hx hb hd rfl (kk H locs ls h1 h2 h3 h4)
theorem v_lshl (X : Cx K l0 g0 cc own nL0 rm) {x : Int64} {y : Int32} (hd : DD cc pc (.lshl) 1 pc1) (kk : VJ K k n h pc1 lv (.long (x <<< (y.toInt64 &&& 63)) :: st)) : VJ K k n h pc lv (.int y :: .long x :: st) := by
  obtain ⟨p, l, e, R, s, m, args, below, meth, c, Q, nL, g, A⟩ := K
  obtain ⟨hx, hb, hml, hown, hts, hE, hA, hlk, rfl, rfl, rfl, rfl⟩ := X
  obtain ⟨hd, rfl⟩ := hd
  exact fun H locs ls h1 h2 h3 h4 => lv_lshl hx hb hd rfl (kk H locs ls h1 h2 h3 h4)
theorem v_i2l (X : Cx K l0 g0 cc own nL0 rm) {x : Int32} (hd : DD cc pc (.i2l) 1 pc1) (kk : VJ K k n h pc1 lv (.long x.toInt64 :: st)) : VJ K k n h pc lv (.int x :: st) := by
  obtain ⟨p, l, e, R, s, m, args, below, meth, c, Q, nL, g, A⟩ := K
  obtain ⟨hx, hb, hml, hown, hts, hE, hA, hlk, rfl, rfl, rfl, rfl⟩ := X
  obtain ⟨hd, rfl⟩ := hd
  exact fun H locs ls h1 h2 h3 h4 => lv_i2l hx hb hd rfl (kk H locs ls h1 h2 h3 h4)
theorem v_l2i (X : Cx K l0 g0 cc own nL0 rm) {x : Int64} (hd : DD cc pc (.l2i) 1 pc1) (kk : VJ K k n h pc1 lv (.int x.toInt32 :: st)) : VJ K k n h pc lv (.long x :: st) := by
  obtain ⟨p, l, e, R, s, m, args, below, meth, c, Q, nL, g, A⟩ := K
  obtain ⟨hx, hb, hml, hown, hts, hE, hA, hlk, rfl, rfl, rfl, rfl⟩ := X
  obtain ⟨hd, rfl⟩ := hd
  exact fun H locs ls h1 h2 h3 h4 => lv_l2i hx hb hd rfl (kk H locs ls h1 h2 h3 h4)
theorem v_i2b (X : Cx K l0 g0 cc own nL0 rm) {x : Int32} (hd : DD cc pc (.i2b) 1 pc1) (kk : VJ K k n h pc1 lv (.int x.toInt8.toInt32 :: st)) : VJ K k n h pc lv (.int x :: st) := by
  obtain ⟨p, l, e, R, s, m, args, below, meth, c, Q, nL, g, A⟩ := K
  obtain ⟨hx, hb, hml, hown, hts, hE, hA, hlk, rfl, rfl, rfl, rfl⟩ := X
  obtain ⟨hd, rfl⟩ := hd
  exact fun H locs ls h1 h2 h3 h4 => lv_i2b hx hb hd rfl (kk H locs ls h1 h2 h3 h4)
theorem v_i2s (X : Cx K l0 g0 cc own nL0 rm) {x : Int32} (hd : DD cc pc (.i2s) 1 pc1) (kk : VJ K k n h pc1 lv (.int x.toInt16.toInt32 :: st)) : VJ K k n h pc lv (.int x :: st) := by
  obtain ⟨p, l, e, R, s, m, args, below, meth, c, Q, nL, g, A⟩ := K
  obtain ⟨hx, hb, hml, hown, hts, hE, hA, hlk, rfl, rfl, rfl, rfl⟩ := X
  obtain ⟨hd, rfl⟩ := hd
  exact fun H locs ls h1 h2 h3 h4 => lv_i2s hx hb hd rfl (kk H locs ls h1 h2 h3 h4)
theorem v_i2c (X : Cx K l0 g0 cc own nL0 rm) {x : Int32} (hd : DD cc pc (.i2c) 1 pc1) (kk : VJ K k n h pc1 lv (.int ((x.toUInt32 % 65536).toInt32) :: st)) : VJ K k n h pc lv (.int x :: st) := by
  obtain ⟨p, l, e, R, s, m, args, below, meth, c, Q, nL, g, A⟩ := K
  obtain ⟨hx, hb, hml, hown, hts, hE, hA, hlk, rfl, rfl, rfl, rfl⟩ := X
  obtain ⟨hd, rfl⟩ := hd
  exact fun H locs ls h1 h2 h3 h4 => lv_i2c hx hb hd rfl (kk H locs ls h1 h2 h3 h4)
theorem v_lcmp (X : Cx K l0 g0 cc own nL0 rm) {x y : Int64} (hd : DD cc pc (.lcmp) 1 pc1) (kk : VJ K k n h pc1 lv (.int (lg_cmp x y) :: st)) : VJ K k n h pc lv (.long y :: .long x :: st) := by
  obtain ⟨p, l, e, R, s, m, args, below, meth, c, Q, nL, g, A⟩ := K
  obtain ⟨hx, hb, hml, hown, hts, hE, hA, hlk, rfl, rfl, rfl, rfl⟩ := X
  obtain ⟨hd, rfl⟩ := hd
  exact fun H locs ls h1 h2 h3 h4 => W.lcmp hx hb hd (kk H locs ls h1 h2 h3 h4)
theorem v_dup (X : Cx K l0 g0 cc own nL0 rm) {va : Value} (hd : DD cc pc (.dup) 1 pc1) (hva : va.category = 1) (kk : VJ K k n h pc1 lv (va :: va :: st)) : VJ K k n h pc lv (va :: st) := by
  obtain ⟨p, l, e, R, s, m, args, below, meth, c, Q, nL, g, A⟩ := K
  obtain ⟨hx, hb, hml, hown, hts, hE, hA, hlk, rfl, rfl, rfl, rfl⟩ := X
  obtain ⟨hd, rfl⟩ := hd
  exact fun H locs ls h1 h2 h3 h4 => lv_dup hx hb hd hva (kk H locs ls h1 h2 h3 h4)
theorem v_pop (X : Cx K l0 g0 cc own nL0 rm) {va : Value} (hd : DD cc pc (.pop) 1 pc1) (hva : va.category = 1) (kk : VJ K k n h pc1 lv (st)) : VJ K k n h pc lv (va :: st) := by
  obtain ⟨p, l, e, R, s, m, args, below, meth, c, Q, nL, g, A⟩ := K
  obtain ⟨hx, hb, hml, hown, hts, hE, hA, hlk, rfl, rfl, rfl, rfl⟩ := X
  obtain ⟨hd, rfl⟩ := hd
  exact fun H locs ls h1 h2 h3 h4 => lv_pop hx hb hd hva (kk H locs ls h1 h2 h3 h4)
theorem v_dup2 (X : Cx K l0 g0 cc own nL0 rm) {va vb : Value} (hd : DD cc pc (.dup2) 1 pc1) (hva : va.category = 1) (hvb : vb.category = 1) (kk : VJ K k n h pc1 lv (va :: vb :: va :: vb :: st)) : VJ K k n h pc lv (va :: vb :: st) := by
  obtain ⟨p, l, e, R, s, m, args, below, meth, c, Q, nL, g, A⟩ := K
  obtain ⟨hx, hb, hml, hown, hts, hE, hA, hlk, rfl, rfl, rfl, rfl⟩ := X
  obtain ⟨hd, rfl⟩ := hd
  exact fun H locs ls h1 h2 h3 h4 => lv_dup2_11 hx hb hd hva hvb (kk H locs ls h1 h2 h3 h4)
theorem v_if_eq (X : Cx K l0 g0 cc own nL0 rm) {x : Int32} {off : Int} {tgt : Nat} (hd : DD cc pc (.ifCond .eq off) 3 pc1) (ht : (pc : Int) + off = (tgt : Int)) (kt : x = 0 → VJ K k n h tgt lv st) (kf : ¬ x = 0 → VJ K k n h pc1 lv st) : VJ K k n h pc lv (.int x :: st) := by
  obtain ⟨p, l, e, R, s, m, args, below, meth, c, Q, nL, g, A⟩ := K
  obtain ⟨hx, hb, hml, hown, hts, hE, hA, hlk, rfl, rfl, rfl, rfl⟩ := X
  obtain ⟨hd, rfl⟩ := hd
  exact fun H locs ls h1 h2 h3 h4 => lv_if_eq hx hb hd ht (fun q => kt q H locs ls h1 h2 h3 h4) (fun q => kf q H locs ls h1 h2 h3 h4)
theorem v_icmp_eq (X : Cx K l0 g0 cc own nL0 rm) {x y : Int32} {off : Int} {tgt : Nat} (hd : DD cc pc (.if_icmp .eq off) 3 pc1) (ht : (pc : Int) + off = (tgt : Int)) (kt : x = y → VJ K k n h tgt lv st) (kf : ¬ x = y → VJ K k n h pc1 lv st) : VJ K k n h pc lv (.int y :: .int x :: st) := by
  obtain ⟨p, l, e, R, s, m, args, below, meth, c, Q, nL, g, A⟩ := K
  obtain ⟨hx, hb, hml, hown, hts, hE, hA, hlk, rfl, rfl, rfl, rfl⟩ := X
  obtain ⟨hd, rfl⟩ := hd
  exact fun H locs ls h1 h2 h3 h4 => lv_icmp_eq hx hb hd ht (fun q => kt q H locs ls h1 h2 h3 h4) (fun q => kf q H locs ls h1 h2 h3 h4)
theorem v_if_ne (X : Cx K l0 g0 cc own nL0 rm) {x : Int32} {off : Int} {tgt : Nat} (hd : DD cc pc (.ifCond .ne off) 3 pc1) (ht : (pc : Int) + off = (tgt : Int)) (kt : ¬ x = 0 → VJ K k n h tgt lv st) (kf : x = 0 → VJ K k n h pc1 lv st) : VJ K k n h pc lv (.int x :: st) := by
  obtain ⟨p, l, e, R, s, m, args, below, meth, c, Q, nL, g, A⟩ := K
  obtain ⟨hx, hb, hml, hown, hts, hE, hA, hlk, rfl, rfl, rfl, rfl⟩ := X
  obtain ⟨hd, rfl⟩ := hd
  exact fun H locs ls h1 h2 h3 h4 => lv_if_ne hx hb hd ht (fun q => kt q H locs ls h1 h2 h3 h4) (fun q => kf q H locs ls h1 h2 h3 h4)
theorem v_icmp_ne (X : Cx K l0 g0 cc own nL0 rm) {x y : Int32} {off : Int} {tgt : Nat} (hd : DD cc pc (.if_icmp .ne off) 3 pc1) (ht : (pc : Int) + off = (tgt : Int)) (kt : ¬ x = y → VJ K k n h tgt lv st) (kf : x = y → VJ K k n h pc1 lv st) : VJ K k n h pc lv (.int y :: .int x :: st) := by
  obtain ⟨p, l, e, R, s, m, args, below, meth, c, Q, nL, g, A⟩ := K
  obtain ⟨hx, hb, hml, hown, hts, hE, hA, hlk, rfl, rfl, rfl, rfl⟩ := X
  obtain ⟨hd, rfl⟩ := hd
  exact fun H locs ls h1 h2 h3 h4 => lv_icmp_ne hx hb hd ht (fun q => kt q H locs ls h1 h2 h3 h4) (fun q => kf q H locs ls h1 h2 h3 h4)
theorem v_if_lt (X : Cx K l0 g0 cc own nL0 rm) {x : Int32} {off : Int} {tgt : Nat} (hd : DD cc pc (.ifCond .lt off) 3 pc1) (ht : (pc : Int) + off = (tgt : Int)) (kt : x < 0 → VJ K k n h tgt lv st) (kf : ¬ x < 0 → VJ K k n h pc1 lv st) : VJ K k n h pc lv (.int x :: st) := by
  obtain ⟨p, l, e, R, s, m, args, below, meth, c, Q, nL, g, A⟩ := K
  obtain ⟨hx, hb, hml, hown, hts, hE, hA, hlk, rfl, rfl, rfl, rfl⟩ := X
  obtain ⟨hd, rfl⟩ := hd
  exact fun H locs ls h1 h2 h3 h4 => lv_if_lt hx hb hd ht (fun q => kt q H locs ls h1 h2 h3 h4) (fun q => kf q H locs ls h1 h2 h3 h4)
theorem v_icmp_lt (X : Cx K l0 g0 cc own nL0 rm) {x y : Int32} {off : Int} {tgt : Nat} (hd : DD cc pc (.if_icmp .lt off) 3 pc1) (ht : (pc : Int) + off = (tgt : Int)) (kt : x < y → VJ K k n h tgt lv st) (kf : ¬ x < y → VJ K k n h pc1 lv st) : VJ K k n h pc lv (.int y :: .int x :: st) := by
  obtain ⟨p, l, e, R, s, m, args, below, meth, c, Q, nL, g, A⟩ := K
  obtain ⟨hx, hb, hml, hown, hts, hE, hA, hlk, rfl, rfl, rfl, rfl⟩ := X
  obtain ⟨hd, rfl⟩ := hd
  exact fun H locs ls h1 h2 h3 h4 => lv_icmp_lt hx hb hd ht (fun q => kt q H locs ls h1 h2 h3 h4) (fun q => kf q H locs ls h1 h2 h3 h4)
theorem v_if_ge (X : Cx K l0 g0 cc own nL0 rm) {x : Int32} {off : Int} {tgt : Nat} (hd : DD cc pc (.ifCond .ge off) 3 pc1) (ht : (pc : Int) + off = (tgt : Int)) (kt : 0 ≤ x → VJ K k n h tgt lv st) (kf : ¬ 0 ≤ x → VJ K k n h pc1 lv st) : VJ K k n h pc lv (.int x :: st) := by
  obtain ⟨p, l, e, R, s, m, args, below, meth, c, Q, nL, g, A⟩ := K
  obtain ⟨hx, hb, hml, hown, hts, hE, hA, hlk, rfl, rfl, rfl, rfl⟩ := X
  obtain ⟨hd, rfl⟩ := hd
  exact fun H locs ls h1 h2 h3 h4 => lv_if_ge hx hb hd ht (fun q => kt q H locs ls h1 h2 h3 h4) (fun q => kf q H locs ls h1 h2 h3 h4)
theorem v_icmp_ge (X : Cx K l0 g0 cc own nL0 rm) {x y : Int32} {off : Int} {tgt : Nat} (hd : DD cc pc (.if_icmp .ge off) 3 pc1) (ht : (pc : Int) + off = (tgt : Int)) (kt : y ≤ x → VJ K k n h tgt lv st) (kf : ¬ y ≤ x → VJ K k n h pc1 lv st) : VJ K k n h pc lv (.int y :: .int x :: st) := by
  obtain ⟨p, l, e, R, s, m, args, below, meth, c, Q, nL, g, A⟩ := K
  obtain ⟨hx, hb, hml, hown, hts, hE, hA, hlk, rfl, rfl, rfl, rfl⟩ := X
  obtain ⟨hd, rfl⟩ := hd
  exact fun H locs ls h1 h2 h3 h4 => lv_icmp_ge hx hb hd ht (fun q => kt q H locs ls h1 h2 h3 h4) (fun q => kf q H locs ls h1 h2 h3 h4)
theorem v_if_gt (X : Cx K l0 g0 cc own nL0 rm) {x : Int32} {off : Int} {tgt : Nat} (hd : DD cc pc (.ifCond .gt off) 3 pc1) (ht : (pc : Int) + off = (tgt : Int)) (kt : 0 < x → VJ K k n h tgt lv st) (kf : ¬ 0 < x → VJ K k n h pc1 lv st) : VJ K k n h pc lv (.int x :: st) := by
  obtain ⟨p, l, e, R, s, m, args, below, meth, c, Q, nL, g, A⟩ := K
  obtain ⟨hx, hb, hml, hown, hts, hE, hA, hlk, rfl, rfl, rfl, rfl⟩ := X
  obtain ⟨hd, rfl⟩ := hd
  exact fun H locs ls h1 h2 h3 h4 => lv_if_gt hx hb hd ht (fun q => kt q H locs ls h1 h2 h3 h4) (fun q => kf q H locs ls h1 h2 h3 h4)
theorem v_icmp_gt (X : Cx K l0 g0 cc own nL0 rm) {x y : Int32} {off : Int} {tgt : Nat} (hd : DD cc pc (.if_icmp .gt off) 3 pc1) (ht : (pc : Int) + off = (tgt : Int)) (kt : y < x → VJ K k n h tgt lv st) (kf : ¬ y < x → VJ K k n h pc1 lv st) : VJ K k n h pc lv (.int y :: .int x :: st) := by
  obtain ⟨p, l, e, R, s, m, args, below, meth, c, Q, nL, g, A⟩ := K
  obtain ⟨hx, hb, hml, hown, hts, hE, hA, hlk, rfl, rfl, rfl, rfl⟩ := X
  obtain ⟨hd, rfl⟩ := hd
  exact fun H locs ls h1 h2 h3 h4 => lv_icmp_gt hx hb hd ht (fun q => kt q H locs ls h1 h2 h3 h4) (fun q => kf q H locs ls h1 h2 h3 h4)
theorem v_if_le (X : Cx K l0 g0 cc own nL0 rm) {x : Int32} {off : Int} {tgt : Nat} (hd : DD cc pc (.ifCond .le off) 3 pc1) (ht : (pc : Int) + off = (tgt : Int)) (kt : x ≤ 0 → VJ K k n h tgt lv st) (kf : ¬ x ≤ 0 → VJ K k n h pc1 lv st) : VJ K k n h pc lv (.int x :: st) := by
  obtain ⟨p, l, e, R, s, m, args, below, meth, c, Q, nL, g, A⟩ := K
  obtain ⟨hx, hb, hml, hown, hts, hE, hA, hlk, rfl, rfl, rfl, rfl⟩ := X
  obtain ⟨hd, rfl⟩ := hd
  exact fun H locs ls h1 h2 h3 h4 => lv_if_le hx hb hd ht (fun q => kt q H locs ls h1 h2 h3 h4) (fun q => kf q H locs ls h1 h2 h3 h4)
theorem v_icmp_le (X : Cx K l0 g0 cc own nL0 rm) {x y : Int32} {off : Int} {tgt : Nat} (hd : DD cc pc (.if_icmp .le off) 3 pc1) (ht : (pc : Int) + off = (tgt : Int)) (kt : x ≤ y → VJ K k n h tgt lv st) (kf : ¬ x ≤ y → VJ K k n h pc1 lv st) : VJ K k n h pc lv (.int y :: .int x :: st) := by
  obtain ⟨p, l, e, R, s, m, args, below, meth, c, Q, nL, g, A⟩ := K
  obtain ⟨hx, hb, hml, hown, hts, hE, hA, hlk, rfl, rfl, rfl, rfl⟩ := X
  obtain ⟨hd, rfl⟩ := hd
  exact fun H locs ls h1 h2 h3 h4 => lv_icmp_le hx hb hd ht (fun q => kt q H locs ls h1 h2 h3 h4) (fun q => kf q H locs ls h1 h2 h3 h4)
theorem v_goto (X : Cx K l0 g0 cc own nL0 rm) {off : Int} {tgt : Nat} (hd : DD cc pc (.goto off) 3 pc1) (ht : (pc : Int) + off = (tgt : Int)) (kk : VJ K k n h tgt lv st) : VJ K k n h pc lv st := by
  obtain ⟨p, l, e, R, s, m, args, below, meth, c, Q, nL, g, A⟩ := K
  obtain ⟨hx, hb, hml, hown, hts, hE, hA, hlk, rfl, rfl, rfl, rfl⟩ := X
  obtain ⟨hd, rfl⟩ := hd
  exact fun H locs ls h1 h2 h3 h4 => lv_goto hx hb hd ht (kk H locs ls h1 h2 h3 h4)
theorem v_ifnull (X : Cx K l0 g0 cc own nL0 rm) {x : Nat} {off : Int} (hd : DD cc pc (.ifnull off) 3 pc1) (kk : VJ K k n h pc1 lv st) : VJ K k n h pc lv (.ref x :: st) := by
  obtain ⟨p, l, e, R, s, m, args, below, meth, c, Q, nL, g, A⟩ := K
  obtain ⟨hx, hb, hml, hown, hts, hE, hA, hlk, rfl, rfl, rfl, rfl⟩ := X
  obtain ⟨hd, rfl⟩ := hd
  exact fun H locs ls h1 h2 h3 h4 => lv_ifnull hx hb hd (kk H locs ls h1 h2 h3 h4)
theorem v_ifnullN (X : Cx K l0 g0 cc own nL0 rm) {off : Int} {tgt : Nat} (hd : DD cc pc (.ifnull off) 3 pc1) (ht : (pc : Int) + off = (tgt : Int)) (kk : VJ K k n h tgt lv st) : VJ K k n h pc lv (.null :: st) := by
  obtain ⟨p, l, e, R, s, m, args, below, meth, c, Q, nL, g, A⟩ := K
  obtain ⟨hx, hb, hml, hown, hts, hE, hA, hlk, rfl, rfl, rfl, rfl⟩ := X
  obtain ⟨hd, rfl⟩ := hd
  exact fun H locs ls h1 h2 h3 h4 => lv_ifnullN hx hb hd ht (kk H locs ls h1 h2 h3 h4)
theorem v_ifnonnull (X : Cx K l0 g0 cc own nL0 rm) {x : Nat} {off : Int} {tgt : Nat} (hd : DD cc pc (.ifnonnull off) 3 pc1) (ht : (pc : Int) + off = (tgt : Int)) (kk : VJ K k n h tgt lv st) : VJ K k n h pc lv (.ref x :: st) := by
  obtain ⟨p, l, e, R, s, m, args, below, meth, c, Q, nL, g, A⟩ := K
  obtain ⟨hx, hb, hml, hown, hts, hE, hA, hlk, rfl, rfl, rfl, rfl⟩ := X
  obtain ⟨hd, rfl⟩ := hd
  exact fun H locs ls h1 h2 h3 h4 => lv_ifnonnull hx hb hd ht (kk H locs ls h1 h2 h3 h4)
theorem v_ifnonnullN (X : Cx K l0 g0 cc own nL0 rm) {off : Int} (hd : DD cc pc (.ifnonnull off) 3 pc1) (kk : VJ K k n h pc1 lv st) : VJ K k n h pc lv (.null :: st) := by
  obtain ⟨p, l, e, R, s, m, args, below, meth, c, Q, nL, g, A⟩ := K
  obtain ⟨hx, hb, hml, hown, hts, hE, hA, hlk, rfl, rfl, rfl, rfl⟩ := X
  obtain ⟨hd, rfl⟩ := hd
  exact fun H locs ls h1 h2 h3 h4 => lv_ifnonnullN hx hb hd (kk H locs ls h1 h2 h3 h4)
theorem v_tabOut (X : Cx K l0 g0 cc own nL0 rm) {dflt lo hi : Int} {offs : Array Int} {len : Nat} {x : Int32} {tgt : Nat} (hd : DD cc pc (.tableswitch dflt lo hi offs) len pc1) (hh : x.toInt < lo ∨ hi < x.toInt) (ht : (pc : Int) + dflt = (tgt : Int)) (kk : VJ K k n h tgt lv st) : VJ K k n h pc lv (.int x :: st) := by
  obtain ⟨p, l, e, R, s, m, args, below, meth, c, Q, nL, g, A⟩ := K
  obtain ⟨hx, hb, hml, hown, hts, hE, hA, hlk, rfl, rfl, rfl, rfl⟩ := X
  obtain ⟨hd, rfl⟩ := hd
  exact fun H locs ls h1 h2 h3 h4 => lv_tableOut hx hb hd hh ht (kk H locs ls h1 h2 h3 h4)
theorem v_tabIn (X : Cx K l0 g0 cc own nL0 rm) {dflt lo hi : Int} {offs : Array Int} {len : Nat} {x : Int32} {off : Int} {tgt : Nat} (hd : DD cc pc (.tableswitch dflt lo hi offs) len pc1) (j : Int32) (hj : x = j) (e1 : ¬ j.toInt < lo) (e2 : ¬ hi < j.toInt) (ho : offs[(j.toInt - lo).toNat]? = some off) (ht : (pc : Int) + off = (tgt : Int)) (kk : VJ K k n h tgt lv st) : VJ K k n h pc lv (.int x :: st) := by
  subst hj
  obtain ⟨p, l, e, R, s, m, args, below, meth, c, Q, nL, g, A⟩ := K
  obtain ⟨hx, hb, hml, hown, hts, hE, hA, hlk, rfl, rfl, rfl, rfl⟩ := X
  obtain ⟨hd, rfl⟩ := hd
  exact fun H locs ls h1 h2 h3 h4 => lv_tableIn hx hb hd e1 e2 ho ht (kk H locs ls h1 h2 h3 h4)
/-- the cells of a heap below a bound, as a list -/
def hL (h : Hp) (sz : Nat) : va_W := (List.range sz).filterMap (fun a => (h a).map (fun c => (a, c)))
theorem hL_mem {h : Hp} {sz a : Nat} {c : va_E} : (a, c) ∈ hL h sz ↔ a < sz ∧ h a = some c := by
  unfold hL
  rw [List.mem_filterMap]
  constructor
  · rintro ⟨x, hx, he⟩
    cases hc : h x with
    | none => rw [hc] at he; cases he
    | some d =>
      rw [hc] at he
      cases he
      exact ⟨List.mem_range.mp hx, hc⟩
  · rintro ⟨h1, h2⟩
    exact ⟨a, List.mem_range.mpr h1, by rw [h2]; rfl⟩
theorem hL_P {g : GT} {h : Hp} {H : Heap} (hp : HP g h H) : va_P g.1 vwCl (hL h H.size) H := fun k q hk => hp q.1 q.2 (hL_mem.mp (List.mem_of_getElem? hk)).2
theorem hL_D {A : Nat → Prop} {h : Hp} {sz : Nat} (hA : ∀ a, h a ≠ none → A a) : va_D A (hL h sz) := by
  have hp : (hL h sz).Pairwise (fun p q => p.1 < q.1) := by
    unfold hL
    refine List.Pairwise.filterMap _ ?_ List.pairwise_lt_range
    intro a a' haa b hb b' hb'
    cases hc : h a with
    | none => rw [hc] at hb; cases hb
    | some d =>
      cases hc' : h a' with
      | none => rw [hc'] at hb'; cases hb'
      | some d' =>
        rw [hc] at hb; rw [hc'] at hb'
        cases hb; cases hb'
        exact haa
  refine ⟨fun i j p q hi hj hpq => ?_, fun k q hk => hA _ (by rw [(hL_mem.mp (List.mem_of_getElem? hk)).2]; exact fun e => by cases e)⟩
  obtain ⟨li, ei⟩ := List.getElem?_eq_some_iff.mp hi
  obtain ⟨lj, ej⟩ := List.getElem?_eq_some_iff.mp hj
  rcases Nat.lt_trichotomy i j with hlt | heq | hgt
  · have := List.pairwise_iff_getElem.mp hp i j li lj hlt
    rw [ei, ej] at this; omega
  · exact heq
  · have := List.pairwise_iff_getElem.mp hp j i lj li hgt
    rw [ei, ej] at this; omega
theorem hL_at {g : GT} {h : Hp} {H : Heap} (hp : HP g h H) {a : Nat} {c : va_E} (ha : h a = some c) : ∃ q : Nat, (hL h H.size)[q]? = some (a, c) := List.getElem?_of_mem (hL_mem.mpr ⟨hp.lt ha, ha⟩)
theorem hL_set {g : GT} {A : Nat → Prop} {h : Hp} {H H1 : Heap} {a q : Nat} {c d : va_E} (hp : HP g h H) (hD : va_D A (hL h H.size)) (hq : (hL h H.size)[q]? = some (a, c)) (hP : va_P g.1 vwCl ((hL h H.size).set q (a, d)) H1) : HP g (hU h a d) H1 := by
  have hl := (List.getElem?_eq_some_iff.mp hq).1
  intro x e hx
  by_cases hxa : x = a
  · subst hxa
    rw [hU_s] at hx; cases hx
    exact hP q _ (List.getElem?_set_self hl)
  · rw [hU_n hxa] at hx
    obtain ⟨i, hi⟩ := hL_at hp hx
    have hne : q ≠ i := fun e1 => by
      subst e1
      rw [hq] at hi
      exact hxa (congrArg Prod.fst (Option.some.inj hi)).symm
    exact hP i _ (by rw [List.getElem?_set_ne hne]; exact hi)
theorem hL_push {g : GT} {A : Nat → Prop} {h : Hp} {H H1 : Heap} {a : Nat} {d : va_E} (hp : HP g h H) (hP : va_P g.1 vwCl (hL h H.size ++ [(a, d)]) H1) (hD : va_D A (hL h H.size ++ [(a, d)])) : HP g (hU h a d) H1 ∧ h a = none ∧ A a := by
  have hz : (hL h H.size ++ [(a, d)])[(hL h H.size).length]? = some (a, d) := by simp
  have hfr : h a = none := by
    cases hc : h a with
    | none => rfl
    | some c =>
      obtain ⟨i, hi⟩ := hL_at hp hc
      have hl := (List.getElem?_eq_some_iff.mp hi).1
      have := hD.1 i (hL h H.size).length (a, c) (a, d) (by rw [List.getElem?_append_left hl]; exact hi) hz rfl
      omega
  refine ⟨fun x e hx => ?_, hfr, hD.2 _ _ hz⟩
  by_cases hxa : x = a
  · subst hxa
    rw [hU_s] at hx; cases hx
    exact hP _ _ hz
  · rw [hU_n hxa] at hx
    obtain ⟨i, hi⟩ := hL_at hp hx
    have hl := (List.getElem?_eq_some_iff.mp hi).1
    exact hP i _ (by rw [List.getElem?_append_left hl]; exact hi)
theorem hU_dom {A : Nat → Prop} {h : Hp} {a : Nat} {c : va_E} (hA : ∀ a, h a ≠ none → A a) (ha : A a) : ∀ x, hU h a c x ≠ none → A x := by
  intro x hx
  by_cases hxa : x = a
  · subst hxa; exact ha
  · rw [hU_n hxa] at hx; exact hA x hx
theorem hsome {h : Hp} {a : Nat} {c : va_E} (ha : h a = some c) : h a ≠ none := fun e => by rw [ha] at e; cases e
/-- a field's link, by its number, at a class's place j -/
def FS (own : String) (idx ci j : Nat) (C : String) (T : u_T) (N : Nat) : Prop := vwCl[ci]? = some (C, T, N) ∧ (∀ w ∈ u_ws C T N, w ∈ GW) ∧ j < N ∧ Cond.fieldLink own idx (T j).1 (T j).2.1 (T j).2.2.1 ∈ GW
theorem v_get (X : Cx K l0 g0 cc own nL0 rm) {a idx ci j : Nat} {C : String} {T : u_T} {N : Nat} {fs : List Value} {v : Value} (hs : FS own idx ci j C T N) (hh : h a = some (.inr (ci, fs))) (hv : fs[j]? = some v) (hd : DD cc pc (.getfield idx) 3 pc1) (kk : VJ K k n h pc1 lv (v :: st)) : VJ K k n h pc lv (.ref a :: st) := by
  obtain ⟨p, l, e, R, s, m, args, below, meth, c, Q, nL, g, A⟩ := K
  obtain ⟨hx, hb, hml, hown, hts, hE, hA, hlk, rfl, rfl, rfl, rfl⟩ := X
  obtain ⟨hd, rfl⟩ := hd
  exact fun H locs ls h1 h2 h3 h4 => va_get hx hb hts hs.2.1 hown hE.1 (h1.one hh) 0 rfl hs.1 j hs.2.2.1 (hts _ hs.2.2.2) (fun _ q => q) hv hd (kk H locs ls h1 h2 h3 h4)
theorem v_put (X : Cx K l0 g0 cc own nL0 rm) {a idx ci j : Nat} {C : String} {T : u_T} {N : Nat} {fs : List Value} {v : Value} {ty0 : Nat → FieldType} {ty : FieldType} (hs : FS own idx ci j C T N) (hty : ∀ k, k < N → parseFieldDescriptor (T k).2.2.1 = some (ty0 k)) (hnm : ∀ a, a < N → ∀ b, b < N → a ≠ b → (T a).2.1 ≠ (T b).2.1) (hfin : (T j).2.2.2 = false) (hpd : parseFieldDescriptor (T j).2.2.1 = some ty) (hh : h a = some (.inr (ci, fs))) (hnr : narrow ty v = v) (hft : fits ty v = true) (hl : j < fs.length) (hd : DD cc pc (.putfield idx) 3 pc1) (kk : VJ K k n (hU h a (.inr (ci, fs.set j v))) pc1 lv st) : VJ K k n h pc lv (v :: .ref a :: st) := by
  obtain ⟨p, l, e, R, s, m, args, below, meth, c, Q, nL, g, A⟩ := K
  obtain ⟨hx, hb, hml, hown, hts, hE, hA, hlk, rfl, rfl, rfl, rfl⟩ := X
  obtain ⟨hd, rfl⟩ := hd
  intro H locs ls h1 h2 h3 h4
  obtain ⟨q, hq⟩ := hL_at h1 hh
  exact va_put hx hb hts hs.2.1 ty0 hty hnm hown hE.1 (hL_P h1) (hL_D h2) h3 q hq hs.1 j hs.2.2.1 (hts _ hs.2.2.2) (fun _ q => q) hfin hpd hnr hft hl hd (fun H1 locs1 p1 p2 p3 => kk H1 locs1 ls (hL_set h1 (hL_D h2) hq p1) (hU_dom h2 (h2 a (hsome hh))) p3 h4)
theorem v_iald (X : Cx K l0 g0 cc own nL0 rm) {a N : Nat} {f : Nat → Int32} {i : Int32} (hh : h a = some (.inl (g0.2.1 0, N, .inl f))) (hin : vp_in i N) (hd : DD cc pc (.iaload) 1 pc1) (kk : VJ K k n h pc1 lv (.int (f i.toNatClampNeg) :: st)) : VJ K k n h pc lv (.int i :: .ref a :: st) := by
  obtain ⟨p, l, e, R, s, m, args, below, meth, c, Q, nL, g, A⟩ := K
  obtain ⟨hx, hb, hml, hown, hts, hE, hA, hlk, rfl, rfl, rfl, rfl⟩ := X
  obtain ⟨hd, rfl⟩ := hd
  exact fun H locs ls h1 h2 h3 h4 => va_iald hx hb hE.1 (h1.one hh) 0 0 rfl rfl hin hd (kk H locs ls h1 h2 h3 h4)
theorem v_lald (X : Cx K l0 g0 cc own nL0 rm) {a N : Nat} {f : Nat → Int64} {i : Int32} (hh : h a = some (.inl (g0.2.1 1, N, .inr (.inl f)))) (hin : vp_in i N) (hd : DD cc pc (.laload) 1 pc1) (kk : VJ K k n h pc1 lv (.long (f i.toNatClampNeg) :: st)) : VJ K k n h pc lv (.int i :: .ref a :: st) := by
  obtain ⟨p, l, e, R, s, m, args, below, meth, c, Q, nL, g, A⟩ := K
  obtain ⟨hx, hb, hml, hown, hts, hE, hA, hlk, rfl, rfl, rfl, rfl⟩ := X
  obtain ⟨hd, rfl⟩ := hd
  exact fun H locs ls h1 h2 h3 h4 => va_lald hx hb hE.1 (h1.one hh) 0 1 rfl rfl hin hd (kk H locs ls h1 h2 h3 h4)
theorem v_aald (X : Cx K l0 g0 cc own nL0 rm) {a N : Nat} {f : Nat → Option Nat} {i : Int32} (t : Nat) {C : String} (ht : (gtys g0)[t]? = some (g0.2.1 t, .object C)) (hh : h a = some (.inl (g0.2.1 t, N, .inr (.inr (.inr (.inr f)))))) (hin : vp_in i N) (hd : DD cc pc (.aaload) 1 pc1) (kk : VJ K k n h pc1 lv (va_rf (f i.toNatClampNeg) :: st)) : VJ K k n h pc lv (.int i :: .ref a :: st) := by
  obtain ⟨p, l, e, R, s, m, args, below, meth, c, Q, nL, g, A⟩ := K
  obtain ⟨hx, hb, hml, hown, hts, hE, hA, hlk, rfl, rfl, rfl, rfl⟩ := X
  obtain ⟨hd, rfl⟩ := hd
  exact fun H locs ls h1 h2 h3 h4 => va_aldq hx hb hE.1 (h1.one hh) 0 t rfl ht hin hd (kk H locs ls h1 h2 h3 h4)
theorem v_iast (X : Cx K l0 g0 cc own nL0 rm) {a N : Nat} {f : Nat → Int32} {i x : Int32} (hh : h a = some (.inl (g0.2.1 0, N, .inl f))) (hin : vp_in i N) (hd : DD cc pc (.iastore) 1 pc1) (kk : VJ K k n (hU h a (.inl (g0.2.1 0, N, .inl (upd f i.toNatClampNeg x)))) pc1 lv st) : VJ K k n h pc lv (.int x :: .int i :: .ref a :: st) := by
  obtain ⟨p, l, e, R, s, m, args, below, meth, c, Q, nL, g, A⟩ := K
  obtain ⟨hx, hb, hml, hown, hts, hE, hA, hlk, rfl, rfl, rfl, rfl⟩ := X
  obtain ⟨hd, rfl⟩ := hd
  intro H locs ls h1 h2 h3 h4
  obtain ⟨q, hq⟩ := hL_at h1 hh
  exact va_iast hx hb hE.1 (hL_P h1) (hL_D h2) h3 q 0 hq rfl hin hd (fun H1 locs1 p1 p2 p3 => kk H1 locs1 ls (hL_set h1 (hL_D h2) hq p1) (hU_dom h2 (h2 a (hsome hh))) p3 h4)
theorem v_last (X : Cx K l0 g0 cc own nL0 rm) {a N : Nat} {f : Nat → Int64} {i : Int32} {x : Int64} (hh : h a = some (.inl (g0.2.1 1, N, .inr (.inl f)))) (hin : vp_in i N) (hd : DD cc pc (.lastore) 1 pc1) (kk : VJ K k n (hU h a (.inl (g0.2.1 1, N, .inr (.inl (vp_updL f i.toNatClampNeg x))))) pc1 lv st) : VJ K k n h pc lv (.long x :: .int i :: .ref a :: st) := by
  obtain ⟨p, l, e, R, s, m, args, below, meth, c, Q, nL, g, A⟩ := K
  obtain ⟨hx, hb, hml, hown, hts, hE, hA, hlk, rfl, rfl, rfl, rfl⟩ := X
  obtain ⟨hd, rfl⟩ := hd
  intro H locs ls h1 h2 h3 h4
  obtain ⟨q, hq⟩ := hL_at h1 hh
  exact va_last hx hb hE.1 (hL_P h1) (hL_D h2) h3 q 1 hq rfl hin hd (fun H1 locs1 p1 p2 p3 => kk H1 locs1 ls (hL_set h1 (hL_D h2) hq p1) (hU_dom h2 (h2 a (hsome hh))) p3 h4)
theorem v_aast (X : Cx K l0 g0 cc own nL0 rm) {a N b ci : Nat} {f : Nat → Option Nat} {i : Int32} {vs : List Value} {C : String} {T : u_T} {M : Nat} (t : Nat) (ht : (gtys g0)[t]? = some (g0.2.1 t, .object C)) (hc : vwCl[ci]? = some (C, T, M)) (hh : h a = some (.inl (g0.2.1 t, N, .inr (.inr (.inr (.inr f)))))) (hb2 : h b = some (.inr (ci, vs))) (hin : vp_in i N) (hd : DD cc pc (.aastore) 1 pc1) (kk : VJ K k n (hU h a (.inl (g0.2.1 t, N, .inr (.inr (.inr (.inr (va_up f i.toNatClampNeg (some b)))))))) pc1 lv st) : VJ K k n h pc lv (.ref b :: .int i :: .ref a :: st) := by
  obtain ⟨p, l, e, R, s, m, args, below, meth, c, Q, nL, g, A⟩ := K
  obtain ⟨hx, hb, hml, hown, hts, hE, hA, hlk, rfl, rfl, rfl, rfl⟩ := X
  obtain ⟨hd, rfl⟩ := hd
  intro H locs ls h1 h2 h3 h4
  obtain ⟨q, hq⟩ := hL_at h1 hh
  obtain ⟨q2, hq2⟩ := hL_at h1 hb2
  exact va_astq (r := (C, T, M)) hx hb hE.1 (hL_P h1) (hL_D h2) h3 q t q2 ci hq ht hq2 hc hin hd (fun H1 locs1 p1 p2 p3 => kk H1 locs1 ls (hL_set h1 (hL_D h2) hq p1) (hU_dom h2 (h2 a (hsome hh))) p3 h4)
theorem v_aastN (X : Cx K l0 g0 cc own nL0 rm) {a N : Nat} {f : Nat → Option Nat} {i : Int32} {C : String} (t : Nat) (ht : (gtys g0)[t]? = some (g0.2.1 t, .object C)) (hh : h a = some (.inl (g0.2.1 t, N, .inr (.inr (.inr (.inr f)))))) (hin : vp_in i N) (hd : DD cc pc (.aastore) 1 pc1) (kk : VJ K k n (hU h a (.inl (g0.2.1 t, N, .inr (.inr (.inr (.inr (va_up f i.toNatClampNeg none))))))) pc1 lv st) : VJ K k n h pc lv (.null :: .int i :: .ref a :: st) := by
  obtain ⟨p, l, e, R, s, m, args, below, meth, c, Q, nL, g, A⟩ := K
  obtain ⟨hx, hb, hml, hown, hts, hE, hA, hlk, rfl, rfl, rfl, rfl⟩ := X
  obtain ⟨hd, rfl⟩ := hd
  intro H locs ls h1 h2 h3 h4
  obtain ⟨q, hq⟩ := hL_at h1 hh
  exact va_astqN hx hb hE.1 (hL_P h1) (hL_D h2) h3 q t hq ht hin hd (fun H1 locs1 p1 p2 p3 => kk H1 locs1 ls (hL_set h1 (hL_D h2) hq p1) (hU_dom h2 (h2 a (hsome hh))) p3 h4)
theorem v_iret (X : Cx K l0 g0 cc own nL0 rm) {P : Option Value → Hp → Prop} {mc ms : Nat} {v : Int32} (r : Rt K (some .int) P mc ms) (hd : DD cc pc (.ireturn) 1 pc1) (hk : k ≤ mc) (hn : n ≤ ms) (hq : P (some (.int v)) h) : VJ K k n h pc lv [.int v] := by
  obtain ⟨p, l, e, R, s, m, args, below, meth, c, Q, nL, g, A⟩ := K
  obtain ⟨hx, hb, hml, hown, hts, hE, hA, hlk, rfl, rfl, rfl, rfl⟩ := X
  obtain ⟨hd, rfl⟩ := hd
  obtain ⟨hr, rfl⟩ := r
  exact fun H locs ls h1 h2 h3 h4 => W.widen hk hn (W.iret hx hb hr (fun t ht hW => ⟨⟨_, h, rfl, hq, by rw [ht]; exact h1, h2⟩, h3.F ht⟩) h3.2.2 hd hlk)
theorem v_zret (X : Cx K l0 g0 cc own nL0 rm) {ty : FieldType} {P : Option Value → Hp → Prop} {mc ms : Nat} {v : Int32} (r : Rt K (some ty) P mc ms) (hd : DD cc pc (.ireturn) 1 pc1) (hnr : narrow ty (.int v) = .int v) (hk : k ≤ mc) (hn : n ≤ ms) (hq : P (some (.int v)) h) : VJ K k n h pc lv [.int v] := by
  obtain ⟨p, l, e, R, s, m, args, below, meth, c, Q, nL, g, A⟩ := K
  obtain ⟨hx, hb, hml, hown, hts, hE, hA, hlk, rfl, rfl, rfl, rfl⟩ := X
  obtain ⟨hd, rfl⟩ := hd
  obtain ⟨hr, rfl⟩ := r
  exact fun H locs ls h1 h2 h3 h4 => W.widen hk hn (W.zret hx hb hr hnr (fun t ht hW => ⟨⟨_, h, rfl, hq, by rw [ht]; exact h1, h2⟩, h3.F ht⟩) h3.2.2 hd hlk)
theorem v_lret (X : Cx K l0 g0 cc own nL0 rm) {P : Option Value → Hp → Prop} {mc ms : Nat} {v : Int64} (r : Rt K (some .long) P mc ms) (hd : DD cc pc (.lreturn) 1 pc1) (hk : k ≤ mc) (hn : n ≤ ms) (hq : P (some (.long v)) h) : VJ K k n h pc lv [.long v] := by
  obtain ⟨p, l, e, R, s, m, args, below, meth, c, Q, nL, g, A⟩ := K
  obtain ⟨hx, hb, hml, hown, hts, hE, hA, hlk, rfl, rfl, rfl, rfl⟩ := X
  obtain ⟨hd, rfl⟩ := hd
  obtain ⟨hr, rfl⟩ := r
  exact fun H locs ls h1 h2 h3 h4 => W.widen hk hn (W.lret hx hb hr (fun t ht hW => ⟨⟨_, h, rfl, hq, by rw [ht]; exact h1, h2⟩, h3.F ht⟩) h3.2.2 hd hlk)
theorem v_vret (X : Cx K l0 g0 cc own nL0 rm) {P : Option Value → Hp → Prop} {mc ms : Nat} (r : Rt K none P mc ms) (hd : DD cc pc (.return_) 1 pc1) (hk : k ≤ mc) (hn : n ≤ ms) (hq : P none h) : VJ K k n h pc lv [] := by
  obtain ⟨p, l, e, R, s, m, args, below, meth, c, Q, nL, g, A⟩ := K
  obtain ⟨hx, hb, hml, hown, hts, hE, hA, hlk, rfl, rfl, rfl, rfl⟩ := X
  obtain ⟨hd, rfl⟩ := hd
  obtain ⟨hr, rfl⟩ := r
  exact fun H locs ls h1 h2 h3 h4 => W.widen hk hn (W.vret hx hb hr (fun t ht hW => ⟨⟨_, h, rfl, hq, by rw [ht]; exact h1, h2⟩, h3.F ht⟩) h3.2.2 hd hlk)
theorem v_aret (X : Cx K l0 g0 cc own nL0 rm) {rt : FieldType} {P : Option Value → Hp → Prop} {mc ms : Nat} {v : Value} (r : Rt K (some rt) P mc ms) (hrt : (∃ n, rt = .object n) ∨ ∃ t, rt = .array t) (hv : v = .null ∨ ∃ a, v = .ref a) (hd : DD cc pc (.areturn) 1 pc1) (hk : k ≤ mc) (hn : n ≤ ms) (hq : P (some v) h) : VJ K k n h pc lv [v] := by
  obtain ⟨p, l, e, R, s, m, args, below, meth, c, Q, nL, g, A⟩ := K
  obtain ⟨hx, hb, hml, hown, hts, hE, hA, hlk, rfl, rfl, rfl, rfl⟩ := X
  obtain ⟨hd, rfl⟩ := hd
  obtain ⟨hr, rfl⟩ := r
  exact fun H locs ls h1 h2 h3 h4 => W.widen hk hn (W.aret hx hb hr hrt hv (fun t ht hW => ⟨⟨_, h, rfl, hq, by rw [ht]; exact h1, h2⟩, h3.F ht⟩) h3.2.2 hd hlk)
end VR
end
section
/-! ===== calls ===== -/
theorem mc_blind {g : GT} {av : List Value} {h : Hp} {sz : Nat} : FrameBlind (va_Pc av (fun U => U.heap.size = sz ∧ HP g h U.heap ∧ EV g (dm h sz) U)) := by
  intro a U f mk q
  obtain ⟨e, h1, h2, h3⟩ := q
  exact ⟨e, h1, h2, h3.calling f mk a⟩
/-- what a call's site needs of the tables -/
def SV (own : String) (idx : Nat) (y : MethodName) (cc : ByteArray) (nL : Nat) (ret : Option FieldType) (ar : Nat) : Prop := Cond.methodLink own idx y ∈ GW ∧ Cond.instanceMethod y ∈ GW ∧ Cond.selects y.cls y y ∈ GW ∧ Cond.initialized y.cls ∈ GW ∧ Cond.code y cc nL ret ∈ GW ∧ (y.cls ≠ "java/lang/invoke/MethodHandle" ∧ y.cls ≠ "java/lang/invoke/VarHandle" ∧ (parseMethodDescriptor y.desc).map (fun d => d.parameters.length) = some ar)
def SS (own : String) (idx : Nat) (y : MethodName) (cc : ByteArray) (nL : Nat) (ret : Option FieldType) (ar : Nat) : Prop := Cond.methodLink own idx y ∈ GW ∧ Cond.static y ∈ GW ∧ Cond.initialized y.cls ∈ GW ∧ Cond.code y cc nL ret ∈ GW ∧ (y.cls ≠ "java/lang/invoke/MethodHandle" ∧ y.cls ≠ "java/lang/invoke/VarHandle" ∧ (parseMethodDescriptor y.desc).map (fun d => d.parameters.length) = some ar)
def SNs (own : String) (idx : Nat) (y : MethodName) (cc : ByteArray) (nL : Nat) (ret : Option FieldType) (ar : Nat) : Prop := Cond.methodLinkNest own idx y "LogRollers" ∈ NW ∧ Cond.static y ∈ GW ∧ Cond.initialized y.cls ∈ GW ∧ Cond.code y cc nL ret ∈ GW ∧ (y.cls ≠ "java/lang/invoke/MethodHandle" ∧ y.cls ≠ "java/lang/invoke/VarHandle" ∧ (parseMethodDescriptor y.desc).map (fun d => d.parameters.length) = some ar)
def SI (own : String) (idx : Nat) (y : MethodName) (cc : ByteArray) (nL : Nat) (ar : Nat) : Prop := Cond.methodLink own idx y ∈ GW ∧ Cond.instanceMethod y ∈ GW ∧ y.name = "<init>" ∧ Cond.initialized y.cls ∈ GW ∧ Cond.code y cc nL none ∈ GW ∧ (y.cls ≠ "java/lang/invoke/MethodHandle" ∧ y.cls ≠ "java/lang/invoke/VarHandle" ∧ (parseMethodDescriptor y.desc).map (fun d => d.parameters.length) = some ar)
def SIn (own : String) (idx : Nat) (y : MethodName) (cc : ByteArray) (nL : Nat) (ar : Nat) : Prop := Cond.methodLinkNest own idx y "LogRollers" ∈ NW ∧ Cond.instanceMethod y ∈ GW ∧ y.name = "<init>" ∧ Cond.initialized y.cls ∈ GW ∧ Cond.code y cc nL none ∈ GW ∧ (y.cls ≠ "java/lang/invoke/MethodHandle" ∧ y.cls ≠ "java/lang/invoke/VarHandle" ∧ (parseMethodDescriptor y.desc).map (fun d => d.parameters.length) = some ar)
section VC
variable {K : KT} {l0 : Launch} {g0 : GT} {cc : ByteArray} {own : String} {nL0 : Nat} {rm : Room} {k n : Nat} {h : Hp} {pc pc1 : Nat} {lv : List (Nat × Value)} {st st0 : List Value}
theorem v_run {p : Program} {l : Launch} {e : Env} {R : Room} {s : State} {m : MethodId} {args : Array Value} {below : List Frame} {meth : Method} {c : Code} {Q : State → Prop} {nL : Nat} {g : GT} {A : Nat → Prop} (hA : ∀ q, s.heap.size ≤ q → A q) {P : Option Value → Hp → Prop} {mc ms : Nat} {a : Array Value}
    (hr : ∀ (H : Heap) (locs : List Loc) (ls : Array Slot), HP g h H → (∀ a, h a ≠ none → A a) → va_S A s.heap H locs → lv_has ls nL lv → va_Run p l e R s m args below meth c H locs k n mc ms (F0 m pc ls st0) st (QFp g (dm h H.size) P a) (dm h H.size))
    (kk : ∀ (r : Option Value) (h2 : Hp), P r h2 → VJ (p, l, e, R, s, m, args, below, meth, c, Q, nL, g, A) (k + mc) (n + ms) h2 (pc + 3) lv (r.toList ++ st)) : VJ (p, l, e, R, s, m, args, below, meth, c, Q, nL, g, A) k n h pc lv st0 := by
  intro H locs ls h1 h2 h3 h4 T hT X
  obtain ⟨v, st₀, t, T', L, h0, X', hL, e1, e2, ⟨⟨r, hh, hv, hp, hhp, hdm⟩, hz, hk⟩, st1⟩ := hr H locs ls h1 h2 h3 h4 T hT X
  cases hv
  rw [h0] at hz hk
  have hin : ∀ q, dm h H.size q → A q := fun q hq => by
    rcases hq with hq | hq
    · exact h2 q hq
    · exact hA q (Nat.le_trans h3.1 hq)
  obtain ⟨t2, a1, b1⟩ := kk v hh hp T'.heap (locs ++ L) ls (by rw [e1]; exact hhp) (fun a ha => hin a (hdm a ha))
    ⟨Nat.le_trans h3.1 (by rw [e1]; exact hz), fun q q1 q2 => by rw [e1, hk q (Nat.lt_of_lt_of_le q1 h3.1) (fun z => q2 (hin q z))]; exact h3.2.1 q q1 q2, fun q hq => by
      rcases List.mem_append.mp hq with h | h
      · exact h3.2.2 q h
      · exact hin _ (hL q h)⟩ h4 T' rfl X'
  exact ⟨t2, st1 t2 a1, b1⟩

theorem v_cS (X : Cx K l0 g0 cc own nL0 rm) {y : MethodName} {cc1 : ByteArray} {nL1 ar idx : Nat} {ret1 : Option FieldType} {rm1 : Room} {P : Option Value → Hp → Prop} {mc ms : Nat} {av : List Value} (hs : SS own idx y cc1 nL1 ret1 ar) (hM : MC l0 g0 y cc1 nL1 ret1 rm1 av h P mc ms) (hd : DD cc pc (.invokestatic idx) 3 pc1) (hst : st0 = av.reverse ++ st) (har : av.length = ar) (hrm : rm1.cells = mc ∧ rm1.slots = ms) (hR : rm1.frames + 1 ≤ rm.frames ∧ 8 + (nL1 + 11) + rm1.locals ≤ rm.locals) (hf : k + mc ≤ rm.cells ∧ n + ms ≤ rm.slots) (hW : (st.map fun v => v.category).sum ≤ 8) (kk : ∀ (r : Option Value) (h2 : Hp), P r h2 → VJ K (k + mc) (n + ms) h2 pc1 lv (r.toList ++ st)) : VJ K k n h pc lv st0 := by
  obtain ⟨p, l, e, R, s, m, args, below, meth, c, Q, nL, g, A⟩ := K
  obtain ⟨hx, hb, hml, hown, hts, hE, hA, hlk, rfl, rfl, rfl, rfl⟩ := X
  obtain ⟨hd, rfl⟩ := hd
  refine v_run hA (fun H locs ls h1 h2 h3 h4 => va_runS (As := av) (rest := st) ⟨hx, hb, hml, hown, hts⟩ (hM H.size) ⟨callB_of ar hts (gw_cons hs.2.2.2.1) rfl hrm.1 hrm.2 (hts _ hs.2.2.1) (hts _ hs.1) hs.2.2.2.2 hR, hts _ hs.2.1⟩ ⟨mc_blind, fun U hU hW => ⟨rfl, by rw [hU], by rw [hU]; exact h1, hE.go h3 (fun q hq => by
      rcases hq with hq | hq
      · exact h2 q hq
      · exact hA q (Nat.le_trans h3.1 hq)) hU hW⟩⟩ rfl har h4.1 hst (lv_room hW) hd hf) kk
theorem v_cSn (X : Cx K l0 g0 cc own nL0 rm) {y : MethodName} {cc1 : ByteArray} {nL1 ar idx : Nat} {ret1 : Option FieldType} {rm1 : Room} {P : Option Value → Hp → Prop} {mc ms : Nat} {av : List Value} (hs : SNs own idx y cc1 nL1 ret1 ar) (hM : MC l0 g0 y cc1 nL1 ret1 rm1 av h P mc ms) (hd : DD cc pc (.invokestatic idx) 3 pc1) (hst : st0 = av.reverse ++ st) (har : av.length = ar) (hrm : rm1.cells = mc ∧ rm1.slots = ms) (hR : rm1.frames + 1 ≤ rm.frames ∧ 8 + (nL1 + 11) + rm1.locals ≤ rm.locals) (hf : k + mc ≤ rm.cells ∧ n + ms ≤ rm.slots) (hW : (st.map fun v => v.category).sum ≤ 8) (kk : ∀ (r : Option Value) (h2 : Hp), P r h2 → VJ K (k + mc) (n + ms) h2 pc1 lv (r.toList ++ st)) : VJ K k n h pc lv st0 := by
  obtain ⟨p, l, e, R, s, m, args, below, meth, c, Q, nL, g, A⟩ := K
  obtain ⟨hx, hb, hml, hown, hts, hE, hA, hlk, rfl, rfl, rfl, rfl⟩ := X
  obtain ⟨hd, rfl⟩ := hd
  refine v_run hA (fun H locs ls h1 h2 h3 h4 => va_runSN (host := "LogRollers") (As := av) (rest := st) ⟨hx, hb, hml, hown, hts⟩ (hM H.size) ⟨va_cnB ar hts (gw_cons hs.2.2.2.1) rfl hrm.1 hrm.2 (hE.2.1 _ hs.1) (hts _ hs.2.2.1) hs.2.2.2.2 hR, hts _ hs.2.1, trivial⟩ ⟨mc_blind, fun U hU hW => ⟨rfl, by rw [hU], by rw [hU]; exact h1, hE.go h3 (fun q hq => by
      rcases hq with hq | hq
      · exact h2 q hq
      · exact hA q (Nat.le_trans h3.1 hq)) hU hW⟩⟩ rfl har h4.1 hst (lv_room hW) hd hf) kk
theorem v_cV (X : Cx K l0 g0 cc own nL0 rm) {y : MethodName} {cc1 : ByteArray} {nL1 ar idx : Nat} {ret1 : Option FieldType} {rm1 : Room} {P : Option Value → Hp → Prop} {mc ms : Nat} {av : List Value} {b ci : Nat} {T : u_T} {N : Nat} {fs : List Value} (hs : SV own idx y cc1 nL1 ret1 ar) (hM : MC l0 g0 y cc1 nL1 ret1 rm1 (.ref b :: av) h P mc ms) (hrc : h b = some (.inr (ci, fs))) (hci : vwCl[ci]? = some (y.cls, T, N)) (hd : DD cc pc (.invokevirtual idx) 3 pc1) (hst : st0 = av.reverse ++ .ref b :: st) (har : av.length = ar) (hrm : rm1.cells = mc ∧ rm1.slots = ms) (hR : rm1.frames + 1 ≤ rm.frames ∧ 8 + (nL1 + 11) + rm1.locals ≤ rm.locals) (hf : k + mc ≤ rm.cells ∧ n + ms ≤ rm.slots) (hW : (st.map fun v => v.category).sum ≤ 8) (kk : ∀ (r : Option Value) (h2 : Hp), P r h2 → VJ K (k + mc) (n + ms) h2 pc1 lv (r.toList ++ st)) : VJ K k n h pc lv st0 := by
  obtain ⟨p, l, e, R, s, m, args, below, meth, c, Q, nL, g, A⟩ := K
  obtain ⟨hx, hb, hml, hown, hts, hE, hA, hlk, rfl, rfl, rfl, rfl⟩ := X
  obtain ⟨hd, rfl⟩ := hd
  refine v_run hA (fun H locs ls h1 h2 h3 h4 => va_runV (C := y.cls) (As := av) (rest := st) ⟨hx, hb, hml, hown, hts⟩ (hM H.size) ⟨callB_of ar hts (gw_cons hs.2.2.2.2.1) rfl hrm.1 hrm.2 (hts _ hs.2.2.2.1) (hts _ hs.1) hs.2.2.2.2.2 hR, hts _ hs.2.1, hts _ hs.2.2.1⟩ ⟨mc_blind, va_recv hE.1 (h1.one hrc) (q := (y.cls, T, N)) (q0 := 0) hci rfl, fun U hU hW => ⟨rfl, by rw [hU], by rw [hU]; exact h1, hE.go h3 (fun q hq => by
      rcases hq with hq | hq
      · exact h2 q hq
      · exact hA q (Nat.le_trans h3.1 hq)) hU hW⟩⟩ rfl har h4.1 hst (lv_room hW) hd hf) kk
theorem v_cI (X : Cx K l0 g0 cc own nL0 rm) {y : MethodName} {cc1 : ByteArray} {nL1 ar idx : Nat} {rm1 : Room} {P : Option Value → Hp → Prop} {mc ms : Nat} {av : List Value} {b : Nat} (hs : SI own idx y cc1 nL1 ar) (hM : MC l0 g0 y cc1 nL1 none rm1 (.ref b :: av) h P mc ms) (hd : DD cc pc (.invokespecial idx) 3 pc1) (hst : st0 = av.reverse ++ .ref b :: st) (har : av.length = ar) (hrm : rm1.cells = mc ∧ rm1.slots = ms) (hR : rm1.frames + 1 ≤ rm.frames ∧ 8 + (nL1 + 11) + rm1.locals ≤ rm.locals) (hf : k + mc ≤ rm.cells ∧ n + ms ≤ rm.slots) (hW : (st.map fun v => v.category).sum ≤ 8) (kk : ∀ (r : Option Value) (h2 : Hp), P r h2 → VJ K (k + mc) (n + ms) h2 pc1 lv (r.toList ++ st)) : VJ K k n h pc lv st0 := by
  obtain ⟨p, l, e, R, s, m, args, below, meth, c, Q, nL, g, A⟩ := K
  obtain ⟨hx, hb, hml, hown, hts, hE, hA, hlk, rfl, rfl, rfl, rfl⟩ := X
  obtain ⟨hd, rfl⟩ := hd
  refine v_run hA (fun H locs ls h1 h2 h3 h4 => va_runI (As := av) (rest := st) ⟨hx, hb, hml, hown, hts⟩ (hM H.size) ⟨callB_of ar hts (gw_cons hs.2.2.2.2.1) rfl hrm.1 hrm.2 (hts _ hs.2.2.2.1) (hts _ hs.1) hs.2.2.2.2.2 hR, hs.2.2.1, hts _ hs.2.1⟩ ⟨mc_blind, fun U hU hW => ⟨rfl, by rw [hU], by rw [hU]; exact h1, hE.go h3 (fun q hq => by
      rcases hq with hq | hq
      · exact h2 q hq
      · exact hA q (Nat.le_trans h3.1 hq)) hU hW⟩⟩ rfl har h4.1 hst (lv_room hW) hd hf) kk
theorem v_cIn (X : Cx K l0 g0 cc own nL0 rm) {y : MethodName} {cc1 : ByteArray} {nL1 ar idx : Nat} {rm1 : Room} {P : Option Value → Hp → Prop} {mc ms : Nat} {av : List Value} {b : Nat} (hs : SIn own idx y cc1 nL1 ar) (hM : MC l0 g0 y cc1 nL1 none rm1 (.ref b :: av) h P mc ms) (hd : DD cc pc (.invokespecial idx) 3 pc1) (hst : st0 = av.reverse ++ .ref b :: st) (har : av.length = ar) (hrm : rm1.cells = mc ∧ rm1.slots = ms) (hR : rm1.frames + 1 ≤ rm.frames ∧ 8 + (nL1 + 11) + rm1.locals ≤ rm.locals) (hf : k + mc ≤ rm.cells ∧ n + ms ≤ rm.slots) (hW : (st.map fun v => v.category).sum ≤ 8) (kk : ∀ (r : Option Value) (h2 : Hp), P r h2 → VJ K (k + mc) (n + ms) h2 pc1 lv (r.toList ++ st)) : VJ K k n h pc lv st0 := by
  obtain ⟨p, l, e, R, s, m, args, below, meth, c, Q, nL, g, A⟩ := K
  obtain ⟨hx, hb, hml, hown, hts, hE, hA, hlk, rfl, rfl, rfl, rfl⟩ := X
  obtain ⟨hd, rfl⟩ := hd
  refine v_run hA (fun H locs ls h1 h2 h3 h4 => va_runIN (host := "LogRollers") (As := av) (rest := st) ⟨hx, hb, hml, hown, hts⟩ (hM H.size) ⟨va_cnB ar hts (gw_cons hs.2.2.2.2.1) rfl hrm.1 hrm.2 (hE.2.1 _ hs.1) (hts _ hs.2.2.2.1) hs.2.2.2.2.2 hR, hs.2.2.1, hts _ hs.2.1⟩ ⟨mc_blind, fun U hU hW => ⟨rfl, by rw [hU], by rw [hU]; exact h1, hE.go h3 (fun q hq => by
      rcases hq with hq | hq
      · exact h2 q hq
      · exact hA q (Nat.le_trans h3.1 hq)) hU hW⟩⟩ rfl har h4.1 hst (lv_room hW) hd hf) kk
theorem v_cSi (X : Cx K l0 g0 cc own nL0 rm) {y : MethodName} {cc1 : ByteArray} {nL1 ar idx : Nat} {ret1 : Option FieldType} {rm1 : Room} {h2 : Hp} {v : Int32} (av : List Value) (hs : SS own idx y cc1 nL1 ret1 ar) (hM : MF l0 g0 y cc1 nL1 ret1 rm1 av h (some (.int v)) h2) (hd : DD cc pc (.invokestatic idx) 3 pc1) (hst : st0 = av.reverse ++ st) (har : av.length = ar) (hrm : rm1.cells = 0 ∧ rm1.slots = 0) (hR : rm1.frames + 1 ≤ rm.frames ∧ 8 + (nL1 + 11) + rm1.locals ≤ rm.locals) (hf : k ≤ rm.cells ∧ n ≤ rm.slots) (hW : (st.map fun v => v.category).sum ≤ 8) (kk : VJ K k n h2 pc1 lv (.int v :: st)) : VJ K k n h pc lv st0 :=
  v_cS X hs hM hd hst har hrm hR hf hW (fun r hh q => by obtain ⟨rfl, rfl⟩ := q; exact kk)
theorem v_cSni (X : Cx K l0 g0 cc own nL0 rm) {y : MethodName} {cc1 : ByteArray} {nL1 ar idx : Nat} {ret1 : Option FieldType} {rm1 : Room} {h2 : Hp} {v : Int32} (av : List Value) (hs : SNs own idx y cc1 nL1 ret1 ar) (hM : MF l0 g0 y cc1 nL1 ret1 rm1 av h (some (.int v)) h2) (hd : DD cc pc (.invokestatic idx) 3 pc1) (hst : st0 = av.reverse ++ st) (har : av.length = ar) (hrm : rm1.cells = 0 ∧ rm1.slots = 0) (hR : rm1.frames + 1 ≤ rm.frames ∧ 8 + (nL1 + 11) + rm1.locals ≤ rm.locals) (hf : k ≤ rm.cells ∧ n ≤ rm.slots) (hW : (st.map fun v => v.category).sum ≤ 8) (kk : VJ K k n h2 pc1 lv (.int v :: st)) : VJ K k n h pc lv st0 :=
  v_cSn X hs hM hd hst har hrm hR hf hW (fun r hh q => by obtain ⟨rfl, rfl⟩ := q; exact kk)
theorem v_cVi (X : Cx K l0 g0 cc own nL0 rm) {y : MethodName} {cc1 : ByteArray} {nL1 ar idx : Nat} {ret1 : Option FieldType} {rm1 : Room} {h2 : Hp} {v : Int32} {b ci : Nat} {T : u_T} {N : Nat} {fs : List Value} (av : List Value) (hs : SV own idx y cc1 nL1 ret1 ar) (hM : MF l0 g0 y cc1 nL1 ret1 rm1 (.ref b :: av) h (some (.int v)) h2) (hrc : h b = some (.inr (ci, fs))) (hci : vwCl[ci]? = some (y.cls, T, N)) (hd : DD cc pc (.invokevirtual idx) 3 pc1) (hst : st0 = av.reverse ++ .ref b :: st) (har : av.length = ar) (hrm : rm1.cells = 0 ∧ rm1.slots = 0) (hR : rm1.frames + 1 ≤ rm.frames ∧ 8 + (nL1 + 11) + rm1.locals ≤ rm.locals) (hf : k ≤ rm.cells ∧ n ≤ rm.slots) (hW : (st.map fun v => v.category).sum ≤ 8) (kk : VJ K k n h2 pc1 lv (.int v :: st)) : VJ K k n h pc lv st0 :=
  v_cV X hs hM hrc hci hd hst har hrm hR hf hW (fun r hh q => by obtain ⟨rfl, rfl⟩ := q; exact kk)
theorem v_cSl (X : Cx K l0 g0 cc own nL0 rm) {y : MethodName} {cc1 : ByteArray} {nL1 ar idx : Nat} {ret1 : Option FieldType} {rm1 : Room} {h2 : Hp} {v : Int64} (av : List Value) (hs : SS own idx y cc1 nL1 ret1 ar) (hM : MF l0 g0 y cc1 nL1 ret1 rm1 av h (some (.long v)) h2) (hd : DD cc pc (.invokestatic idx) 3 pc1) (hst : st0 = av.reverse ++ st) (har : av.length = ar) (hrm : rm1.cells = 0 ∧ rm1.slots = 0) (hR : rm1.frames + 1 ≤ rm.frames ∧ 8 + (nL1 + 11) + rm1.locals ≤ rm.locals) (hf : k ≤ rm.cells ∧ n ≤ rm.slots) (hW : (st.map fun v => v.category).sum ≤ 8) (kk : VJ K k n h2 pc1 lv (.long v :: st)) : VJ K k n h pc lv st0 :=
  v_cS X hs hM hd hst har hrm hR hf hW (fun r hh q => by obtain ⟨rfl, rfl⟩ := q; exact kk)
theorem v_cSnl (X : Cx K l0 g0 cc own nL0 rm) {y : MethodName} {cc1 : ByteArray} {nL1 ar idx : Nat} {ret1 : Option FieldType} {rm1 : Room} {h2 : Hp} {v : Int64} (av : List Value) (hs : SNs own idx y cc1 nL1 ret1 ar) (hM : MF l0 g0 y cc1 nL1 ret1 rm1 av h (some (.long v)) h2) (hd : DD cc pc (.invokestatic idx) 3 pc1) (hst : st0 = av.reverse ++ st) (har : av.length = ar) (hrm : rm1.cells = 0 ∧ rm1.slots = 0) (hR : rm1.frames + 1 ≤ rm.frames ∧ 8 + (nL1 + 11) + rm1.locals ≤ rm.locals) (hf : k ≤ rm.cells ∧ n ≤ rm.slots) (hW : (st.map fun v => v.category).sum ≤ 8) (kk : VJ K k n h2 pc1 lv (.long v :: st)) : VJ K k n h pc lv st0 :=
  v_cSn X hs hM hd hst har hrm hR hf hW (fun r hh q => by obtain ⟨rfl, rfl⟩ := q; exact kk)
theorem v_cVl (X : Cx K l0 g0 cc own nL0 rm) {y : MethodName} {cc1 : ByteArray} {nL1 ar idx : Nat} {ret1 : Option FieldType} {rm1 : Room} {h2 : Hp} {v : Int64} {b ci : Nat} {T : u_T} {N : Nat} {fs : List Value} (av : List Value) (hs : SV own idx y cc1 nL1 ret1 ar) (hM : MF l0 g0 y cc1 nL1 ret1 rm1 (.ref b :: av) h (some (.long v)) h2) (hrc : h b = some (.inr (ci, fs))) (hci : vwCl[ci]? = some (y.cls, T, N)) (hd : DD cc pc (.invokevirtual idx) 3 pc1) (hst : st0 = av.reverse ++ .ref b :: st) (har : av.length = ar) (hrm : rm1.cells = 0 ∧ rm1.slots = 0) (hR : rm1.frames + 1 ≤ rm.frames ∧ 8 + (nL1 + 11) + rm1.locals ≤ rm.locals) (hf : k ≤ rm.cells ∧ n ≤ rm.slots) (hW : (st.map fun v => v.category).sum ≤ 8) (kk : VJ K k n h2 pc1 lv (.long v :: st)) : VJ K k n h pc lv st0 :=
  v_cV X hs hM hrc hci hd hst har hrm hR hf hW (fun r hh q => by obtain ⟨rfl, rfl⟩ := q; exact kk)
theorem v_cSr (X : Cx K l0 g0 cc own nL0 rm) {y : MethodName} {cc1 : ByteArray} {nL1 ar idx : Nat} {ret1 : Option FieldType} {rm1 : Room} {h2 : Hp} {v : Value} (av : List Value) (hs : SS own idx y cc1 nL1 ret1 ar) (hM : MF l0 g0 y cc1 nL1 ret1 rm1 av h (some (v)) h2) (hd : DD cc pc (.invokestatic idx) 3 pc1) (hst : st0 = av.reverse ++ st) (har : av.length = ar) (hrm : rm1.cells = 0 ∧ rm1.slots = 0) (hR : rm1.frames + 1 ≤ rm.frames ∧ 8 + (nL1 + 11) + rm1.locals ≤ rm.locals) (hf : k ≤ rm.cells ∧ n ≤ rm.slots) (hW : (st.map fun v => v.category).sum ≤ 8) (kk : VJ K k n h2 pc1 lv (v :: st)) : VJ K k n h pc lv st0 :=
  v_cS X hs hM hd hst har hrm hR hf hW (fun r hh q => by obtain ⟨rfl, rfl⟩ := q; exact kk)
theorem v_cSnr (X : Cx K l0 g0 cc own nL0 rm) {y : MethodName} {cc1 : ByteArray} {nL1 ar idx : Nat} {ret1 : Option FieldType} {rm1 : Room} {h2 : Hp} {v : Value} (av : List Value) (hs : SNs own idx y cc1 nL1 ret1 ar) (hM : MF l0 g0 y cc1 nL1 ret1 rm1 av h (some (v)) h2) (hd : DD cc pc (.invokestatic idx) 3 pc1) (hst : st0 = av.reverse ++ st) (har : av.length = ar) (hrm : rm1.cells = 0 ∧ rm1.slots = 0) (hR : rm1.frames + 1 ≤ rm.frames ∧ 8 + (nL1 + 11) + rm1.locals ≤ rm.locals) (hf : k ≤ rm.cells ∧ n ≤ rm.slots) (hW : (st.map fun v => v.category).sum ≤ 8) (kk : VJ K k n h2 pc1 lv (v :: st)) : VJ K k n h pc lv st0 :=
  v_cSn X hs hM hd hst har hrm hR hf hW (fun r hh q => by obtain ⟨rfl, rfl⟩ := q; exact kk)
theorem v_cVr (X : Cx K l0 g0 cc own nL0 rm) {y : MethodName} {cc1 : ByteArray} {nL1 ar idx : Nat} {ret1 : Option FieldType} {rm1 : Room} {h2 : Hp} {v : Value} {b ci : Nat} {T : u_T} {N : Nat} {fs : List Value} (av : List Value) (hs : SV own idx y cc1 nL1 ret1 ar) (hM : MF l0 g0 y cc1 nL1 ret1 rm1 (.ref b :: av) h (some (v)) h2) (hrc : h b = some (.inr (ci, fs))) (hci : vwCl[ci]? = some (y.cls, T, N)) (hd : DD cc pc (.invokevirtual idx) 3 pc1) (hst : st0 = av.reverse ++ .ref b :: st) (har : av.length = ar) (hrm : rm1.cells = 0 ∧ rm1.slots = 0) (hR : rm1.frames + 1 ≤ rm.frames ∧ 8 + (nL1 + 11) + rm1.locals ≤ rm.locals) (hf : k ≤ rm.cells ∧ n ≤ rm.slots) (hW : (st.map fun v => v.category).sum ≤ 8) (kk : VJ K k n h2 pc1 lv (v :: st)) : VJ K k n h pc lv st0 :=
  v_cV X hs hM hrc hci hd hst har hrm hR hf hW (fun r hh q => by obtain ⟨rfl, rfl⟩ := q; exact kk)
theorem v_cSv (X : Cx K l0 g0 cc own nL0 rm) {y : MethodName} {cc1 : ByteArray} {nL1 ar idx : Nat} {ret1 : Option FieldType} {rm1 : Room} {h2 : Hp} (av : List Value) (hs : SS own idx y cc1 nL1 ret1 ar) (hM : MF l0 g0 y cc1 nL1 ret1 rm1 av h none h2) (hd : DD cc pc (.invokestatic idx) 3 pc1) (hst : st0 = av.reverse ++ st) (har : av.length = ar) (hrm : rm1.cells = 0 ∧ rm1.slots = 0) (hR : rm1.frames + 1 ≤ rm.frames ∧ 8 + (nL1 + 11) + rm1.locals ≤ rm.locals) (hf : k ≤ rm.cells ∧ n ≤ rm.slots) (hW : (st.map fun v => v.category).sum ≤ 8) (kk : VJ K k n h2 pc1 lv (st)) : VJ K k n h pc lv st0 :=
  v_cS X hs hM hd hst har hrm hR hf hW (fun r hh q => by obtain ⟨rfl, rfl⟩ := q; exact kk)
theorem v_cSnv (X : Cx K l0 g0 cc own nL0 rm) {y : MethodName} {cc1 : ByteArray} {nL1 ar idx : Nat} {ret1 : Option FieldType} {rm1 : Room} {h2 : Hp} (av : List Value) (hs : SNs own idx y cc1 nL1 ret1 ar) (hM : MF l0 g0 y cc1 nL1 ret1 rm1 av h none h2) (hd : DD cc pc (.invokestatic idx) 3 pc1) (hst : st0 = av.reverse ++ st) (har : av.length = ar) (hrm : rm1.cells = 0 ∧ rm1.slots = 0) (hR : rm1.frames + 1 ≤ rm.frames ∧ 8 + (nL1 + 11) + rm1.locals ≤ rm.locals) (hf : k ≤ rm.cells ∧ n ≤ rm.slots) (hW : (st.map fun v => v.category).sum ≤ 8) (kk : VJ K k n h2 pc1 lv (st)) : VJ K k n h pc lv st0 :=
  v_cSn X hs hM hd hst har hrm hR hf hW (fun r hh q => by obtain ⟨rfl, rfl⟩ := q; exact kk)
theorem v_cVv (X : Cx K l0 g0 cc own nL0 rm) {y : MethodName} {cc1 : ByteArray} {nL1 ar idx : Nat} {ret1 : Option FieldType} {rm1 : Room} {h2 : Hp} {b ci : Nat} {T : u_T} {N : Nat} {fs : List Value} (av : List Value) (hs : SV own idx y cc1 nL1 ret1 ar) (hM : MF l0 g0 y cc1 nL1 ret1 rm1 (.ref b :: av) h none h2) (hrc : h b = some (.inr (ci, fs))) (hci : vwCl[ci]? = some (y.cls, T, N)) (hd : DD cc pc (.invokevirtual idx) 3 pc1) (hst : st0 = av.reverse ++ .ref b :: st) (har : av.length = ar) (hrm : rm1.cells = 0 ∧ rm1.slots = 0) (hR : rm1.frames + 1 ≤ rm.frames ∧ 8 + (nL1 + 11) + rm1.locals ≤ rm.locals) (hf : k ≤ rm.cells ∧ n ≤ rm.slots) (hW : (st.map fun v => v.category).sum ≤ 8) (kk : VJ K k n h2 pc1 lv (st)) : VJ K k n h pc lv st0 :=
  v_cV X hs hM hrc hci hd hst har hrm hR hf hW (fun r hh q => by obtain ⟨rfl, rfl⟩ := q; exact kk)
end VC
end
section
theorem u_X0 : ∀ w ∈ u_ws RX0 TX0 8, w ∈ GW := by
  have h : (u_ws RX0 TX0 8).all (fun w => decide (w ∈ lw_tbl) && goodWord w) = true := by decide +kernel
  intro w hw
  have h1 := List.all_eq_true.mp h w hw
  simp only [Bool.and_eq_true, decide_eq_true_eq] at h1
  exact gw_in h1.1 h1.2
theorem u_X1 : ∀ w ∈ u_ws RX1 TX1 7, w ∈ GW := by
  have h : (u_ws RX1 TX1 7).all (fun w => decide (w ∈ lw_tbl) && goodWord w) = true := by decide +kernel
  intro w hw
  have h1 := List.all_eq_true.mp h w hw
  simp only [Bool.and_eq_true, decide_eq_true_eq] at h1
  exact gw_in h1.1 h1.2
theorem u_X2 : ∀ w ∈ u_ws RX2 TX2 3, w ∈ GW := by
  have h : (u_ws RX2 TX2 3).all (fun w => decide (w ∈ lw_tbl) && goodWord w) = true := by decide +kernel
  intro w hw
  have h1 := List.all_eq_true.mp h w hw
  simp only [Bool.and_eq_true, decide_eq_true_eq] at h1
  exact gw_in h1.1 h1.2
theorem u_X3 : ∀ w ∈ u_ws RX3 TX3 5, w ∈ GW := by
  have h : (u_ws RX3 TX3 5).all (fun w => decide (w ∈ lw_tbl) && goodWord w) = true := by decide +kernel
  intro w hw
  have h1 := List.all_eq_true.mp h w hw
  simp only [Bool.and_eq_true, decide_eq_true_eq] at h1
  exact gw_in h1.1 h1.2
theorem u_X4 : ∀ w ∈ u_ws RX4 TX4 6, w ∈ GW := by
  have h : (u_ws RX4 TX4 6).all (fun w => decide (w ∈ lw_tbl) && goodWord w) = true := by decide +kernel
  intro w hw
  have h1 := List.all_eq_true.mp h w hw
  simp only [Bool.and_eq_true, decide_eq_true_eq] at h1
  exact gw_in h1.1 h1.2
theorem u_X5 : ∀ w ∈ u_ws RX5 TX5 5, w ∈ GW := by
  have h : (u_ws RX5 TX5 5).all (fun w => decide (w ∈ lw_tbl) && goodWord w) = true := by decide +kernel
  intro w hw
  have h1 := List.all_eq_true.mp h w hw
  simp only [Bool.and_eq_true, decide_eq_true_eq] at h1
  exact gw_in h1.1 h1.2
theorem u_X6 : ∀ w ∈ u_ws RX6 TX6 10, w ∈ GW := by
  have h : (u_ws RX6 TX6 10).all (fun w => decide (w ∈ lw_tbl) && goodWord w) = true := by decide +kernel
  intro w hw
  have h1 := List.all_eq_true.mp h w hw
  simp only [Bool.and_eq_true, decide_eq_true_eq] at h1
  exact gw_in h1.1 h1.2
theorem u_X7 : ∀ w ∈ u_ws RX7 TX7 8, w ∈ GW := by
  have h : (u_ws RX7 TX7 8).all (fun w => decide (w ∈ lw_tbl) && goodWord w) = true := by decide +kernel
  intro w hw
  have h1 := List.all_eq_true.mp h w hw
  simp only [Bool.and_eq_true, decide_eq_true_eq] at h1
  exact gw_in h1.1 h1.2
theorem u_X8 : ∀ w ∈ u_ws RX8 TX8 19, w ∈ GW := by
  have h : (u_ws RX8 TX8 19).all (fun w => decide (w ∈ lw_tbl) && goodWord w) = true := by decide +kernel
  intro w hw
  have h1 := List.all_eq_true.mp h w hw
  simp only [Bool.and_eq_true, decide_eq_true_eq] at h1
  exact gw_in h1.1 h1.2
theorem qi_L : Cond.initialized RL ∈ GW := gw_in (List.mem_of_getElem? (i := 38) (by decide +kernel)) rfl
theorem qi_X7 : Cond.initialized RX7 ∈ GW := gw_in (List.mem_of_getElem? (i := 39) (by decide +kernel)) rfl
theorem qi_X6 : Cond.initialized RX6 ∈ GW := gw_in (List.mem_of_getElem? (i := 40) (by decide +kernel)) rfl
theorem qi_X0 : Cond.initialized RX0 ∈ GW := gw_in (List.mem_of_getElem? (i := 41) (by decide +kernel)) rfl
theorem qi_X3 : Cond.initialized RX3 ∈ GW := gw_in (List.mem_of_getElem? (i := 42) (by decide +kernel)) rfl
theorem qi_X1 : Cond.initialized RX1 ∈ GW := gw_in (List.mem_of_getElem? (i := 43) (by decide +kernel)) rfl
theorem qi_X4 : Cond.initialized RX4 ∈ GW := gw_in (List.mem_of_getElem? (i := 44) (by decide +kernel)) rfl
theorem qi_X2 : Cond.initialized RX2 ∈ GW := gw_in (List.mem_of_getElem? (i := 45) (by decide +kernel)) rfl
theorem qi_X8 : Cond.initialized RX8 ∈ GW := gw_in (List.mem_of_getElem? (i := 46) (by decide +kernel)) rfl
theorem qi_J9 : Cond.initialized RJ9 ∈ GW := gw_in (List.mem_of_getElem? (i := 47) (by decide +kernel)) rfl
theorem qi_J6 : Cond.initialized RJ6 ∈ GW := gw_in (List.mem_of_getElem? (i := 48) (by decide +kernel)) rfl
theorem qi_X5 : Cond.initialized RX5 ∈ GW := gw_in (List.mem_of_getElem? (i := 49) (by decide +kernel)) rfl
theorem qi_J0 : Cond.initialized RJ0 ∈ GW := gw_in (List.mem_of_getElem? (i := 50) (by decide +kernel)) rfl
theorem qi_J1 : Cond.initialized RJ1 ∈ GW := gw_in (List.mem_of_getElem? (i := 51) (by decide +kernel)) rfl
theorem qi_J3 : Cond.initialized RJ3 ∈ GW := gw_in (List.mem_of_getElem? (i := 52) (by decide +kernel)) rfl
theorem qi_J2 : Cond.initialized RJ2 ∈ GW := gw_in (List.mem_of_getElem? (i := 53) (by decide +kernel)) rfl
theorem qi_J10 : Cond.initialized RJ10 ∈ GW := gw_in (List.mem_of_getElem? (i := 54) (by decide +kernel)) rfl
theorem qc_X7_init : Cond.code yX7_init cX7_init 2 none ∈ GW := gw_in (List.mem_of_getElem? (i := 59) (by decide +kernel)) rfl
theorem qn_X7_init : Cond.instanceMethod yX7_init ∈ GW := gw_in (List.mem_of_getElem? (i := 58) (by decide +kernel)) rfl
theorem qc_X6_init : Cond.code yX6_init cX6_init 2 none ∈ GW := gw_in (List.mem_of_getElem? (i := 67) (by decide +kernel)) rfl
theorem qn_X6_init : Cond.instanceMethod yX6_init ∈ GW := gw_in (List.mem_of_getElem? (i := 66) (by decide +kernel)) rfl
theorem qc_X0_init : Cond.code yX0_init cX0_init 3 none ∈ GW := gw_in (List.mem_of_getElem? (i := 86) (by decide +kernel)) rfl
theorem qn_X0_init : Cond.instanceMethod yX0_init ∈ GW := gw_in (List.mem_of_getElem? (i := 85) (by decide +kernel)) rfl
theorem qc_X3_init : Cond.code yX3_init cX3_init 1 none ∈ GW := gw_in (List.mem_of_getElem? (i := 92) (by decide +kernel)) rfl
theorem qn_X3_init : Cond.instanceMethod yX3_init ∈ GW := gw_in (List.mem_of_getElem? (i := 91) (by decide +kernel)) rfl
theorem qc_X1_init : Cond.code yX1_init cX1_init 1 none ∈ GW := gw_in (List.mem_of_getElem? (i := 150) (by decide +kernel)) rfl
theorem qn_X1_init : Cond.instanceMethod yX1_init ∈ GW := gw_in (List.mem_of_getElem? (i := 149) (by decide +kernel)) rfl
theorem qc_X4_init : Cond.code yX4_init cX4_init 1 none ∈ GW := gw_in (List.mem_of_getElem? (i := 234) (by decide +kernel)) rfl
theorem qn_X4_init : Cond.instanceMethod yX4_init ∈ GW := gw_in (List.mem_of_getElem? (i := 233) (by decide +kernel)) rfl
theorem qc_X2_init : Cond.code yX2_init cX2_init 1 none ∈ GW := gw_in (List.mem_of_getElem? (i := 262) (by decide +kernel)) rfl
theorem qn_X2_init : Cond.instanceMethod yX2_init ∈ GW := gw_in (List.mem_of_getElem? (i := 261) (by decide +kernel)) rfl
theorem qc_X7_roller : Cond.code yX7_roller cX7_roller 4 (some .int) ∈ GW := gw_in (List.mem_of_getElem? (i := 306) (by decide +kernel)) rfl
theorem qn_X7_roller : Cond.instanceMethod yX7_roller ∈ GW := gw_in (List.mem_of_getElem? (i := 304) (by decide +kernel)) rfl
theorem ql_X7_roller : Cond.selects yX7_roller.cls yX7_roller yX7_roller ∈ GW := gw_in (List.mem_of_getElem? (i := 305) (by decide +kernel)) rfl
theorem qc_X7_isKind : Cond.code yX7_isKind cX7_isKind 1 (some .boolean) ∈ GW := gw_in (List.mem_of_getElem? (i := 309) (by decide +kernel)) rfl
theorem qt_X7_isKind : Cond.static yX7_isKind ∈ GW := gw_in (List.mem_of_getElem? (i := 308) (by decide +kernel)) rfl
theorem qc_X7_within : Cond.code yX7_within cX7_within 3 (some .boolean) ∈ GW := gw_in (List.mem_of_getElem? (i := 312) (by decide +kernel)) rfl
theorem qt_X7_within : Cond.static yX7_within ∈ GW := gw_in (List.mem_of_getElem? (i := 311) (by decide +kernel)) rfl
theorem qc_X7_finding : Cond.code yX7_finding cX7_finding 3 (some .int) ∈ GW := gw_in (List.mem_of_getElem? (i := 317) (by decide +kernel)) rfl
theorem qn_X7_finding : Cond.instanceMethod yX7_finding ∈ GW := gw_in (List.mem_of_getElem? (i := 316) (by decide +kernel)) rfl
theorem ql_X7_finding : Cond.selects yX7_finding.cls yX7_finding yX7_finding ∈ GW := gw_in (List.mem_of_getElem? (i := 0) (by decide +kernel)) rfl
theorem qc_X1_begin : Cond.code yX1_begin cX1_begin 3 none ∈ GW := gw_in (List.mem_of_getElem? (i := 322) (by decide +kernel)) rfl
theorem qn_X1_begin : Cond.instanceMethod yX1_begin ∈ GW := gw_in (List.mem_of_getElem? (i := 320) (by decide +kernel)) rfl
theorem ql_X1_begin : Cond.selects yX1_begin.cls yX1_begin yX1_begin ∈ GW := gw_in (List.mem_of_getElem? (i := 321) (by decide +kernel)) rfl
theorem qc_X7_of : Cond.code yX7_of cX7_of 3 (some .int) ∈ GW := gw_in (List.mem_of_getElem? (i := 326) (by decide +kernel)) rfl
theorem qn_X7_of : Cond.instanceMethod yX7_of ∈ GW := gw_in (List.mem_of_getElem? (i := 324) (by decide +kernel)) rfl
theorem ql_X7_of : Cond.selects yX7_of.cls yX7_of yX7_of ∈ GW := gw_in (List.mem_of_getElem? (i := 325) (by decide +kernel)) rfl
theorem qc_X7_isPerson : Cond.code yX7_isPerson cX7_isPerson 2 (some .boolean) ∈ GW := gw_in (List.mem_of_getElem? (i := 330) (by decide +kernel)) rfl
theorem qn_X7_isPerson : Cond.instanceMethod yX7_isPerson ∈ GW := gw_in (List.mem_of_getElem? (i := 329) (by decide +kernel)) rfl
theorem ql_X7_isPerson : Cond.selects yX7_isPerson.cls yX7_isPerson yX7_isPerson ∈ GW := gw_in (List.mem_of_getElem? (i := 1) (by decide +kernel)) rfl
theorem qc_X1_trait : Cond.code yX1_trait cX1_trait 2 (some .int) ∈ GW := gw_in (List.mem_of_getElem? (i := 334) (by decide +kernel)) rfl
theorem qn_X1_trait : Cond.instanceMethod yX1_trait ∈ GW := gw_in (List.mem_of_getElem? (i := 332) (by decide +kernel)) rfl
theorem ql_X1_trait : Cond.selects yX1_trait.cls yX1_trait yX1_trait ∈ GW := gw_in (List.mem_of_getElem? (i := 333) (by decide +kernel)) rfl
theorem qc_X7_set : Cond.code yX7_set cX7_set 5 (some .int) ∈ GW := gw_in (List.mem_of_getElem? (i := 338) (by decide +kernel)) rfl
theorem qn_X7_set : Cond.instanceMethod yX7_set ∈ GW := gw_in (List.mem_of_getElem? (i := 336) (by decide +kernel)) rfl
theorem ql_X7_set : Cond.selects yX7_set.cls yX7_set yX7_set ∈ GW := gw_in (List.mem_of_getElem? (i := 337) (by decide +kernel)) rfl
theorem qc_X7_maySet : Cond.code yX7_maySet cX7_maySet 3 (some .boolean) ∈ GW := gw_in (List.mem_of_getElem? (i := 342) (by decide +kernel)) rfl
theorem qn_X7_maySet : Cond.instanceMethod yX7_maySet ∈ GW := gw_in (List.mem_of_getElem? (i := 341) (by decide +kernel)) rfl
theorem ql_X7_maySet : Cond.selects yX7_maySet.cls yX7_maySet yX7_maySet ∈ GW := gw_in (List.mem_of_getElem? (i := 2) (by decide +kernel)) rfl
theorem qc_X6_isOnLog : Cond.code yX6_isOnLog cX6_isOnLog 2 (some .boolean) ∈ GW := gw_in (List.mem_of_getElem? (i := 346) (by decide +kernel)) rfl
theorem qn_X6_isOnLog : Cond.instanceMethod yX6_isOnLog ∈ GW := gw_in (List.mem_of_getElem? (i := 344) (by decide +kernel)) rfl
theorem ql_X6_isOnLog : Cond.selects yX6_isOnLog.cls yX6_isOnLog yX6_isOnLog ∈ GW := gw_in (List.mem_of_getElem? (i := 345) (by decide +kernel)) rfl
theorem qc_X1_change : Cond.code yX1_change cX1_change 3 none ∈ GW := gw_in (List.mem_of_getElem? (i := 351) (by decide +kernel)) rfl
theorem qn_X1_change : Cond.instanceMethod yX1_change ∈ GW := gw_in (List.mem_of_getElem? (i := 349) (by decide +kernel)) rfl
theorem ql_X1_change : Cond.selects yX1_change.cls yX1_change yX1_change ∈ GW := gw_in (List.mem_of_getElem? (i := 350) (by decide +kernel)) rfl
theorem qc_X7_as : Cond.code yX7_as cX7_as 3 (some .int) ∈ GW := gw_in (List.mem_of_getElem? (i := 355) (by decide +kernel)) rfl
theorem qn_X7_as : Cond.instanceMethod yX7_as ∈ GW := gw_in (List.mem_of_getElem? (i := 353) (by decide +kernel)) rfl
theorem ql_X7_as : Cond.selects yX7_as.cls yX7_as yX7_as ∈ GW := gw_in (List.mem_of_getElem? (i := 354) (by decide +kernel)) rfl
theorem qc_X7_isUnder : Cond.code yX7_isUnder cX7_isUnder 4 (some .boolean) ∈ GW := gw_in (List.mem_of_getElem? (i := 358) (by decide +kernel)) rfl
theorem qt_X7_isUnder : Cond.static yX7_isUnder ∈ GW := gw_in (List.mem_of_getElem? (i := 357) (by decide +kernel)) rfl
theorem qc_X7_log : Cond.code yX7_log cX7_log 4 (some .int) ∈ GW := gw_in (List.mem_of_getElem? (i := 365) (by decide +kernel)) rfl
theorem qn_X7_log : Cond.instanceMethod yX7_log ∈ GW := gw_in (List.mem_of_getElem? (i := 363) (by decide +kernel)) rfl
theorem ql_X7_log : Cond.selects yX7_log.cls yX7_log yX7_log ∈ GW := gw_in (List.mem_of_getElem? (i := 364) (by decide +kernel)) rfl
theorem qc_X7_push : Cond.code yX7_push cX7_push 7 (some .int) ∈ GW := gw_in (List.mem_of_getElem? (i := 373) (by decide +kernel)) rfl
theorem qn_X7_push : Cond.instanceMethod yX7_push ∈ GW := gw_in (List.mem_of_getElem? (i := 371) (by decide +kernel)) rfl
theorem ql_X7_push : Cond.selects yX7_push.cls yX7_push yX7_push ∈ GW := gw_in (List.mem_of_getElem? (i := 372) (by decide +kernel)) rfl
theorem qc_X7_isSituation : Cond.code yX7_isSituation cX7_isSituation 4 (some .boolean) ∈ GW := gw_in (List.mem_of_getElem? (i := 376) (by decide +kernel)) rfl
theorem qt_X7_isSituation : Cond.static yX7_isSituation ∈ GW := gw_in (List.mem_of_getElem? (i := 375) (by decide +kernel)) rfl
theorem qc_X6_wayAt : Cond.code yX6_wayAt cX6_wayAt 2 (some (.object "LogRollers$Way")) ∈ GW := gw_in (List.mem_of_getElem? (i := 380) (by decide +kernel)) rfl
theorem qn_X6_wayAt : Cond.instanceMethod yX6_wayAt ∈ GW := gw_in (List.mem_of_getElem? (i := 378) (by decide +kernel)) rfl
theorem ql_X6_wayAt : Cond.selects yX6_wayAt.cls yX6_wayAt yX6_wayAt ∈ GW := gw_in (List.mem_of_getElem? (i := 379) (by decide +kernel)) rfl
theorem qc_X1_shove : Cond.code yX1_shove cX1_shove 6 (some .int) ∈ GW := gw_in (List.mem_of_getElem? (i := 385) (by decide +kernel)) rfl
theorem qn_X1_shove : Cond.instanceMethod yX1_shove ∈ GW := gw_in (List.mem_of_getElem? (i := 383) (by decide +kernel)) rfl
theorem ql_X1_shove : Cond.selects yX1_shove.cls yX1_shove yX1_shove ∈ GW := gw_in (List.mem_of_getElem? (i := 384) (by decide +kernel)) rfl
theorem qc_X7_atMost : Cond.code yX7_atMost cX7_atMost 2 (some .int) ∈ GW := gw_in (List.mem_of_getElem? (i := 388) (by decide +kernel)) rfl
theorem qt_X7_atMost : Cond.static yX7_atMost ∈ GW := gw_in (List.mem_of_getElem? (i := 387) (by decide +kernel)) rfl
theorem qc_X1_waiterShove : Cond.code yX1_waiterShove cX1_waiterShove 3 (some .int) ∈ GW := gw_in (List.mem_of_getElem? (i := 392) (by decide +kernel)) rfl
theorem qn_X1_waiterShove : Cond.instanceMethod yX1_waiterShove ∈ GW := gw_in (List.mem_of_getElem? (i := 391) (by decide +kernel)) rfl
theorem ql_X1_waiterShove : Cond.selects yX1_waiterShove.cls yX1_waiterShove yX1_waiterShove ∈ GW := gw_in (List.mem_of_getElem? (i := 3) (by decide +kernel)) rfl
theorem qc_X5_firstThat : Cond.code yX5_firstThat cX5_firstThat 9 (some .int) ∈ GW := gw_in (List.mem_of_getElem? (i := 396) (by decide +kernel)) rfl
theorem qn_X5_firstThat : Cond.instanceMethod yX5_firstThat ∈ GW := gw_in (List.mem_of_getElem? (i := 394) (by decide +kernel)) rfl
theorem ql_X5_firstThat : Cond.selects yX5_firstThat.cls yX5_firstThat yX5_firstThat ∈ GW := gw_in (List.mem_of_getElem? (i := 395) (by decide +kernel)) rfl
theorem qc_X5_deedOf : Cond.code yX5_deedOf cX5_deedOf 2 (some .int) ∈ GW := gw_in (List.mem_of_getElem? (i := 400) (by decide +kernel)) rfl
theorem qn_X5_deedOf : Cond.instanceMethod yX5_deedOf ∈ GW := gw_in (List.mem_of_getElem? (i := 398) (by decide +kernel)) rfl
theorem ql_X5_deedOf : Cond.selects yX5_deedOf.cls yX5_deedOf yX5_deedOf ∈ GW := gw_in (List.mem_of_getElem? (i := 399) (by decide +kernel)) rfl
theorem qc_X1_deedShove : Cond.code yX1_deedShove cX1_deedShove 4 (some .int) ∈ GW := gw_in (List.mem_of_getElem? (i := 405) (by decide +kernel)) rfl
theorem qn_X1_deedShove : Cond.instanceMethod yX1_deedShove ∈ GW := gw_in (List.mem_of_getElem? (i := 404) (by decide +kernel)) rfl
theorem ql_X1_deedShove : Cond.selects yX1_deedShove.cls yX1_deedShove yX1_deedShove ∈ GW := gw_in (List.mem_of_getElem? (i := 4) (by decide +kernel)) rfl
theorem qc_X7_mount : Cond.code yX7_mount cX7_mount 3 (some .int) ∈ GW := gw_in (List.mem_of_getElem? (i := 409) (by decide +kernel)) rfl
theorem qn_X7_mount : Cond.instanceMethod yX7_mount ∈ GW := gw_in (List.mem_of_getElem? (i := 407) (by decide +kernel)) rfl
theorem ql_X7_mount : Cond.selects yX7_mount.cls yX7_mount yX7_mount ∈ GW := gw_in (List.mem_of_getElem? (i := 408) (by decide +kernel)) rfl
theorem qc_X7_isPair : Cond.code yX7_isPair cX7_isPair 3 (some .boolean) ∈ GW := gw_in (List.mem_of_getElem? (i := 413) (by decide +kernel)) rfl
theorem qn_X7_isPair : Cond.instanceMethod yX7_isPair ∈ GW := gw_in (List.mem_of_getElem? (i := 412) (by decide +kernel)) rfl
theorem ql_X7_isPair : Cond.selects yX7_isPair.cls yX7_isPair yX7_isPair ∈ GW := gw_in (List.mem_of_getElem? (i := 5) (by decide +kernel)) rfl
theorem qc_X0_begin : Cond.code yX0_begin cX0_begin 3 none ∈ GW := gw_in (List.mem_of_getElem? (i := 417) (by decide +kernel)) rfl
theorem qn_X0_begin : Cond.instanceMethod yX0_begin ∈ GW := gw_in (List.mem_of_getElem? (i := 415) (by decide +kernel)) rfl
theorem ql_X0_begin : Cond.selects yX0_begin.cls yX0_begin yX0_begin ∈ GW := gw_in (List.mem_of_getElem? (i := 416) (by decide +kernel)) rfl
theorem qc_X3_begin : Cond.code yX3_begin cX3_begin 2 none ∈ GW := gw_in (List.mem_of_getElem? (i := 421) (by decide +kernel)) rfl
theorem qn_X3_begin : Cond.instanceMethod yX3_begin ∈ GW := gw_in (List.mem_of_getElem? (i := 419) (by decide +kernel)) rfl
theorem ql_X3_begin : Cond.selects yX3_begin.cls yX3_begin yX3_begin ∈ GW := gw_in (List.mem_of_getElem? (i := 420) (by decide +kernel)) rfl
theorem qc_X7_off : Cond.code yX7_off cX7_off 1 (some .int) ∈ GW := gw_in (List.mem_of_getElem? (i := 425) (by decide +kernel)) rfl
theorem qn_X7_off : Cond.instanceMethod yX7_off ∈ GW := gw_in (List.mem_of_getElem? (i := 423) (by decide +kernel)) rfl
theorem ql_X7_off : Cond.selects yX7_off.cls yX7_off yX7_off ∈ GW := gw_in (List.mem_of_getElem? (i := 424) (by decide +kernel)) rfl
theorem qc_X7_bout : Cond.code yX7_bout cX7_bout 5 (some .int) ∈ GW := gw_in (List.mem_of_getElem? (i := 429) (by decide +kernel)) rfl
theorem qn_X7_bout : Cond.instanceMethod yX7_bout ∈ GW := gw_in (List.mem_of_getElem? (i := 427) (by decide +kernel)) rfl
theorem ql_X7_bout : Cond.selects yX7_bout.cls yX7_bout yX7_bout ∈ GW := gw_in (List.mem_of_getElem? (i := 428) (by decide +kernel)) rfl
theorem qc_X0_go : Cond.code yX0_go cX0_go 6 (some .int) ∈ GW := gw_in (List.mem_of_getElem? (i := 433) (by decide +kernel)) rfl
theorem qn_X0_go : Cond.instanceMethod yX0_go ∈ GW := gw_in (List.mem_of_getElem? (i := 431) (by decide +kernel)) rfl
theorem ql_X0_go : Cond.selects yX0_go.cls yX0_go yX0_go ∈ GW := gw_in (List.mem_of_getElem? (i := 432) (by decide +kernel)) rfl
theorem qc_X0_tick : Cond.code yX0_tick cX0_tick 5 (some .int) ∈ GW := gw_in (List.mem_of_getElem? (i := 437) (by decide +kernel)) rfl
theorem qn_X0_tick : Cond.instanceMethod yX0_tick ∈ GW := gw_in (List.mem_of_getElem? (i := 435) (by decide +kernel)) rfl
theorem ql_X0_tick : Cond.selects yX0_tick.cls yX0_tick yX0_tick ∈ GW := gw_in (List.mem_of_getElem? (i := 436) (by decide +kernel)) rfl
theorem qc_X0_seenBy : Cond.code yX0_seenBy cX0_seenBy 3 (some .int) ∈ GW := gw_in (List.mem_of_getElem? (i := 441) (by decide +kernel)) rfl
theorem qn_X0_seenBy : Cond.instanceMethod yX0_seenBy ∈ GW := gw_in (List.mem_of_getElem? (i := 439) (by decide +kernel)) rfl
theorem ql_X0_seenBy : Cond.selects yX0_seenBy.cls yX0_seenBy yX0_seenBy ∈ GW := gw_in (List.mem_of_getElem? (i := 440) (by decide +kernel)) rfl
theorem qc_X0_nextShove : Cond.code yX0_nextShove cX0_nextShove 5 (some .int) ∈ GW := gw_in (List.mem_of_getElem? (i := 445) (by decide +kernel)) rfl
theorem qn_X0_nextShove : Cond.instanceMethod yX0_nextShove ∈ GW := gw_in (List.mem_of_getElem? (i := 443) (by decide +kernel)) rfl
theorem ql_X0_nextShove : Cond.selects yX0_nextShove.cls yX0_nextShove yX0_nextShove ∈ GW := gw_in (List.mem_of_getElem? (i := 444) (by decide +kernel)) rfl
theorem qc_X3_cost : Cond.code yX3_cost cX3_cost 1 (some .int) ∈ GW := gw_in (List.mem_of_getElem? (i := 450) (by decide +kernel)) rfl
theorem qt_X3_cost : Cond.static yX3_cost ∈ GW := gw_in (List.mem_of_getElem? (i := 449) (by decide +kernel)) rfl
theorem qc_J9_abs_0f7a4 : Cond.code yJ9_abs_0f7a4 cJ9_abs_0f7a4 1 (some .int) ∈ GW := gw_in (List.mem_of_getElem? (i := 453) (by decide +kernel)) rfl
theorem qt_J9_abs_0f7a4 : Cond.static yJ9_abs_0f7a4 ∈ GW := gw_in (List.mem_of_getElem? (i := 452) (by decide +kernel)) rfl
theorem qc_X3_decide : Cond.code yX3_decide cX3_decide 3 none ∈ GW := gw_in (List.mem_of_getElem? (i := 457) (by decide +kernel)) rfl
theorem qn_X3_decide : Cond.instanceMethod yX3_decide ∈ GW := gw_in (List.mem_of_getElem? (i := 455) (by decide +kernel)) rfl
theorem ql_X3_decide : Cond.selects yX3_decide.cls yX3_decide yX3_decide ∈ GW := gw_in (List.mem_of_getElem? (i := 456) (by decide +kernel)) rfl
theorem qc_X0_roll : Cond.code yX0_roll cX0_roll 4 none ∈ GW := gw_in (List.mem_of_getElem? (i := 462) (by decide +kernel)) rfl
theorem qn_X0_roll : Cond.instanceMethod yX0_roll ∈ GW := gw_in (List.mem_of_getElem? (i := 461) (by decide +kernel)) rfl
theorem ql_X0_roll : Cond.selects yX0_roll.cls yX0_roll yX0_roll ∈ GW := gw_in (List.mem_of_getElem? (i := 6) (by decide +kernel)) rfl
theorem qc_X0_stepUnlessSlipping : Cond.code yX0_stepUnlessSlipping cX0_stepUnlessSlipping 3 none ∈ GW := gw_in (List.mem_of_getElem? (i := 466) (by decide +kernel)) rfl
theorem qn_X0_stepUnlessSlipping : Cond.instanceMethod yX0_stepUnlessSlipping ∈ GW := gw_in (List.mem_of_getElem? (i := 465) (by decide +kernel)) rfl
theorem ql_X0_stepUnlessSlipping : Cond.selects yX0_stepUnlessSlipping.cls yX0_stepUnlessSlipping yX0_stepUnlessSlipping ∈ GW := gw_in (List.mem_of_getElem? (i := 7) (by decide +kernel)) rfl
theorem qc_X3_step : Cond.code yX3_step cX3_step 2 none ∈ GW := gw_in (List.mem_of_getElem? (i := 471) (by decide +kernel)) rfl
theorem qn_X3_step : Cond.instanceMethod yX3_step ∈ GW := gw_in (List.mem_of_getElem? (i := 469) (by decide +kernel)) rfl
theorem ql_X3_step : Cond.selects yX3_step.cls yX3_step yX3_step ∈ GW := gw_in (List.mem_of_getElem? (i := 470) (by decide +kernel)) rfl
theorem qc_X3_sway : Cond.code yX3_sway cX3_sway 2 none ∈ GW := gw_in (List.mem_of_getElem? (i := 476) (by decide +kernel)) rfl
theorem qn_X3_sway : Cond.instanceMethod yX3_sway ∈ GW := gw_in (List.mem_of_getElem? (i := 474) (by decide +kernel)) rfl
theorem ql_X3_sway : Cond.selects yX3_sway.cls yX3_sway yX3_sway ∈ GW := gw_in (List.mem_of_getElem? (i := 475) (by decide +kernel)) rfl
theorem qc_X7_endBout : Cond.code yX7_endBout cX7_endBout 4 none ∈ GW := gw_in (List.mem_of_getElem? (i := 481) (by decide +kernel)) rfl
theorem qn_X7_endBout : Cond.instanceMethod yX7_endBout ∈ GW := gw_in (List.mem_of_getElem? (i := 480) (by decide +kernel)) rfl
theorem ql_X7_endBout : Cond.selects yX7_endBout.cls yX7_endBout yX7_endBout ∈ GW := gw_in (List.mem_of_getElem? (i := 8) (by decide +kernel)) rfl
theorem qc_X7_stands : Cond.code yX7_stands cX7_stands 6 (some .int) ∈ GW := gw_in (List.mem_of_getElem? (i := 485) (by decide +kernel)) rfl
theorem qn_X7_stands : Cond.instanceMethod yX7_stands ∈ GW := gw_in (List.mem_of_getElem? (i := 483) (by decide +kernel)) rfl
theorem ql_X7_stands : Cond.selects yX7_stands.cls yX7_stands yX7_stands ∈ GW := gw_in (List.mem_of_getElem? (i := 484) (by decide +kernel)) rfl
theorem qc_X7_now : Cond.code yX7_now cX7_now 2 (some .int) ∈ GW := gw_in (List.mem_of_getElem? (i := 491) (by decide +kernel)) rfl
theorem qn_X7_now : Cond.instanceMethod yX7_now ∈ GW := gw_in (List.mem_of_getElem? (i := 489) (by decide +kernel)) rfl
theorem ql_X7_now : Cond.selects yX7_now.cls yX7_now yX7_now ∈ GW := gw_in (List.mem_of_getElem? (i := 490) (by decide +kernel)) rfl
theorem qc_X7_seed : Cond.code yX7_seed cX7_seed 3 (some .int) ∈ GW := gw_in (List.mem_of_getElem? (i := 495) (by decide +kernel)) rfl
theorem qn_X7_seed : Cond.instanceMethod yX7_seed ∈ GW := gw_in (List.mem_of_getElem? (i := 493) (by decide +kernel)) rfl
theorem ql_X7_seed : Cond.selects yX7_seed.cls yX7_seed yX7_seed ∈ GW := gw_in (List.mem_of_getElem? (i := 494) (by decide +kernel)) rfl
theorem qc_X7_ahead : Cond.code yX7_ahead cX7_ahead 6 (some .int) ∈ GW := gw_in (List.mem_of_getElem? (i := 499) (by decide +kernel)) rfl
theorem qn_X7_ahead : Cond.instanceMethod yX7_ahead ∈ GW := gw_in (List.mem_of_getElem? (i := 497) (by decide +kernel)) rfl
theorem ql_X7_ahead : Cond.selects yX7_ahead.cls yX7_ahead yX7_ahead ∈ GW := gw_in (List.mem_of_getElem? (i := 498) (by decide +kernel)) rfl
theorem qc_X7_startAhead : Cond.code yX7_startAhead cX7_startAhead 3 none ∈ GW := gw_in (List.mem_of_getElem? (i := 503) (by decide +kernel)) rfl
theorem qn_X7_startAhead : Cond.instanceMethod yX7_startAhead ∈ GW := gw_in (List.mem_of_getElem? (i := 502) (by decide +kernel)) rfl
theorem ql_X7_startAhead : Cond.selects yX7_startAhead.cls yX7_startAhead yX7_startAhead ∈ GW := gw_in (List.mem_of_getElem? (i := 9) (by decide +kernel)) rfl
theorem qc_X7_best : Cond.code yX7_best cX7_best 8 (some .int) ∈ GW := gw_in (List.mem_of_getElem? (i := 507) (by decide +kernel)) rfl
theorem qn_X7_best : Cond.instanceMethod yX7_best ∈ GW := gw_in (List.mem_of_getElem? (i := 505) (by decide +kernel)) rfl
theorem ql_X7_best : Cond.selects yX7_best.cls yX7_best yX7_best ∈ GW := gw_in (List.mem_of_getElem? (i := 506) (by decide +kernel)) rfl
theorem qc_X1_takeFrom : Cond.code yX1_takeFrom cX1_takeFrom 2 none ∈ GW := gw_in (List.mem_of_getElem? (i := 511) (by decide +kernel)) rfl
theorem qn_X1_takeFrom : Cond.instanceMethod yX1_takeFrom ∈ GW := gw_in (List.mem_of_getElem? (i := 509) (by decide +kernel)) rfl
theorem ql_X1_takeFrom : Cond.selects yX1_takeFrom.cls yX1_takeFrom yX1_takeFrom ∈ GW := gw_in (List.mem_of_getElem? (i := 510) (by decide +kernel)) rfl
theorem qc_X7_light : Cond.code yX7_light cX7_light 5 (some .int) ∈ GW := gw_in (List.mem_of_getElem? (i := 516) (by decide +kernel)) rfl
theorem qn_X7_light : Cond.instanceMethod yX7_light ∈ GW := gw_in (List.mem_of_getElem? (i := 514) (by decide +kernel)) rfl
theorem ql_X7_light : Cond.selects yX7_light.cls yX7_light yX7_light ∈ GW := gw_in (List.mem_of_getElem? (i := 515) (by decide +kernel)) rfl
theorem qc_X7_late : Cond.code yX7_late cX7_late 6 (some .int) ∈ GW := gw_in (List.mem_of_getElem? (i := 520) (by decide +kernel)) rfl
theorem qn_X7_late : Cond.instanceMethod yX7_late ∈ GW := gw_in (List.mem_of_getElem? (i := 518) (by decide +kernel)) rfl
theorem ql_X7_late : Cond.selects yX7_late.cls yX7_late yX7_late ∈ GW := gw_in (List.mem_of_getElem? (i := 519) (by decide +kernel)) rfl
theorem qc_X7_swing : Cond.code yX7_swing cX7_swing 11 (some .int) ∈ GW := gw_in (List.mem_of_getElem? (i := 524) (by decide +kernel)) rfl
theorem qn_X7_swing : Cond.instanceMethod yX7_swing ∈ GW := gw_in (List.mem_of_getElem? (i := 522) (by decide +kernel)) rfl
theorem ql_X7_swing : Cond.selects yX7_swing.cls yX7_swing yX7_swing ∈ GW := gw_in (List.mem_of_getElem? (i := 523) (by decide +kernel)) rfl
theorem qc_J9_max_7cf53 : Cond.code yJ9_max_7cf53 cJ9_max_7cf53 2 (some .int) ∈ GW := gw_in (List.mem_of_getElem? (i := 529) (by decide +kernel)) rfl
theorem qt_J9_max_7cf53 : Cond.static yJ9_max_7cf53 ∈ GW := gw_in (List.mem_of_getElem? (i := 528) (by decide +kernel)) rfl
theorem qc_X7_beats : Cond.code yX7_beats cX7_beats 3 (some .int) ∈ GW := gw_in (List.mem_of_getElem? (i := 533) (by decide +kernel)) rfl
theorem qn_X7_beats : Cond.instanceMethod yX7_beats ∈ GW := gw_in (List.mem_of_getElem? (i := 531) (by decide +kernel)) rfl
theorem ql_X7_beats : Cond.selects yX7_beats.cls yX7_beats yX7_beats ∈ GW := gw_in (List.mem_of_getElem? (i := 532) (by decide +kernel)) rfl
theorem qc_X7_beatenBy : Cond.code yX7_beatenBy cX7_beatenBy 7 (some .int) ∈ GW := gw_in (List.mem_of_getElem? (i := 537) (by decide +kernel)) rfl
theorem qn_X7_beatenBy : Cond.instanceMethod yX7_beatenBy ∈ GW := gw_in (List.mem_of_getElem? (i := 536) (by decide +kernel)) rfl
theorem ql_X7_beatenBy : Cond.selects yX7_beatenBy.cls yX7_beatenBy yX7_beatenBy ∈ GW := gw_in (List.mem_of_getElem? (i := 10) (by decide +kernel)) rfl
theorem qc_X7_five : Cond.code yX7_five cX7_five 8 (some .int) ∈ GW := gw_in (List.mem_of_getElem? (i := 541) (by decide +kernel)) rfl
theorem qn_X7_five : Cond.instanceMethod yX7_five ∈ GW := gw_in (List.mem_of_getElem? (i := 539) (by decide +kernel)) rfl
theorem ql_X7_five : Cond.selects yX7_five.cls yX7_five yX7_five ∈ GW := gw_in (List.mem_of_getElem? (i := 540) (by decide +kernel)) rfl
theorem qc_X7_champion : Cond.code yX7_champion cX7_champion 6 (some .int) ∈ GW := gw_in (List.mem_of_getElem? (i := 545) (by decide +kernel)) rfl
theorem qn_X7_champion : Cond.instanceMethod yX7_champion ∈ GW := gw_in (List.mem_of_getElem? (i := 543) (by decide +kernel)) rfl
theorem ql_X7_champion : Cond.selects yX7_champion.cls yX7_champion yX7_champion ∈ GW := gw_in (List.mem_of_getElem? (i := 544) (by decide +kernel)) rfl
theorem qc_J6_bitCount_0f7a4 : Cond.code yJ6_bitCount_0f7a4 cJ6_bitCount_0f7a4 1 (some .int) ∈ GW := gw_in (List.mem_of_getElem? (i := 548) (by decide +kernel)) rfl
theorem qt_J6_bitCount_0f7a4 : Cond.static yJ6_bitCount_0f7a4 ∈ GW := gw_in (List.mem_of_getElem? (i := 547) (by decide +kernel)) rfl
theorem qc_X7_feed : Cond.code yX7_feed cX7_feed 4 (some .int) ∈ GW := gw_in (List.mem_of_getElem? (i := 555) (by decide +kernel)) rfl
theorem qn_X7_feed : Cond.instanceMethod yX7_feed ∈ GW := gw_in (List.mem_of_getElem? (i := 553) (by decide +kernel)) rfl
theorem ql_X7_feed : Cond.selects yX7_feed.cls yX7_feed yX7_feed ∈ GW := gw_in (List.mem_of_getElem? (i := 554) (by decide +kernel)) rfl
theorem qc_X4_addByte : Cond.code yX4_addByte cX4_addByte 2 none ∈ GW := gw_in (List.mem_of_getElem? (i := 559) (by decide +kernel)) rfl
theorem qn_X4_addByte : Cond.instanceMethod yX4_addByte ∈ GW := gw_in (List.mem_of_getElem? (i := 557) (by decide +kernel)) rfl
theorem ql_X4_addByte : Cond.selects yX4_addByte.cls yX4_addByte yX4_addByte ∈ GW := gw_in (List.mem_of_getElem? (i := 558) (by decide +kernel)) rfl
theorem qc_X7_wipe : Cond.code yX7_wipe cX7_wipe 2 (some .int) ∈ GW := gw_in (List.mem_of_getElem? (i := 563) (by decide +kernel)) rfl
theorem qn_X7_wipe : Cond.instanceMethod yX7_wipe ∈ GW := gw_in (List.mem_of_getElem? (i := 561) (by decide +kernel)) rfl
theorem ql_X7_wipe : Cond.selects yX7_wipe.cls yX7_wipe yX7_wipe ∈ GW := gw_in (List.mem_of_getElem? (i := 562) (by decide +kernel)) rfl
theorem qc_X7_way : Cond.code yX7_way cX7_way 3 (some .int) ∈ GW := gw_in (List.mem_of_getElem? (i := 567) (by decide +kernel)) rfl
theorem qn_X7_way : Cond.instanceMethod yX7_way ∈ GW := gw_in (List.mem_of_getElem? (i := 565) (by decide +kernel)) rfl
theorem ql_X7_way : Cond.selects yX7_way.cls yX7_way yX7_way ∈ GW := gw_in (List.mem_of_getElem? (i := 566) (by decide +kernel)) rfl
theorem qc_X4_toWay : Cond.code yX4_toWay cX4_toWay 3 (some (.object "LogRollers$Way")) ∈ GW := gw_in (List.mem_of_getElem? (i := 571) (by decide +kernel)) rfl
theorem qn_X4_toWay : Cond.instanceMethod yX4_toWay ∈ GW := gw_in (List.mem_of_getElem? (i := 569) (by decide +kernel)) rfl
theorem ql_X4_toWay : Cond.selects yX4_toWay.cls yX4_toWay yX4_toWay ∈ GW := gw_in (List.mem_of_getElem? (i := 570) (by decide +kernel)) rfl
theorem qc_X5_init : Cond.code yX5_init cX5_init 1 none ∈ GW := gw_in (List.mem_of_getElem? (i := 576) (by decide +kernel)) rfl
theorem qn_X5_init : Cond.instanceMethod yX5_init ∈ GW := gw_in (List.mem_of_getElem? (i := 575) (by decide +kernel)) rfl
theorem qc_X4_nextToken : Cond.code yX4_nextToken cX4_nextToken 1 none ∈ GW := gw_in (List.mem_of_getElem? (i := 598) (by decide +kernel)) rfl
theorem qn_X4_nextToken : Cond.instanceMethod yX4_nextToken ∈ GW := gw_in (List.mem_of_getElem? (i := 597) (by decide +kernel)) rfl
theorem ql_X4_nextToken : Cond.selects yX4_nextToken.cls yX4_nextToken yX4_nextToken ∈ GW := gw_in (List.mem_of_getElem? (i := 11) (by decide +kernel)) rfl
theorem qc_X4_isLetter : Cond.code yX4_isLetter cX4_isLetter 1 (some .boolean) ∈ GW := gw_in (List.mem_of_getElem? (i := 601) (by decide +kernel)) rfl
theorem qt_X4_isLetter : Cond.static yX4_isLetter ∈ GW := gw_in (List.mem_of_getElem? (i := 600) (by decide +kernel)) rfl
theorem qc_X4_takeWord : Cond.code yX4_takeWord cX4_takeWord 1 none ∈ GW := gw_in (List.mem_of_getElem? (i := 605) (by decide +kernel)) rfl
theorem qn_X4_takeWord : Cond.instanceMethod yX4_takeWord ∈ GW := gw_in (List.mem_of_getElem? (i := 604) (by decide +kernel)) rfl
theorem ql_X4_takeWord : Cond.selects yX4_takeWord.cls yX4_takeWord yX4_takeWord ∈ GW := gw_in (List.mem_of_getElem? (i := 12) (by decide +kernel)) rfl
theorem qc_X4_isDigit : Cond.code yX4_isDigit cX4_isDigit 1 (some .boolean) ∈ GW := gw_in (List.mem_of_getElem? (i := 608) (by decide +kernel)) rfl
theorem qt_X4_isDigit : Cond.static yX4_isDigit ∈ GW := gw_in (List.mem_of_getElem? (i := 607) (by decide +kernel)) rfl
theorem qc_X4_takeNumber : Cond.code yX4_takeNumber cX4_takeNumber 2 none ∈ GW := gw_in (List.mem_of_getElem? (i := 612) (by decide +kernel)) rfl
theorem qn_X4_takeNumber : Cond.instanceMethod yX4_takeNumber ∈ GW := gw_in (List.mem_of_getElem? (i := 611) (by decide +kernel)) rfl
theorem ql_X4_takeNumber : Cond.selects yX4_takeNumber.cls yX4_takeNumber yX4_takeNumber ∈ GW := gw_in (List.mem_of_getElem? (i := 13) (by decide +kernel)) rfl
theorem qc_J9_min_7cf53 : Cond.code yJ9_min_7cf53 cJ9_min_7cf53 2 (some .int) ∈ GW := gw_in (List.mem_of_getElem? (i := 615) (by decide +kernel)) rfl
theorem qt_J9_min_7cf53 : Cond.static yJ9_min_7cf53 ∈ GW := gw_in (List.mem_of_getElem? (i := 614) (by decide +kernel)) rfl
theorem qc_X4_isSign : Cond.code yX4_isSign cX4_isSign 1 (some .boolean) ∈ GW := gw_in (List.mem_of_getElem? (i := 618) (by decide +kernel)) rfl
theorem qt_X4_isSign : Cond.static yX4_isSign ∈ GW := gw_in (List.mem_of_getElem? (i := 617) (by decide +kernel)) rfl
theorem qc_X4_takeRule : Cond.code yX4_takeRule cX4_takeRule 6 (some .boolean) ∈ GW := gw_in (List.mem_of_getElem? (i := 622) (by decide +kernel)) rfl
theorem qn_X4_takeRule : Cond.instanceMethod yX4_takeRule ∈ GW := gw_in (List.mem_of_getElem? (i := 621) (by decide +kernel)) rfl
theorem ql_X4_takeRule : Cond.selects yX4_takeRule.cls yX4_takeRule yX4_takeRule ∈ GW := gw_in (List.mem_of_getElem? (i := 14) (by decide +kernel)) rfl
theorem qc_X4_nameHere : Cond.code yX4_nameHere cX4_nameHere 1 (some .int) ∈ GW := gw_in (List.mem_of_getElem? (i := 626) (by decide +kernel)) rfl
theorem qn_X4_nameHere : Cond.instanceMethod yX4_nameHere ∈ GW := gw_in (List.mem_of_getElem? (i := 625) (by decide +kernel)) rfl
theorem ql_X4_nameHere : Cond.selects yX4_nameHere.cls yX4_nameHere yX4_nameHere ∈ GW := gw_in (List.mem_of_getElem? (i := 15) (by decide +kernel)) rfl
theorem qc_X4_isWord : Cond.code yX4_isWord cX4_isWord 3 (some .boolean) ∈ GW := gw_in (List.mem_of_getElem? (i := 631) (by decide +kernel)) rfl
theorem qn_X4_isWord : Cond.instanceMethod yX4_isWord ∈ GW := gw_in (List.mem_of_getElem? (i := 630) (by decide +kernel)) rfl
theorem ql_X4_isWord : Cond.selects yX4_isWord.cls yX4_isWord yX4_isWord ∈ GW := gw_in (List.mem_of_getElem? (i := 16) (by decide +kernel)) rfl
theorem qc_J0_length_8abf5 : Cond.code yJ0_length_8abf5 cJ0_length_8abf5 1 (some .int) ∈ GW := gw_in (List.mem_of_getElem? (i := 635) (by decide +kernel)) rfl
theorem qn_J0_length_8abf5 : Cond.instanceMethod yJ0_length_8abf5 ∈ GW := gw_in (List.mem_of_getElem? (i := 633) (by decide +kernel)) rfl
theorem ql_J0_length_8abf5 : Cond.selects yJ0_length_8abf5.cls yJ0_length_8abf5 yJ0_length_8abf5 ∈ GW := gw_in (List.mem_of_getElem? (i := 634) (by decide +kernel)) rfl
theorem qc_J0_coder_7d493 : Cond.code yJ0_coder_7d493 cJ0_coder_7d493 1 (some .byte) ∈ GW := gw_in (List.mem_of_getElem? (i := 639) (by decide +kernel)) rfl
theorem qn_J0_coder_7d493 : Cond.instanceMethod yJ0_coder_7d493 ∈ GW := gw_in (List.mem_of_getElem? (i := 637) (by decide +kernel)) rfl
theorem ql_J0_coder_7d493 : Cond.selects yJ0_coder_7d493.cls yJ0_coder_7d493 yJ0_coder_7d493 ∈ GW := gw_in (List.mem_of_getElem? (i := 638) (by decide +kernel)) rfl
theorem qc_J0_charAt_5068e : Cond.code yJ0_charAt_5068e cJ0_charAt_5068e 2 (some .char) ∈ GW := gw_in (List.mem_of_getElem? (i := 645) (by decide +kernel)) rfl
theorem qn_J0_charAt_5068e : Cond.instanceMethod yJ0_charAt_5068e ∈ GW := gw_in (List.mem_of_getElem? (i := 643) (by decide +kernel)) rfl
theorem ql_J0_charAt_5068e : Cond.selects yJ0_charAt_5068e.cls yJ0_charAt_5068e yJ0_charAt_5068e ∈ GW := gw_in (List.mem_of_getElem? (i := 644) (by decide +kernel)) rfl
theorem qc_J0_isLatin1_aae02 : Cond.code yJ0_isLatin1_aae02 cJ0_isLatin1_aae02 1 (some .boolean) ∈ GW := gw_in (List.mem_of_getElem? (i := 649) (by decide +kernel)) rfl
theorem qn_J0_isLatin1_aae02 : Cond.instanceMethod yJ0_isLatin1_aae02 ∈ GW := gw_in (List.mem_of_getElem? (i := 647) (by decide +kernel)) rfl
theorem ql_J0_isLatin1_aae02 : Cond.selects yJ0_isLatin1_aae02.cls yJ0_isLatin1_aae02 yJ0_isLatin1_aae02 ∈ GW := gw_in (List.mem_of_getElem? (i := 648) (by decide +kernel)) rfl
theorem qc_J1_charAt_3b067 : Cond.code yJ1_charAt_3b067 cJ1_charAt_3b067 2 (some .char) ∈ GW := gw_in (List.mem_of_getElem? (i := 652) (by decide +kernel)) rfl
theorem qt_J1_charAt_3b067 : Cond.static yJ1_charAt_3b067 ∈ GW := gw_in (List.mem_of_getElem? (i := 651) (by decide +kernel)) rfl
theorem qc_J0_checkIndex_df160 : Cond.code yJ0_checkIndex_df160 cJ0_checkIndex_df160 2 none ∈ GW := gw_in (List.mem_of_getElem? (i := 655) (by decide +kernel)) rfl
theorem qt_J0_checkIndex_df160 : Cond.static yJ0_checkIndex_df160 ∈ GW := gw_in (List.mem_of_getElem? (i := 654) (by decide +kernel)) rfl
theorem qc_J3_checkIndex_8e157 : Cond.code yJ3_checkIndex_8e157 cJ3_checkIndex_8e157 3 (some .int) ∈ GW := gw_in (List.mem_of_getElem? (i := 660) (by decide +kernel)) rfl
theorem qt_J3_checkIndex_8e157 : Cond.static yJ3_checkIndex_8e157 ∈ GW := gw_in (List.mem_of_getElem? (i := 659) (by decide +kernel)) rfl
theorem qc_J2_charAt_3b067 : Cond.code yJ2_charAt_3b067 cJ2_charAt_3b067 2 (some .char) ∈ GW := gw_in (List.mem_of_getElem? (i := 663) (by decide +kernel)) rfl
theorem qt_J2_charAt_3b067 : Cond.static yJ2_charAt_3b067 ∈ GW := gw_in (List.mem_of_getElem? (i := 662) (by decide +kernel)) rfl
theorem qc_J2_checkIndex_2214a : Cond.code yJ2_checkIndex_2214a cJ2_checkIndex_2214a 2 none ∈ GW := gw_in (List.mem_of_getElem? (i := 666) (by decide +kernel)) rfl
theorem qt_J2_checkIndex_2214a : Cond.static yJ2_checkIndex_2214a ∈ GW := gw_in (List.mem_of_getElem? (i := 665) (by decide +kernel)) rfl
theorem qc_J2_length_9d52b : Cond.code yJ2_length_9d52b cJ2_length_9d52b 1 (some .int) ∈ GW := gw_in (List.mem_of_getElem? (i := 669) (by decide +kernel)) rfl
theorem qt_J2_length_9d52b : Cond.static yJ2_length_9d52b ∈ GW := gw_in (List.mem_of_getElem? (i := 668) (by decide +kernel)) rfl
theorem qc_J2_getChar_3b067 : Cond.code yJ2_getChar_3b067 cJ2_getChar_3b067 2 (some .char) ∈ GW := gw_in (List.mem_of_getElem? (i := 673) (by decide +kernel)) rfl
theorem qt_J2_getChar_3b067 : Cond.static yJ2_getChar_3b067 ∈ GW := gw_in (List.mem_of_getElem? (i := 672) (by decide +kernel)) rfl
theorem qc_X4_takeComparison : Cond.code yX4_takeComparison cX4_takeComparison 3 (some .boolean) ∈ GW := gw_in (List.mem_of_getElem? (i := 687) (by decide +kernel)) rfl
theorem qn_X4_takeComparison : Cond.instanceMethod yX4_takeComparison ∈ GW := gw_in (List.mem_of_getElem? (i := 686) (by decide +kernel)) rfl
theorem ql_X4_takeComparison : Cond.selects yX4_takeComparison.cls yX4_takeComparison yX4_takeComparison ∈ GW := gw_in (List.mem_of_getElem? (i := 17) (by decide +kernel)) rfl
theorem qc_X4_deedHere : Cond.code yX4_deedHere cX4_deedHere 1 (some .int) ∈ GW := gw_in (List.mem_of_getElem? (i := 691) (by decide +kernel)) rfl
theorem qn_X4_deedHere : Cond.instanceMethod yX4_deedHere ∈ GW := gw_in (List.mem_of_getElem? (i := 690) (by decide +kernel)) rfl
theorem ql_X4_deedHere : Cond.selects yX4_deedHere.cls yX4_deedHere yX4_deedHere ∈ GW := gw_in (List.mem_of_getElem? (i := 18) (by decide +kernel)) rfl
theorem qc_X5_addRule : Cond.code yX5_addRule cX5_addRule 5 none ∈ GW := gw_in (List.mem_of_getElem? (i := 700) (by decide +kernel)) rfl
theorem qn_X5_addRule : Cond.instanceMethod yX5_addRule ∈ GW := gw_in (List.mem_of_getElem? (i := 698) (by decide +kernel)) rfl
theorem ql_X5_addRule : Cond.selects yX5_addRule.cls yX5_addRule yX5_addRule ∈ GW := gw_in (List.mem_of_getElem? (i := 699) (by decide +kernel)) rfl
theorem qc_X7_rules : Cond.code yX7_rules cX7_rules 3 (some .int) ∈ GW := gw_in (List.mem_of_getElem? (i := 705) (by decide +kernel)) rfl
theorem qn_X7_rules : Cond.instanceMethod yX7_rules ∈ GW := gw_in (List.mem_of_getElem? (i := 703) (by decide +kernel)) rfl
theorem ql_X7_rules : Cond.selects yX7_rules.cls yX7_rules yX7_rules ∈ GW := gw_in (List.mem_of_getElem? (i := 704) (by decide +kernel)) rfl
theorem qc_X7_holds : Cond.code yX7_holds cX7_holds 8 (some .int) ∈ GW := gw_in (List.mem_of_getElem? (i := 709) (by decide +kernel)) rfl
theorem qn_X7_holds : Cond.instanceMethod yX7_holds ∈ GW := gw_in (List.mem_of_getElem? (i := 707) (by decide +kernel)) rfl
theorem ql_X7_holds : Cond.selects yX7_holds.cls yX7_holds yX7_holds ∈ GW := gw_in (List.mem_of_getElem? (i := 708) (by decide +kernel)) rfl
theorem qc_X7_sheet : Cond.code yX7_sheet cX7_sheet 5 (some .int) ∈ GW := gw_in (List.mem_of_getElem? (i := 714) (by decide +kernel)) rfl
theorem qn_X7_sheet : Cond.instanceMethod yX7_sheet ∈ GW := gw_in (List.mem_of_getElem? (i := 712) (by decide +kernel)) rfl
theorem ql_X7_sheet : Cond.selects yX7_sheet.cls yX7_sheet yX7_sheet ∈ GW := gw_in (List.mem_of_getElem? (i := 713) (by decide +kernel)) rfl
theorem qc_X7_isSheet : Cond.code yX7_isSheet cX7_isSheet 1 (some .boolean) ∈ GW := gw_in (List.mem_of_getElem? (i := 717) (by decide +kernel)) rfl
theorem qt_X7_isSheet : Cond.static yX7_isSheet ∈ GW := gw_in (List.mem_of_getElem? (i := 716) (by decide +kernel)) rfl
theorem qc_X2_begin : Cond.code yX2_begin cX2_begin 4 none ∈ GW := gw_in (List.mem_of_getElem? (i := 722) (by decide +kernel)) rfl
theorem qn_X2_begin : Cond.instanceMethod yX2_begin ∈ GW := gw_in (List.mem_of_getElem? (i := 720) (by decide +kernel)) rfl
theorem ql_X2_begin : Cond.selects yX2_begin.cls yX2_begin yX2_begin ∈ GW := gw_in (List.mem_of_getElem? (i := 721) (by decide +kernel)) rfl
theorem qc_X7_write : Cond.code yX7_write cX7_write 7 (some .long) ∈ GW := gw_in (List.mem_of_getElem? (i := 726) (by decide +kernel)) rfl
theorem qn_X7_write : Cond.instanceMethod yX7_write ∈ GW := gw_in (List.mem_of_getElem? (i := 724) (by decide +kernel)) rfl
theorem ql_X7_write : Cond.selects yX7_write.cls yX7_write yX7_write ∈ GW := gw_in (List.mem_of_getElem? (i := 725) (by decide +kernel)) rfl
theorem qc_X2_isMissing : Cond.code yX2_isMissing cX2_isMissing 1 (some .boolean) ∈ GW := gw_in (List.mem_of_getElem? (i := 730) (by decide +kernel)) rfl
theorem qn_X2_isMissing : Cond.instanceMethod yX2_isMissing ∈ GW := gw_in (List.mem_of_getElem? (i := 728) (by decide +kernel)) rfl
theorem ql_X2_isMissing : Cond.selects yX2_isMissing.cls yX2_isMissing yX2_isMissing ∈ GW := gw_in (List.mem_of_getElem? (i := 729) (by decide +kernel)) rfl
theorem qc_X2_put : Cond.code yX2_put cX2_put 4 none ∈ GW := gw_in (List.mem_of_getElem? (i := 735) (by decide +kernel)) rfl
theorem qn_X2_put : Cond.instanceMethod yX2_put ∈ GW := gw_in (List.mem_of_getElem? (i := 733) (by decide +kernel)) rfl
theorem ql_X2_put : Cond.selects yX2_put.cls yX2_put yX2_put ∈ GW := gw_in (List.mem_of_getElem? (i := 734) (by decide +kernel)) rfl
theorem qc_X7_copy : Cond.code yX7_copy cX7_copy 6 (some .int) ∈ GW := gw_in (List.mem_of_getElem? (i := 740) (by decide +kernel)) rfl
theorem qn_X7_copy : Cond.instanceMethod yX7_copy ∈ GW := gw_in (List.mem_of_getElem? (i := 738) (by decide +kernel)) rfl
theorem ql_X7_copy : Cond.selects yX7_copy.cls yX7_copy yX7_copy ∈ GW := gw_in (List.mem_of_getElem? (i := 739) (by decide +kernel)) rfl
theorem qc_X2_hasRow : Cond.code yX2_hasRow cX2_hasRow 3 (some .boolean) ∈ GW := gw_in (List.mem_of_getElem? (i := 744) (by decide +kernel)) rfl
theorem qn_X2_hasRow : Cond.instanceMethod yX2_hasRow ∈ GW := gw_in (List.mem_of_getElem? (i := 742) (by decide +kernel)) rfl
theorem ql_X2_hasRow : Cond.selects yX2_hasRow.cls yX2_hasRow yX2_hasRow ∈ GW := gw_in (List.mem_of_getElem? (i := 743) (by decide +kernel)) rfl
theorem qc_X7_film : Cond.code yX7_film cX7_film 8 (some .int) ∈ GW := gw_in (List.mem_of_getElem? (i := 751) (by decide +kernel)) rfl
theorem qn_X7_film : Cond.instanceMethod yX7_film ∈ GW := gw_in (List.mem_of_getElem? (i := 749) (by decide +kernel)) rfl
theorem ql_X7_film : Cond.selects yX7_film.cls yX7_film yX7_film ∈ GW := gw_in (List.mem_of_getElem? (i := 750) (by decide +kernel)) rfl
theorem qc_X7_sheetFinding : Cond.code yX7_sheetFinding cX7_sheetFinding 4 (some .int) ∈ GW := gw_in (List.mem_of_getElem? (i := 755) (by decide +kernel)) rfl
theorem qn_X7_sheetFinding : Cond.instanceMethod yX7_sheetFinding ∈ GW := gw_in (List.mem_of_getElem? (i := 754) (by decide +kernel)) rfl
theorem ql_X7_sheetFinding : Cond.selects yX7_sheetFinding.cls yX7_sheetFinding yX7_sheetFinding ∈ GW := gw_in (List.mem_of_getElem? (i := 19) (by decide +kernel)) rfl
theorem qc_X7_read : Cond.code yX7_read cX7_read 8 (some .int) ∈ GW := gw_in (List.mem_of_getElem? (i := 759) (by decide +kernel)) rfl
theorem qn_X7_read : Cond.instanceMethod yX7_read ∈ GW := gw_in (List.mem_of_getElem? (i := 757) (by decide +kernel)) rfl
theorem ql_X7_read : Cond.selects yX7_read.cls yX7_read yX7_read ∈ GW := gw_in (List.mem_of_getElem? (i := 758) (by decide +kernel)) rfl
theorem qc_X7_image : Cond.code yX7_image cX7_image 1 (some .int) ∈ GW := gw_in (List.mem_of_getElem? (i := 763) (by decide +kernel)) rfl
theorem qn_X7_image : Cond.instanceMethod yX7_image ∈ GW := gw_in (List.mem_of_getElem? (i := 761) (by decide +kernel)) rfl
theorem ql_X7_image : Cond.selects yX7_image.cls yX7_image yX7_image ∈ GW := gw_in (List.mem_of_getElem? (i := 762) (by decide +kernel)) rfl
theorem qc_X6_takeFrom : Cond.code yX6_takeFrom cX6_takeFrom 3 none ∈ GW := gw_in (List.mem_of_getElem? (i := 767) (by decide +kernel)) rfl
theorem qn_X6_takeFrom : Cond.instanceMethod yX6_takeFrom ∈ GW := gw_in (List.mem_of_getElem? (i := 765) (by decide +kernel)) rfl
theorem ql_X6_takeFrom : Cond.selects yX6_takeFrom.cls yX6_takeFrom yX6_takeFrom ∈ GW := gw_in (List.mem_of_getElem? (i := 766) (by decide +kernel)) rfl
theorem qc_X0_takeFrom : Cond.code yX0_takeFrom cX0_takeFrom 3 none ∈ GW := gw_in (List.mem_of_getElem? (i := 772) (by decide +kernel)) rfl
theorem qn_X0_takeFrom : Cond.instanceMethod yX0_takeFrom ∈ GW := gw_in (List.mem_of_getElem? (i := 770) (by decide +kernel)) rfl
theorem ql_X0_takeFrom : Cond.selects yX0_takeFrom.cls yX0_takeFrom yX0_takeFrom ∈ GW := gw_in (List.mem_of_getElem? (i := 771) (by decide +kernel)) rfl
theorem qc_X3_takeFrom : Cond.code yX3_takeFrom cX3_takeFrom 2 none ∈ GW := gw_in (List.mem_of_getElem? (i := 776) (by decide +kernel)) rfl
theorem qn_X3_takeFrom : Cond.instanceMethod yX3_takeFrom ∈ GW := gw_in (List.mem_of_getElem? (i := 774) (by decide +kernel)) rfl
theorem ql_X3_takeFrom : Cond.selects yX3_takeFrom.cls yX3_takeFrom yX3_takeFrom ∈ GW := gw_in (List.mem_of_getElem? (i := 775) (by decide +kernel)) rfl
theorem qc_X7_undo : Cond.code yX7_undo cX7_undo 1 (some .int) ∈ GW := gw_in (List.mem_of_getElem? (i := 780) (by decide +kernel)) rfl
theorem qn_X7_undo : Cond.instanceMethod yX7_undo ∈ GW := gw_in (List.mem_of_getElem? (i := 778) (by decide +kernel)) rfl
theorem ql_X7_undo : Cond.selects yX7_undo.cls yX7_undo yX7_undo ∈ GW := gw_in (List.mem_of_getElem? (i := 779) (by decide +kernel)) rfl
theorem qc_X7_tear : Cond.code yX7_tear cX7_tear 2 (some .int) ∈ GW := gw_in (List.mem_of_getElem? (i := 784) (by decide +kernel)) rfl
theorem qn_X7_tear : Cond.instanceMethod yX7_tear ∈ GW := gw_in (List.mem_of_getElem? (i := 782) (by decide +kernel)) rfl
theorem ql_X7_tear : Cond.selects yX7_tear.cls yX7_tear yX7_tear ∈ GW := gw_in (List.mem_of_getElem? (i := 783) (by decide +kernel)) rfl
theorem qc_X7_count : Cond.code yX7_count cX7_count 2 (some .int) ∈ GW := gw_in (List.mem_of_getElem? (i := 788) (by decide +kernel)) rfl
theorem qn_X7_count : Cond.instanceMethod yX7_count ∈ GW := gw_in (List.mem_of_getElem? (i := 786) (by decide +kernel)) rfl
theorem ql_X7_count : Cond.selects yX7_count.cls yX7_count yX7_count ∈ GW := gw_in (List.mem_of_getElem? (i := 787) (by decide +kernel)) rfl
theorem qc_X6_allFalls : Cond.code yX6_allFalls cX6_allFalls 3 (some .int) ∈ GW := gw_in (List.mem_of_getElem? (i := 792) (by decide +kernel)) rfl
theorem qn_X6_allFalls : Cond.instanceMethod yX6_allFalls ∈ GW := gw_in (List.mem_of_getElem? (i := 790) (by decide +kernel)) rfl
theorem ql_X6_allFalls : Cond.selects yX6_allFalls.cls yX6_allFalls yX6_allFalls ∈ GW := gw_in (List.mem_of_getElem? (i := 791) (by decide +kernel)) rfl
theorem qc_X7_status : Cond.code yX7_status cX7_status 4 (some .int) ∈ GW := gw_in (List.mem_of_getElem? (i := 796) (by decide +kernel)) rfl
theorem qn_X7_status : Cond.instanceMethod yX7_status ∈ GW := gw_in (List.mem_of_getElem? (i := 794) (by decide +kernel)) rfl
theorem ql_X7_status : Cond.selects yX7_status.cls yX7_status yX7_status ∈ GW := gw_in (List.mem_of_getElem? (i := 795) (by decide +kernel)) rfl
theorem qc_X8_init : Cond.code yX8_init cX8_init 1 none ∈ GW := gw_in (List.mem_of_getElem? (i := 801) (by decide +kernel)) rfl
theorem qn_X8_init : Cond.instanceMethod yX8_init ∈ GW := gw_in (List.mem_of_getElem? (i := 800) (by decide +kernel)) rfl
theorem qc_X8_roller : Cond.code yX8_roller cX8_roller 4 (some .int) ∈ GW := gw_in (List.mem_of_getElem? (i := 864) (by decide +kernel)) rfl
theorem qn_X8_roller : Cond.instanceMethod yX8_roller ∈ GW := gw_in (List.mem_of_getElem? (i := 862) (by decide +kernel)) rfl
theorem ql_X8_roller : Cond.selects yX8_roller.cls yX8_roller yX8_roller ∈ GW := gw_in (List.mem_of_getElem? (i := 863) (by decide +kernel)) rfl
theorem qc_X8_in : Cond.code yX8_in cX8_in 6 (some .boolean) ∈ GW := gw_in (List.mem_of_getElem? (i := 868) (by decide +kernel)) rfl
theorem qt_X8_in : Cond.static yX8_in ∈ GW := gw_in (List.mem_of_getElem? (i := 867) (by decide +kernel)) rfl
theorem qc_X8_finds : Cond.code yX8_finds cX8_finds 2 (some .int) ∈ GW := gw_in (List.mem_of_getElem? (i := 874) (by decide +kernel)) rfl
theorem qn_X8_finds : Cond.instanceMethod yX8_finds ∈ GW := gw_in (List.mem_of_getElem? (i := 873) (by decide +kernel)) rfl
theorem ql_X8_finds : Cond.selects yX8_finds.cls yX8_finds yX8_finds ∈ GW := gw_in (List.mem_of_getElem? (i := 20) (by decide +kernel)) rfl
theorem qc_X8_of : Cond.code yX8_of cX8_of 3 (some .int) ∈ GW := gw_in (List.mem_of_getElem? (i := 879) (by decide +kernel)) rfl
theorem qn_X8_of : Cond.instanceMethod yX8_of ∈ GW := gw_in (List.mem_of_getElem? (i := 877) (by decide +kernel)) rfl
theorem ql_X8_of : Cond.selects yX8_of.cls yX8_of yX8_of ∈ GW := gw_in (List.mem_of_getElem? (i := 878) (by decide +kernel)) rfl
theorem qc_X8_isPerson : Cond.code yX8_isPerson cX8_isPerson 2 (some .boolean) ∈ GW := gw_in (List.mem_of_getElem? (i := 883) (by decide +kernel)) rfl
theorem qn_X8_isPerson : Cond.instanceMethod yX8_isPerson ∈ GW := gw_in (List.mem_of_getElem? (i := 882) (by decide +kernel)) rfl
theorem ql_X8_isPerson : Cond.selects yX8_isPerson.cls yX8_isPerson yX8_isPerson ∈ GW := gw_in (List.mem_of_getElem? (i := 21) (by decide +kernel)) rfl
theorem qc_X8_set : Cond.code yX8_set cX8_set 5 (some .int) ∈ GW := gw_in (List.mem_of_getElem? (i := 888) (by decide +kernel)) rfl
theorem qn_X8_set : Cond.instanceMethod yX8_set ∈ GW := gw_in (List.mem_of_getElem? (i := 886) (by decide +kernel)) rfl
theorem ql_X8_set : Cond.selects yX8_set.cls yX8_set yX8_set ∈ GW := gw_in (List.mem_of_getElem? (i := 887) (by decide +kernel)) rfl
theorem qc_X8_mayBe : Cond.code yX8_mayBe cX8_mayBe 3 (some .boolean) ∈ GW := gw_in (List.mem_of_getElem? (i := 892) (by decide +kernel)) rfl
theorem qn_X8_mayBe : Cond.instanceMethod yX8_mayBe ∈ GW := gw_in (List.mem_of_getElem? (i := 891) (by decide +kernel)) rfl
theorem ql_X8_mayBe : Cond.selects yX8_mayBe.cls yX8_mayBe yX8_mayBe ∈ GW := gw_in (List.mem_of_getElem? (i := 22) (by decide +kernel)) rfl
theorem qc_X8_isOnLog : Cond.code yX8_isOnLog cX8_isOnLog 2 (some .boolean) ∈ GW := gw_in (List.mem_of_getElem? (i := 900) (by decide +kernel)) rfl
theorem qn_X8_isOnLog : Cond.instanceMethod yX8_isOnLog ∈ GW := gw_in (List.mem_of_getElem? (i := 899) (by decide +kernel)) rfl
theorem ql_X8_isOnLog : Cond.selects yX8_isOnLog.cls yX8_isOnLog yX8_isOnLog ∈ GW := gw_in (List.mem_of_getElem? (i := 23) (by decide +kernel)) rfl
theorem qc_X8_as : Cond.code yX8_as cX8_as 3 (some .int) ∈ GW := gw_in (List.mem_of_getElem? (i := 905) (by decide +kernel)) rfl
theorem qn_X8_as : Cond.instanceMethod yX8_as ∈ GW := gw_in (List.mem_of_getElem? (i := 903) (by decide +kernel)) rfl
theorem ql_X8_as : Cond.selects yX8_as.cls yX8_as yX8_as ∈ GW := gw_in (List.mem_of_getElem? (i := 904) (by decide +kernel)) rfl
theorem qc_X8_told : Cond.code yX8_told cX8_told 3 (some .int) ∈ GW := gw_in (List.mem_of_getElem? (i := 908) (by decide +kernel)) rfl
theorem qt_X8_told : Cond.static yX8_told ∈ GW := gw_in (List.mem_of_getElem? (i := 907) (by decide +kernel)) rfl
theorem qc_X8_isOf : Cond.code yX8_isOf cX8_isOf 2 (some .boolean) ∈ GW := gw_in (List.mem_of_getElem? (i := 911) (by decide +kernel)) rfl
theorem qt_X8_isOf : Cond.static yX8_isOf ∈ GW := gw_in (List.mem_of_getElem? (i := 910) (by decide +kernel)) rfl
theorem qc_X8_log : Cond.code yX8_log cX8_log 6 (some .int) ∈ GW := gw_in (List.mem_of_getElem? (i := 916) (by decide +kernel)) rfl
theorem qn_X8_log : Cond.instanceMethod yX8_log ∈ GW := gw_in (List.mem_of_getElem? (i := 914) (by decide +kernel)) rfl
theorem ql_X8_log : Cond.selects yX8_log.cls yX8_log yX8_log ∈ GW := gw_in (List.mem_of_getElem? (i := 915) (by decide +kernel)) rfl
theorem qc_X8_push : Cond.code yX8_push cX8_push 6 (some .int) ∈ GW := gw_in (List.mem_of_getElem? (i := 921) (by decide +kernel)) rfl
theorem qn_X8_push : Cond.instanceMethod yX8_push ∈ GW := gw_in (List.mem_of_getElem? (i := 919) (by decide +kernel)) rfl
theorem ql_X8_push : Cond.selects yX8_push.cls yX8_push yX8_push ∈ GW := gw_in (List.mem_of_getElem? (i := 920) (by decide +kernel)) rfl
theorem qc_X8_pushOf : Cond.code yX8_pushOf cX8_pushOf 10 (some .int) ∈ GW := gw_in (List.mem_of_getElem? (i := 927) (by decide +kernel)) rfl
theorem qt_X8_pushOf : Cond.static yX8_pushOf ∈ GW := gw_in (List.mem_of_getElem? (i := 926) (by decide +kernel)) rfl
theorem qc_X8_held : Cond.code yX8_held cX8_held 2 (some .int) ∈ GW := gw_in (List.mem_of_getElem? (i := 930) (by decide +kernel)) rfl
theorem qt_X8_held : Cond.static yX8_held ∈ GW := gw_in (List.mem_of_getElem? (i := 929) (by decide +kernel)) rfl
theorem qc_X8_size : Cond.code yX8_size cX8_size 1 (some .int) ∈ GW := gw_in (List.mem_of_getElem? (i := 933) (by decide +kernel)) rfl
theorem qt_X8_size : Cond.static yX8_size ∈ GW := gw_in (List.mem_of_getElem? (i := 932) (by decide +kernel)) rfl
theorem qc_X8_ruleOf : Cond.code yX8_ruleOf cX8_ruleOf 10 (some .int) ∈ GW := gw_in (List.mem_of_getElem? (i := 936) (by decide +kernel)) rfl
theorem qt_X8_ruleOf : Cond.static yX8_ruleOf ∈ GW := gw_in (List.mem_of_getElem? (i := 935) (by decide +kernel)) rfl
theorem qc_X8_mount : Cond.code yX8_mount cX8_mount 3 (some .int) ∈ GW := gw_in (List.mem_of_getElem? (i := 940) (by decide +kernel)) rfl
theorem qn_X8_mount : Cond.instanceMethod yX8_mount ∈ GW := gw_in (List.mem_of_getElem? (i := 938) (by decide +kernel)) rfl
theorem ql_X8_mount : Cond.selects yX8_mount.cls yX8_mount yX8_mount ∈ GW := gw_in (List.mem_of_getElem? (i := 939) (by decide +kernel)) rfl
theorem qc_X8_areTwo : Cond.code yX8_areTwo cX8_areTwo 3 (some .boolean) ∈ GW := gw_in (List.mem_of_getElem? (i := 944) (by decide +kernel)) rfl
theorem qn_X8_areTwo : Cond.instanceMethod yX8_areTwo ∈ GW := gw_in (List.mem_of_getElem? (i := 943) (by decide +kernel)) rfl
theorem ql_X8_areTwo : Cond.selects yX8_areTwo.cls yX8_areTwo yX8_areTwo ∈ GW := gw_in (List.mem_of_getElem? (i := 24) (by decide +kernel)) rfl
theorem qc_X8_getsOn : Cond.code yX8_getsOn cX8_getsOn 4 none ∈ GW := gw_in (List.mem_of_getElem? (i := 947) (by decide +kernel)) rfl
theorem qt_X8_getsOn : Cond.static yX8_getsOn ∈ GW := gw_in (List.mem_of_getElem? (i := 946) (by decide +kernel)) rfl
theorem qc_X8_off : Cond.code yX8_off cX8_off 1 (some .int) ∈ GW := gw_in (List.mem_of_getElem? (i := 951) (by decide +kernel)) rfl
theorem qn_X8_off : Cond.instanceMethod yX8_off ∈ GW := gw_in (List.mem_of_getElem? (i := 949) (by decide +kernel)) rfl
theorem ql_X8_off : Cond.selects yX8_off.cls yX8_off yX8_off ∈ GW := gw_in (List.mem_of_getElem? (i := 950) (by decide +kernel)) rfl
theorem qc_X8_bout : Cond.code yX8_bout cX8_bout 4 (some .int) ∈ GW := gw_in (List.mem_of_getElem? (i := 955) (by decide +kernel)) rfl
theorem qn_X8_bout : Cond.instanceMethod yX8_bout ∈ GW := gw_in (List.mem_of_getElem? (i := 953) (by decide +kernel)) rfl
theorem ql_X8_bout : Cond.selects yX8_bout.cls yX8_bout yX8_bout ∈ GW := gw_in (List.mem_of_getElem? (i := 954) (by decide +kernel)) rfl
theorem qc_X8_goesBy : Cond.code yX8_goesBy cX8_goesBy 8 (some .int) ∈ GW := gw_in (List.mem_of_getElem? (i := 959) (by decide +kernel)) rfl
theorem qt_X8_goesBy : Cond.static yX8_goesBy ∈ GW := gw_in (List.mem_of_getElem? (i := 958) (by decide +kernel)) rfl
theorem qc_X8_sees : Cond.code yX8_sees cX8_sees 3 (some .int) ∈ GW := gw_in (List.mem_of_getElem? (i := 962) (by decide +kernel)) rfl
theorem qt_X8_sees : Cond.static yX8_sees ∈ GW := gw_in (List.mem_of_getElem? (i := 961) (by decide +kernel)) rfl
theorem qc_X8_pushes : Cond.code yX8_pushes cX8_pushes 3 (some .int) ∈ GW := gw_in (List.mem_of_getElem? (i := 965) (by decide +kernel)) rfl
theorem qt_X8_pushes : Cond.static yX8_pushes ∈ GW := gw_in (List.mem_of_getElem? (i := 964) (by decide +kernel)) rfl
theorem qc_X8_costOf : Cond.code yX8_costOf cX8_costOf 1 (some .int) ∈ GW := gw_in (List.mem_of_getElem? (i := 968) (by decide +kernel)) rfl
theorem qt_X8_costOf : Cond.static yX8_costOf ∈ GW := gw_in (List.mem_of_getElem? (i := 967) (by decide +kernel)) rfl
theorem qc_X8_steps : Cond.code yX8_steps cX8_steps 3 none ∈ GW := gw_in (List.mem_of_getElem? (i := 971) (by decide +kernel)) rfl
theorem qt_X8_steps : Cond.static yX8_steps ∈ GW := gw_in (List.mem_of_getElem? (i := 970) (by decide +kernel)) rfl
theorem qc_X8_slips : Cond.code yX8_slips cX8_slips 1 (some .boolean) ∈ GW := gw_in (List.mem_of_getElem? (i := 974) (by decide +kernel)) rfl
theorem qt_X8_slips : Cond.static yX8_slips ∈ GW := gw_in (List.mem_of_getElem? (i := 973) (by decide +kernel)) rfl
theorem qc_X8_falls : Cond.code yX8_falls cX8_falls 2 (some .boolean) ∈ GW := gw_in (List.mem_of_getElem? (i := 978) (by decide +kernel)) rfl
theorem qt_X8_falls : Cond.static yX8_falls ∈ GW := gw_in (List.mem_of_getElem? (i := 977) (by decide +kernel)) rfl
theorem qc_X8_stands : Cond.code yX8_stands cX8_stands 3 (some .int) ∈ GW := gw_in (List.mem_of_getElem? (i := 982) (by decide +kernel)) rfl
theorem qn_X8_stands : Cond.instanceMethod yX8_stands ∈ GW := gw_in (List.mem_of_getElem? (i := 980) (by decide +kernel)) rfl
theorem ql_X8_stands : Cond.selects yX8_stands.cls yX8_stands yX8_stands ∈ GW := gw_in (List.mem_of_getElem? (i := 981) (by decide +kernel)) rfl
theorem qc_X8_now : Cond.code yX8_now cX8_now 2 (some .int) ∈ GW := gw_in (List.mem_of_getElem? (i := 986) (by decide +kernel)) rfl
theorem qn_X8_now : Cond.instanceMethod yX8_now ∈ GW := gw_in (List.mem_of_getElem? (i := 984) (by decide +kernel)) rfl
theorem ql_X8_now : Cond.selects yX8_now.cls yX8_now yX8_now ∈ GW := gw_in (List.mem_of_getElem? (i := 985) (by decide +kernel)) rfl
theorem qc_X8_seed : Cond.code yX8_seed cX8_seed 3 (some .int) ∈ GW := gw_in (List.mem_of_getElem? (i := 991) (by decide +kernel)) rfl
theorem qn_X8_seed : Cond.instanceMethod yX8_seed ∈ GW := gw_in (List.mem_of_getElem? (i := 989) (by decide +kernel)) rfl
theorem ql_X8_seed : Cond.selects yX8_seed.cls yX8_seed yX8_seed ∈ GW := gw_in (List.mem_of_getElem? (i := 990) (by decide +kernel)) rfl
theorem qc_X8_ahead : Cond.code yX8_ahead cX8_ahead 6 (some .int) ∈ GW := gw_in (List.mem_of_getElem? (i := 995) (by decide +kernel)) rfl
theorem qn_X8_ahead : Cond.instanceMethod yX8_ahead ∈ GW := gw_in (List.mem_of_getElem? (i := 993) (by decide +kernel)) rfl
theorem ql_X8_ahead : Cond.selects yX8_ahead.cls yX8_ahead yX8_ahead ∈ GW := gw_in (List.mem_of_getElem? (i := 994) (by decide +kernel)) rfl
theorem qc_X8_copies : Cond.code yX8_copies cX8_copies 3 none ∈ GW := gw_in (List.mem_of_getElem? (i := 999) (by decide +kernel)) rfl
theorem qt_X8_copies : Cond.static yX8_copies ∈ GW := gw_in (List.mem_of_getElem? (i := 998) (by decide +kernel)) rfl
theorem qc_X8_boutAhead : Cond.code yX8_boutAhead cX8_boutAhead 7 (some .int) ∈ GW := gw_in (List.mem_of_getElem? (i := 1003) (by decide +kernel)) rfl
theorem qn_X8_boutAhead : Cond.instanceMethod yX8_boutAhead ∈ GW := gw_in (List.mem_of_getElem? (i := 1002) (by decide +kernel)) rfl
theorem ql_X8_boutAhead : Cond.selects yX8_boutAhead.cls yX8_boutAhead yX8_boutAhead ∈ GW := gw_in (List.mem_of_getElem? (i := 25) (by decide +kernel)) rfl
theorem qc_X8_best : Cond.code yX8_best cX8_best 8 (some .int) ∈ GW := gw_in (List.mem_of_getElem? (i := 1007) (by decide +kernel)) rfl
theorem qn_X8_best : Cond.instanceMethod yX8_best ∈ GW := gw_in (List.mem_of_getElem? (i := 1005) (by decide +kernel)) rfl
theorem ql_X8_best : Cond.selects yX8_best.cls yX8_best yX8_best ∈ GW := gw_in (List.mem_of_getElem? (i := 1006) (by decide +kernel)) rfl
theorem qc_X8_light : Cond.code yX8_light cX8_light 5 (some .int) ∈ GW := gw_in (List.mem_of_getElem? (i := 1012) (by decide +kernel)) rfl
theorem qn_X8_light : Cond.instanceMethod yX8_light ∈ GW := gw_in (List.mem_of_getElem? (i := 1010) (by decide +kernel)) rfl
theorem ql_X8_light : Cond.selects yX8_light.cls yX8_light yX8_light ∈ GW := gw_in (List.mem_of_getElem? (i := 1011) (by decide +kernel)) rfl
theorem qc_X8_late : Cond.code yX8_late cX8_late 5 (some .int) ∈ GW := gw_in (List.mem_of_getElem? (i := 1017) (by decide +kernel)) rfl
theorem qn_X8_late : Cond.instanceMethod yX8_late ∈ GW := gw_in (List.mem_of_getElem? (i := 1015) (by decide +kernel)) rfl
theorem ql_X8_late : Cond.selects yX8_late.cls yX8_late yX8_late ∈ GW := gw_in (List.mem_of_getElem? (i := 1016) (by decide +kernel)) rfl
theorem qc_X8_swing : Cond.code yX8_swing cX8_swing 6 (some .int) ∈ GW := gw_in (List.mem_of_getElem? (i := 1021) (by decide +kernel)) rfl
theorem qn_X8_swing : Cond.instanceMethod yX8_swing ∈ GW := gw_in (List.mem_of_getElem? (i := 1019) (by decide +kernel)) rfl
theorem ql_X8_swing : Cond.selects yX8_swing.cls yX8_swing yX8_swing ∈ GW := gw_in (List.mem_of_getElem? (i := 1020) (by decide +kernel)) rfl
theorem qc_X8_beats : Cond.code yX8_beats cX8_beats 3 (some .int) ∈ GW := gw_in (List.mem_of_getElem? (i := 1025) (by decide +kernel)) rfl
theorem qn_X8_beats : Cond.instanceMethod yX8_beats ∈ GW := gw_in (List.mem_of_getElem? (i := 1023) (by decide +kernel)) rfl
theorem ql_X8_beats : Cond.selects yX8_beats.cls yX8_beats yX8_beats ∈ GW := gw_in (List.mem_of_getElem? (i := 1024) (by decide +kernel)) rfl
theorem qc_X8_beatenBy : Cond.code yX8_beatenBy cX8_beatenBy 5 (some .int) ∈ GW := gw_in (List.mem_of_getElem? (i := 1029) (by decide +kernel)) rfl
theorem qn_X8_beatenBy : Cond.instanceMethod yX8_beatenBy ∈ GW := gw_in (List.mem_of_getElem? (i := 1028) (by decide +kernel)) rfl
theorem ql_X8_beatenBy : Cond.selects yX8_beatenBy.cls yX8_beatenBy yX8_beatenBy ∈ GW := gw_in (List.mem_of_getElem? (i := 26) (by decide +kernel)) rfl
theorem qc_X8_five : Cond.code yX8_five cX8_five 8 (some .int) ∈ GW := gw_in (List.mem_of_getElem? (i := 1033) (by decide +kernel)) rfl
theorem qn_X8_five : Cond.instanceMethod yX8_five ∈ GW := gw_in (List.mem_of_getElem? (i := 1031) (by decide +kernel)) rfl
theorem ql_X8_five : Cond.selects yX8_five.cls yX8_five yX8_five ∈ GW := gw_in (List.mem_of_getElem? (i := 1032) (by decide +kernel)) rfl
theorem qc_X8_champion : Cond.code yX8_champion cX8_champion 7 (some .int) ∈ GW := gw_in (List.mem_of_getElem? (i := 1037) (by decide +kernel)) rfl
theorem qn_X8_champion : Cond.instanceMethod yX8_champion ∈ GW := gw_in (List.mem_of_getElem? (i := 1035) (by decide +kernel)) rfl
theorem ql_X8_champion : Cond.selects yX8_champion.cls yX8_champion yX8_champion ∈ GW := gw_in (List.mem_of_getElem? (i := 1036) (by decide +kernel)) rfl
theorem qc_X8_feed : Cond.code yX8_feed cX8_feed 4 (some .int) ∈ GW := gw_in (List.mem_of_getElem? (i := 1042) (by decide +kernel)) rfl
theorem qn_X8_feed : Cond.instanceMethod yX8_feed ∈ GW := gw_in (List.mem_of_getElem? (i := 1040) (by decide +kernel)) rfl
theorem ql_X8_feed : Cond.selects yX8_feed.cls yX8_feed yX8_feed ∈ GW := gw_in (List.mem_of_getElem? (i := 1041) (by decide +kernel)) rfl
theorem qc_X8_wipe : Cond.code yX8_wipe cX8_wipe 2 (some .int) ∈ GW := gw_in (List.mem_of_getElem? (i := 1046) (by decide +kernel)) rfl
theorem qn_X8_wipe : Cond.instanceMethod yX8_wipe ∈ GW := gw_in (List.mem_of_getElem? (i := 1044) (by decide +kernel)) rfl
theorem ql_X8_wipe : Cond.selects yX8_wipe.cls yX8_wipe yX8_wipe ∈ GW := gw_in (List.mem_of_getElem? (i := 1045) (by decide +kernel)) rfl
theorem qc_X8_way : Cond.code yX8_way cX8_way 2 (some .int) ∈ GW := gw_in (List.mem_of_getElem? (i := 1050) (by decide +kernel)) rfl
theorem qn_X8_way : Cond.instanceMethod yX8_way ∈ GW := gw_in (List.mem_of_getElem? (i := 1048) (by decide +kernel)) rfl
theorem ql_X8_way : Cond.selects yX8_way.cls yX8_way yX8_way ∈ GW := gw_in (List.mem_of_getElem? (i := 1049) (by decide +kernel)) rfl
theorem qc_X8_look : Cond.code yX8_look cX8_look 2 none ∈ GW := gw_in (List.mem_of_getElem? (i := 1054) (by decide +kernel)) rfl
theorem qn_X8_look : Cond.instanceMethod yX8_look ∈ GW := gw_in (List.mem_of_getElem? (i := 1053) (by decide +kernel)) rfl
theorem ql_X8_look : Cond.selects yX8_look.cls yX8_look yX8_look ∈ GW := gw_in (List.mem_of_getElem? (i := 27) (by decide +kernel)) rfl
theorem qc_X8_isLetter : Cond.code yX8_isLetter cX8_isLetter 1 (some .boolean) ∈ GW := gw_in (List.mem_of_getElem? (i := 1057) (by decide +kernel)) rfl
theorem qt_X8_isLetter : Cond.static yX8_isLetter ∈ GW := gw_in (List.mem_of_getElem? (i := 1056) (by decide +kernel)) rfl
theorem qc_X8_isDigit : Cond.code yX8_isDigit cX8_isDigit 1 (some .boolean) ∈ GW := gw_in (List.mem_of_getElem? (i := 1060) (by decide +kernel)) rfl
theorem qt_X8_isDigit : Cond.static yX8_isDigit ∈ GW := gw_in (List.mem_of_getElem? (i := 1059) (by decide +kernel)) rfl
theorem qc_X8_reads : Cond.code yX8_reads cX8_reads 4 none ∈ GW := gw_in (List.mem_of_getElem? (i := 1064) (by decide +kernel)) rfl
theorem qn_X8_reads : Cond.instanceMethod yX8_reads ∈ GW := gw_in (List.mem_of_getElem? (i := 1063) (by decide +kernel)) rfl
theorem ql_X8_reads : Cond.selects yX8_reads.cls yX8_reads yX8_reads ∈ GW := gw_in (List.mem_of_getElem? (i := 28) (by decide +kernel)) rfl
theorem qc_X8_name : Cond.code yX8_name cX8_name 1 (some .int) ∈ GW := gw_in (List.mem_of_getElem? (i := 1068) (by decide +kernel)) rfl
theorem qn_X8_name : Cond.instanceMethod yX8_name ∈ GW := gw_in (List.mem_of_getElem? (i := 1067) (by decide +kernel)) rfl
theorem ql_X8_name : Cond.selects yX8_name.cls yX8_name yX8_name ∈ GW := gw_in (List.mem_of_getElem? (i := 29) (by decide +kernel)) rfl
theorem qc_X8_isWord : Cond.code yX8_isWord cX8_isWord 4 (some .boolean) ∈ GW := gw_in (List.mem_of_getElem? (i := 1073) (by decide +kernel)) rfl
theorem qn_X8_isWord : Cond.instanceMethod yX8_isWord ∈ GW := gw_in (List.mem_of_getElem? (i := 1072) (by decide +kernel)) rfl
theorem ql_X8_isWord : Cond.selects yX8_isWord.cls yX8_isWord yX8_isWord ∈ GW := gw_in (List.mem_of_getElem? (i := 30) (by decide +kernel)) rfl
theorem qc_X8_must : Cond.code yX8_must cX8_must 2 none ∈ GW := gw_in (List.mem_of_getElem? (i := 1083) (by decide +kernel)) rfl
theorem qn_X8_must : Cond.instanceMethod yX8_must ∈ GW := gw_in (List.mem_of_getElem? (i := 1082) (by decide +kernel)) rfl
theorem ql_X8_must : Cond.selects yX8_must.cls yX8_must yX8_must ∈ GW := gw_in (List.mem_of_getElem? (i := 31) (by decide +kernel)) rfl
theorem qc_X8_compares : Cond.code yX8_compares cX8_compares 3 none ∈ GW := gw_in (List.mem_of_getElem? (i := 1087) (by decide +kernel)) rfl
theorem qn_X8_compares : Cond.instanceMethod yX8_compares ∈ GW := gw_in (List.mem_of_getElem? (i := 1086) (by decide +kernel)) rfl
theorem ql_X8_compares : Cond.selects yX8_compares.cls yX8_compares yX8_compares ∈ GW := gw_in (List.mem_of_getElem? (i := 32) (by decide +kernel)) rfl
theorem qc_X8_isSign : Cond.code yX8_isSign cX8_isSign 2 (some .boolean) ∈ GW := gw_in (List.mem_of_getElem? (i := 1091) (by decide +kernel)) rfl
theorem qn_X8_isSign : Cond.instanceMethod yX8_isSign ∈ GW := gw_in (List.mem_of_getElem? (i := 1090) (by decide +kernel)) rfl
theorem ql_X8_isSign : Cond.selects yX8_isSign.cls yX8_isSign yX8_isSign ∈ GW := gw_in (List.mem_of_getElem? (i := 33) (by decide +kernel)) rfl
theorem qc_X8_deed : Cond.code yX8_deed cX8_deed 1 (some .int) ∈ GW := gw_in (List.mem_of_getElem? (i := 1095) (by decide +kernel)) rfl
theorem qn_X8_deed : Cond.instanceMethod yX8_deed ∈ GW := gw_in (List.mem_of_getElem? (i := 1094) (by decide +kernel)) rfl
theorem ql_X8_deed : Cond.selects yX8_deed.cls yX8_deed yX8_deed ∈ GW := gw_in (List.mem_of_getElem? (i := 34) (by decide +kernel)) rfl
theorem qc_X8_rules : Cond.code yX8_rules cX8_rules 2 (some .int) ∈ GW := gw_in (List.mem_of_getElem? (i := 1104) (by decide +kernel)) rfl
theorem qn_X8_rules : Cond.instanceMethod yX8_rules ∈ GW := gw_in (List.mem_of_getElem? (i := 1102) (by decide +kernel)) rfl
theorem ql_X8_rules : Cond.selects yX8_rules.cls yX8_rules yX8_rules ∈ GW := gw_in (List.mem_of_getElem? (i := 1103) (by decide +kernel)) rfl
theorem qc_X8_isWay : Cond.code yX8_isWay cX8_isWay 2 (some .boolean) ∈ GW := gw_in (List.mem_of_getElem? (i := 1108) (by decide +kernel)) rfl
theorem qn_X8_isWay : Cond.instanceMethod yX8_isWay ∈ GW := gw_in (List.mem_of_getElem? (i := 1107) (by decide +kernel)) rfl
theorem ql_X8_isWay : Cond.selects yX8_isWay.cls yX8_isWay yX8_isWay ∈ GW := gw_in (List.mem_of_getElem? (i := 35) (by decide +kernel)) rfl
theorem qc_X8_holds : Cond.code yX8_holds cX8_holds 7 (some .int) ∈ GW := gw_in (List.mem_of_getElem? (i := 1112) (by decide +kernel)) rfl
theorem qn_X8_holds : Cond.instanceMethod yX8_holds ∈ GW := gw_in (List.mem_of_getElem? (i := 1110) (by decide +kernel)) rfl
theorem ql_X8_holds : Cond.selects yX8_holds.cls yX8_holds yX8_holds ∈ GW := gw_in (List.mem_of_getElem? (i := 1111) (by decide +kernel)) rfl
theorem qc_X8_sheet : Cond.code yX8_sheet cX8_sheet 5 (some .int) ∈ GW := gw_in (List.mem_of_getElem? (i := 1116) (by decide +kernel)) rfl
theorem qn_X8_sheet : Cond.instanceMethod yX8_sheet ∈ GW := gw_in (List.mem_of_getElem? (i := 1114) (by decide +kernel)) rfl
theorem ql_X8_sheet : Cond.selects yX8_sheet.cls yX8_sheet yX8_sheet ∈ GW := gw_in (List.mem_of_getElem? (i := 1115) (by decide +kernel)) rfl
theorem qc_X8_isSheet : Cond.code yX8_isSheet cX8_isSheet 1 (some .boolean) ∈ GW := gw_in (List.mem_of_getElem? (i := 1119) (by decide +kernel)) rfl
theorem qt_X8_isSheet : Cond.static yX8_isSheet ∈ GW := gw_in (List.mem_of_getElem? (i := 1118) (by decide +kernel)) rfl
theorem qc_X8_write : Cond.code yX8_write cX8_write 7 (some .long) ∈ GW := gw_in (List.mem_of_getElem? (i := 1125) (by decide +kernel)) rfl
theorem qn_X8_write : Cond.instanceMethod yX8_write ∈ GW := gw_in (List.mem_of_getElem? (i := 1123) (by decide +kernel)) rfl
theorem ql_X8_write : Cond.selects yX8_write.cls yX8_write yX8_write ∈ GW := gw_in (List.mem_of_getElem? (i := 1124) (by decide +kernel)) rfl
theorem qc_X8_lowest : Cond.code yX8_lowest cX8_lowest 3 (some .long) ∈ GW := gw_in (List.mem_of_getElem? (i := 1129) (by decide +kernel)) rfl
theorem qt_X8_lowest : Cond.static yX8_lowest ∈ GW := gw_in (List.mem_of_getElem? (i := 1128) (by decide +kernel)) rfl
theorem qc_X8_copy : Cond.code yX8_copy cX8_copy 7 (some .int) ∈ GW := gw_in (List.mem_of_getElem? (i := 1133) (by decide +kernel)) rfl
theorem qn_X8_copy : Cond.instanceMethod yX8_copy ∈ GW := gw_in (List.mem_of_getElem? (i := 1131) (by decide +kernel)) rfl
theorem ql_X8_copy : Cond.selects yX8_copy.cls yX8_copy yX8_copy ∈ GW := gw_in (List.mem_of_getElem? (i := 1132) (by decide +kernel)) rfl
theorem qc_X8_film : Cond.code yX8_film cX8_film 7 (some .int) ∈ GW := gw_in (List.mem_of_getElem? (i := 1137) (by decide +kernel)) rfl
theorem qn_X8_film : Cond.instanceMethod yX8_film ∈ GW := gw_in (List.mem_of_getElem? (i := 1135) (by decide +kernel)) rfl
theorem ql_X8_film : Cond.selects yX8_film.cls yX8_film yX8_film ∈ GW := gw_in (List.mem_of_getElem? (i := 1136) (by decide +kernel)) rfl
theorem qc_X8_whyNot : Cond.code yX8_whyNot cX8_whyNot 4 (some .int) ∈ GW := gw_in (List.mem_of_getElem? (i := 1141) (by decide +kernel)) rfl
theorem qn_X8_whyNot : Cond.instanceMethod yX8_whyNot ∈ GW := gw_in (List.mem_of_getElem? (i := 1140) (by decide +kernel)) rfl
theorem ql_X8_whyNot : Cond.selects yX8_whyNot.cls yX8_whyNot yX8_whyNot ∈ GW := gw_in (List.mem_of_getElem? (i := 36) (by decide +kernel)) rfl
theorem qc_X8_read : Cond.code yX8_read cX8_read 7 (some .int) ∈ GW := gw_in (List.mem_of_getElem? (i := 1145) (by decide +kernel)) rfl
theorem qn_X8_read : Cond.instanceMethod yX8_read ∈ GW := gw_in (List.mem_of_getElem? (i := 1143) (by decide +kernel)) rfl
theorem ql_X8_read : Cond.selects yX8_read.cls yX8_read yX8_read ∈ GW := gw_in (List.mem_of_getElem? (i := 1144) (by decide +kernel)) rfl
theorem qc_X8_image : Cond.code yX8_image cX8_image 1 (some .int) ∈ GW := gw_in (List.mem_of_getElem? (i := 1149) (by decide +kernel)) rfl
theorem qn_X8_image : Cond.instanceMethod yX8_image ∈ GW := gw_in (List.mem_of_getElem? (i := 1147) (by decide +kernel)) rfl
theorem ql_X8_image : Cond.selects yX8_image.cls yX8_image yX8_image ∈ GW := gw_in (List.mem_of_getElem? (i := 1148) (by decide +kernel)) rfl
theorem qc_X8_undo : Cond.code yX8_undo cX8_undo 1 (some .int) ∈ GW := gw_in (List.mem_of_getElem? (i := 1153) (by decide +kernel)) rfl
theorem qn_X8_undo : Cond.instanceMethod yX8_undo ∈ GW := gw_in (List.mem_of_getElem? (i := 1151) (by decide +kernel)) rfl
theorem ql_X8_undo : Cond.selects yX8_undo.cls yX8_undo yX8_undo ∈ GW := gw_in (List.mem_of_getElem? (i := 1152) (by decide +kernel)) rfl
theorem qc_X8_tear : Cond.code yX8_tear cX8_tear 2 (some .int) ∈ GW := gw_in (List.mem_of_getElem? (i := 1157) (by decide +kernel)) rfl
theorem qn_X8_tear : Cond.instanceMethod yX8_tear ∈ GW := gw_in (List.mem_of_getElem? (i := 1155) (by decide +kernel)) rfl
theorem ql_X8_tear : Cond.selects yX8_tear.cls yX8_tear yX8_tear ∈ GW := gw_in (List.mem_of_getElem? (i := 1156) (by decide +kernel)) rfl
theorem qc_X8_count : Cond.code yX8_count cX8_count 2 (some .int) ∈ GW := gw_in (List.mem_of_getElem? (i := 1161) (by decide +kernel)) rfl
theorem qn_X8_count : Cond.instanceMethod yX8_count ∈ GW := gw_in (List.mem_of_getElem? (i := 1159) (by decide +kernel)) rfl
theorem ql_X8_count : Cond.selects yX8_count.cls yX8_count yX8_count ∈ GW := gw_in (List.mem_of_getElem? (i := 1160) (by decide +kernel)) rfl
theorem qc_X8_allFalls : Cond.code yX8_allFalls cX8_allFalls 3 (some .int) ∈ GW := gw_in (List.mem_of_getElem? (i := 1165) (by decide +kernel)) rfl
theorem qn_X8_allFalls : Cond.instanceMethod yX8_allFalls ∈ GW := gw_in (List.mem_of_getElem? (i := 1164) (by decide +kernel)) rfl
theorem ql_X8_allFalls : Cond.selects yX8_allFalls.cls yX8_allFalls yX8_allFalls ∈ GW := gw_in (List.mem_of_getElem? (i := 37) (by decide +kernel)) rfl
theorem qc_X8_status : Cond.code yX8_status cX8_status 4 (some .int) ∈ GW := gw_in (List.mem_of_getElem? (i := 1169) (by decide +kernel)) rfl
theorem qn_X8_status : Cond.instanceMethod yX8_status ∈ GW := gw_in (List.mem_of_getElem? (i := 1167) (by decide +kernel)) rfl
theorem ql_X8_status : Cond.selects yX8_status.cls yX8_status yX8_status ∈ GW := gw_in (List.mem_of_getElem? (i := 1168) (by decide +kernel)) rfl
theorem sL_9 : SI RL 9 yX7_init cX7_init 2 0 := ⟨gw_in (List.mem_of_getElem? (i := 57) (by decide +kernel)) rfl, qn_X7_init, rfl, qi_X7, qc_X7_init, ⟨by decide, by decide, by decide +kernel⟩⟩
theorem sX7_9 : SI RX7 9 yX6_init cX6_init 2 0 := ⟨gw_in (List.mem_of_getElem? (i := 65) (by decide +kernel)) rfl, qn_X6_init, rfl, qi_X6, qc_X6_init, ⟨by decide, by decide, by decide +kernel⟩⟩
theorem sX6_44 : SI RX6 44 yX0_init cX0_init 3 2 := ⟨gw_in (List.mem_of_getElem? (i := 84) (by decide +kernel)) rfl, qn_X0_init, rfl, qi_X0, qc_X0_init, ⟨by decide, by decide, by decide +kernel⟩⟩
theorem sX7_33 : SI RX7 33 yX0_init cX0_init 3 2 := ⟨gw_in (List.mem_of_getElem? (i := 227) (by decide +kernel)) rfl, qn_X0_init, rfl, qi_X0, qc_X0_init, ⟨by decide, by decide, by decide +kernel⟩⟩
theorem sL_13 : SV RL 13 yX7_roller cX7_roller 4 (some .int) 2 := ⟨gw_in (List.mem_of_getElem? (i := 303) (by decide +kernel)) rfl, qn_X7_roller, ql_X7_roller, qi_X7, qc_X7_roller, ⟨by decide, by decide, by decide +kernel⟩⟩
theorem sX7_64 : SS RX7 64 yX7_isKind cX7_isKind 1 (some .boolean) 1 := ⟨gw_in (List.mem_of_getElem? (i := 307) (by decide +kernel)) rfl, qt_X7_isKind, qi_X7, qc_X7_isKind, ⟨by decide, by decide, by decide +kernel⟩⟩
theorem sX7_68 : SS RX7 68 yX7_within cX7_within 3 (some .boolean) 3 := ⟨gw_in (List.mem_of_getElem? (i := 310) (by decide +kernel)) rfl, qt_X7_within, qi_X7, qc_X7_within, ⟨by decide, by decide, by decide +kernel⟩⟩
theorem sX7_73 : SV RX7 73 yX7_finding cX7_finding 3 (some .int) 1 := ⟨gw_in (List.mem_of_getElem? (i := 314) (by decide +kernel)) rfl, qn_X7_finding, ql_X7_finding, qi_X7, qc_X7_finding, ⟨by decide, by decide, by decide +kernel⟩⟩
theorem sX7_86 : SV RX7 86 yX1_begin cX1_begin 3 none 2 := ⟨gw_in (List.mem_of_getElem? (i := 319) (by decide +kernel)) rfl, qn_X1_begin, ql_X1_begin, qi_X1, qc_X1_begin, ⟨by decide, by decide, by decide +kernel⟩⟩
theorem sL_18 : SV RL 18 yX7_of cX7_of 3 (some .int) 2 := ⟨gw_in (List.mem_of_getElem? (i := 323) (by decide +kernel)) rfl, qn_X7_of, ql_X7_of, qi_X7, qc_X7_of, ⟨by decide, by decide, by decide +kernel⟩⟩
theorem sX7_90 : SV RX7 90 yX7_isPerson cX7_isPerson 2 (some .boolean) 1 := ⟨gw_in (List.mem_of_getElem? (i := 327) (by decide +kernel)) rfl, qn_X7_isPerson, ql_X7_isPerson, qi_X7, qc_X7_isPerson, ⟨by decide, by decide, by decide +kernel⟩⟩
theorem sX7_93 : SV RX7 93 yX1_trait cX1_trait 2 (some .int) 1 := ⟨gw_in (List.mem_of_getElem? (i := 331) (by decide +kernel)) rfl, qn_X1_trait, ql_X1_trait, qi_X1, qc_X1_trait, ⟨by decide, by decide, by decide +kernel⟩⟩
theorem sL_22 : SV RL 22 yX7_set cX7_set 5 (some .int) 3 := ⟨gw_in (List.mem_of_getElem? (i := 335) (by decide +kernel)) rfl, qn_X7_set, ql_X7_set, qi_X7, qc_X7_set, ⟨by decide, by decide, by decide +kernel⟩⟩
theorem sX7_96 : SV RX7 96 yX7_maySet cX7_maySet 3 (some .boolean) 2 := ⟨gw_in (List.mem_of_getElem? (i := 339) (by decide +kernel)) rfl, qn_X7_maySet, ql_X7_maySet, qi_X7, qc_X7_maySet, ⟨by decide, by decide, by decide +kernel⟩⟩
theorem sX7_100 : SV RX7 100 yX6_isOnLog cX6_isOnLog 2 (some .boolean) 1 := ⟨gw_in (List.mem_of_getElem? (i := 343) (by decide +kernel)) rfl, qn_X6_isOnLog, ql_X6_isOnLog, qi_X6, qc_X6_isOnLog, ⟨by decide, by decide, by decide +kernel⟩⟩
theorem sX7_104 : SV RX7 104 yX1_change cX1_change 3 none 2 := ⟨gw_in (List.mem_of_getElem? (i := 348) (by decide +kernel)) rfl, qn_X1_change, ql_X1_change, qi_X1, qc_X1_change, ⟨by decide, by decide, by decide +kernel⟩⟩
theorem sL_27 : SV RL 27 yX7_as cX7_as 3 (some .int) 2 := ⟨gw_in (List.mem_of_getElem? (i := 352) (by decide +kernel)) rfl, qn_X7_as, ql_X7_as, qi_X7, qc_X7_as, ⟨by decide, by decide, by decide +kernel⟩⟩
theorem sX7_110 : SS RX7 110 yX7_isUnder cX7_isUnder 4 (some .boolean) 2 := ⟨gw_in (List.mem_of_getElem? (i := 356) (by decide +kernel)) rfl, qt_X7_isUnder, qi_X7, qc_X7_isUnder, ⟨by decide, by decide, by decide +kernel⟩⟩
theorem sL_31 : SV RL 31 yX7_log cX7_log 4 (some .int) 2 := ⟨gw_in (List.mem_of_getElem? (i := 362) (by decide +kernel)) rfl, qn_X7_log, ql_X7_log, qi_X7, qc_X7_log, ⟨by decide, by decide, by decide +kernel⟩⟩
theorem sL_35 : SV RL 35 yX7_push cX7_push 7 (some .int) 5 := ⟨gw_in (List.mem_of_getElem? (i := 370) (by decide +kernel)) rfl, qn_X7_push, ql_X7_push, qi_X7, qc_X7_push, ⟨by decide, by decide, by decide +kernel⟩⟩
theorem sX7_123 : SS RX7 123 yX7_isSituation cX7_isSituation 4 (some .boolean) 4 := ⟨gw_in (List.mem_of_getElem? (i := 374) (by decide +kernel)) rfl, qt_X7_isSituation, qi_X7, qc_X7_isSituation, ⟨by decide, by decide, by decide +kernel⟩⟩
theorem sX7_130 : SV RX7 130 yX6_wayAt cX6_wayAt 2 (some (.object "LogRollers$Way")) 1 := ⟨gw_in (List.mem_of_getElem? (i := 377) (by decide +kernel)) rfl, qn_X6_wayAt, ql_X6_wayAt, qi_X6, qc_X6_wayAt, ⟨by decide, by decide, by decide +kernel⟩⟩
theorem sX7_134 : SV RX7 134 yX1_shove cX1_shove 6 (some .int) 5 := ⟨gw_in (List.mem_of_getElem? (i := 382) (by decide +kernel)) rfl, qn_X1_shove, ql_X1_shove, qi_X1, qc_X1_shove, ⟨by decide, by decide, by decide +kernel⟩⟩
theorem sX1_37 : SV RX1 37 yX1_waiterShove cX1_waiterShove 3 (some .int) 2 := ⟨gw_in (List.mem_of_getElem? (i := 389) (by decide +kernel)) rfl, qn_X1_waiterShove, ql_X1_waiterShove, qi_X1, qc_X1_waiterShove, ⟨by decide, by decide, by decide +kernel⟩⟩
theorem sX1_40 : SV RX1 40 yX5_firstThat cX5_firstThat 9 (some .int) 4 := ⟨gw_in (List.mem_of_getElem? (i := 393) (by decide +kernel)) rfl, qn_X5_firstThat, ql_X5_firstThat, qi_X5, qc_X5_firstThat, ⟨by decide, by decide, by decide +kernel⟩⟩
theorem sX1_46 : SV RX1 46 yX5_deedOf cX5_deedOf 2 (some .int) 1 := ⟨gw_in (List.mem_of_getElem? (i := 397) (by decide +kernel)) rfl, qn_X5_deedOf, ql_X5_deedOf, qi_X5, qc_X5_deedOf, ⟨by decide, by decide, by decide +kernel⟩⟩
theorem sX1_50 : SV RX1 50 yX1_deedShove cX1_deedShove 4 (some .int) 3 := ⟨gw_in (List.mem_of_getElem? (i := 402) (by decide +kernel)) rfl, qn_X1_deedShove, ql_X1_deedShove, qi_X1, qc_X1_deedShove, ⟨by decide, by decide, by decide +kernel⟩⟩
theorem sL_40 : SV RL 40 yX7_mount cX7_mount 3 (some .int) 2 := ⟨gw_in (List.mem_of_getElem? (i := 406) (by decide +kernel)) rfl, qn_X7_mount, ql_X7_mount, qi_X7, qc_X7_mount, ⟨by decide, by decide, by decide +kernel⟩⟩
theorem sX7_138 : SV RX7 138 yX7_isPair cX7_isPair 3 (some .boolean) 2 := ⟨gw_in (List.mem_of_getElem? (i := 410) (by decide +kernel)) rfl, qn_X7_isPair, ql_X7_isPair, qi_X7, qc_X7_isPair, ⟨by decide, by decide, by decide +kernel⟩⟩
theorem sX7_153 : SV RX7 153 yX0_begin cX0_begin 3 none 2 := ⟨gw_in (List.mem_of_getElem? (i := 414) (by decide +kernel)) rfl, qn_X0_begin, ql_X0_begin, qi_X0, qc_X0_begin, ⟨by decide, by decide, by decide +kernel⟩⟩
theorem sX0_51 : SV RX0 51 yX3_begin cX3_begin 2 none 1 := ⟨gw_in (List.mem_of_getElem? (i := 418) (by decide +kernel)) rfl, qn_X3_begin, ql_X3_begin, qi_X3, qc_X3_begin, ⟨by decide, by decide, by decide +kernel⟩⟩
theorem sL_44 : SV RL 44 yX7_off cX7_off 1 (some .int) 0 := ⟨gw_in (List.mem_of_getElem? (i := 422) (by decide +kernel)) rfl, qn_X7_off, ql_X7_off, qi_X7, qc_X7_off, ⟨by decide, by decide, by decide +kernel⟩⟩
theorem sL_49 : SV RL 49 yX7_bout cX7_bout 5 (some .int) 1 := ⟨gw_in (List.mem_of_getElem? (i := 426) (by decide +kernel)) rfl, qn_X7_bout, ql_X7_bout, qi_X7, qc_X7_bout, ⟨by decide, by decide, by decide +kernel⟩⟩
theorem sX7_159 : SV RX7 159 yX0_go cX0_go 6 (some .int) 3 := ⟨gw_in (List.mem_of_getElem? (i := 430) (by decide +kernel)) rfl, qn_X0_go, ql_X0_go, qi_X0, qc_X0_go, ⟨by decide, by decide, by decide +kernel⟩⟩
theorem sX0_55 : SV RX0 55 yX0_tick cX0_tick 5 (some .int) 2 := ⟨gw_in (List.mem_of_getElem? (i := 434) (by decide +kernel)) rfl, qn_X0_tick, ql_X0_tick, qi_X0, qc_X0_tick, ⟨by decide, by decide, by decide +kernel⟩⟩
theorem sX0_59 : SV RX0 59 yX0_seenBy cX0_seenBy 3 (some .int) 1 := ⟨gw_in (List.mem_of_getElem? (i := 438) (by decide +kernel)) rfl, qn_X0_seenBy, ql_X0_seenBy, qi_X0, qc_X0_seenBy, ⟨by decide, by decide, by decide +kernel⟩⟩
theorem sX0_63 : SV RX0 63 yX0_nextShove cX0_nextShove 5 (some .int) 2 := ⟨gw_in (List.mem_of_getElem? (i := 442) (by decide +kernel)) rfl, qn_X0_nextShove, ql_X0_nextShove, qi_X0, qc_X0_nextShove, ⟨by decide, by decide, by decide +kernel⟩⟩
theorem sX0_117 : SV RX0 117 yX1_shove cX1_shove 6 (some .int) 5 := ⟨gw_in (List.mem_of_getElem? (i := 447) (by decide +kernel)) rfl, qn_X1_shove, ql_X1_shove, qi_X1, qc_X1_shove, ⟨by decide, by decide, by decide +kernel⟩⟩
theorem sX0_120 : SS RX0 120 yX3_cost cX3_cost 1 (some .int) 1 := ⟨gw_in (List.mem_of_getElem? (i := 448) (by decide +kernel)) rfl, qt_X3_cost, qi_X3, qc_X3_cost, ⟨by decide, by decide, by decide +kernel⟩⟩
theorem sX3_19 : SS RX3 19 yJ9_abs_0f7a4 cJ9_abs_0f7a4 1 (some .int) 1 := ⟨gw_in (List.mem_of_getElem? (i := 451) (by decide +kernel)) rfl, qt_J9_abs_0f7a4, qi_J9, qc_J9_abs_0f7a4, ⟨by decide, by decide, by decide +kernel⟩⟩
theorem sX0_67 : SV RX0 67 yX3_decide cX3_decide 3 none 2 := ⟨gw_in (List.mem_of_getElem? (i := 454) (by decide +kernel)) rfl, qn_X3_decide, ql_X3_decide, qi_X3, qc_X3_decide, ⟨by decide, by decide, by decide +kernel⟩⟩
theorem sX3_31 : SS RX3 31 yX3_cost cX3_cost 1 (some .int) 1 := ⟨gw_in (List.mem_of_getElem? (i := 458) (by decide +kernel)) rfl, qt_X3_cost, qi_X3, qc_X3_cost, ⟨by decide, by decide, by decide +kernel⟩⟩
theorem sX0_71 : SV RX0 71 yX0_roll cX0_roll 4 none 2 := ⟨gw_in (List.mem_of_getElem? (i := 459) (by decide +kernel)) rfl, qn_X0_roll, ql_X0_roll, qi_X0, qc_X0_roll, ⟨by decide, by decide, by decide +kernel⟩⟩
theorem sX0_75 : SV RX0 75 yX0_stepUnlessSlipping cX0_stepUnlessSlipping 3 none 2 := ⟨gw_in (List.mem_of_getElem? (i := 463) (by decide +kernel)) rfl, qn_X0_stepUnlessSlipping, ql_X0_stepUnlessSlipping, qi_X0, qc_X0_stepUnlessSlipping, ⟨by decide, by decide, by decide +kernel⟩⟩
theorem sX0_101 : SV RX0 101 yX3_step cX3_step 2 none 1 := ⟨gw_in (List.mem_of_getElem? (i := 468) (by decide +kernel)) rfl, qn_X3_step, ql_X3_step, qi_X3, qc_X3_step, ⟨by decide, by decide, by decide +kernel⟩⟩
theorem sX0_79 : SV RX0 79 yX3_sway cX3_sway 2 none 1 := ⟨gw_in (List.mem_of_getElem? (i := 473) (by decide +kernel)) rfl, qn_X3_sway, ql_X3_sway, qi_X3, qc_X3_sway, ⟨by decide, by decide, by decide +kernel⟩⟩
theorem sX0_85 : SS RX0 85 yJ9_abs_0f7a4 cJ9_abs_0f7a4 1 (some .int) 1 := ⟨gw_in (List.mem_of_getElem? (i := 477) (by decide +kernel)) rfl, qt_J9_abs_0f7a4, qi_J9, qc_J9_abs_0f7a4, ⟨by decide, by decide, by decide +kernel⟩⟩
theorem sX7_163 : SV RX7 163 yX7_endBout cX7_endBout 4 none 3 := ⟨gw_in (List.mem_of_getElem? (i := 478) (by decide +kernel)) rfl, qn_X7_endBout, ql_X7_endBout, qi_X7, qc_X7_endBout, ⟨by decide, by decide, by decide +kernel⟩⟩
theorem sL_54 : SV RL 54 yX7_stands cX7_stands 6 (some .int) 2 := ⟨gw_in (List.mem_of_getElem? (i := 482) (by decide +kernel)) rfl, qn_X7_stands, ql_X7_stands, qi_X7, qc_X7_stands, ⟨by decide, by decide, by decide +kernel⟩⟩
theorem sX7_183 : SV RX7 183 yX0_seenBy cX0_seenBy 3 (some .int) 1 := ⟨gw_in (List.mem_of_getElem? (i := 486) (by decide +kernel)) rfl, qn_X0_seenBy, ql_X0_seenBy, qi_X0, qc_X0_seenBy, ⟨by decide, by decide, by decide +kernel⟩⟩
theorem sX7_187 : SV RX7 187 yX0_nextShove cX0_nextShove 5 (some .int) 2 := ⟨gw_in (List.mem_of_getElem? (i := 487) (by decide +kernel)) rfl, qn_X0_nextShove, ql_X0_nextShove, qi_X0, qc_X0_nextShove, ⟨by decide, by decide, by decide +kernel⟩⟩
theorem sL_58 : SV RL 58 yX7_now cX7_now 2 (some .int) 1 := ⟨gw_in (List.mem_of_getElem? (i := 488) (by decide +kernel)) rfl, qn_X7_now, ql_X7_now, qi_X7, qc_X7_now, ⟨by decide, by decide, by decide +kernel⟩⟩
theorem sL_62 : SV RL 62 yX7_seed cX7_seed 3 (some .int) 1 := ⟨gw_in (List.mem_of_getElem? (i := 492) (by decide +kernel)) rfl, qn_X7_seed, ql_X7_seed, qi_X7, qc_X7_seed, ⟨by decide, by decide, by decide +kernel⟩⟩
theorem sL_66 : SV RL 66 yX7_ahead cX7_ahead 6 (some .int) 4 := ⟨gw_in (List.mem_of_getElem? (i := 496) (by decide +kernel)) rfl, qn_X7_ahead, ql_X7_ahead, qi_X7, qc_X7_ahead, ⟨by decide, by decide, by decide +kernel⟩⟩
theorem sX7_200 : SV RX7 200 yX7_startAhead cX7_startAhead 3 none 2 := ⟨gw_in (List.mem_of_getElem? (i := 500) (by decide +kernel)) rfl, qn_X7_startAhead, ql_X7_startAhead, qi_X7, qc_X7_startAhead, ⟨by decide, by decide, by decide +kernel⟩⟩
theorem sL_71 : SV RL 71 yX7_best cX7_best 8 (some .int) 3 := ⟨gw_in (List.mem_of_getElem? (i := 504) (by decide +kernel)) rfl, qn_X7_best, ql_X7_best, qi_X7, qc_X7_best, ⟨by decide, by decide, by decide +kernel⟩⟩
theorem sX7_203 : SV RX7 203 yX1_takeFrom cX1_takeFrom 2 none 1 := ⟨gw_in (List.mem_of_getElem? (i := 508) (by decide +kernel)) rfl, qn_X1_takeFrom, ql_X1_takeFrom, qi_X1, qc_X1_takeFrom, ⟨by decide, by decide, by decide +kernel⟩⟩
theorem sL_75 : SV RL 75 yX7_light cX7_light 5 (some .int) 3 := ⟨gw_in (List.mem_of_getElem? (i := 513) (by decide +kernel)) rfl, qn_X7_light, ql_X7_light, qi_X7, qc_X7_light, ⟨by decide, by decide, by decide +kernel⟩⟩
theorem sL_79 : SV RL 79 yX7_late cX7_late 6 (some .int) 3 := ⟨gw_in (List.mem_of_getElem? (i := 517) (by decide +kernel)) rfl, qn_X7_late, ql_X7_late, qi_X7, qc_X7_late, ⟨by decide, by decide, by decide +kernel⟩⟩
theorem sL_83 : SV RL 83 yX7_swing cX7_swing 11 (some .int) 4 := ⟨gw_in (List.mem_of_getElem? (i := 521) (by decide +kernel)) rfl, qn_X7_swing, ql_X7_swing, qi_X7, qc_X7_swing, ⟨by decide, by decide, by decide +kernel⟩⟩
theorem sX7_214 : SV RX7 214 yX0_tick cX0_tick 5 (some .int) 2 := ⟨gw_in (List.mem_of_getElem? (i := 525) (by decide +kernel)) rfl, qn_X0_tick, ql_X0_tick, qi_X0, qc_X0_tick, ⟨by decide, by decide, by decide +kernel⟩⟩
theorem sX7_218 : SS RX7 218 yJ9_abs_0f7a4 cJ9_abs_0f7a4 1 (some .int) 1 := ⟨gw_in (List.mem_of_getElem? (i := 526) (by decide +kernel)) rfl, qt_J9_abs_0f7a4, qi_J9, qc_J9_abs_0f7a4, ⟨by decide, by decide, by decide +kernel⟩⟩
theorem sX7_223 : SS RX7 223 yJ9_max_7cf53 cJ9_max_7cf53 2 (some .int) 2 := ⟨gw_in (List.mem_of_getElem? (i := 527) (by decide +kernel)) rfl, qt_J9_max_7cf53, qi_J9, qc_J9_max_7cf53, ⟨by decide, by decide, by decide +kernel⟩⟩
theorem sL_87 : SV RL 87 yX7_beats cX7_beats 3 (some .int) 2 := ⟨gw_in (List.mem_of_getElem? (i := 530) (by decide +kernel)) rfl, qn_X7_beats, ql_X7_beats, qi_X7, qc_X7_beats, ⟨by decide, by decide, by decide +kernel⟩⟩
theorem sX7_227 : SV RX7 227 yX7_beatenBy cX7_beatenBy 7 (some .int) 2 := ⟨gw_in (List.mem_of_getElem? (i := 534) (by decide +kernel)) rfl, qn_X7_beatenBy, ql_X7_beatenBy, qi_X7, qc_X7_beatenBy, ⟨by decide, by decide, by decide +kernel⟩⟩
theorem sL_91 : SV RL 91 yX7_five cX7_five 8 (some .int) 3 := ⟨gw_in (List.mem_of_getElem? (i := 538) (by decide +kernel)) rfl, qn_X7_five, ql_X7_five, qi_X7, qc_X7_five, ⟨by decide, by decide, by decide +kernel⟩⟩
theorem sL_95 : SV RL 95 yX7_champion cX7_champion 6 (some .int) 1 := ⟨gw_in (List.mem_of_getElem? (i := 542) (by decide +kernel)) rfl, qn_X7_champion, ql_X7_champion, qi_X7, qc_X7_champion, ⟨by decide, by decide, by decide +kernel⟩⟩
theorem sX7_230 : SS RX7 230 yJ6_bitCount_0f7a4 cJ6_bitCount_0f7a4 1 (some .int) 1 := ⟨gw_in (List.mem_of_getElem? (i := 546) (by decide +kernel)) rfl, qt_J6_bitCount_0f7a4, qi_J6, qc_J6_bitCount_0f7a4, ⟨by decide, by decide, by decide +kernel⟩⟩
theorem sL_99 : SV RL 99 yX7_feed cX7_feed 4 (some .int) 2 := ⟨gw_in (List.mem_of_getElem? (i := 552) (by decide +kernel)) rfl, qn_X7_feed, ql_X7_feed, qi_X7, qc_X7_feed, ⟨by decide, by decide, by decide +kernel⟩⟩
theorem sX7_238 : SV RX7 238 yX4_addByte cX4_addByte 2 none 1 := ⟨gw_in (List.mem_of_getElem? (i := 556) (by decide +kernel)) rfl, qn_X4_addByte, ql_X4_addByte, qi_X4, qc_X4_addByte, ⟨by decide, by decide, by decide +kernel⟩⟩
theorem sL_103 : SV RL 103 yX7_wipe cX7_wipe 2 (some .int) 0 := ⟨gw_in (List.mem_of_getElem? (i := 560) (by decide +kernel)) rfl, qn_X7_wipe, ql_X7_wipe, qi_X7, qc_X7_wipe, ⟨by decide, by decide, by decide +kernel⟩⟩
theorem sL_107 : SV RL 107 yX7_way cX7_way 3 (some .int) 0 := ⟨gw_in (List.mem_of_getElem? (i := 564) (by decide +kernel)) rfl, qn_X7_way, ql_X7_way, qi_X7, qc_X7_way, ⟨by decide, by decide, by decide +kernel⟩⟩
theorem sX7_245 : SV RX7 245 yX4_toWay cX4_toWay 3 (some (.object "LogRollers$Way")) 0 := ⟨gw_in (List.mem_of_getElem? (i := 568) (by decide +kernel)) rfl, qn_X4_toWay, ql_X4_toWay, qi_X4, qc_X4_toWay, ⟨by decide, by decide, by decide +kernel⟩⟩
theorem sX4_34 : SV RX4 34 yX4_nextToken cX4_nextToken 1 none 0 := ⟨gw_in (List.mem_of_getElem? (i := 595) (by decide +kernel)) rfl, qn_X4_nextToken, ql_X4_nextToken, qi_X4, qc_X4_nextToken, ⟨by decide, by decide, by decide +kernel⟩⟩
theorem sX4_56 : SS RX4 56 yX4_isLetter cX4_isLetter 1 (some .boolean) 1 := ⟨gw_in (List.mem_of_getElem? (i := 599) (by decide +kernel)) rfl, qt_X4_isLetter, qi_X4, qc_X4_isLetter, ⟨by decide, by decide, by decide +kernel⟩⟩
theorem sX4_60 : SV RX4 60 yX4_takeWord cX4_takeWord 1 none 0 := ⟨gw_in (List.mem_of_getElem? (i := 602) (by decide +kernel)) rfl, qn_X4_takeWord, ql_X4_takeWord, qi_X4, qc_X4_takeWord, ⟨by decide, by decide, by decide +kernel⟩⟩
theorem sX4_63 : SS RX4 63 yX4_isDigit cX4_isDigit 1 (some .boolean) 1 := ⟨gw_in (List.mem_of_getElem? (i := 606) (by decide +kernel)) rfl, qt_X4_isDigit, qi_X4, qc_X4_isDigit, ⟨by decide, by decide, by decide +kernel⟩⟩
theorem sX4_66 : SV RX4 66 yX4_takeNumber cX4_takeNumber 2 none 0 := ⟨gw_in (List.mem_of_getElem? (i := 609) (by decide +kernel)) rfl, qn_X4_takeNumber, ql_X4_takeNumber, qi_X4, qc_X4_takeNumber, ⟨by decide, by decide, by decide +kernel⟩⟩
theorem sX4_72 : SS RX4 72 yJ9_min_7cf53 cJ9_min_7cf53 2 (some .int) 2 := ⟨gw_in (List.mem_of_getElem? (i := 613) (by decide +kernel)) rfl, qt_J9_min_7cf53, qi_J9, qc_J9_min_7cf53, ⟨by decide, by decide, by decide +kernel⟩⟩
theorem sX4_69 : SS RX4 69 yX4_isSign cX4_isSign 1 (some .boolean) 1 := ⟨gw_in (List.mem_of_getElem? (i := 616) (by decide +kernel)) rfl, qt_X4_isSign, qi_X4, qc_X4_isSign, ⟨by decide, by decide, by decide +kernel⟩⟩
theorem sX4_37 : SV RX4 37 yX4_takeRule cX4_takeRule 6 (some .boolean) 1 := ⟨gw_in (List.mem_of_getElem? (i := 619) (by decide +kernel)) rfl, qn_X4_takeRule, ql_X4_takeRule, qi_X4, qc_X4_takeRule, ⟨by decide, by decide, by decide +kernel⟩⟩
theorem sX4_41 : SV RX4 41 yX4_nameHere cX4_nameHere 1 (some .int) 0 := ⟨gw_in (List.mem_of_getElem? (i := 623) (by decide +kernel)) rfl, qn_X4_nameHere, ql_X4_nameHere, qi_X4, qc_X4_nameHere, ⟨by decide, by decide, by decide +kernel⟩⟩
theorem sX4_80 : SV RX4 80 yX4_isWord cX4_isWord 3 (some .boolean) 1 := ⟨gw_in (List.mem_of_getElem? (i := 628) (by decide +kernel)) rfl, qn_X4_isWord, ql_X4_isWord, qi_X4, qc_X4_isWord, ⟨by decide, by decide, by decide +kernel⟩⟩
theorem sX4_102 : SV RX4 102 yJ0_length_8abf5 cJ0_length_8abf5 1 (some .int) 0 := ⟨gw_in (List.mem_of_getElem? (i := 632) (by decide +kernel)) rfl, qn_J0_length_8abf5, ql_J0_length_8abf5, qi_J0, qc_J0_length_8abf5, ⟨by decide, by decide, by decide +kernel⟩⟩
theorem sJ0_335 : SV RJ0 335 yJ0_coder_7d493 cJ0_coder_7d493 1 (some .byte) 0 := ⟨gw_in (List.mem_of_getElem? (i := 636) (by decide +kernel)) rfl, qn_J0_coder_7d493, ql_J0_coder_7d493, qi_J0, qc_J0_coder_7d493, ⟨by decide, by decide, by decide +kernel⟩⟩
theorem sX4_107 : SV RX4 107 yJ0_charAt_5068e cJ0_charAt_5068e 2 (some .char) 1 := ⟨gw_in (List.mem_of_getElem? (i := 642) (by decide +kernel)) rfl, qn_J0_charAt_5068e, ql_J0_charAt_5068e, qi_J0, qc_J0_charAt_5068e, ⟨by decide, by decide, by decide +kernel⟩⟩
theorem sJ0_492 : SV RJ0 492 yJ0_isLatin1_aae02 cJ0_isLatin1_aae02 1 (some .boolean) 0 := ⟨gw_in (List.mem_of_getElem? (i := 646) (by decide +kernel)) rfl, qn_J0_isLatin1_aae02, ql_J0_isLatin1_aae02, qi_J0, qc_J0_isLatin1_aae02, ⟨by decide, by decide, by decide +kernel⟩⟩
theorem sJ0_495 : SS RJ0 495 yJ1_charAt_3b067 cJ1_charAt_3b067 2 (some .char) 2 := ⟨gw_in (List.mem_of_getElem? (i := 650) (by decide +kernel)) rfl, qt_J1_charAt_3b067, qi_J1, qc_J1_charAt_3b067, ⟨by decide, by decide, by decide +kernel⟩⟩
theorem sJ1_9 : SS RJ1 9 yJ0_checkIndex_df160 cJ0_checkIndex_df160 2 none 2 := ⟨gw_in (List.mem_of_getElem? (i := 653) (by decide +kernel)) rfl, qt_J0_checkIndex_df160, qi_J0, qc_J0_checkIndex_df160, ⟨by decide, by decide, by decide +kernel⟩⟩
theorem sJ0_1059 : SS RJ0 1059 yJ3_checkIndex_8e157 cJ3_checkIndex_8e157 3 (some .int) 3 := ⟨gw_in (List.mem_of_getElem? (i := 658) (by decide +kernel)) rfl, qt_J3_checkIndex_8e157, qi_J3, qc_J3_checkIndex_8e157, ⟨by decide, by decide, by decide +kernel⟩⟩
theorem sJ0_498 : SS RJ0 498 yJ2_charAt_3b067 cJ2_charAt_3b067 2 (some .char) 2 := ⟨gw_in (List.mem_of_getElem? (i := 661) (by decide +kernel)) rfl, qt_J2_charAt_3b067, qi_J2, qc_J2_charAt_3b067, ⟨by decide, by decide, by decide +kernel⟩⟩
theorem sJ2_67 : SS RJ2 67 yJ2_checkIndex_2214a cJ2_checkIndex_2214a 2 none 2 := ⟨gw_in (List.mem_of_getElem? (i := 664) (by decide +kernel)) rfl, qt_J2_checkIndex_2214a, qi_J2, qc_J2_checkIndex_2214a, ⟨by decide, by decide, by decide +kernel⟩⟩
theorem sJ2_48 : SS RJ2 48 yJ2_length_9d52b cJ2_length_9d52b 1 (some .int) 1 := ⟨gw_in (List.mem_of_getElem? (i := 667) (by decide +kernel)) rfl, qt_J2_length_9d52b, qi_J2, qc_J2_length_9d52b, ⟨by decide, by decide, by decide +kernel⟩⟩
theorem sJ2_414 : SS RJ2 414 yJ0_checkIndex_df160 cJ0_checkIndex_df160 2 none 2 := ⟨gw_in (List.mem_of_getElem? (i := 670) (by decide +kernel)) rfl, qt_J0_checkIndex_df160, qi_J0, qc_J0_checkIndex_df160, ⟨by decide, by decide, by decide +kernel⟩⟩
theorem sJ2_71 : SS RJ2 71 yJ2_getChar_3b067 cJ2_getChar_3b067 2 (some .char) 2 := ⟨gw_in (List.mem_of_getElem? (i := 671) (by decide +kernel)) rfl, qt_J2_getChar_3b067, qi_J2, qc_J2_getChar_3b067, ⟨by decide, by decide, by decide +kernel⟩⟩
theorem sX4_45 : SV RX4 45 yX4_takeComparison cX4_takeComparison 3 (some .boolean) 0 := ⟨gw_in (List.mem_of_getElem? (i := 684) (by decide +kernel)) rfl, qn_X4_takeComparison, ql_X4_takeComparison, qi_X4, qc_X4_takeComparison, ⟨by decide, by decide, by decide +kernel⟩⟩
theorem sX4_49 : SV RX4 49 yX4_deedHere cX4_deedHere 1 (some .int) 0 := ⟨gw_in (List.mem_of_getElem? (i := 688) (by decide +kernel)) rfl, qn_X4_deedHere, ql_X4_deedHere, qi_X4, qc_X4_deedHere, ⟨by decide, by decide, by decide +kernel⟩⟩
theorem sX4_52 : SV RX4 52 yX5_addRule cX5_addRule 5 none 4 := ⟨gw_in (List.mem_of_getElem? (i := 697) (by decide +kernel)) rfl, qn_X5_addRule, ql_X5_addRule, qi_X5, qc_X5_addRule, ⟨by decide, by decide, by decide +kernel⟩⟩
theorem sL_111 : SV RL 111 yX7_rules cX7_rules 3 (some .int) 1 := ⟨gw_in (List.mem_of_getElem? (i := 702) (by decide +kernel)) rfl, qn_X7_rules, ql_X7_rules, qi_X7, qc_X7_rules, ⟨by decide, by decide, by decide +kernel⟩⟩
theorem sL_115 : SV RL 115 yX7_holds cX7_holds 8 (some .int) 5 := ⟨gw_in (List.mem_of_getElem? (i := 706) (by decide +kernel)) rfl, qn_X7_holds, ql_X7_holds, qi_X7, qc_X7_holds, ⟨by decide, by decide, by decide +kernel⟩⟩
theorem sX7_255 : SV RX7 255 yX5_firstThat cX5_firstThat 9 (some .int) 4 := ⟨gw_in (List.mem_of_getElem? (i := 710) (by decide +kernel)) rfl, qn_X5_firstThat, ql_X5_firstThat, qi_X5, qc_X5_firstThat, ⟨by decide, by decide, by decide +kernel⟩⟩
theorem sL_119 : SV RL 119 yX7_sheet cX7_sheet 5 (some .int) 3 := ⟨gw_in (List.mem_of_getElem? (i := 711) (by decide +kernel)) rfl, qn_X7_sheet, ql_X7_sheet, qi_X7, qc_X7_sheet, ⟨by decide, by decide, by decide +kernel⟩⟩
theorem sX7_259 : SS RX7 259 yX7_isSheet cX7_isSheet 1 (some .boolean) 1 := ⟨gw_in (List.mem_of_getElem? (i := 715) (by decide +kernel)) rfl, qt_X7_isSheet, qi_X7, qc_X7_isSheet, ⟨by decide, by decide, by decide +kernel⟩⟩
theorem sX7_263 : SV RX7 263 yX2_begin cX2_begin 4 none 2 := ⟨gw_in (List.mem_of_getElem? (i := 719) (by decide +kernel)) rfl, qn_X2_begin, ql_X2_begin, qi_X2, qc_X2_begin, ⟨by decide, by decide, by decide +kernel⟩⟩
theorem sL_125 : SV RL 125 yX7_write cX7_write 7 (some .long) 3 := ⟨gw_in (List.mem_of_getElem? (i := 723) (by decide +kernel)) rfl, qn_X7_write, ql_X7_write, qi_X7, qc_X7_write, ⟨by decide, by decide, by decide +kernel⟩⟩
theorem sX7_265 : SV RX7 265 yX2_isMissing cX2_isMissing 1 (some .boolean) 0 := ⟨gw_in (List.mem_of_getElem? (i := 727) (by decide +kernel)) rfl, qn_X2_isMissing, ql_X2_isMissing, qi_X2, qc_X2_isMissing, ⟨by decide, by decide, by decide +kernel⟩⟩
theorem sX7_274 : SV RX7 274 yX2_put cX2_put 4 none 2 := ⟨gw_in (List.mem_of_getElem? (i := 732) (by decide +kernel)) rfl, qn_X2_put, ql_X2_put, qi_X2, qc_X2_put, ⟨by decide, by decide, by decide +kernel⟩⟩
theorem sL_130 : SV RL 130 yX7_copy cX7_copy 6 (some .int) 5 := ⟨gw_in (List.mem_of_getElem? (i := 737) (by decide +kernel)) rfl, qn_X7_copy, ql_X7_copy, qi_X7, qc_X7_copy, ⟨by decide, by decide, by decide +kernel⟩⟩
theorem sX7_281 : SV RX7 281 yX2_hasRow cX2_hasRow 3 (some .boolean) 2 := ⟨gw_in (List.mem_of_getElem? (i := 741) (by decide +kernel)) rfl, qn_X2_hasRow, ql_X2_hasRow, qi_X2, qc_X2_hasRow, ⟨by decide, by decide, by decide +kernel⟩⟩
theorem sL_134 : SV RL 134 yX7_film cX7_film 8 (some .int) 3 := ⟨gw_in (List.mem_of_getElem? (i := 748) (by decide +kernel)) rfl, qn_X7_film, ql_X7_film, qi_X7, qc_X7_film, ⟨by decide, by decide, by decide +kernel⟩⟩
theorem sX7_290 : SV RX7 290 yX7_sheetFinding cX7_sheetFinding 4 (some .int) 3 := ⟨gw_in (List.mem_of_getElem? (i := 752) (by decide +kernel)) rfl, qn_X7_sheetFinding, ql_X7_sheetFinding, qi_X7, qc_X7_sheetFinding, ⟨by decide, by decide, by decide +kernel⟩⟩
theorem sL_138 : SV RL 138 yX7_read cX7_read 8 (some .int) 3 := ⟨gw_in (List.mem_of_getElem? (i := 756) (by decide +kernel)) rfl, qn_X7_read, ql_X7_read, qi_X7, qc_X7_read, ⟨by decide, by decide, by decide +kernel⟩⟩
theorem sL_142 : SV RL 142 yX7_image cX7_image 1 (some .int) 0 := ⟨gw_in (List.mem_of_getElem? (i := 760) (by decide +kernel)) rfl, qn_X7_image, ql_X7_image, qi_X7, qc_X7_image, ⟨by decide, by decide, by decide +kernel⟩⟩
theorem sX7_294 : SV RX7 294 yX6_takeFrom cX6_takeFrom 3 none 1 := ⟨gw_in (List.mem_of_getElem? (i := 764) (by decide +kernel)) rfl, qn_X6_takeFrom, ql_X6_takeFrom, qi_X6, qc_X6_takeFrom, ⟨by decide, by decide, by decide +kernel⟩⟩
theorem sX6_65 : SV RX6 65 yX1_takeFrom cX1_takeFrom 2 none 1 := ⟨gw_in (List.mem_of_getElem? (i := 768) (by decide +kernel)) rfl, qn_X1_takeFrom, ql_X1_takeFrom, qi_X1, qc_X1_takeFrom, ⟨by decide, by decide, by decide +kernel⟩⟩
theorem sX6_69 : SV RX6 69 yX0_takeFrom cX0_takeFrom 3 none 1 := ⟨gw_in (List.mem_of_getElem? (i := 769) (by decide +kernel)) rfl, qn_X0_takeFrom, ql_X0_takeFrom, qi_X0, qc_X0_takeFrom, ⟨by decide, by decide, by decide +kernel⟩⟩
theorem sX0_42 : SV RX0 42 yX3_takeFrom cX3_takeFrom 2 none 1 := ⟨gw_in (List.mem_of_getElem? (i := 773) (by decide +kernel)) rfl, qn_X3_takeFrom, ql_X3_takeFrom, qi_X3, qc_X3_takeFrom, ⟨by decide, by decide, by decide +kernel⟩⟩
theorem sL_146 : SV RL 146 yX7_undo cX7_undo 1 (some .int) 0 := ⟨gw_in (List.mem_of_getElem? (i := 777) (by decide +kernel)) rfl, qn_X7_undo, ql_X7_undo, qi_X7, qc_X7_undo, ⟨by decide, by decide, by decide +kernel⟩⟩
theorem sL_150 : SV RL 150 yX7_tear cX7_tear 2 (some .int) 0 := ⟨gw_in (List.mem_of_getElem? (i := 781) (by decide +kernel)) rfl, qn_X7_tear, ql_X7_tear, qi_X7, qc_X7_tear, ⟨by decide, by decide, by decide +kernel⟩⟩
theorem sL_154 : SV RL 154 yX7_count cX7_count 2 (some .int) 1 := ⟨gw_in (List.mem_of_getElem? (i := 785) (by decide +kernel)) rfl, qn_X7_count, ql_X7_count, qi_X7, qc_X7_count, ⟨by decide, by decide, by decide +kernel⟩⟩
theorem sX7_297 : SV RX7 297 yX6_allFalls cX6_allFalls 3 (some .int) 0 := ⟨gw_in (List.mem_of_getElem? (i := 789) (by decide +kernel)) rfl, qn_X6_allFalls, ql_X6_allFalls, qi_X6, qc_X6_allFalls, ⟨by decide, by decide, by decide +kernel⟩⟩
theorem sL_158 : SV RL 158 yX7_status cX7_status 4 (some .int) 1 := ⟨gw_in (List.mem_of_getElem? (i := 793) (by decide +kernel)) rfl, qn_X7_status, ql_X7_status, qi_X7, qc_X7_status, ⟨by decide, by decide, by decide +kernel⟩⟩
theorem sL_12 : SI RL 12 yX8_init cX8_init 1 0 := ⟨gw_in (List.mem_of_getElem? (i := 799) (by decide +kernel)) rfl, qn_X8_init, rfl, qi_X8, qc_X8_init, ⟨by decide, by decide, by decide +kernel⟩⟩
theorem sL_17 : SV RL 17 yX8_roller cX8_roller 4 (some .int) 2 := ⟨gw_in (List.mem_of_getElem? (i := 861) (by decide +kernel)) rfl, qn_X8_roller, ql_X8_roller, qi_X8, qc_X8_roller, ⟨by decide, by decide, by decide +kernel⟩⟩
theorem sX8_39 : SS RX8 39 yX8_in cX8_in 6 (some .boolean) 3 := ⟨gw_in (List.mem_of_getElem? (i := 866) (by decide +kernel)) rfl, qt_X8_in, qi_X8, qc_X8_in, ⟨by decide, by decide, by decide +kernel⟩⟩
theorem sX8_51 : SV RX8 51 yX8_finds cX8_finds 2 (some .int) 1 := ⟨gw_in (List.mem_of_getElem? (i := 871) (by decide +kernel)) rfl, qn_X8_finds, ql_X8_finds, qi_X8, qc_X8_finds, ⟨by decide, by decide, by decide +kernel⟩⟩
theorem sL_21 : SV RL 21 yX8_of cX8_of 3 (some .int) 2 := ⟨gw_in (List.mem_of_getElem? (i := 876) (by decide +kernel)) rfl, qn_X8_of, ql_X8_of, qi_X8, qc_X8_of, ⟨by decide, by decide, by decide +kernel⟩⟩
theorem sX8_43 : SV RX8 43 yX8_isPerson cX8_isPerson 2 (some .boolean) 1 := ⟨gw_in (List.mem_of_getElem? (i := 880) (by decide +kernel)) rfl, qn_X8_isPerson, ql_X8_isPerson, qi_X8, qc_X8_isPerson, ⟨by decide, by decide, by decide +kernel⟩⟩
theorem sL_26 : SV RL 26 yX8_set cX8_set 5 (some .int) 3 := ⟨gw_in (List.mem_of_getElem? (i := 885) (by decide +kernel)) rfl, qn_X8_set, ql_X8_set, qi_X8, qc_X8_set, ⟨by decide, by decide, by decide +kernel⟩⟩
theorem sX8_66 : SV RX8 66 yX8_mayBe cX8_mayBe 3 (some .boolean) 2 := ⟨gw_in (List.mem_of_getElem? (i := 889) (by decide +kernel)) rfl, qn_X8_mayBe, ql_X8_mayBe, qi_X8, qc_X8_mayBe, ⟨by decide, by decide, by decide +kernel⟩⟩
theorem sX8_70 : SV RX8 70 yX8_isOnLog cX8_isOnLog 2 (some .boolean) 1 := ⟨gw_in (List.mem_of_getElem? (i := 897) (by decide +kernel)) rfl, qn_X8_isOnLog, ql_X8_isOnLog, qi_X8, qc_X8_isOnLog, ⟨by decide, by decide, by decide +kernel⟩⟩
theorem sL_30 : SV RL 30 yX8_as cX8_as 3 (some .int) 2 := ⟨gw_in (List.mem_of_getElem? (i := 902) (by decide +kernel)) rfl, qn_X8_as, ql_X8_as, qi_X8, qc_X8_as, ⟨by decide, by decide, by decide +kernel⟩⟩
theorem sX8_74 : SS RX8 74 yX8_told cX8_told 3 (some .int) 3 := ⟨gw_in (List.mem_of_getElem? (i := 906) (by decide +kernel)) rfl, qt_X8_told, qi_X8, qc_X8_told, ⟨by decide, by decide, by decide +kernel⟩⟩
theorem sX8_78 : SS RX8 78 yX8_isOf cX8_isOf 2 (some .boolean) 2 := ⟨gw_in (List.mem_of_getElem? (i := 909) (by decide +kernel)) rfl, qt_X8_isOf, qi_X8, qc_X8_isOf, ⟨by decide, by decide, by decide +kernel⟩⟩
theorem sL_34 : SV RL 34 yX8_log cX8_log 6 (some .int) 2 := ⟨gw_in (List.mem_of_getElem? (i := 913) (by decide +kernel)) rfl, qn_X8_log, ql_X8_log, qi_X8, qc_X8_log, ⟨by decide, by decide, by decide +kernel⟩⟩
theorem sL_39 : SV RL 39 yX8_push cX8_push 6 (some .int) 5 := ⟨gw_in (List.mem_of_getElem? (i := 918) (by decide +kernel)) rfl, qn_X8_push, ql_X8_push, qi_X8, qc_X8_push, ⟨by decide, by decide, by decide +kernel⟩⟩
theorem sX8_101 : SS RX8 101 yX8_pushOf cX8_pushOf 10 (some .int) 6 := ⟨gw_in (List.mem_of_getElem? (i := 925) (by decide +kernel)) rfl, qt_X8_pushOf, qi_X8, qc_X8_pushOf, ⟨by decide, by decide, by decide +kernel⟩⟩
theorem sX8_84 : SS RX8 84 yX8_held cX8_held 2 (some .int) 2 := ⟨gw_in (List.mem_of_getElem? (i := 928) (by decide +kernel)) rfl, qt_X8_held, qi_X8, qc_X8_held, ⟨by decide, by decide, by decide +kernel⟩⟩
theorem sX8_88 : SS RX8 88 yX8_size cX8_size 1 (some .int) 1 := ⟨gw_in (List.mem_of_getElem? (i := 931) (by decide +kernel)) rfl, qt_X8_size, qi_X8, qc_X8_size, ⟨by decide, by decide, by decide +kernel⟩⟩
theorem sX8_91 : SS RX8 91 yX8_ruleOf cX8_ruleOf 10 (some .int) 6 := ⟨gw_in (List.mem_of_getElem? (i := 934) (by decide +kernel)) rfl, qt_X8_ruleOf, qi_X8, qc_X8_ruleOf, ⟨by decide, by decide, by decide +kernel⟩⟩
theorem sL_43 : SV RL 43 yX8_mount cX8_mount 3 (some .int) 2 := ⟨gw_in (List.mem_of_getElem? (i := 937) (by decide +kernel)) rfl, qn_X8_mount, ql_X8_mount, qi_X8, qc_X8_mount, ⟨by decide, by decide, by decide +kernel⟩⟩
theorem sX8_127 : SV RX8 127 yX8_areTwo cX8_areTwo 3 (some .boolean) 2 := ⟨gw_in (List.mem_of_getElem? (i := 941) (by decide +kernel)) rfl, qn_X8_areTwo, ql_X8_areTwo, qi_X8, qc_X8_areTwo, ⟨by decide, by decide, by decide +kernel⟩⟩
theorem sX8_130 : SS RX8 130 yX8_getsOn cX8_getsOn 4 none 3 := ⟨gw_in (List.mem_of_getElem? (i := 945) (by decide +kernel)) rfl, qt_X8_getsOn, qi_X8, qc_X8_getsOn, ⟨by decide, by decide, by decide +kernel⟩⟩
theorem sL_48 : SV RL 48 yX8_off cX8_off 1 (some .int) 0 := ⟨gw_in (List.mem_of_getElem? (i := 948) (by decide +kernel)) rfl, qn_X8_off, ql_X8_off, qi_X8, qc_X8_off, ⟨by decide, by decide, by decide +kernel⟩⟩
theorem sL_53 : SV RL 53 yX8_bout cX8_bout 4 (some .int) 1 := ⟨gw_in (List.mem_of_getElem? (i := 952) (by decide +kernel)) rfl, qn_X8_bout, ql_X8_bout, qi_X8, qc_X8_bout, ⟨by decide, by decide, by decide +kernel⟩⟩
theorem sX8_135 : SS RX8 135 yX8_goesBy cX8_goesBy 8 (some .int) 1 := ⟨gw_in (List.mem_of_getElem? (i := 957) (by decide +kernel)) rfl, qt_X8_goesBy, qi_X8, qc_X8_goesBy, ⟨by decide, by decide, by decide +kernel⟩⟩
theorem sX8_104 : SS RX8 104 yX8_sees cX8_sees 3 (some .int) 2 := ⟨gw_in (List.mem_of_getElem? (i := 960) (by decide +kernel)) rfl, qt_X8_sees, qi_X8, qc_X8_sees, ⟨by decide, by decide, by decide +kernel⟩⟩
theorem sX8_116 : SS RX8 116 yX8_pushes cX8_pushes 3 (some .int) 2 := ⟨gw_in (List.mem_of_getElem? (i := 963) (by decide +kernel)) rfl, qt_X8_pushes, qi_X8, qc_X8_pushes, ⟨by decide, by decide, by decide +kernel⟩⟩
theorem sX8_108 : SS RX8 108 yX8_costOf cX8_costOf 1 (some .int) 1 := ⟨gw_in (List.mem_of_getElem? (i := 966) (by decide +kernel)) rfl, qt_X8_costOf, qi_X8, qc_X8_costOf, ⟨by decide, by decide, by decide +kernel⟩⟩
theorem sX8_119 : SS RX8 119 yX8_steps cX8_steps 3 none 3 := ⟨gw_in (List.mem_of_getElem? (i := 969) (by decide +kernel)) rfl, qt_X8_steps, qi_X8, qc_X8_steps, ⟨by decide, by decide, by decide +kernel⟩⟩
theorem sX8_112 : SS RX8 112 yX8_slips cX8_slips 1 (some .boolean) 1 := ⟨gw_in (List.mem_of_getElem? (i := 972) (by decide +kernel)) rfl, qt_X8_slips, qi_X8, qc_X8_slips, ⟨by decide, by decide, by decide +kernel⟩⟩
theorem sX8_123 : SS RX8 123 yX8_falls cX8_falls 2 (some .boolean) 2 := ⟨gw_in (List.mem_of_getElem? (i := 976) (by decide +kernel)) rfl, qt_X8_falls, qi_X8, qc_X8_falls, ⟨by decide, by decide, by decide +kernel⟩⟩
theorem sL_57 : SV RL 57 yX8_stands cX8_stands 3 (some .int) 2 := ⟨gw_in (List.mem_of_getElem? (i := 979) (by decide +kernel)) rfl, qn_X8_stands, ql_X8_stands, qi_X8, qc_X8_stands, ⟨by decide, by decide, by decide +kernel⟩⟩
theorem sL_61 : SV RL 61 yX8_now cX8_now 2 (some .int) 1 := ⟨gw_in (List.mem_of_getElem? (i := 983) (by decide +kernel)) rfl, qn_X8_now, ql_X8_now, qi_X8, qc_X8_now, ⟨by decide, by decide, by decide +kernel⟩⟩
theorem sL_65 : SV RL 65 yX8_seed cX8_seed 3 (some .int) 1 := ⟨gw_in (List.mem_of_getElem? (i := 988) (by decide +kernel)) rfl, qn_X8_seed, ql_X8_seed, qi_X8, qc_X8_seed, ⟨by decide, by decide, by decide +kernel⟩⟩
theorem sL_70 : SV RL 70 yX8_ahead cX8_ahead 6 (some .int) 4 := ⟨gw_in (List.mem_of_getElem? (i := 992) (by decide +kernel)) rfl, qn_X8_ahead, ql_X8_ahead, qi_X8, qc_X8_ahead, ⟨by decide, by decide, by decide +kernel⟩⟩
theorem sX8_150 : SS RX8 150 yX8_copies cX8_copies 3 none 2 := ⟨gw_in (List.mem_of_getElem? (i := 997) (by decide +kernel)) rfl, qt_X8_copies, qi_X8, qc_X8_copies, ⟨by decide, by decide, by decide +kernel⟩⟩
theorem sX8_154 : SV RX8 154 yX8_boutAhead cX8_boutAhead 7 (some .int) 3 := ⟨gw_in (List.mem_of_getElem? (i := 1000) (by decide +kernel)) rfl, qn_X8_boutAhead, ql_X8_boutAhead, qi_X8, qc_X8_boutAhead, ⟨by decide, by decide, by decide +kernel⟩⟩
theorem sL_74 : SV RL 74 yX8_best cX8_best 8 (some .int) 3 := ⟨gw_in (List.mem_of_getElem? (i := 1004) (by decide +kernel)) rfl, qn_X8_best, ql_X8_best, qi_X8, qc_X8_best, ⟨by decide, by decide, by decide +kernel⟩⟩
theorem sL_78 : SV RL 78 yX8_light cX8_light 5 (some .int) 3 := ⟨gw_in (List.mem_of_getElem? (i := 1009) (by decide +kernel)) rfl, qn_X8_light, ql_X8_light, qi_X8, qc_X8_light, ⟨by decide, by decide, by decide +kernel⟩⟩
theorem sL_82 : SV RL 82 yX8_late cX8_late 5 (some .int) 3 := ⟨gw_in (List.mem_of_getElem? (i := 1014) (by decide +kernel)) rfl, qn_X8_late, ql_X8_late, qi_X8, qc_X8_late, ⟨by decide, by decide, by decide +kernel⟩⟩
theorem sL_86 : SV RL 86 yX8_swing cX8_swing 6 (some .int) 4 := ⟨gw_in (List.mem_of_getElem? (i := 1018) (by decide +kernel)) rfl, qn_X8_swing, ql_X8_swing, qi_X8, qc_X8_swing, ⟨by decide, by decide, by decide +kernel⟩⟩
theorem sL_90 : SV RL 90 yX8_beats cX8_beats 3 (some .int) 2 := ⟨gw_in (List.mem_of_getElem? (i := 1022) (by decide +kernel)) rfl, qn_X8_beats, ql_X8_beats, qi_X8, qc_X8_beats, ⟨by decide, by decide, by decide +kernel⟩⟩
theorem sX8_161 : SV RX8 161 yX8_beatenBy cX8_beatenBy 5 (some .int) 2 := ⟨gw_in (List.mem_of_getElem? (i := 1026) (by decide +kernel)) rfl, qn_X8_beatenBy, ql_X8_beatenBy, qi_X8, qc_X8_beatenBy, ⟨by decide, by decide, by decide +kernel⟩⟩
theorem sL_94 : SV RL 94 yX8_five cX8_five 8 (some .int) 3 := ⟨gw_in (List.mem_of_getElem? (i := 1030) (by decide +kernel)) rfl, qn_X8_five, ql_X8_five, qi_X8, qc_X8_five, ⟨by decide, by decide, by decide +kernel⟩⟩
theorem sL_98 : SV RL 98 yX8_champion cX8_champion 7 (some .int) 1 := ⟨gw_in (List.mem_of_getElem? (i := 1034) (by decide +kernel)) rfl, qn_X8_champion, ql_X8_champion, qi_X8, qc_X8_champion, ⟨by decide, by decide, by decide +kernel⟩⟩
theorem sL_102 : SV RL 102 yX8_feed cX8_feed 4 (some .int) 2 := ⟨gw_in (List.mem_of_getElem? (i := 1039) (by decide +kernel)) rfl, qn_X8_feed, ql_X8_feed, qi_X8, qc_X8_feed, ⟨by decide, by decide, by decide +kernel⟩⟩
theorem sL_106 : SV RL 106 yX8_wipe cX8_wipe 2 (some .int) 0 := ⟨gw_in (List.mem_of_getElem? (i := 1043) (by decide +kernel)) rfl, qn_X8_wipe, ql_X8_wipe, qi_X8, qc_X8_wipe, ⟨by decide, by decide, by decide +kernel⟩⟩
theorem sL_110 : SV RL 110 yX8_way cX8_way 2 (some .int) 0 := ⟨gw_in (List.mem_of_getElem? (i := 1047) (by decide +kernel)) rfl, qn_X8_way, ql_X8_way, qi_X8, qc_X8_way, ⟨by decide, by decide, by decide +kernel⟩⟩
theorem sX8_235 : SV RX8 235 yX8_look cX8_look 2 none 0 := ⟨gw_in (List.mem_of_getElem? (i := 1051) (by decide +kernel)) rfl, qn_X8_look, ql_X8_look, qi_X8, qc_X8_look, ⟨by decide, by decide, by decide +kernel⟩⟩
theorem sX8_184 : SS RX8 184 yX8_isLetter cX8_isLetter 1 (some .boolean) 1 := ⟨gw_in (List.mem_of_getElem? (i := 1055) (by decide +kernel)) rfl, qt_X8_isLetter, qi_X8, qc_X8_isLetter, ⟨by decide, by decide, by decide +kernel⟩⟩
theorem sX8_187 : SS RX8 187 yX8_isDigit cX8_isDigit 1 (some .boolean) 1 := ⟨gw_in (List.mem_of_getElem? (i := 1058) (by decide +kernel)) rfl, qt_X8_isDigit, qi_X8, qc_X8_isDigit, ⟨by decide, by decide, by decide +kernel⟩⟩
theorem sX8_248 : SV RX8 248 yX8_reads cX8_reads 4 none 1 := ⟨gw_in (List.mem_of_getElem? (i := 1061) (by decide +kernel)) rfl, qn_X8_reads, ql_X8_reads, qi_X8, qc_X8_reads, ⟨by decide, by decide, by decide +kernel⟩⟩
theorem sX8_238 : SV RX8 238 yX8_name cX8_name 1 (some .int) 0 := ⟨gw_in (List.mem_of_getElem? (i := 1065) (by decide +kernel)) rfl, qn_X8_name, ql_X8_name, qi_X8, qc_X8_name, ⟨by decide, by decide, by decide +kernel⟩⟩
theorem sX8_206 : SV RX8 206 yX8_isWord cX8_isWord 4 (some .boolean) 1 := ⟨gw_in (List.mem_of_getElem? (i := 1070) (by decide +kernel)) rfl, qn_X8_isWord, ql_X8_isWord, qi_X8, qc_X8_isWord, ⟨by decide, by decide, by decide +kernel⟩⟩
theorem sX8_190 : SV RX8 190 yJ0_length_8abf5 cJ0_length_8abf5 1 (some .int) 0 := ⟨gw_in (List.mem_of_getElem? (i := 1074) (by decide +kernel)) rfl, qn_J0_length_8abf5, ql_J0_length_8abf5, qi_J0, qc_J0_length_8abf5, ⟨by decide, by decide, by decide +kernel⟩⟩
theorem sX8_196 : SV RX8 196 yJ0_charAt_5068e cJ0_charAt_5068e 2 (some .char) 1 := ⟨gw_in (List.mem_of_getElem? (i := 1075) (by decide +kernel)) rfl, qn_J0_charAt_5068e, ql_J0_charAt_5068e, qi_J0, qc_J0_charAt_5068e, ⟨by decide, by decide, by decide +kernel⟩⟩
theorem sX8_231 : SV RX8 231 yX8_must cX8_must 2 none 1 := ⟨gw_in (List.mem_of_getElem? (i := 1080) (by decide +kernel)) rfl, qn_X8_must, ql_X8_must, qi_X8, qc_X8_must, ⟨by decide, by decide, by decide +kernel⟩⟩
theorem sX8_241 : SV RX8 241 yX8_compares cX8_compares 3 none 1 := ⟨gw_in (List.mem_of_getElem? (i := 1084) (by decide +kernel)) rfl, qn_X8_compares, ql_X8_compares, qi_X8, qc_X8_compares, ⟨by decide, by decide, by decide +kernel⟩⟩
theorem sX8_228 : SV RX8 228 yX8_isSign cX8_isSign 2 (some .boolean) 1 := ⟨gw_in (List.mem_of_getElem? (i := 1088) (by decide +kernel)) rfl, qn_X8_isSign, ql_X8_isSign, qi_X8, qc_X8_isSign, ⟨by decide, by decide, by decide +kernel⟩⟩
theorem sX8_245 : SV RX8 245 yX8_deed cX8_deed 1 (some .int) 0 := ⟨gw_in (List.mem_of_getElem? (i := 1092) (by decide +kernel)) rfl, qn_X8_deed, ql_X8_deed, qi_X8, qc_X8_deed, ⟨by decide, by decide, by decide +kernel⟩⟩
theorem sL_114 : SV RL 114 yX8_rules cX8_rules 2 (some .int) 1 := ⟨gw_in (List.mem_of_getElem? (i := 1101) (by decide +kernel)) rfl, qn_X8_rules, ql_X8_rules, qi_X8, qc_X8_rules, ⟨by decide, by decide, by decide +kernel⟩⟩
theorem sX8_251 : SV RX8 251 yX8_isWay cX8_isWay 2 (some .boolean) 1 := ⟨gw_in (List.mem_of_getElem? (i := 1105) (by decide +kernel)) rfl, qn_X8_isWay, ql_X8_isWay, qi_X8, qc_X8_isWay, ⟨by decide, by decide, by decide +kernel⟩⟩
theorem sL_118 : SV RL 118 yX8_holds cX8_holds 7 (some .int) 5 := ⟨gw_in (List.mem_of_getElem? (i := 1109) (by decide +kernel)) rfl, qn_X8_holds, ql_X8_holds, qi_X8, qc_X8_holds, ⟨by decide, by decide, by decide +kernel⟩⟩
theorem sL_122 : SV RL 122 yX8_sheet cX8_sheet 5 (some .int) 3 := ⟨gw_in (List.mem_of_getElem? (i := 1113) (by decide +kernel)) rfl, qn_X8_sheet, ql_X8_sheet, qi_X8, qc_X8_sheet, ⟨by decide, by decide, by decide +kernel⟩⟩
theorem sX8_256 : SS RX8 256 yX8_isSheet cX8_isSheet 1 (some .boolean) 1 := ⟨gw_in (List.mem_of_getElem? (i := 1117) (by decide +kernel)) rfl, qt_X8_isSheet, qi_X8, qc_X8_isSheet, ⟨by decide, by decide, by decide +kernel⟩⟩
theorem sL_129 : SV RL 129 yX8_write cX8_write 7 (some .long) 3 := ⟨gw_in (List.mem_of_getElem? (i := 1122) (by decide +kernel)) rfl, qn_X8_write, ql_X8_write, qi_X8, qc_X8_write, ⟨by decide, by decide, by decide +kernel⟩⟩
theorem sX8_261 : SS RX8 261 yX8_lowest cX8_lowest 3 (some .long) 2 := ⟨gw_in (List.mem_of_getElem? (i := 1127) (by decide +kernel)) rfl, qt_X8_lowest, qi_X8, qc_X8_lowest, ⟨by decide, by decide, by decide +kernel⟩⟩
theorem sL_133 : SV RL 133 yX8_copy cX8_copy 7 (some .int) 5 := ⟨gw_in (List.mem_of_getElem? (i := 1130) (by decide +kernel)) rfl, qn_X8_copy, ql_X8_copy, qi_X8, qc_X8_copy, ⟨by decide, by decide, by decide +kernel⟩⟩
theorem sL_137 : SV RL 137 yX8_film cX8_film 7 (some .int) 3 := ⟨gw_in (List.mem_of_getElem? (i := 1134) (by decide +kernel)) rfl, qn_X8_film, ql_X8_film, qi_X8, qc_X8_film, ⟨by decide, by decide, by decide +kernel⟩⟩
theorem sX8_265 : SV RX8 265 yX8_whyNot cX8_whyNot 4 (some .int) 3 := ⟨gw_in (List.mem_of_getElem? (i := 1138) (by decide +kernel)) rfl, qn_X8_whyNot, ql_X8_whyNot, qi_X8, qc_X8_whyNot, ⟨by decide, by decide, by decide +kernel⟩⟩
theorem sL_141 : SV RL 141 yX8_read cX8_read 7 (some .int) 3 := ⟨gw_in (List.mem_of_getElem? (i := 1142) (by decide +kernel)) rfl, qn_X8_read, ql_X8_read, qi_X8, qc_X8_read, ⟨by decide, by decide, by decide +kernel⟩⟩
theorem sL_145 : SV RL 145 yX8_image cX8_image 1 (some .int) 0 := ⟨gw_in (List.mem_of_getElem? (i := 1146) (by decide +kernel)) rfl, qn_X8_image, ql_X8_image, qi_X8, qc_X8_image, ⟨by decide, by decide, by decide +kernel⟩⟩
theorem sL_149 : SV RL 149 yX8_undo cX8_undo 1 (some .int) 0 := ⟨gw_in (List.mem_of_getElem? (i := 1150) (by decide +kernel)) rfl, qn_X8_undo, ql_X8_undo, qi_X8, qc_X8_undo, ⟨by decide, by decide, by decide +kernel⟩⟩
theorem sL_153 : SV RL 153 yX8_tear cX8_tear 2 (some .int) 0 := ⟨gw_in (List.mem_of_getElem? (i := 1154) (by decide +kernel)) rfl, qn_X8_tear, ql_X8_tear, qi_X8, qc_X8_tear, ⟨by decide, by decide, by decide +kernel⟩⟩
theorem sL_157 : SV RL 157 yX8_count cX8_count 2 (some .int) 1 := ⟨gw_in (List.mem_of_getElem? (i := 1158) (by decide +kernel)) rfl, qn_X8_count, ql_X8_count, qi_X8, qc_X8_count, ⟨by decide, by decide, by decide +kernel⟩⟩
theorem sX8_271 : SV RX8 271 yX8_allFalls cX8_allFalls 3 (some .int) 0 := ⟨gw_in (List.mem_of_getElem? (i := 1162) (by decide +kernel)) rfl, qn_X8_allFalls, ql_X8_allFalls, qi_X8, qc_X8_allFalls, ⟨by decide, by decide, by decide +kernel⟩⟩
theorem sL_161 : SV RL 161 yX8_status cX8_status 4 (some .int) 1 := ⟨gw_in (List.mem_of_getElem? (i := 1166) (by decide +kernel)) rfl, qn_X8_status, ql_X8_status, qi_X8, qc_X8_status, ⟨by decide, by decide, by decide +kernel⟩⟩
theorem sX0_17 : SIn RX0 17 yX3_init cX3_init 1 0 := ⟨List.mem_of_getElem? (i := 0) (by decide +kernel), qn_X3_init, rfl, qi_X3, qc_X3_init, ⟨by decide, by decide, by decide +kernel⟩⟩
theorem sX6_64 : SIn RX6 64 yX1_init cX1_init 1 0 := ⟨List.mem_of_getElem? (i := 1) (by decide +kernel), qn_X1_init, rfl, qi_X1, qc_X1_init, ⟨by decide, by decide, by decide +kernel⟩⟩
theorem sX7_42 : SIn RX7 42 yX1_init cX1_init 1 0 := ⟨List.mem_of_getElem? (i := 2) (by decide +kernel), qn_X1_init, rfl, qi_X1, qc_X1_init, ⟨by decide, by decide, by decide +kernel⟩⟩
theorem sX7_49 : SIn RX7 49 yX4_init cX4_init 1 0 := ⟨List.mem_of_getElem? (i := 3) (by decide +kernel), qn_X4_init, rfl, qi_X4, qc_X4_init, ⟨by decide, by decide, by decide +kernel⟩⟩
theorem sX7_63 : SIn RX7 63 yX2_init cX2_init 1 0 := ⟨List.mem_of_getElem? (i := 4) (by decide +kernel), qn_X2_init, rfl, qi_X2, qc_X2_init, ⟨by decide, by decide, by decide +kernel⟩⟩
theorem sX6_72 : SNs RX6 72 yX7_within cX7_within 3 (some .boolean) 3 := ⟨List.mem_of_getElem? (i := 5) (by decide +kernel), qt_X7_within, qi_X7, qc_X7_within, ⟨by decide, by decide, by decide +kernel⟩⟩
theorem sX1_33 : SNs RX1 33 yX7_atMost cX7_atMost 2 (some .int) 2 := ⟨List.mem_of_getElem? (i := 6) (by decide +kernel), qt_X7_atMost, qi_X7, qc_X7_atMost, ⟨by decide, by decide, by decide +kernel⟩⟩
theorem sX5_28 : SNs RX5 28 yX7_within cX7_within 3 (some .boolean) 3 := ⟨List.mem_of_getElem? (i := 7) (by decide +kernel), qt_X7_within, qi_X7, qc_X7_within, ⟨by decide, by decide, by decide +kernel⟩⟩
theorem sX0_110 : SNs RX0 110 yX7_within cX7_within 3 (some .boolean) 3 := ⟨List.mem_of_getElem? (i := 8) (by decide +kernel), qt_X7_within, qi_X7, qc_X7_within, ⟨by decide, by decide, by decide +kernel⟩⟩
theorem sX3_34 : SNs RX3 34 yX7_atMost cX7_atMost 2 (some .int) 2 := ⟨List.mem_of_getElem? (i := 9) (by decide +kernel), qt_X7_atMost, qi_X7, qc_X7_atMost, ⟨by decide, by decide, by decide +kernel⟩⟩
theorem sX4_33 : SIn RX4 33 yX5_init cX5_init 1 0 := ⟨List.mem_of_getElem? (i := 10) (by decide +kernel), qn_X5_init, rfl, qi_X5, qc_X5_init, ⟨by decide, by decide, by decide +kernel⟩⟩
theorem sX2_22 : SNs RX2 22 yX7_within cX7_within 3 (some .boolean) 3 := ⟨List.mem_of_getElem? (i := 11) (by decide +kernel), qt_X7_within, qi_X7, qc_X7_within, ⟨by decide, by decide, by decide +kernel⟩⟩
theorem fX3_7 : FS RX3 7 3 0 RX3 TX3 5 := ⟨rfl, u_X3, by decide, gw_in (List.mem_of_getElem? (i := 94) (by decide +kernel)) rfl⟩
theorem fX7_172 : FS RX7 172 3 0 RX3 TX3 5 := ⟨rfl, u_X3, by decide, gw_in (List.mem_of_getElem? (i := 95) (by decide +kernel)) rfl⟩
theorem fX3_13 : FS RX3 13 3 1 RX3 TX3 5 := ⟨rfl, u_X3, by decide, gw_in (List.mem_of_getElem? (i := 96) (by decide +kernel)) rfl⟩
theorem fX0_82 : FS RX0 82 3 1 RX3 TX3 5 := ⟨rfl, u_X3, by decide, gw_in (List.mem_of_getElem? (i := 97) (by decide +kernel)) rfl⟩
theorem fX7_177 : FS RX7 177 3 1 RX3 TX3 5 := ⟨rfl, u_X3, by decide, gw_in (List.mem_of_getElem? (i := 98) (by decide +kernel)) rfl⟩
theorem fX3_16 : FS RX3 16 3 2 RX3 TX3 5 := ⟨rfl, u_X3, by decide, gw_in (List.mem_of_getElem? (i := 99) (by decide +kernel)) rfl⟩
theorem fX0_114 : FS RX0 114 3 2 RX3 TX3 5 := ⟨rfl, u_X3, by decide, gw_in (List.mem_of_getElem? (i := 100) (by decide +kernel)) rfl⟩
theorem fX7_180 : FS RX7 180 3 2 RX3 TX3 5 := ⟨rfl, u_X3, by decide, gw_in (List.mem_of_getElem? (i := 101) (by decide +kernel)) rfl⟩
theorem fX3_25 : FS RX3 25 3 3 RX3 TX3 5 := ⟨rfl, u_X3, by decide, gw_in (List.mem_of_getElem? (i := 102) (by decide +kernel)) rfl⟩
theorem fX3_28 : FS RX3 28 3 4 RX3 TX3 5 := ⟨rfl, u_X3, by decide, gw_in (List.mem_of_getElem? (i := 103) (by decide +kernel)) rfl⟩
theorem fX0_94 : FS RX0 94 3 4 RX3 TX3 5 := ⟨rfl, u_X3, by decide, gw_in (List.mem_of_getElem? (i := 104) (by decide +kernel)) rfl⟩
theorem fX0_35 : FS RX0 35 0 0 RX0 TX0 8 := ⟨rfl, u_X0, by decide, gw_in (List.mem_of_getElem? (i := 117) (by decide +kernel)) rfl⟩
theorem fX0_38 : FS RX0 38 0 1 RX0 TX0 8 := ⟨rfl, u_X0, by decide, gw_in (List.mem_of_getElem? (i := 118) (by decide +kernel)) rfl⟩
theorem fX0_11 : FS RX0 11 0 2 RX0 TX0 8 := ⟨rfl, u_X0, by decide, gw_in (List.mem_of_getElem? (i := 119) (by decide +kernel)) rfl⟩
theorem fX0_18 : FS RX0 18 0 3 RX0 TX0 8 := ⟨rfl, u_X0, by decide, gw_in (List.mem_of_getElem? (i := 120) (by decide +kernel)) rfl⟩
theorem fX7_167 : FS RX7 167 0 3 RX0 TX0 8 := ⟨rfl, u_X0, by decide, gw_in (List.mem_of_getElem? (i := 121) (by decide +kernel)) rfl⟩
theorem fX0_22 : FS RX0 22 0 4 RX0 TX0 8 := ⟨rfl, u_X0, by decide, gw_in (List.mem_of_getElem? (i := 122) (by decide +kernel)) rfl⟩
theorem fX7_170 : FS RX7 170 0 4 RX0 TX0 8 := ⟨rfl, u_X0, by decide, gw_in (List.mem_of_getElem? (i := 123) (by decide +kernel)) rfl⟩
theorem fX0_25 : FS RX0 25 0 5 RX0 TX0 8 := ⟨rfl, u_X0, by decide, gw_in (List.mem_of_getElem? (i := 124) (by decide +kernel)) rfl⟩
theorem fX7_191 : FS RX7 191 0 5 RX0 TX0 8 := ⟨rfl, u_X0, by decide, gw_in (List.mem_of_getElem? (i := 125) (by decide +kernel)) rfl⟩
theorem fX0_29 : FS RX0 29 0 6 RX0 TX0 8 := ⟨rfl, u_X0, by decide, gw_in (List.mem_of_getElem? (i := 126) (by decide +kernel)) rfl⟩
theorem fX7_156 : FS RX7 156 0 6 RX0 TX0 8 := ⟨rfl, u_X0, by decide, gw_in (List.mem_of_getElem? (i := 127) (by decide +kernel)) rfl⟩
theorem fX0_32 : FS RX0 32 0 7 RX0 TX0 8 := ⟨rfl, u_X0, by decide, gw_in (List.mem_of_getElem? (i := 128) (by decide +kernel)) rfl⟩
theorem fX7_197 : FS RX7 197 0 7 RX0 TX0 8 := ⟨rfl, u_X0, by decide, gw_in (List.mem_of_getElem? (i := 129) (by decide +kernel)) rfl⟩
theorem fX1_9 : FS RX1 9 1 0 RX1 TX1 7 := ⟨rfl, u_X1, by decide, gw_in (List.mem_of_getElem? (i := 152) (by decide +kernel)) rfl⟩
theorem fX7_107 : FS RX7 107 1 0 RX1 TX1 7 := ⟨rfl, u_X1, by decide, gw_in (List.mem_of_getElem? (i := 153) (by decide +kernel)) rfl⟩
theorem fX1_15 : FS RX1 15 1 1 RX1 TX1 7 := ⟨rfl, u_X1, by decide, gw_in (List.mem_of_getElem? (i := 154) (by decide +kernel)) rfl⟩
theorem fX0_91 : FS RX0 91 1 1 RX1 TX1 7 := ⟨rfl, u_X1, by decide, gw_in (List.mem_of_getElem? (i := 155) (by decide +kernel)) rfl⟩
theorem fX7_208 : FS RX7 208 1 1 RX1 TX1 7 := ⟨rfl, u_X1, by decide, gw_in (List.mem_of_getElem? (i := 156) (by decide +kernel)) rfl⟩
theorem fX1_18 : FS RX1 18 1 2 RX1 TX1 7 := ⟨rfl, u_X1, by decide, gw_in (List.mem_of_getElem? (i := 157) (by decide +kernel)) rfl⟩
theorem fX0_104 : FS RX0 104 1 2 RX1 TX1 7 := ⟨rfl, u_X1, by decide, gw_in (List.mem_of_getElem? (i := 158) (by decide +kernel)) rfl⟩
theorem fX7_211 : FS RX7 211 1 2 RX1 TX1 7 := ⟨rfl, u_X1, by decide, gw_in (List.mem_of_getElem? (i := 159) (by decide +kernel)) rfl⟩
theorem fX1_21 : FS RX1 21 1 3 RX1 TX1 7 := ⟨rfl, u_X1, by decide, gw_in (List.mem_of_getElem? (i := 160) (by decide +kernel)) rfl⟩
theorem fX0_98 : FS RX0 98 1 3 RX1 TX1 7 := ⟨rfl, u_X1, by decide, gw_in (List.mem_of_getElem? (i := 161) (by decide +kernel)) rfl⟩
theorem fX1_24 : FS RX1 24 1 4 RX1 TX1 7 := ⟨rfl, u_X1, by decide, gw_in (List.mem_of_getElem? (i := 162) (by decide +kernel)) rfl⟩
theorem fX0_46 : FS RX0 46 1 4 RX1 TX1 7 := ⟨rfl, u_X1, by decide, gw_in (List.mem_of_getElem? (i := 163) (by decide +kernel)) rfl⟩
theorem fX1_27 : FS RX1 27 1 5 RX1 TX1 7 := ⟨rfl, u_X1, by decide, gw_in (List.mem_of_getElem? (i := 164) (by decide +kernel)) rfl⟩
theorem fX6_76 : FS RX6 76 1 5 RX1 TX1 7 := ⟨rfl, u_X1, by decide, gw_in (List.mem_of_getElem? (i := 165) (by decide +kernel)) rfl⟩
theorem fX7_114 : FS RX7 114 1 5 RX1 TX1 7 := ⟨rfl, u_X1, by decide, gw_in (List.mem_of_getElem? (i := 166) (by decide +kernel)) rfl⟩
theorem fX1_30 : FS RX1 30 1 6 RX1 TX1 7 := ⟨rfl, u_X1, by decide, gw_in (List.mem_of_getElem? (i := 167) (by decide +kernel)) rfl⟩
theorem fX7_127 : FS RX7 127 1 6 RX1 TX1 7 := ⟨rfl, u_X1, by decide, gw_in (List.mem_of_getElem? (i := 168) (by decide +kernel)) rfl⟩
theorem fX0_107 : FS RX0 107 1 6 RX1 TX1 7 := ⟨rfl, u_X1, by decide, gw_in (List.mem_of_getElem? (i := 169) (by decide +kernel)) rfl⟩
theorem fX6_11 : FS RX6 11 6 0 RX6 TX6 10 := ⟨rfl, u_X6, by decide, gw_in (List.mem_of_getElem? (i := 185) (by decide +kernel)) rfl⟩
theorem fX7_82 : FS RX7 82 6 0 RX6 TX6 10 := ⟨rfl, u_X6, by decide, gw_in (List.mem_of_getElem? (i := 186) (by decide +kernel)) rfl⟩
theorem fX6_17 : FS RX6 17 6 1 RX6 TX6 10 := ⟨rfl, u_X6, by decide, gw_in (List.mem_of_getElem? (i := 187) (by decide +kernel)) rfl⟩
theorem fX7_77 : FS RX7 77 6 1 RX6 TX6 10 := ⟨rfl, u_X6, by decide, gw_in (List.mem_of_getElem? (i := 188) (by decide +kernel)) rfl⟩
theorem fX6_23 : FS RX6 23 6 2 RX6 TX6 10 := ⟨rfl, u_X6, by decide, gw_in (List.mem_of_getElem? (i := 189) (by decide +kernel)) rfl⟩
theorem fX7_29 : FS RX7 29 6 2 RX6 TX6 10 := ⟨rfl, u_X6, by decide, gw_in (List.mem_of_getElem? (i := 190) (by decide +kernel)) rfl⟩
theorem fX6_27 : FS RX6 27 6 3 RX6 TX6 10 := ⟨rfl, u_X6, by decide, gw_in (List.mem_of_getElem? (i := 191) (by decide +kernel)) rfl⟩
theorem fX7_242 : FS RX7 242 6 3 RX6 TX6 10 := ⟨rfl, u_X6, by decide, gw_in (List.mem_of_getElem? (i := 192) (by decide +kernel)) rfl⟩
theorem fX7_25 : FS RX7 25 6 4 RX6 TX6 10 := ⟨rfl, u_X6, by decide, gw_in (List.mem_of_getElem? (i := 193) (by decide +kernel)) rfl⟩
theorem fX6_39 : FS RX6 39 6 4 RX6 TX6 10 := ⟨rfl, u_X6, by decide, gw_in (List.mem_of_getElem? (i := 194) (by decide +kernel)) rfl⟩
theorem fX6_47 : FS RX6 47 6 5 RX6 TX6 10 := ⟨rfl, u_X6, by decide, gw_in (List.mem_of_getElem? (i := 195) (by decide +kernel)) rfl⟩
theorem fX7_150 : FS RX7 150 6 5 RX6 TX6 10 := ⟨rfl, u_X6, by decide, gw_in (List.mem_of_getElem? (i := 196) (by decide +kernel)) rfl⟩
theorem fX6_51 : FS RX6 51 6 6 RX6 TX6 10 := ⟨rfl, u_X6, by decide, gw_in (List.mem_of_getElem? (i := 197) (by decide +kernel)) rfl⟩
theorem fX7_141 : FS RX7 141 6 6 RX6 TX6 10 := ⟨rfl, u_X6, by decide, gw_in (List.mem_of_getElem? (i := 198) (by decide +kernel)) rfl⟩
theorem fX6_55 : FS RX6 55 6 7 RX6 TX6 10 := ⟨rfl, u_X6, by decide, gw_in (List.mem_of_getElem? (i := 199) (by decide +kernel)) rfl⟩
theorem fX7_144 : FS RX7 144 6 7 RX6 TX6 10 := ⟨rfl, u_X6, by decide, gw_in (List.mem_of_getElem? (i := 200) (by decide +kernel)) rfl⟩
theorem fX6_58 : FS RX6 58 6 8 RX6 TX6 10 := ⟨rfl, u_X6, by decide, gw_in (List.mem_of_getElem? (i := 201) (by decide +kernel)) rfl⟩
theorem fX7_147 : FS RX7 147 6 8 RX6 TX6 10 := ⟨rfl, u_X6, by decide, gw_in (List.mem_of_getElem? (i := 202) (by decide +kernel)) rfl⟩
theorem fX6_61 : FS RX6 61 6 9 RX6 TX6 10 := ⟨rfl, u_X6, by decide, gw_in (List.mem_of_getElem? (i := 203) (by decide +kernel)) rfl⟩
theorem fX7_194 : FS RX7 194 6 9 RX6 TX6 10 := ⟨rfl, u_X6, by decide, gw_in (List.mem_of_getElem? (i := 204) (by decide +kernel)) rfl⟩
theorem fX4_9 : FS RX4 9 4 0 RX4 TX4 6 := ⟨rfl, u_X4, by decide, gw_in (List.mem_of_getElem? (i := 236) (by decide +kernel)) rfl⟩
theorem fX4_15 : FS RX4 15 4 1 RX4 TX4 6 := ⟨rfl, u_X4, by decide, gw_in (List.mem_of_getElem? (i := 237) (by decide +kernel)) rfl⟩
theorem fX7_235 : FS RX7 235 4 1 RX4 TX4 6 := ⟨rfl, u_X4, by decide, gw_in (List.mem_of_getElem? (i := 238) (by decide +kernel)) rfl⟩
theorem fX4_19 : FS RX4 19 4 2 RX4 TX4 6 := ⟨rfl, u_X4, by decide, gw_in (List.mem_of_getElem? (i := 239) (by decide +kernel)) rfl⟩
theorem fX7_249 : FS RX7 249 4 2 RX4 TX4 6 := ⟨rfl, u_X4, by decide, gw_in (List.mem_of_getElem? (i := 240) (by decide +kernel)) rfl⟩
theorem fX4_22 : FS RX4 22 4 3 RX4 TX4 6 := ⟨rfl, u_X4, by decide, gw_in (List.mem_of_getElem? (i := 241) (by decide +kernel)) rfl⟩
theorem fX4_25 : FS RX4 25 4 4 RX4 TX4 6 := ⟨rfl, u_X4, by decide, gw_in (List.mem_of_getElem? (i := 242) (by decide +kernel)) rfl⟩
theorem fX4_28 : FS RX4 28 4 5 RX4 TX4 6 := ⟨rfl, u_X4, by decide, gw_in (List.mem_of_getElem? (i := 243) (by decide +kernel)) rfl⟩
theorem fX2_9 : FS RX2 9 2 0 RX2 TX2 3 := ⟨rfl, u_X2, by decide, gw_in (List.mem_of_getElem? (i := 264) (by decide +kernel)) rfl⟩
theorem fX7_278 : FS RX7 278 2 0 RX2 TX2 3 := ⟨rfl, u_X2, by decide, gw_in (List.mem_of_getElem? (i := 265) (by decide +kernel)) rfl⟩
theorem fX2_15 : FS RX2 15 2 1 RX2 TX2 3 := ⟨rfl, u_X2, by decide, gw_in (List.mem_of_getElem? (i := 266) (by decide +kernel)) rfl⟩
theorem fX7_264 : FS RX7 264 2 1 RX2 TX2 3 := ⟨rfl, u_X2, by decide, gw_in (List.mem_of_getElem? (i := 267) (by decide +kernel)) rfl⟩
theorem fX2_18 : FS RX2 18 2 2 RX2 TX2 3 := ⟨rfl, u_X2, by decide, gw_in (List.mem_of_getElem? (i := 268) (by decide +kernel)) rfl⟩
theorem fX7_270 : FS RX7 270 2 2 RX2 TX2 3 := ⟨rfl, u_X2, by decide, gw_in (List.mem_of_getElem? (i := 269) (by decide +kernel)) rfl⟩
theorem fX7_10 : FS RX7 10 7 0 RX7 TX7 8 := ⟨rfl, u_X7, by decide, gw_in (List.mem_of_getElem? (i := 278) (by decide +kernel)) rfl⟩
theorem fX7_16 : FS RX7 16 7 1 RX7 TX7 8 := ⟨rfl, u_X7, by decide, gw_in (List.mem_of_getElem? (i := 279) (by decide +kernel)) rfl⟩
theorem fX7_19 : FS RX7 19 7 2 RX7 TX7 8 := ⟨rfl, u_X7, by decide, gw_in (List.mem_of_getElem? (i := 280) (by decide +kernel)) rfl⟩
theorem fX7_36 : FS RX7 36 7 3 RX7 TX7 8 := ⟨rfl, u_X7, by decide, gw_in (List.mem_of_getElem? (i := 281) (by decide +kernel)) rfl⟩
theorem fX7_43 : FS RX7 43 7 4 RX7 TX7 8 := ⟨rfl, u_X7, by decide, gw_in (List.mem_of_getElem? (i := 282) (by decide +kernel)) rfl⟩
theorem fX7_50 : FS RX7 50 7 5 RX7 TX7 8 := ⟨rfl, u_X7, by decide, gw_in (List.mem_of_getElem? (i := 283) (by decide +kernel)) rfl⟩
theorem fX7_56 : FS RX7 56 7 6 RX7 TX7 8 := ⟨rfl, u_X7, by decide, gw_in (List.mem_of_getElem? (i := 284) (by decide +kernel)) rfl⟩
theorem fX7_60 : FS RX7 60 7 7 RX7 TX7 8 := ⟨rfl, u_X7, by decide, gw_in (List.mem_of_getElem? (i := 285) (by decide +kernel)) rfl⟩
theorem gX7_301 : Cond.fieldLink RX7 301 "LogRollers" "KIND_ABOVE" "[I" ∈ GW := gw_in (List.mem_of_getElem? (i := 359) (by decide +kernel)) rfl
theorem gX7_117 : Cond.fieldLink RX7 117 "LogRollers" "PART_LEAST" "[I" ∈ GW := gw_in (List.mem_of_getElem? (i := 366) (by decide +kernel)) rfl
theorem gX7_120 : Cond.fieldLink RX7 120 "LogRollers" "PART_MOST" "[I" ∈ GW := gw_in (List.mem_of_getElem? (i := 368) (by decide +kernel)) rfl
theorem fX5_9 : FS RX5 9 5 0 RX5 TX5 5 := ⟨rfl, u_X5, by decide, gw_in (List.mem_of_getElem? (i := 578) (by decide +kernel)) rfl⟩
theorem fX7_252 : FS RX7 252 5 0 RX5 TX5 5 := ⟨rfl, u_X5, by decide, gw_in (List.mem_of_getElem? (i := 579) (by decide +kernel)) rfl⟩
theorem fX5_15 : FS RX5 15 5 1 RX5 TX5 5 := ⟨rfl, u_X5, by decide, gw_in (List.mem_of_getElem? (i := 580) (by decide +kernel)) rfl⟩
theorem fX5_19 : FS RX5 19 5 2 RX5 TX5 5 := ⟨rfl, u_X5, by decide, gw_in (List.mem_of_getElem? (i := 581) (by decide +kernel)) rfl⟩
theorem fX5_22 : FS RX5 22 5 3 RX5 TX5 5 := ⟨rfl, u_X5, by decide, gw_in (List.mem_of_getElem? (i := 582) (by decide +kernel)) rfl⟩
theorem fX5_25 : FS RX5 25 5 4 RX5 TX5 5 := ⟨rfl, u_X5, by decide, gw_in (List.mem_of_getElem? (i := 583) (by decide +kernel)) rfl⟩
theorem gJ0_38 : Cond.fieldLink RJ0 38 "java/lang/String" "COMPACT_STRINGS" "Z" ∈ GW := gw_in (List.mem_of_getElem? (i := 640) (by decide +kernel)) rfl
theorem gJ0_1053 : Cond.fieldLink RJ0 1053 "jdk/internal/util/Preconditions" "SIOOBE_FORMATTER" "Ljava/util/function/BiFunction;" ∈ GW := gw_in (List.mem_of_getElem? (i := 656) (by decide +kernel)) rfl
theorem gJ2_44 : Cond.fieldLink RJ2 44 "java/lang/StringUTF16" "$assertionsDisabled" "Z" ∈ GW := gw_in (List.mem_of_getElem? (i := 674) (by decide +kernel)) rfl
theorem gJ2_59 : Cond.fieldLink RJ2 59 "java/lang/StringUTF16" "HI_BYTE_SHIFT" "I" ∈ GW := gw_in (List.mem_of_getElem? (i := 676) (by decide +kernel)) rfl
theorem gJ2_63 : Cond.fieldLink RJ2 63 "java/lang/StringUTF16" "LO_BYTE_SHIFT" "I" ∈ GW := gw_in (List.mem_of_getElem? (i := 678) (by decide +kernel)) rfl
theorem fX8_9 : FS RX8 9 8 0 RX8 TX8 19 := ⟨rfl, u_X8, by decide, gw_in (List.mem_of_getElem? (i := 803) (by decide +kernel)) rfl⟩
theorem fX8_13 : FS RX8 13 8 1 RX8 TX8 19 := ⟨rfl, u_X8, by decide, gw_in (List.mem_of_getElem? (i := 804) (by decide +kernel)) rfl⟩
theorem fX8_16 : FS RX8 16 8 2 RX8 TX8 19 := ⟨rfl, u_X8, by decide, gw_in (List.mem_of_getElem? (i := 805) (by decide +kernel)) rfl⟩
theorem fX8_268 : FS RX8 268 8 3 RX8 TX8 19 := ⟨rfl, u_X8, by decide, gw_in (List.mem_of_getElem? (i := 806) (by decide +kernel)) rfl⟩
theorem fX8_19 : FS RX8 19 8 4 RX8 TX8 19 := ⟨rfl, u_X8, by decide, gw_in (List.mem_of_getElem? (i := 807) (by decide +kernel)) rfl⟩
theorem fX8_141 : FS RX8 141 8 5 RX8 TX8 19 := ⟨rfl, u_X8, by decide, gw_in (List.mem_of_getElem? (i := 808) (by decide +kernel)) rfl⟩
theorem fX8_145 : FS RX8 145 8 6 RX8 TX8 19 := ⟨rfl, u_X8, by decide, gw_in (List.mem_of_getElem? (i := 809) (by decide +kernel)) rfl⟩
theorem fX8_22 : FS RX8 22 8 7 RX8 TX8 19 := ⟨rfl, u_X8, by decide, gw_in (List.mem_of_getElem? (i := 810) (by decide +kernel)) rfl⟩
theorem fX8_166 : FS RX8 166 8 8 RX8 TX8 19 := ⟨rfl, u_X8, by decide, gw_in (List.mem_of_getElem? (i := 811) (by decide +kernel)) rfl⟩
theorem fX8_169 : FS RX8 169 8 9 RX8 TX8 19 := ⟨rfl, u_X8, by decide, gw_in (List.mem_of_getElem? (i := 812) (by decide +kernel)) rfl⟩
theorem fX8_172 : FS RX8 172 8 10 RX8 TX8 19 := ⟨rfl, u_X8, by decide, gw_in (List.mem_of_getElem? (i := 813) (by decide +kernel)) rfl⟩
theorem fX8_181 : FS RX8 181 8 11 RX8 TX8 19 := ⟨rfl, u_X8, by decide, gw_in (List.mem_of_getElem? (i := 814) (by decide +kernel)) rfl⟩
theorem fX8_175 : FS RX8 175 8 12 RX8 TX8 19 := ⟨rfl, u_X8, by decide, gw_in (List.mem_of_getElem? (i := 815) (by decide +kernel)) rfl⟩
theorem fX8_178 : FS RX8 178 8 13 RX8 TX8 19 := ⟨rfl, u_X8, by decide, gw_in (List.mem_of_getElem? (i := 816) (by decide +kernel)) rfl⟩
theorem fX8_200 : FS RX8 200 8 14 RX8 TX8 19 := ⟨rfl, u_X8, by decide, gw_in (List.mem_of_getElem? (i := 817) (by decide +kernel)) rfl⟩
theorem fX8_25 : FS RX8 25 8 15 RX8 TX8 19 := ⟨rfl, u_X8, by decide, gw_in (List.mem_of_getElem? (i := 818) (by decide +kernel)) rfl⟩
theorem fX8_28 : FS RX8 28 8 16 RX8 TX8 19 := ⟨rfl, u_X8, by decide, gw_in (List.mem_of_getElem? (i := 819) (by decide +kernel)) rfl⟩
theorem fX8_31 : FS RX8 31 8 17 RX8 TX8 19 := ⟨rfl, u_X8, by decide, gw_in (List.mem_of_getElem? (i := 820) (by decide +kernel)) rfl⟩
theorem fX8_35 : FS RX8 35 8 18 RX8 TX8 19 := ⟨rfl, u_X8, by decide, gw_in (List.mem_of_getElem? (i := 821) (by decide +kernel)) rfl⟩
theorem gJ0_9 : Cond.fieldLink RJ0 9 "java/lang/String" "value" "[B" ∈ GW := gw_in (List.mem_of_getElem? (i := 1171) (by decide +kernel)) rfl
theorem gJ0_15 : Cond.fieldLink RJ0 15 "java/lang/String" "coder" "B" ∈ GW := gw_in (List.mem_of_getElem? (i := 1172) (by decide +kernel)) rfl
theorem kX7_72 : Cond.constant RX7 72 (-1000000001) ∈ GW := gw_in (List.mem_of_getElem? (i := 313) (by decide +kernel)) rfl
theorem kX7_81 : Cond.constant RX7 81 (-1000000002) ∈ GW := gw_in (List.mem_of_getElem? (i := 318) (by decide +kernel)) rfl
theorem kX7_103 : Cond.constant RX7 103 (-1000000005) ∈ GW := gw_in (List.mem_of_getElem? (i := 347) (by decide +kernel)) rfl
theorem kX7_113 : Cond.constant RX7 113 (-1000000003) ∈ GW := gw_in (List.mem_of_getElem? (i := 361) (by decide +kernel)) rfl
theorem kX0_97 : Cond.constant RX0 97 (1103515245) ∈ GW := gw_in (List.mem_of_getElem? (i := 467) (by decide +kernel)) rfl
theorem kX7_207 : Cond.constant RX7 207 (-1000000004) ∈ GW := gw_in (List.mem_of_getElem? (i := 512) (by decide +kernel)) rfl
theorem kJ6_265 : Cond.constant RJ6 265 (1431655765) ∈ GW := gw_in (List.mem_of_getElem? (i := 549) (by decide +kernel)) rfl
theorem kJ6_266 : Cond.constant RJ6 266 (858993459) ∈ GW := gw_in (List.mem_of_getElem? (i := 550) (by decide +kernel)) rfl
theorem kJ6_267 : Cond.constant RJ6 267 (252645135) ∈ GW := gw_in (List.mem_of_getElem? (i := 551) (by decide +kernel)) rfl
theorem kX7_262 : Cond.constant RX7 262 (-1000000007) ∈ GW := gw_in (List.mem_of_getElem? (i := 718) (by decide +kernel)) rfl
theorem kX7_269 : Cond.constant RX7 269 (-1000000006) ∈ GW := gw_in (List.mem_of_getElem? (i := 731) (by decide +kernel)) rfl
theorem kX8_47 : Cond.constantLong RX8 47 (5) ∈ GW := gw_in (List.mem_of_getElem? (i := 865) (by decide +kernel)) rfl
theorem kX8_49 : Cond.constantLong RX8 49 (299) ∈ GW := gw_in (List.mem_of_getElem? (i := 869) (by decide +kernel)) rfl
theorem kX8_38 : Cond.constant RX8 38 (-1000000001) ∈ GW := gw_in (List.mem_of_getElem? (i := 870) (by decide +kernel)) rfl
theorem kX8_55 : Cond.constant RX8 55 (-1000000002) ∈ GW := gw_in (List.mem_of_getElem? (i := 875) (by decide +kernel)) rfl
theorem kX8_56 : Cond.constantLong RX8 56 (6) ∈ GW := gw_in (List.mem_of_getElem? (i := 884) (by decide +kernel)) rfl
theorem kX8_58 : Cond.constantLong RX8 58 (9) ∈ GW := gw_in (List.mem_of_getElem? (i := 893) (by decide +kernel)) rfl
theorem kX8_60 : Cond.constantLong RX8 60 (99) ∈ GW := gw_in (List.mem_of_getElem? (i := 894) (by decide +kernel)) rfl
theorem kX8_62 : Cond.constantLong RX8 62 (999) ∈ GW := gw_in (List.mem_of_getElem? (i := 895) (by decide +kernel)) rfl
theorem kX8_64 : Cond.constantLong RX8 64 (-1) ∈ GW := gw_in (List.mem_of_getElem? (i := 896) (by decide +kernel)) rfl
theorem kX8_73 : Cond.constant RX8 73 (-1000000005) ∈ GW := gw_in (List.mem_of_getElem? (i := 901) (by decide +kernel)) rfl
theorem kX8_81 : Cond.constant RX8 81 (-1000000003) ∈ GW := gw_in (List.mem_of_getElem? (i := 912) (by decide +kernel)) rfl
theorem kX8_82 : Cond.constantLong RX8 82 (4) ∈ GW := gw_in (List.mem_of_getElem? (i := 917) (by decide +kernel)) rfl
theorem kX8_95 : Cond.constantLong RX8 95 (-9999) ∈ GW := gw_in (List.mem_of_getElem? (i := 922) (by decide +kernel)) rfl
theorem kX8_97 : Cond.constantLong RX8 97 (9999) ∈ GW := gw_in (List.mem_of_getElem? (i := 923) (by decide +kernel)) rfl
theorem kX8_99 : Cond.constantLong RX8 99 (-999) ∈ GW := gw_in (List.mem_of_getElem? (i := 924) (by decide +kernel)) rfl
theorem kX8_133 : Cond.constantLong RX8 133 (400) ∈ GW := gw_in (List.mem_of_getElem? (i := 956) (by decide +kernel)) rfl
theorem kX8_111 : Cond.constant RX8 111 (1103515245) ∈ GW := gw_in (List.mem_of_getElem? (i := 975) (by decide +kernel)) rfl
theorem kX8_139 : Cond.constantLong RX8 139 (2) ∈ GW := gw_in (List.mem_of_getElem? (i := 987) (by decide +kernel)) rfl
theorem kX8_148 : Cond.constantLong RX8 148 (200) ∈ GW := gw_in (List.mem_of_getElem? (i := 996) (by decide +kernel)) rfl
theorem kX8_158 : Cond.constant RX8 158 (-1000000004) ∈ GW := gw_in (List.mem_of_getElem? (i := 1008) (by decide +kernel)) rfl
theorem kX8_159 : Cond.constantLong RX8 159 (100) ∈ GW := gw_in (List.mem_of_getElem? (i := 1013) (by decide +kernel)) rfl
theorem kX8_164 : Cond.constantLong RX8 164 (50) ∈ GW := gw_in (List.mem_of_getElem? (i := 1038) (by decide +kernel)) rfl
theorem kX8_254 : Cond.constantLong RX8 254 (3) ∈ GW := gw_in (List.mem_of_getElem? (i := 1120) (by decide +kernel)) rfl
theorem kX8_259 : Cond.constant RX8 259 (-1000000007) ∈ GW := gw_in (List.mem_of_getElem? (i := 1121) (by decide +kernel)) rfl
theorem kX8_260 : Cond.constant RX8 260 (-1000000006) ∈ GW := gw_in (List.mem_of_getElem? (i := 1126) (by decide +kernel)) rfl
theorem kL_123 : Cond.constantLong RL 123 (4294967295) ∈ GW := gw_in (List.mem_of_getElem? (i := 1170) (by decide +kernel)) rfl
theorem cL_7_l : Cond.classLink RL 7 RX7 ∈ GW := gw_in (List.mem_of_getElem? (i := 55) (by decide +kernel)) rfl
theorem cX7_7_l : Cond.classLink RX7 7 RX6 ∈ GW := gw_in (List.mem_of_getElem? (i := 63) (by decide +kernel)) rfl
theorem cX6_9_l : Cond.classLink RX6 9 RX1 ∈ GW := gw_in (List.mem_of_getElem? (i := 69) (by decide +kernel)) rfl
theorem cX6_21_l : Cond.classLink RX6 21 RX5 ∈ GW := gw_in (List.mem_of_getElem? (i := 71) (by decide +kernel)) rfl
theorem cX6_35_l : Cond.classLink RX6 35 "[I" ∈ GW := gw_in (List.mem_of_getElem? (i := 81) (by decide +kernel)) rfl
theorem cX6_42_l : Cond.classLink RX6 42 RX0 ∈ GW := gw_in (List.mem_of_getElem? (i := 82) (by decide +kernel)) rfl
theorem cX0_15_l : Cond.classLink RX0 15 RX3 ∈ GW := gw_in (List.mem_of_getElem? (i := 88) (by decide +kernel)) rfl
theorem cX7_23_l : Cond.classLink RX7 23 RX0 ∈ GW := gw_in (List.mem_of_getElem? (i := 226) (by decide +kernel)) rfl
theorem cX7_40_l : Cond.classLink RX7 40 RX1 ∈ GW := gw_in (List.mem_of_getElem? (i := 228) (by decide +kernel)) rfl
theorem cX7_47_l : Cond.classLink RX7 47 RX4 ∈ GW := gw_in (List.mem_of_getElem? (i := 230) (by decide +kernel)) rfl
theorem cX7_54_l : Cond.classLink RX7 54 RX2 ∈ GW := gw_in (List.mem_of_getElem? (i := 257) (by decide +kernel)) rfl
theorem cX4_31_l : Cond.classLink RX4 31 RX5 ∈ GW := gw_in (List.mem_of_getElem? (i := 572) (by decide +kernel)) rfl
theorem cL_10_l : Cond.classLink RL 10 RX8 ∈ GW := gw_in (List.mem_of_getElem? (i := 797) (by decide +kernel)) rfl
theorem qx_X7 : Cond.instantiable RX7 8 ∈ GW := gw_in (List.mem_of_getElem? (i := 56) (by decide +kernel)) rfl
theorem qx_X6 : Cond.instantiable RX6 10 ∈ GW := gw_in (List.mem_of_getElem? (i := 64) (by decide +kernel)) rfl
theorem qx_X0 : Cond.instantiable RX0 8 ∈ GW := gw_in (List.mem_of_getElem? (i := 83) (by decide +kernel)) rfl
theorem qx_X3 : Cond.instantiable RX3 5 ∈ GW := gw_in (List.mem_of_getElem? (i := 89) (by decide +kernel)) rfl
theorem qx_X1 : Cond.instantiable RX1 7 ∈ GW := gw_in (List.mem_of_getElem? (i := 147) (by decide +kernel)) rfl
theorem qx_X4 : Cond.instantiable RX4 6 ∈ GW := gw_in (List.mem_of_getElem? (i := 231) (by decide +kernel)) rfl
theorem qx_X2 : Cond.instantiable RX2 3 ∈ GW := gw_in (List.mem_of_getElem? (i := 259) (by decide +kernel)) rfl
theorem qx_X5 : Cond.instantiable RX5 5 ∈ GW := gw_in (List.mem_of_getElem? (i := 573) (by decide +kernel)) rfl
theorem qx_X8 : Cond.instantiable RX8 19 ∈ GW := gw_in (List.mem_of_getElem? (i := 798) (by decide +kernel)) rfl
end
