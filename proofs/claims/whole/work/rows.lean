section
/-- a private method of a class that the tables say can be made, by its rows of tables_1 -/
def lw_okq (q : MethodName × Nat) : Prop := (q.1.cls ≠ "java/lang/invoke/MethodHandle" ∧ q.1.cls ≠ "java/lang/invoke/VarHandle") ∧ Cond.instantiable q.1.cls q.2 ∈ tables_1 ∧ Cond.privateMethod q.1 ∈ tables_1 ∧ Cond.instanceMethod q.1 ∈ tables_1
theorem lw_p0 : lw_okq (⟨"LogRollers", "finding", "(I)I"⟩, 8) := ⟨⟨by decide +kernel, by decide +kernel⟩, List.mem_of_getElem? (i := 18) (by decide +kernel), List.mem_of_getElem? (i := 277) (by decide +kernel), List.mem_of_getElem? (i := 278) (by decide +kernel)⟩
theorem lw_p1 : lw_okq (⟨"LogRollers", "isPerson", "(I)Z"⟩, 8) := ⟨⟨by decide +kernel, by decide +kernel⟩, List.mem_of_getElem? (i := 18) (by decide +kernel), List.mem_of_getElem? (i := 290) (by decide +kernel), List.mem_of_getElem? (i := 291) (by decide +kernel)⟩
theorem lw_p2 : lw_okq (⟨"LogRollers", "maySet", "(II)Z"⟩, 8) := ⟨⟨by decide +kernel, by decide +kernel⟩, List.mem_of_getElem? (i := 18) (by decide +kernel), List.mem_of_getElem? (i := 302) (by decide +kernel), List.mem_of_getElem? (i := 303) (by decide +kernel)⟩
theorem lw_p3 : lw_okq (⟨"LogRollers$Person", "waiterShove", "(II)I"⟩, 7) := ⟨⟨by decide +kernel, by decide +kernel⟩, List.mem_of_getElem? (i := 109) (by decide +kernel), List.mem_of_getElem? (i := 352) (by decide +kernel), List.mem_of_getElem? (i := 353) (by decide +kernel)⟩
theorem lw_p4 : lw_okq (⟨"LogRollers$Person", "deedShove", "(III)I"⟩, 7) := ⟨⟨by decide +kernel, by decide +kernel⟩, List.mem_of_getElem? (i := 109) (by decide +kernel), List.mem_of_getElem? (i := 365) (by decide +kernel), List.mem_of_getElem? (i := 366) (by decide +kernel)⟩
theorem lw_p5 : lw_okq (⟨"LogRollers", "isPair", "(II)Z"⟩, 8) := ⟨⟨by decide +kernel, by decide +kernel⟩, List.mem_of_getElem? (i := 18) (by decide +kernel), List.mem_of_getElem? (i := 373) (by decide +kernel), List.mem_of_getElem? (i := 374) (by decide +kernel)⟩
theorem lw_p6 : lw_okq (⟨"LogRollers$Match", "roll", "(LLogRollers$Person;LLogRollers$Person;)V"⟩, 8) := ⟨⟨by decide +kernel, by decide +kernel⟩, List.mem_of_getElem? (i := 45) (by decide +kernel), List.mem_of_getElem? (i := 422) (by decide +kernel), List.mem_of_getElem? (i := 423) (by decide +kernel)⟩
theorem lw_p7 : lw_okq (⟨"LogRollers$Match", "stepUnlessSlipping", "(LLogRollers$Person;LLogRollers$Stander;)V"⟩, 8) := ⟨⟨by decide +kernel, by decide +kernel⟩, List.mem_of_getElem? (i := 45) (by decide +kernel), List.mem_of_getElem? (i := 426) (by decide +kernel), List.mem_of_getElem? (i := 427) (by decide +kernel)⟩
theorem lw_p8 : lw_okq (⟨"LogRollers", "endBout", "(LLogRollers$Person;LLogRollers$Person;I)V"⟩, 8) := ⟨⟨by decide +kernel, by decide +kernel⟩, List.mem_of_getElem? (i := 18) (by decide +kernel), List.mem_of_getElem? (i := 441) (by decide +kernel), List.mem_of_getElem? (i := 442) (by decide +kernel)⟩
theorem lw_p9 : lw_okq (⟨"LogRollers", "startAhead", "(LLogRollers$Person;LLogRollers$Person;)V"⟩, 8) := ⟨⟨by decide +kernel, by decide +kernel⟩, List.mem_of_getElem? (i := 18) (by decide +kernel), List.mem_of_getElem? (i := 463) (by decide +kernel), List.mem_of_getElem? (i := 464) (by decide +kernel)⟩
theorem lw_p10 : lw_okq (⟨"LogRollers", "beatenBy", "(II)I"⟩, 8) := ⟨⟨by decide +kernel, by decide +kernel⟩, List.mem_of_getElem? (i := 18) (by decide +kernel), List.mem_of_getElem? (i := 497) (by decide +kernel), List.mem_of_getElem? (i := 498) (by decide +kernel)⟩
theorem lw_p11 : lw_okq (⟨"LogRollers$Tape", "nextToken", "()V"⟩, 6) := ⟨⟨by decide +kernel, by decide +kernel⟩, List.mem_of_getElem? (i := 193) (by decide +kernel), List.mem_of_getElem? (i := 558) (by decide +kernel), List.mem_of_getElem? (i := 559) (by decide +kernel)⟩
theorem lw_p12 : lw_okq (⟨"LogRollers$Tape", "takeWord", "()V"⟩, 6) := ⟨⟨by decide +kernel, by decide +kernel⟩, List.mem_of_getElem? (i := 193) (by decide +kernel), List.mem_of_getElem? (i := 565) (by decide +kernel), List.mem_of_getElem? (i := 566) (by decide +kernel)⟩
theorem lw_p13 : lw_okq (⟨"LogRollers$Tape", "takeNumber", "()V"⟩, 6) := ⟨⟨by decide +kernel, by decide +kernel⟩, List.mem_of_getElem? (i := 193) (by decide +kernel), List.mem_of_getElem? (i := 572) (by decide +kernel), List.mem_of_getElem? (i := 573) (by decide +kernel)⟩
theorem lw_p14 : lw_okq (⟨"LogRollers$Tape", "takeRule", "(LLogRollers$Way;)Z"⟩, 6) := ⟨⟨by decide +kernel, by decide +kernel⟩, List.mem_of_getElem? (i := 193) (by decide +kernel), List.mem_of_getElem? (i := 582) (by decide +kernel), List.mem_of_getElem? (i := 583) (by decide +kernel)⟩
theorem lw_p15 : lw_okq (⟨"LogRollers$Tape", "nameHere", "()I"⟩, 6) := ⟨⟨by decide +kernel, by decide +kernel⟩, List.mem_of_getElem? (i := 193) (by decide +kernel), List.mem_of_getElem? (i := 586) (by decide +kernel), List.mem_of_getElem? (i := 587) (by decide +kernel)⟩
def lw_privs_1 : List (MethodName × Nat) := [(⟨"LogRollers", "finding", "(I)I"⟩, 8), (⟨"LogRollers", "isPerson", "(I)Z"⟩, 8), (⟨"LogRollers", "maySet", "(II)Z"⟩, 8), (⟨"LogRollers$Person", "waiterShove", "(II)I"⟩, 7), (⟨"LogRollers$Person", "deedShove", "(III)I"⟩, 7), (⟨"LogRollers", "isPair", "(II)Z"⟩, 8), (⟨"LogRollers$Match", "roll", "(LLogRollers$Person;LLogRollers$Person;)V"⟩, 8), (⟨"LogRollers$Match", "stepUnlessSlipping", "(LLogRollers$Person;LLogRollers$Stander;)V"⟩, 8), (⟨"LogRollers", "endBout", "(LLogRollers$Person;LLogRollers$Person;I)V"⟩, 8), (⟨"LogRollers", "startAhead", "(LLogRollers$Person;LLogRollers$Person;)V"⟩, 8), (⟨"LogRollers", "beatenBy", "(II)I"⟩, 8), (⟨"LogRollers$Tape", "nextToken", "()V"⟩, 6), (⟨"LogRollers$Tape", "takeWord", "()V"⟩, 6), (⟨"LogRollers$Tape", "takeNumber", "()V"⟩, 6), (⟨"LogRollers$Tape", "takeRule", "(LLogRollers$Way;)Z"⟩, 6), (⟨"LogRollers$Tape", "nameHere", "()I"⟩, 6)]
theorem lw_r1 : ∀ q ∈ lw_privs_1, lw_okq q := List.forall_mem_cons.mpr ⟨lw_p0, List.forall_mem_cons.mpr ⟨lw_p1, List.forall_mem_cons.mpr ⟨lw_p2, List.forall_mem_cons.mpr ⟨lw_p3, List.forall_mem_cons.mpr ⟨lw_p4, List.forall_mem_cons.mpr ⟨lw_p5, List.forall_mem_cons.mpr ⟨lw_p6, List.forall_mem_cons.mpr ⟨lw_p7, List.forall_mem_cons.mpr ⟨lw_p8, List.forall_mem_cons.mpr ⟨lw_p9, List.forall_mem_cons.mpr ⟨lw_p10, List.forall_mem_cons.mpr ⟨lw_p11, List.forall_mem_cons.mpr ⟨lw_p12, List.forall_mem_cons.mpr ⟨lw_p13, List.forall_mem_cons.mpr ⟨lw_p14, List.forall_mem_cons.mpr ⟨lw_p15, fun _ h => absurd h List.not_mem_nil⟩⟩⟩⟩⟩⟩⟩⟩⟩⟩⟩⟩⟩⟩⟩⟩
theorem lw_p16 : lw_okq (⟨"LogRollers$Tape", "isWord", "(Ljava/lang/String;)Z"⟩, 6) := ⟨⟨by decide +kernel, by decide +kernel⟩, List.mem_of_getElem? (i := 193) (by decide +kernel), List.mem_of_getElem? (i := 591) (by decide +kernel), List.mem_of_getElem? (i := 592) (by decide +kernel)⟩
theorem lw_p17 : lw_okq (⟨"LogRollers$Tape", "takeComparison", "()Z"⟩, 6) := ⟨⟨by decide +kernel, by decide +kernel⟩, List.mem_of_getElem? (i := 193) (by decide +kernel), List.mem_of_getElem? (i := 647) (by decide +kernel), List.mem_of_getElem? (i := 648) (by decide +kernel)⟩
theorem lw_p18 : lw_okq (⟨"LogRollers$Tape", "deedHere", "()I"⟩, 6) := ⟨⟨by decide +kernel, by decide +kernel⟩, List.mem_of_getElem? (i := 193) (by decide +kernel), List.mem_of_getElem? (i := 651) (by decide +kernel), List.mem_of_getElem? (i := 652) (by decide +kernel)⟩
theorem lw_p19 : lw_okq (⟨"LogRollers", "sheetFinding", "(III)I"⟩, 8) := ⟨⟨by decide +kernel, by decide +kernel⟩, List.mem_of_getElem? (i := 18) (by decide +kernel), List.mem_of_getElem? (i := 715) (by decide +kernel), List.mem_of_getElem? (i := 716) (by decide +kernel)⟩
theorem lw_p20 : lw_okq (⟨"LogRollersModel", "finds", "(I)I"⟩, 19) := ⟨⟨by decide +kernel, by decide +kernel⟩, List.mem_of_getElem? (i := 760) (by decide +kernel), List.mem_of_getElem? (i := 834) (by decide +kernel), List.mem_of_getElem? (i := 835) (by decide +kernel)⟩
theorem lw_p21 : lw_okq (⟨"LogRollersModel", "isPerson", "(I)Z"⟩, 19) := ⟨⟨by decide +kernel, by decide +kernel⟩, List.mem_of_getElem? (i := 760) (by decide +kernel), List.mem_of_getElem? (i := 843) (by decide +kernel), List.mem_of_getElem? (i := 844) (by decide +kernel)⟩
theorem lw_p22 : lw_okq (⟨"LogRollersModel", "mayBe", "(II)Z"⟩, 19) := ⟨⟨by decide +kernel, by decide +kernel⟩, List.mem_of_getElem? (i := 760) (by decide +kernel), List.mem_of_getElem? (i := 852) (by decide +kernel), List.mem_of_getElem? (i := 853) (by decide +kernel)⟩
theorem lw_p23 : lw_okq (⟨"LogRollersModel", "isOnLog", "(I)Z"⟩, 19) := ⟨⟨by decide +kernel, by decide +kernel⟩, List.mem_of_getElem? (i := 760) (by decide +kernel), List.mem_of_getElem? (i := 860) (by decide +kernel), List.mem_of_getElem? (i := 861) (by decide +kernel)⟩
theorem lw_p24 : lw_okq (⟨"LogRollersModel", "areTwo", "(II)Z"⟩, 19) := ⟨⟨by decide +kernel, by decide +kernel⟩, List.mem_of_getElem? (i := 760) (by decide +kernel), List.mem_of_getElem? (i := 904) (by decide +kernel), List.mem_of_getElem? (i := 905) (by decide +kernel)⟩
theorem lw_p25 : lw_okq (⟨"LogRollersModel", "boutAhead", "(III)I"⟩, 19) := ⟨⟨by decide +kernel, by decide +kernel⟩, List.mem_of_getElem? (i := 760) (by decide +kernel), List.mem_of_getElem? (i := 963) (by decide +kernel), List.mem_of_getElem? (i := 964) (by decide +kernel)⟩
theorem lw_p26 : lw_okq (⟨"LogRollersModel", "beatenBy", "(II)I"⟩, 19) := ⟨⟨by decide +kernel, by decide +kernel⟩, List.mem_of_getElem? (i := 760) (by decide +kernel), List.mem_of_getElem? (i := 989) (by decide +kernel), List.mem_of_getElem? (i := 990) (by decide +kernel)⟩
theorem lw_p27 : lw_okq (⟨"LogRollersModel", "look", "()V"⟩, 19) := ⟨⟨by decide +kernel, by decide +kernel⟩, List.mem_of_getElem? (i := 760) (by decide +kernel), List.mem_of_getElem? (i := 1014) (by decide +kernel), List.mem_of_getElem? (i := 1015) (by decide +kernel)⟩
theorem lw_p28 : lw_okq (⟨"LogRollersModel", "reads", "(I)V"⟩, 19) := ⟨⟨by decide +kernel, by decide +kernel⟩, List.mem_of_getElem? (i := 760) (by decide +kernel), List.mem_of_getElem? (i := 1024) (by decide +kernel), List.mem_of_getElem? (i := 1025) (by decide +kernel)⟩
theorem lw_p29 : lw_okq (⟨"LogRollersModel", "name", "()I"⟩, 19) := ⟨⟨by decide +kernel, by decide +kernel⟩, List.mem_of_getElem? (i := 760) (by decide +kernel), List.mem_of_getElem? (i := 1028) (by decide +kernel), List.mem_of_getElem? (i := 1029) (by decide +kernel)⟩
theorem lw_p30 : lw_okq (⟨"LogRollersModel", "isWord", "(Ljava/lang/String;)Z"⟩, 19) := ⟨⟨by decide +kernel, by decide +kernel⟩, List.mem_of_getElem? (i := 760) (by decide +kernel), List.mem_of_getElem? (i := 1033) (by decide +kernel), List.mem_of_getElem? (i := 1034) (by decide +kernel)⟩
theorem lw_p31 : lw_okq (⟨"LogRollersModel", "must", "(Z)V"⟩, 19) := ⟨⟨by decide +kernel, by decide +kernel⟩, List.mem_of_getElem? (i := 760) (by decide +kernel), List.mem_of_getElem? (i := 1043) (by decide +kernel), List.mem_of_getElem? (i := 1044) (by decide +kernel)⟩
def lw_privs_2 : List (MethodName × Nat) := [(⟨"LogRollers$Tape", "isWord", "(Ljava/lang/String;)Z"⟩, 6), (⟨"LogRollers$Tape", "takeComparison", "()Z"⟩, 6), (⟨"LogRollers$Tape", "deedHere", "()I"⟩, 6), (⟨"LogRollers", "sheetFinding", "(III)I"⟩, 8), (⟨"LogRollersModel", "finds", "(I)I"⟩, 19), (⟨"LogRollersModel", "isPerson", "(I)Z"⟩, 19), (⟨"LogRollersModel", "mayBe", "(II)Z"⟩, 19), (⟨"LogRollersModel", "isOnLog", "(I)Z"⟩, 19), (⟨"LogRollersModel", "areTwo", "(II)Z"⟩, 19), (⟨"LogRollersModel", "boutAhead", "(III)I"⟩, 19), (⟨"LogRollersModel", "beatenBy", "(II)I"⟩, 19), (⟨"LogRollersModel", "look", "()V"⟩, 19), (⟨"LogRollersModel", "reads", "(I)V"⟩, 19), (⟨"LogRollersModel", "name", "()I"⟩, 19), (⟨"LogRollersModel", "isWord", "(Ljava/lang/String;)Z"⟩, 19), (⟨"LogRollersModel", "must", "(Z)V"⟩, 19)]
theorem lw_r2 : ∀ q ∈ lw_privs_2, lw_okq q := List.forall_mem_cons.mpr ⟨lw_p16, List.forall_mem_cons.mpr ⟨lw_p17, List.forall_mem_cons.mpr ⟨lw_p18, List.forall_mem_cons.mpr ⟨lw_p19, List.forall_mem_cons.mpr ⟨lw_p20, List.forall_mem_cons.mpr ⟨lw_p21, List.forall_mem_cons.mpr ⟨lw_p22, List.forall_mem_cons.mpr ⟨lw_p23, List.forall_mem_cons.mpr ⟨lw_p24, List.forall_mem_cons.mpr ⟨lw_p25, List.forall_mem_cons.mpr ⟨lw_p26, List.forall_mem_cons.mpr ⟨lw_p27, List.forall_mem_cons.mpr ⟨lw_p28, List.forall_mem_cons.mpr ⟨lw_p29, List.forall_mem_cons.mpr ⟨lw_p30, List.forall_mem_cons.mpr ⟨lw_p31, fun _ h => absurd h List.not_mem_nil⟩⟩⟩⟩⟩⟩⟩⟩⟩⟩⟩⟩⟩⟩⟩⟩
theorem lw_p32 : lw_okq (⟨"LogRollersModel", "compares", "(I)V"⟩, 19) := ⟨⟨by decide +kernel, by decide +kernel⟩, List.mem_of_getElem? (i := 760) (by decide +kernel), List.mem_of_getElem? (i := 1047) (by decide +kernel), List.mem_of_getElem? (i := 1048) (by decide +kernel)⟩
theorem lw_p33 : lw_okq (⟨"LogRollersModel", "isSign", "(I)Z"⟩, 19) := ⟨⟨by decide +kernel, by decide +kernel⟩, List.mem_of_getElem? (i := 760) (by decide +kernel), List.mem_of_getElem? (i := 1051) (by decide +kernel), List.mem_of_getElem? (i := 1052) (by decide +kernel)⟩
theorem lw_p34 : lw_okq (⟨"LogRollersModel", "deed", "()I"⟩, 19) := ⟨⟨by decide +kernel, by decide +kernel⟩, List.mem_of_getElem? (i := 760) (by decide +kernel), List.mem_of_getElem? (i := 1055) (by decide +kernel), List.mem_of_getElem? (i := 1056) (by decide +kernel)⟩
theorem lw_p35 : lw_okq (⟨"LogRollersModel", "isWay", "(I)Z"⟩, 19) := ⟨⟨by decide +kernel, by decide +kernel⟩, List.mem_of_getElem? (i := 760) (by decide +kernel), List.mem_of_getElem? (i := 1068) (by decide +kernel), List.mem_of_getElem? (i := 1069) (by decide +kernel)⟩
theorem lw_p36 : lw_okq (⟨"LogRollersModel", "whyNot", "(III)I"⟩, 19) := ⟨⟨by decide +kernel, by decide +kernel⟩, List.mem_of_getElem? (i := 760) (by decide +kernel), List.mem_of_getElem? (i := 1101) (by decide +kernel), List.mem_of_getElem? (i := 1102) (by decide +kernel)⟩
theorem lw_p37 : lw_okq (⟨"LogRollersModel", "allFalls", "()I"⟩, 19) := ⟨⟨by decide +kernel, by decide +kernel⟩, List.mem_of_getElem? (i := 760) (by decide +kernel), List.mem_of_getElem? (i := 1125) (by decide +kernel), List.mem_of_getElem? (i := 1126) (by decide +kernel)⟩
def lw_privs_3 : List (MethodName × Nat) := [(⟨"LogRollersModel", "compares", "(I)V"⟩, 19), (⟨"LogRollersModel", "isSign", "(I)Z"⟩, 19), (⟨"LogRollersModel", "deed", "()I"⟩, 19), (⟨"LogRollersModel", "isWay", "(I)Z"⟩, 19), (⟨"LogRollersModel", "whyNot", "(III)I"⟩, 19), (⟨"LogRollersModel", "allFalls", "()I"⟩, 19)]
theorem lw_r3 : ∀ q ∈ lw_privs_3, lw_okq q := List.forall_mem_cons.mpr ⟨lw_p32, List.forall_mem_cons.mpr ⟨lw_p33, List.forall_mem_cons.mpr ⟨lw_p34, List.forall_mem_cons.mpr ⟨lw_p35, List.forall_mem_cons.mpr ⟨lw_p36, List.forall_mem_cons.mpr ⟨lw_p37, fun _ h => absurd h List.not_mem_nil⟩⟩⟩⟩⟩⟩
def lw_privs : List (MethodName × Nat) := lw_privs_1 ++ (lw_privs_2 ++ (lw_privs_3))
def lw_tbl : List Cond := k2_sels lw_privs ++ tables_1
theorem lw_privs_ok : ∀ q ∈ lw_privs, lw_okq q := by
  show ∀ q ∈ lw_privs_1 ++ (lw_privs_2 ++ (lw_privs_3)), lw_okq q
  exact List.forall_mem_append.mpr ⟨lw_r1, List.forall_mem_append.mpr ⟨lw_r2, lw_r3⟩⟩
end
section
def RX0 : String := "LogRollers$Match"
def TX0 : u_T := fun k => match k with
  | 0 => ("LogRollers$Match", "parts", "[I", true)
  | 1 => ("LogRollers$Match", "ways", "[LLogRollers$Way;", true)
  | 2 => ("LogRollers$Match", "turnAheadOf", "[I", true)
  | 3 => ("LogRollers$Match", "first", "LLogRollers$Stander;", true)
  | 4 => ("LogRollers$Match", "second", "LLogRollers$Stander;", true)
  | 5 => ("LogRollers$Match", "turn", "I", false)
  | 6 => ("LogRollers$Match", "ticks", "I", false)
  | _ => ("LogRollers$Match", "z", "I", false)
def tyX0 : Nat → FieldType := fun k => match k with
  | 0 => .array .int
  | 1 => .array (.object "LogRollers$Way")
  | 2 => .array .int
  | 3 => .object "LogRollers$Stander"
  | 4 => .object "LogRollers$Stander"
  | 5 => .int
  | 6 => .int
  | _ => .int
theorem nmX0 : ∀ a, a < 8 → ∀ b, b < 8 → a ≠ b → (TX0 a).2.1 ≠ (TX0 b).2.1 := by decide +kernel
theorem tyX0_ok : ∀ k, k < 8 → parseFieldDescriptor (TX0 k).2.2.1 = some (tyX0 k) := by decide +kernel
abbrev cX0_init : ByteArray := prog_2_method_1_code
def yX0_init : MethodName := ⟨RX0, "<init>", "([I[LLogRollers$Way;)V"⟩
abbrev cX0_takeFrom : ByteArray := prog_2_method_2_code
def yX0_takeFrom : MethodName := ⟨RX0, "takeFrom", "(LLogRollers$Match;)V"⟩
abbrev cX0_begin : ByteArray := prog_2_method_3_code
def yX0_begin : MethodName := ⟨RX0, "begin", "(LLogRollers$Person;LLogRollers$Person;)V"⟩
abbrev cX0_go : ByteArray := prog_2_method_4_code
def yX0_go : MethodName := ⟨RX0, "go", "(LLogRollers$Person;LLogRollers$Person;I)I"⟩
abbrev cX0_tick : ByteArray := prog_2_method_5_code
def yX0_tick : MethodName := ⟨RX0, "tick", "(LLogRollers$Person;LLogRollers$Person;)I"⟩
abbrev cX0_roll : ByteArray := prog_2_method_6_code
def yX0_roll : MethodName := ⟨RX0, "roll", "(LLogRollers$Person;LLogRollers$Person;)V"⟩
abbrev cX0_stepUnlessSlipping : ByteArray := prog_2_method_7_code
def yX0_stepUnlessSlipping : MethodName := ⟨RX0, "stepUnlessSlipping", "(LLogRollers$Person;LLogRollers$Stander;)V"⟩
abbrev cX0_seenBy : ByteArray := prog_2_method_8_code
def yX0_seenBy : MethodName := ⟨RX0, "seenBy", "(LLogRollers$Person;)I"⟩
abbrev cX0_nextShove : ByteArray := prog_2_method_9_code
def yX0_nextShove : MethodName := ⟨RX0, "nextShove", "(LLogRollers$Person;LLogRollers$Stander;)I"⟩
def RX1 : String := "LogRollers$Person"
def TX1 : u_T := fun k => match k with
  | 0 => ("LogRollers$Person", "kind", "I", false)
  | 1 => ("LogRollers$Person", "weight", "I", false)
  | 2 => ("LogRollers$Person", "lag", "I", false)
  | 3 => ("LogRollers$Person", "reach", "I", false)
  | 4 => ("LogRollers$Person", "strength", "I", false)
  | 5 => ("LogRollers$Person", "falls", "I", false)
  | _ => ("LogRollers$Person", "way", "I", false)
def tyX1 : Nat → FieldType := fun k => match k with
  | 0 => .int
  | 1 => .int
  | 2 => .int
  | 3 => .int
  | 4 => .int
  | 5 => .int
  | _ => .int
theorem nmX1 : ∀ a, a < 7 → ∀ b, b < 7 → a ≠ b → (TX1 a).2.1 ≠ (TX1 b).2.1 := by decide +kernel
theorem tyX1_ok : ∀ k, k < 7 → parseFieldDescriptor (TX1 k).2.2.1 = some (tyX1 k) := by decide +kernel
abbrev cX1_init : ByteArray := prog_3_method_1_code
def yX1_init : MethodName := ⟨RX1, "<init>", "()V"⟩
abbrev cX1_begin : ByteArray := prog_3_method_2_code
def yX1_begin : MethodName := ⟨RX1, "begin", "(II)V"⟩
abbrev cX1_takeFrom : ByteArray := prog_3_method_3_code
def yX1_takeFrom : MethodName := ⟨RX1, "takeFrom", "(LLogRollers$Person;)V"⟩
abbrev cX1_trait : ByteArray := prog_3_method_4_code
def yX1_trait : MethodName := ⟨RX1, "trait", "(I)I"⟩
abbrev cX1_change : ByteArray := prog_3_method_5_code
def yX1_change : MethodName := ⟨RX1, "change", "(II)V"⟩
abbrev cX1_shove : ByteArray := prog_3_method_6_code
def yX1_shove : MethodName := ⟨RX1, "shove", "(LLogRollers$Way;IIII)I"⟩
abbrev cX1_waiterShove : ByteArray := prog_3_method_7_code
def yX1_waiterShove : MethodName := ⟨RX1, "waiterShove", "(II)I"⟩
abbrev cX1_deedShove : ByteArray := prog_3_method_8_code
def yX1_deedShove : MethodName := ⟨RX1, "deedShove", "(III)I"⟩
def RX2 : String := "LogRollers$Sheet"
def TX2 : u_T := fun k => match k with
  | 0 => ("LogRollers$Sheet", "bits", "I", false)
  | 1 => ("LogRollers$Sheet", "size", "I", false)
  | _ => ("LogRollers$Sheet", "numbers", "[J", true)
def tyX2 : Nat → FieldType := fun k => match k with
  | 0 => .int
  | 1 => .int
  | _ => .array .long
theorem nmX2 : ∀ a, a < 3 → ∀ b, b < 3 → a ≠ b → (TX2 a).2.1 ≠ (TX2 b).2.1 := by decide +kernel
theorem tyX2_ok : ∀ k, k < 3 → parseFieldDescriptor (TX2 k).2.2.1 = some (tyX2 k) := by decide +kernel
abbrev cX2_init : ByteArray := prog_4_method_1_code
def yX2_init : MethodName := ⟨RX2, "<init>", "()V"⟩
abbrev cX2_begin : ByteArray := prog_4_method_2_code
def yX2_begin : MethodName := ⟨RX2, "begin", "(II)V"⟩
abbrev cX2_isMissing : ByteArray := prog_4_method_3_code
def yX2_isMissing : MethodName := ⟨RX2, "isMissing", "()Z"⟩
abbrev cX2_put : ByteArray := prog_4_method_4_code
def yX2_put : MethodName := ⟨RX2, "put", "(IJ)V"⟩
abbrev cX2_hasRow : ByteArray := prog_4_method_5_code
def yX2_hasRow : MethodName := ⟨RX2, "hasRow", "(II)Z"⟩
def RX3 : String := "LogRollers$Stander"
def TX3 : u_T := fun k => match k with
  | 0 => ("LogRollers$Stander", "feet", "I", false)
  | 1 => ("LogRollers$Stander", "lean", "I", false)
  | 2 => ("LogRollers$Stander", "left", "I", false)
  | 3 => ("LogRollers$Stander", "sight", "I", false)
  | _ => ("LogRollers$Stander", "shove", "I", false)
def tyX3 : Nat → FieldType := fun k => match k with
  | 0 => .int
  | 1 => .int
  | 2 => .int
  | 3 => .int
  | _ => .int
theorem nmX3 : ∀ a, a < 5 → ∀ b, b < 5 → a ≠ b → (TX3 a).2.1 ≠ (TX3 b).2.1 := by decide +kernel
theorem tyX3_ok : ∀ k, k < 5 → parseFieldDescriptor (TX3 k).2.2.1 = some (tyX3 k) := by decide +kernel
abbrev cX3_init : ByteArray := prog_5_method_1_code
def yX3_init : MethodName := ⟨RX3, "<init>", "()V"⟩
abbrev cX3_begin : ByteArray := prog_5_method_2_code
def yX3_begin : MethodName := ⟨RX3, "begin", "(I)V"⟩
abbrev cX3_takeFrom : ByteArray := prog_5_method_3_code
def yX3_takeFrom : MethodName := ⟨RX3, "takeFrom", "(LLogRollers$Stander;)V"⟩
abbrev cX3_cost : ByteArray := prog_5_method_4_code
def yX3_cost : MethodName := ⟨RX3, "cost", "(I)I"⟩
abbrev cX3_decide : ByteArray := prog_5_method_5_code
def yX3_decide : MethodName := ⟨RX3, "decide", "(II)V"⟩
abbrev cX3_step : ByteArray := prog_5_method_6_code
def yX3_step : MethodName := ⟨RX3, "step", "(I)V"⟩
abbrev cX3_sway : ByteArray := prog_5_method_7_code
def yX3_sway : MethodName := ⟨RX3, "sway", "(I)V"⟩
def RX4 : String := "LogRollers$Tape"
def TX4 : u_T := fun k => match k with
  | 0 => ("LogRollers$Tape", "bytes", "[I", true)
  | 1 => ("LogRollers$Tape", "size", "I", false)
  | 2 => ("LogRollers$Tape", "start", "I", false)
  | 3 => ("LogRollers$Tape", "end", "I", false)
  | 4 => ("LogRollers$Tape", "token", "I", false)
  | _ => ("LogRollers$Tape", "value", "I", false)
def tyX4 : Nat → FieldType := fun k => match k with
  | 0 => .array .int
  | 1 => .int
  | 2 => .int
  | 3 => .int
  | 4 => .int
  | _ => .int
theorem nmX4 : ∀ a, a < 6 → ∀ b, b < 6 → a ≠ b → (TX4 a).2.1 ≠ (TX4 b).2.1 := by decide +kernel
theorem tyX4_ok : ∀ k, k < 6 → parseFieldDescriptor (TX4 k).2.2.1 = some (tyX4 k) := by decide +kernel
abbrev cX4_init : ByteArray := prog_6_method_1_code
def yX4_init : MethodName := ⟨RX4, "<init>", "()V"⟩
abbrev cX4_addByte : ByteArray := prog_6_method_2_code
def yX4_addByte : MethodName := ⟨RX4, "addByte", "(I)V"⟩
abbrev cX4_toWay : ByteArray := prog_6_method_3_code
def yX4_toWay : MethodName := ⟨RX4, "toWay", "()LLogRollers$Way;"⟩
abbrev cX4_takeRule : ByteArray := prog_6_method_4_code
def yX4_takeRule : MethodName := ⟨RX4, "takeRule", "(LLogRollers$Way;)Z"⟩
abbrev cX4_takeComparison : ByteArray := prog_6_method_5_code
def yX4_takeComparison : MethodName := ⟨RX4, "takeComparison", "()Z"⟩
abbrev cX4_nextToken : ByteArray := prog_6_method_6_code
def yX4_nextToken : MethodName := ⟨RX4, "nextToken", "()V"⟩
abbrev cX4_takeWord : ByteArray := prog_6_method_7_code
def yX4_takeWord : MethodName := ⟨RX4, "takeWord", "()V"⟩
abbrev cX4_takeNumber : ByteArray := prog_6_method_8_code
def yX4_takeNumber : MethodName := ⟨RX4, "takeNumber", "()V"⟩
abbrev cX4_isLetter : ByteArray := prog_6_method_9_code
def yX4_isLetter : MethodName := ⟨RX4, "isLetter", "(I)Z"⟩
abbrev cX4_isDigit : ByteArray := prog_6_method_10_code
def yX4_isDigit : MethodName := ⟨RX4, "isDigit", "(I)Z"⟩
abbrev cX4_isSign : ByteArray := prog_6_method_11_code
def yX4_isSign : MethodName := ⟨RX4, "isSign", "(I)Z"⟩
abbrev cX4_nameHere : ByteArray := prog_6_method_12_code
def yX4_nameHere : MethodName := ⟨RX4, "nameHere", "()I"⟩
abbrev cX4_deedHere : ByteArray := prog_6_method_13_code
def yX4_deedHere : MethodName := ⟨RX4, "deedHere", "()I"⟩
abbrev cX4_isWord : ByteArray := prog_6_method_14_code
def yX4_isWord : MethodName := ⟨RX4, "isWord", "(Ljava/lang/String;)Z"⟩
def RX5 : String := "LogRollers$Way"
def TX5 : u_T := fun k => match k with
  | 0 => ("LogRollers$Way", "size", "I", false)
  | 1 => ("LogRollers$Way", "names", "[I", true)
  | 2 => ("LogRollers$Way", "signs", "[I", true)
  | 3 => ("LogRollers$Way", "bounds", "[I", true)
  | _ => ("LogRollers$Way", "deeds", "[I", true)
def tyX5 : Nat → FieldType := fun k => match k with
  | 0 => .int
  | 1 => .array .int
  | 2 => .array .int
  | 3 => .array .int
  | _ => .array .int
theorem nmX5 : ∀ a, a < 5 → ∀ b, b < 5 → a ≠ b → (TX5 a).2.1 ≠ (TX5 b).2.1 := by decide +kernel
theorem tyX5_ok : ∀ k, k < 5 → parseFieldDescriptor (TX5 k).2.2.1 = some (tyX5 k) := by decide +kernel
abbrev cX5_init : ByteArray := prog_7_method_1_code
def yX5_init : MethodName := ⟨RX5, "<init>", "()V"⟩
abbrev cX5_addRule : ByteArray := prog_7_method_2_code
def yX5_addRule : MethodName := ⟨RX5, "addRule", "(IIII)V"⟩
abbrev cX5_firstThat : ByteArray := prog_7_method_3_code
def yX5_firstThat : MethodName := ⟨RX5, "firstThat", "(IIII)I"⟩
abbrev cX5_deedOf : ByteArray := prog_7_method_4_code
def yX5_deedOf : MethodName := ⟨RX5, "deedOf", "(I)I"⟩
def RX6 : String := "LogRollers$World"
def TX6 : u_T := fun k => match k with
  | 0 => ("LogRollers$World", "people", "[LLogRollers$Person;", true)
  | 1 => ("LogRollers$World", "peopleCount", "I", false)
  | 2 => ("LogRollers$World", "ways", "[LLogRollers$Way;", true)
  | 3 => ("LogRollers$World", "wayCount", "I", false)
  | 4 => ("LogRollers$World", "parts", "[I", true)
  | 5 => ("LogRollers$World", "match", "LLogRollers$Match;", true)
  | 6 => ("LogRollers$World", "isOccupied", "Z", false)
  | 7 => ("LogRollers$World", "first", "I", false)
  | 8 => ("LogRollers$World", "second", "I", false)
  | _ => ("LogRollers$World", "latestOutcome", "I", false)
def tyX6 : Nat → FieldType := fun k => match k with
  | 0 => .array (.object "LogRollers$Person")
  | 1 => .int
  | 2 => .array (.object "LogRollers$Way")
  | 3 => .int
  | 4 => .array .int
  | 5 => .object "LogRollers$Match"
  | 6 => .boolean
  | 7 => .int
  | 8 => .int
  | _ => .int
theorem nmX6 : ∀ a, a < 10 → ∀ b, b < 10 → a ≠ b → (TX6 a).2.1 ≠ (TX6 b).2.1 := by decide +kernel
theorem tyX6_ok : ∀ k, k < 10 → parseFieldDescriptor (TX6 k).2.2.1 = some (tyX6 k) := by decide +kernel
abbrev cX6_init : ByteArray := prog_8_method_1_code
def yX6_init : MethodName := ⟨RX6, "<init>", "()V"⟩
abbrev cX6_takeFrom : ByteArray := prog_8_method_2_code
def yX6_takeFrom : MethodName := ⟨RX6, "takeFrom", "(LLogRollers$World;)V"⟩
abbrev cX6_isOnLog : ByteArray := prog_8_method_3_code
def yX6_isOnLog : MethodName := ⟨RX6, "isOnLog", "(I)Z"⟩
abbrev cX6_wayAt : ByteArray := prog_8_method_4_code
def yX6_wayAt : MethodName := ⟨RX6, "wayAt", "(I)LLogRollers$Way;"⟩
abbrev cX6_allFalls : ByteArray := prog_8_method_5_code
def yX6_allFalls : MethodName := ⟨RX6, "allFalls", "()I"⟩
def RX7 : String := "LogRollers"
def TX7 : u_T := fun k => match k with
  | 0 => ("LogRollers", "world", "LLogRollers$World;", true)
  | 1 => ("LogRollers", "kept", "LLogRollers$World;", true)
  | 2 => ("LogRollers", "isKept", "Z", false)
  | 3 => ("LogRollers", "other", "LLogRollers$Match;", true)
  | 4 => ("LogRollers", "trial", "LLogRollers$Person;", true)
  | 5 => ("LogRollers", "tape", "LLogRollers$Tape;", true)
  | 6 => ("LogRollers", "sheets", "[LLogRollers$Sheet;", true)
  | _ => ("LogRollers", "found", "[I", true)
def tyX7 : Nat → FieldType := fun k => match k with
  | 0 => .object "LogRollers$World"
  | 1 => .object "LogRollers$World"
  | 2 => .boolean
  | 3 => .object "LogRollers$Match"
  | 4 => .object "LogRollers$Person"
  | 5 => .object "LogRollers$Tape"
  | 6 => .array (.object "LogRollers$Sheet")
  | _ => .array .int
theorem nmX7 : ∀ a, a < 8 → ∀ b, b < 8 → a ≠ b → (TX7 a).2.1 ≠ (TX7 b).2.1 := by decide +kernel
theorem tyX7_ok : ∀ k, k < 8 → parseFieldDescriptor (TX7 k).2.2.1 = some (tyX7 k) := by decide +kernel
abbrev cX7_init : ByteArray := prog_1_method_1_code
def yX7_init : MethodName := ⟨RX7, "<init>", "()V"⟩
abbrev cX7_roller : ByteArray := prog_1_method_2_code
def yX7_roller : MethodName := ⟨RX7, "roller", "(II)I"⟩
abbrev cX7_of : ByteArray := prog_1_method_3_code
def yX7_of : MethodName := ⟨RX7, "of", "(II)I"⟩
abbrev cX7_set : ByteArray := prog_1_method_4_code
def yX7_set : MethodName := ⟨RX7, "set", "(III)I"⟩
abbrev cX7_as : ByteArray := prog_1_method_5_code
def yX7_as : MethodName := ⟨RX7, "as", "(II)I"⟩
abbrev cX7_log : ByteArray := prog_1_method_6_code
def yX7_log : MethodName := ⟨RX7, "log", "(II)I"⟩
abbrev cX7_push : ByteArray := prog_1_method_7_code
def yX7_push : MethodName := ⟨RX7, "push", "(IIIII)I"⟩
abbrev cX7_mount : ByteArray := prog_1_method_8_code
def yX7_mount : MethodName := ⟨RX7, "mount", "(II)I"⟩
abbrev cX7_off : ByteArray := prog_1_method_9_code
def yX7_off : MethodName := ⟨RX7, "off", "()I"⟩
abbrev cX7_bout : ByteArray := prog_1_method_10_code
def yX7_bout : MethodName := ⟨RX7, "bout", "(I)I"⟩
abbrev cX7_stands : ByteArray := prog_1_method_11_code
def yX7_stands : MethodName := ⟨RX7, "stands", "(II)I"⟩
abbrev cX7_now : ByteArray := prog_1_method_12_code
def yX7_now : MethodName := ⟨RX7, "now", "(I)I"⟩
abbrev cX7_seed : ByteArray := prog_1_method_13_code
def yX7_seed : MethodName := ⟨RX7, "seed", "(I)I"⟩
abbrev cX7_ahead : ByteArray := prog_1_method_14_code
def yX7_ahead : MethodName := ⟨RX7, "ahead", "(IIII)I"⟩
abbrev cX7_best : ByteArray := prog_1_method_15_code
def yX7_best : MethodName := ⟨RX7, "best", "(III)I"⟩
abbrev cX7_light : ByteArray := prog_1_method_16_code
def yX7_light : MethodName := ⟨RX7, "light", "(III)I"⟩
abbrev cX7_late : ByteArray := prog_1_method_17_code
def yX7_late : MethodName := ⟨RX7, "late", "(III)I"⟩
abbrev cX7_swing : ByteArray := prog_1_method_18_code
def yX7_swing : MethodName := ⟨RX7, "swing", "(IIII)I"⟩
abbrev cX7_beats : ByteArray := prog_1_method_19_code
def yX7_beats : MethodName := ⟨RX7, "beats", "(II)I"⟩
abbrev cX7_five : ByteArray := prog_1_method_20_code
def yX7_five : MethodName := ⟨RX7, "five", "(III)I"⟩
abbrev cX7_champion : ByteArray := prog_1_method_21_code
def yX7_champion : MethodName := ⟨RX7, "champion", "(I)I"⟩
abbrev cX7_feed : ByteArray := prog_1_method_22_code
def yX7_feed : MethodName := ⟨RX7, "feed", "(II)I"⟩
abbrev cX7_wipe : ByteArray := prog_1_method_23_code
def yX7_wipe : MethodName := ⟨RX7, "wipe", "()I"⟩
abbrev cX7_way : ByteArray := prog_1_method_24_code
def yX7_way : MethodName := ⟨RX7, "way", "()I"⟩
abbrev cX7_rules : ByteArray := prog_1_method_25_code
def yX7_rules : MethodName := ⟨RX7, "rules", "(I)I"⟩
abbrev cX7_holds : ByteArray := prog_1_method_26_code
def yX7_holds : MethodName := ⟨RX7, "holds", "(IIIII)I"⟩
abbrev cX7_sheet : ByteArray := prog_1_method_27_code
def yX7_sheet : MethodName := ⟨RX7, "sheet", "(III)I"⟩
abbrev cX7_write : ByteArray := prog_1_method_28_code
def yX7_write : MethodName := ⟨RX7, "write", "(IIJ)J"⟩
abbrev cX7_copy : ByteArray := prog_1_method_29_code
def yX7_copy : MethodName := ⟨RX7, "copy", "(IIIII)I"⟩
abbrev cX7_film : ByteArray := prog_1_method_30_code
def yX7_film : MethodName := ⟨RX7, "film", "(III)I"⟩
abbrev cX7_read : ByteArray := prog_1_method_31_code
def yX7_read : MethodName := ⟨RX7, "read", "(III)I"⟩
abbrev cX7_image : ByteArray := prog_1_method_32_code
def yX7_image : MethodName := ⟨RX7, "image", "()I"⟩
abbrev cX7_undo : ByteArray := prog_1_method_33_code
def yX7_undo : MethodName := ⟨RX7, "undo", "()I"⟩
abbrev cX7_tear : ByteArray := prog_1_method_34_code
def yX7_tear : MethodName := ⟨RX7, "tear", "()I"⟩
abbrev cX7_count : ByteArray := prog_1_method_35_code
def yX7_count : MethodName := ⟨RX7, "count", "(I)I"⟩
abbrev cX7_status : ByteArray := prog_1_method_36_code
def yX7_status : MethodName := ⟨RX7, "status", "(I)I"⟩
abbrev cX7_finding : ByteArray := prog_1_method_37_code
def yX7_finding : MethodName := ⟨RX7, "finding", "(I)I"⟩
abbrev cX7_within : ByteArray := prog_1_method_38_code
def yX7_within : MethodName := ⟨RX7, "within", "(III)Z"⟩
abbrev cX7_isKind : ByteArray := prog_1_method_39_code
def yX7_isKind : MethodName := ⟨RX7, "isKind", "(I)Z"⟩
abbrev cX7_isSheet : ByteArray := prog_1_method_40_code
def yX7_isSheet : MethodName := ⟨RX7, "isSheet", "(I)Z"⟩
abbrev cX7_isPerson : ByteArray := prog_1_method_41_code
def yX7_isPerson : MethodName := ⟨RX7, "isPerson", "(I)Z"⟩
abbrev cX7_isPair : ByteArray := prog_1_method_42_code
def yX7_isPair : MethodName := ⟨RX7, "isPair", "(II)Z"⟩
abbrev cX7_isSituation : ByteArray := prog_1_method_43_code
def yX7_isSituation : MethodName := ⟨RX7, "isSituation", "(IIII)Z"⟩
abbrev cX7_maySet : ByteArray := prog_1_method_44_code
def yX7_maySet : MethodName := ⟨RX7, "maySet", "(II)Z"⟩
abbrev cX7_isUnder : ByteArray := prog_1_method_45_code
def yX7_isUnder : MethodName := ⟨RX7, "isUnder", "(II)Z"⟩
abbrev cX7_endBout : ByteArray := prog_1_method_46_code
def yX7_endBout : MethodName := ⟨RX7, "endBout", "(LLogRollers$Person;LLogRollers$Person;I)V"⟩
abbrev cX7_startAhead : ByteArray := prog_1_method_47_code
def yX7_startAhead : MethodName := ⟨RX7, "startAhead", "(LLogRollers$Person;LLogRollers$Person;)V"⟩
abbrev cX7_beatenBy : ByteArray := prog_1_method_48_code
def yX7_beatenBy : MethodName := ⟨RX7, "beatenBy", "(II)I"⟩
abbrev cX7_sheetFinding : ByteArray := prog_1_method_49_code
def yX7_sheetFinding : MethodName := ⟨RX7, "sheetFinding", "(III)I"⟩
abbrev cX7_atMost : ByteArray := prog_1_method_50_code
def yX7_atMost : MethodName := ⟨RX7, "atMost", "(II)I"⟩
def RX8 : String := "LogRollersModel"
def TX8 : u_T := fun k => match k with
  | 0 => ("LogRollersModel", "d", "[I", true)
  | 1 => ("LogRollersModel", "e", "[I", true)
  | 2 => ("LogRollersModel", "kept", "[I", true)
  | 3 => ("LogRollersModel", "hasKept", "Z", false)
  | 4 => ("LogRollersModel", "found", "[I", true)
  | 5 => ("LogRollersModel", "swing0", "I", false)
  | 6 => ("LogRollersModel", "swing1", "I", false)
  | 7 => ("LogRollersModel", "tape", "[I", true)
  | 8 => ("LogRollersModel", "taped", "I", false)
  | 9 => ("LogRollersModel", "at", "I", false)
  | 10 => ("LogRollersModel", "from", "I", false)
  | 11 => ("LogRollersModel", "token", "I", false)
  | 12 => ("LogRollersModel", "word", "I", false)
  | 13 => ("LogRollersModel", "value", "I", false)
  | 14 => ("LogRollersModel", "isWrong", "Z", false)
  | 15 => ("LogRollersModel", "bitsOf", "[I", true)
  | 16 => ("LogRollersModel", "sizeOf", "[I", true)
  | 17 => ("LogRollersModel", "number", "[J", true)
  | _ => ("LogRollersModel", "lifted", "[J", true)
def tyX8 : Nat → FieldType := fun k => match k with
  | 0 => .array .int
  | 1 => .array .int
  | 2 => .array .int
  | 3 => .boolean
  | 4 => .array .int
  | 5 => .int
  | 6 => .int
  | 7 => .array .int
  | 8 => .int
  | 9 => .int
  | 10 => .int
  | 11 => .int
  | 12 => .int
  | 13 => .int
  | 14 => .boolean
  | 15 => .array .int
  | 16 => .array .int
  | 17 => .array .long
  | _ => .array .long
theorem nmX8 : ∀ a, a < 19 → ∀ b, b < 19 → a ≠ b → (TX8 a).2.1 ≠ (TX8 b).2.1 := by decide +kernel
theorem tyX8_ok : ∀ k, k < 19 → parseFieldDescriptor (TX8 k).2.2.1 = some (tyX8 k) := by decide +kernel
abbrev cX8_init : ByteArray := prog_10_method_1_code
def yX8_init : MethodName := ⟨RX8, "<init>", "()V"⟩
abbrev cX8_finds : ByteArray := prog_10_method_3_code
def yX8_finds : MethodName := ⟨RX8, "finds", "(I)I"⟩
abbrev cX8_in : ByteArray := prog_10_method_4_code
def yX8_in : MethodName := ⟨RX8, "in", "(JJJ)Z"⟩
abbrev cX8_held : ByteArray := prog_10_method_5_code
def yX8_held : MethodName := ⟨RX8, "held", "(II)I"⟩
abbrev cX8_size : ByteArray := prog_10_method_6_code
def yX8_size : MethodName := ⟨RX8, "size", "(I)I"⟩
abbrev cX8_copies : ByteArray := prog_10_method_7_code
def yX8_copies : MethodName := ⟨RX8, "copies", "([I[I)V"⟩
abbrev cX8_isPerson : ByteArray := prog_10_method_8_code
def yX8_isPerson : MethodName := ⟨RX8, "isPerson", "(I)Z"⟩
abbrev cX8_areTwo : ByteArray := prog_10_method_9_code
def yX8_areTwo : MethodName := ⟨RX8, "areTwo", "(II)Z"⟩
abbrev cX8_isOnLog : ByteArray := prog_10_method_10_code
def yX8_isOnLog : MethodName := ⟨RX8, "isOnLog", "(I)Z"⟩
abbrev cX8_told : ByteArray := prog_10_method_11_code
def yX8_told : MethodName := ⟨RX8, "told", "([III)I"⟩
abbrev cX8_roller : ByteArray := prog_10_method_12_code
def yX8_roller : MethodName := ⟨RX8, "roller", "(II)I"⟩
abbrev cX8_of : ByteArray := prog_10_method_13_code
def yX8_of : MethodName := ⟨RX8, "of", "(II)I"⟩
abbrev cX8_mayBe : ByteArray := prog_10_method_14_code
def yX8_mayBe : MethodName := ⟨RX8, "mayBe", "(II)Z"⟩
abbrev cX8_set : ByteArray := prog_10_method_15_code
def yX8_set : MethodName := ⟨RX8, "set", "(III)I"⟩
abbrev cX8_isOf : ByteArray := prog_10_method_16_code
def yX8_isOf : MethodName := ⟨RX8, "isOf", "(II)Z"⟩
abbrev cX8_as : ByteArray := prog_10_method_17_code
def yX8_as : MethodName := ⟨RX8, "as", "(II)I"⟩
abbrev cX8_log : ByteArray := prog_10_method_18_code
def yX8_log : MethodName := ⟨RX8, "log", "(II)I"⟩
abbrev cX8_ruleOf : ByteArray := prog_10_method_19_code
def yX8_ruleOf : MethodName := ⟨RX8, "ruleOf", "([IIIIII)I"⟩
abbrev cX8_pushOf : ByteArray := prog_10_method_20_code
def yX8_pushOf : MethodName := ⟨RX8, "pushOf", "([IIIIII)I"⟩
abbrev cX8_push : ByteArray := prog_10_method_21_code
def yX8_push : MethodName := ⟨RX8, "push", "(IIIII)I"⟩
abbrev cX8_sees : ByteArray := prog_10_method_22_code
def yX8_sees : MethodName := ⟨RX8, "sees", "([II)I"⟩
abbrev cX8_costOf : ByteArray := prog_10_method_23_code
def yX8_costOf : MethodName := ⟨RX8, "costOf", "(I)I"⟩
abbrev cX8_pushes : ByteArray := prog_10_method_24_code
def yX8_pushes : MethodName := ⟨RX8, "pushes", "([II)I"⟩
abbrev cX8_slips : ByteArray := prog_10_method_25_code
def yX8_slips : MethodName := ⟨RX8, "slips", "([I)Z"⟩
abbrev cX8_steps : ByteArray := prog_10_method_26_code
def yX8_steps : MethodName := ⟨RX8, "steps", "([III)V"⟩
abbrev cX8_falls : ByteArray := prog_10_method_27_code
def yX8_falls : MethodName := ⟨RX8, "falls", "([II)Z"⟩
abbrev cX8_goesBy : ByteArray := prog_10_method_28_code
def yX8_goesBy : MethodName := ⟨RX8, "goesBy", "([I)I"⟩
abbrev cX8_getsOn : ByteArray := prog_10_method_29_code
def yX8_getsOn : MethodName := ⟨RX8, "getsOn", "([III)V"⟩
abbrev cX8_mount : ByteArray := prog_10_method_30_code
def yX8_mount : MethodName := ⟨RX8, "mount", "(II)I"⟩
abbrev cX8_off : ByteArray := prog_10_method_31_code
def yX8_off : MethodName := ⟨RX8, "off", "()I"⟩
abbrev cX8_bout : ByteArray := prog_10_method_32_code
def yX8_bout : MethodName := ⟨RX8, "bout", "(I)I"⟩
abbrev cX8_stands : ByteArray := prog_10_method_33_code
def yX8_stands : MethodName := ⟨RX8, "stands", "(II)I"⟩
abbrev cX8_now : ByteArray := prog_10_method_34_code
def yX8_now : MethodName := ⟨RX8, "now", "(I)I"⟩
abbrev cX8_seed : ByteArray := prog_10_method_35_code
def yX8_seed : MethodName := ⟨RX8, "seed", "(I)I"⟩
abbrev cX8_boutAhead : ByteArray := prog_10_method_36_code
def yX8_boutAhead : MethodName := ⟨RX8, "boutAhead", "(III)I"⟩
abbrev cX8_ahead : ByteArray := prog_10_method_37_code
def yX8_ahead : MethodName := ⟨RX8, "ahead", "(IIII)I"⟩
abbrev cX8_best : ByteArray := prog_10_method_38_code
def yX8_best : MethodName := ⟨RX8, "best", "(III)I"⟩
abbrev cX8_light : ByteArray := prog_10_method_39_code
def yX8_light : MethodName := ⟨RX8, "light", "(III)I"⟩
abbrev cX8_late : ByteArray := prog_10_method_40_code
def yX8_late : MethodName := ⟨RX8, "late", "(III)I"⟩
abbrev cX8_swing : ByteArray := prog_10_method_41_code
def yX8_swing : MethodName := ⟨RX8, "swing", "(IIII)I"⟩
abbrev cX8_beatenBy : ByteArray := prog_10_method_42_code
def yX8_beatenBy : MethodName := ⟨RX8, "beatenBy", "(II)I"⟩
abbrev cX8_beats : ByteArray := prog_10_method_43_code
def yX8_beats : MethodName := ⟨RX8, "beats", "(II)I"⟩
abbrev cX8_five : ByteArray := prog_10_method_44_code
def yX8_five : MethodName := ⟨RX8, "five", "(III)I"⟩
abbrev cX8_champion : ByteArray := prog_10_method_45_code
def yX8_champion : MethodName := ⟨RX8, "champion", "(I)I"⟩
abbrev cX8_feed : ByteArray := prog_10_method_46_code
def yX8_feed : MethodName := ⟨RX8, "feed", "(II)I"⟩
abbrev cX8_wipe : ByteArray := prog_10_method_47_code
def yX8_wipe : MethodName := ⟨RX8, "wipe", "()I"⟩
abbrev cX8_isLetter : ByteArray := prog_10_method_48_code
def yX8_isLetter : MethodName := ⟨RX8, "isLetter", "(I)Z"⟩
abbrev cX8_isDigit : ByteArray := prog_10_method_49_code
def yX8_isDigit : MethodName := ⟨RX8, "isDigit", "(I)Z"⟩
abbrev cX8_look : ByteArray := prog_10_method_50_code
def yX8_look : MethodName := ⟨RX8, "look", "()V"⟩
abbrev cX8_isWord : ByteArray := prog_10_method_51_code
def yX8_isWord : MethodName := ⟨RX8, "isWord", "(Ljava/lang/String;)Z"⟩
abbrev cX8_isSign : ByteArray := prog_10_method_52_code
def yX8_isSign : MethodName := ⟨RX8, "isSign", "(I)Z"⟩
abbrev cX8_must : ByteArray := prog_10_method_53_code
def yX8_must : MethodName := ⟨RX8, "must", "(Z)V"⟩
abbrev cX8_name : ByteArray := prog_10_method_54_code
def yX8_name : MethodName := ⟨RX8, "name", "()I"⟩
abbrev cX8_deed : ByteArray := prog_10_method_55_code
def yX8_deed : MethodName := ⟨RX8, "deed", "()I"⟩
abbrev cX8_compares : ByteArray := prog_10_method_56_code
def yX8_compares : MethodName := ⟨RX8, "compares", "(I)V"⟩
abbrev cX8_reads : ByteArray := prog_10_method_57_code
def yX8_reads : MethodName := ⟨RX8, "reads", "(I)V"⟩
abbrev cX8_way : ByteArray := prog_10_method_58_code
def yX8_way : MethodName := ⟨RX8, "way", "()I"⟩
abbrev cX8_isWay : ByteArray := prog_10_method_59_code
def yX8_isWay : MethodName := ⟨RX8, "isWay", "(I)Z"⟩
abbrev cX8_rules : ByteArray := prog_10_method_60_code
def yX8_rules : MethodName := ⟨RX8, "rules", "(I)I"⟩
abbrev cX8_holds : ByteArray := prog_10_method_61_code
def yX8_holds : MethodName := ⟨RX8, "holds", "(IIIII)I"⟩
abbrev cX8_isSheet : ByteArray := prog_10_method_62_code
def yX8_isSheet : MethodName := ⟨RX8, "isSheet", "(I)Z"⟩
abbrev cX8_lowest : ByteArray := prog_10_method_63_code
def yX8_lowest : MethodName := ⟨RX8, "lowest", "(IJ)J"⟩
abbrev cX8_sheet : ByteArray := prog_10_method_64_code
def yX8_sheet : MethodName := ⟨RX8, "sheet", "(III)I"⟩
abbrev cX8_write : ByteArray := prog_10_method_65_code
def yX8_write : MethodName := ⟨RX8, "write", "(IIJ)J"⟩
abbrev cX8_copy : ByteArray := prog_10_method_66_code
def yX8_copy : MethodName := ⟨RX8, "copy", "(IIIII)I"⟩
abbrev cX8_whyNot : ByteArray := prog_10_method_67_code
def yX8_whyNot : MethodName := ⟨RX8, "whyNot", "(III)I"⟩
abbrev cX8_film : ByteArray := prog_10_method_68_code
def yX8_film : MethodName := ⟨RX8, "film", "(III)I"⟩
abbrev cX8_read : ByteArray := prog_10_method_69_code
def yX8_read : MethodName := ⟨RX8, "read", "(III)I"⟩
abbrev cX8_image : ByteArray := prog_10_method_70_code
def yX8_image : MethodName := ⟨RX8, "image", "()I"⟩
abbrev cX8_undo : ByteArray := prog_10_method_71_code
def yX8_undo : MethodName := ⟨RX8, "undo", "()I"⟩
abbrev cX8_tear : ByteArray := prog_10_method_72_code
def yX8_tear : MethodName := ⟨RX8, "tear", "()I"⟩
abbrev cX8_allFalls : ByteArray := prog_10_method_73_code
def yX8_allFalls : MethodName := ⟨RX8, "allFalls", "()I"⟩
abbrev cX8_count : ByteArray := prog_10_method_74_code
def yX8_count : MethodName := ⟨RX8, "count", "(I)I"⟩
abbrev cX8_status : ByteArray := prog_10_method_75_code
def yX8_status : MethodName := ⟨RX8, "status", "(I)I"⟩
def RJ6 : String := "java/lang/Integer"
abbrev cJ6_bitCount_0f7a4 : ByteArray := prog_12_method_49_code
def yJ6_bitCount_0f7a4 : MethodName := ⟨RJ6, "bitCount", "(I)I"⟩
def RJ9 : String := "java/lang/Math"
abbrev cJ9_abs_0f7a4 : ByteArray := prog_13_method_59_code
def yJ9_abs_0f7a4 : MethodName := ⟨RJ9, "abs", "(I)I"⟩
abbrev cJ9_max_7cf53 : ByteArray := prog_13_method_65_code
def yJ9_max_7cf53 : MethodName := ⟨RJ9, "max", "(II)I"⟩
abbrev cJ9_min_7cf53 : ByteArray := prog_13_method_69_code
def yJ9_min_7cf53 : MethodName := ⟨RJ9, "min", "(II)I"⟩
def RJ0 : String := "java/lang/String"
abbrev cJ0_length_8abf5 : ByteArray := prog_14_method_54_code
def yJ0_length_8abf5 : MethodName := ⟨RJ0, "length", "()I"⟩
abbrev cJ0_charAt_5068e : ByteArray := prog_14_method_56_code
def yJ0_charAt_5068e : MethodName := ⟨RJ0, "charAt", "(I)C"⟩
abbrev cJ0_coder_7d493 : ByteArray := prog_14_method_152_code
def yJ0_coder_7d493 : MethodName := ⟨RJ0, "coder", "()B"⟩
abbrev cJ0_isLatin1_aae02 : ByteArray := prog_14_method_154_code
def yJ0_isLatin1_aae02 : MethodName := ⟨RJ0, "isLatin1", "()Z"⟩
abbrev cJ0_checkIndex_df160 : ByteArray := prog_14_method_155_code
def yJ0_checkIndex_df160 : MethodName := ⟨RJ0, "checkIndex", "(II)V"⟩
def RJ1 : String := "java/lang/StringLatin1"
abbrev cJ1_charAt_3b067 : ByteArray := prog_15_method_2_code
def yJ1_charAt_3b067 : MethodName := ⟨RJ1, "charAt", "([BI)C"⟩
def RJ2 : String := "java/lang/StringUTF16"
abbrev cJ2_getChar_3b067 : ByteArray := prog_16_method_5_code
def yJ2_getChar_3b067 : MethodName := ⟨RJ2, "getChar", "([BI)C"⟩
abbrev cJ2_length_9d52b : ByteArray := prog_16_method_6_code
def yJ2_length_9d52b : MethodName := ⟨RJ2, "length", "([B)I"⟩
abbrev cJ2_charAt_3b067 : ByteArray := prog_16_method_83_code
def yJ2_charAt_3b067 : MethodName := ⟨RJ2, "charAt", "([BI)C"⟩
abbrev cJ2_checkIndex_2214a : ByteArray := prog_16_method_91_code
def yJ2_checkIndex_2214a : MethodName := ⟨RJ2, "checkIndex", "(I[B)V"⟩
def RJ10 : String := "java/lang/System"
def RJ3 : String := "jdk/internal/util/Preconditions"
abbrev cJ3_checkIndex_8e157 : ByteArray := prog_18_method_11_code
def yJ3_checkIndex_8e157 : MethodName := ⟨RJ3, "checkIndex", "(IILjava/util/function/BiFunction;)I"⟩
def RL : String := "LogRollersLaw"
abbrev cL_law : ByteArray := code
def yL_law : MethodName := ⟨RL, "law", "([I)Z"⟩
abbrev vwCl : List vw_C := [(RX0, TX0, 8), (RX1, TX1, 7), (RX2, TX2, 3), (RX3, TX3, 5), (RX4, TX4, 6), (RX5, TX5, 5), (RX6, TX6, 10), (RX7, TX7, 8), (RX8, TX8, 19)]
end
section
/-- an instruction at a place, and the next place -/
def DD (cc : ByteArray) (pc : Nat) (i : Instr) (len q : Nat) : Prop := decode cc pc = .ok (i, len) ∧ pc + len = q
theorem dX0_init_0 : DD cX0_init 0 (.aload_n 0) 1 1 := ⟨by decide +kernel, rfl⟩
theorem dX0_init_1 : DD cX0_init 1 (.invokespecial 3) 3 4 := ⟨by decide +kernel, rfl⟩
theorem dX0_init_4 : DD cX0_init 4 (.aload_n 0) 1 5 := ⟨by decide +kernel, rfl⟩
theorem dX0_init_5 : DD cX0_init 5 (.bipush 10) 2 7 := ⟨by decide +kernel, rfl⟩
theorem dX0_init_7 : DD cX0_init 7 (.newarray .int) 2 9 := ⟨by decide +kernel, rfl⟩
theorem dX0_init_9 : DD cX0_init 9 (.putfield 11) 3 12 := ⟨by decide +kernel, rfl⟩
theorem dX0_init_12 : DD cX0_init 12 (.aload_n 0) 1 13 := ⟨by decide +kernel, rfl⟩
theorem dX0_init_13 : DD cX0_init 13 (.new 15) 3 16 := ⟨by decide +kernel, rfl⟩
theorem dX0_init_16 : DD cX0_init 16 (.dup) 1 17 := ⟨by decide +kernel, rfl⟩
theorem dX0_init_17 : DD cX0_init 17 (.invokespecial 17) 3 20 := ⟨by decide +kernel, rfl⟩
theorem dX0_init_20 : DD cX0_init 20 (.putfield 18) 3 23 := ⟨by decide +kernel, rfl⟩
theorem dX0_init_23 : DD cX0_init 23 (.aload_n 0) 1 24 := ⟨by decide +kernel, rfl⟩
theorem dX0_init_24 : DD cX0_init 24 (.new 15) 3 27 := ⟨by decide +kernel, rfl⟩
theorem dX0_init_27 : DD cX0_init 27 (.dup) 1 28 := ⟨by decide +kernel, rfl⟩
theorem dX0_init_28 : DD cX0_init 28 (.invokespecial 17) 3 31 := ⟨by decide +kernel, rfl⟩
theorem dX0_init_31 : DD cX0_init 31 (.putfield 22) 3 34 := ⟨by decide +kernel, rfl⟩
theorem dX0_init_34 : DD cX0_init 34 (.aload_n 0) 1 35 := ⟨by decide +kernel, rfl⟩
theorem dX0_init_35 : DD cX0_init 35 (.iconst 0) 1 36 := ⟨by decide +kernel, rfl⟩
theorem dX0_init_36 : DD cX0_init 36 (.putfield 25) 3 39 := ⟨by decide +kernel, rfl⟩
theorem dX0_init_39 : DD cX0_init 39 (.aload_n 0) 1 40 := ⟨by decide +kernel, rfl⟩
theorem dX0_init_40 : DD cX0_init 40 (.iconst 0) 1 41 := ⟨by decide +kernel, rfl⟩
theorem dX0_init_41 : DD cX0_init 41 (.putfield 29) 3 44 := ⟨by decide +kernel, rfl⟩
theorem dX0_init_44 : DD cX0_init 44 (.aload_n 0) 1 45 := ⟨by decide +kernel, rfl⟩
theorem dX0_init_45 : DD cX0_init 45 (.iconst 1) 1 46 := ⟨by decide +kernel, rfl⟩
theorem dX0_init_46 : DD cX0_init 46 (.putfield 32) 3 49 := ⟨by decide +kernel, rfl⟩
theorem dX0_init_49 : DD cX0_init 49 (.aload_n 0) 1 50 := ⟨by decide +kernel, rfl⟩
theorem dX0_init_50 : DD cX0_init 50 (.aload_n 1) 1 51 := ⟨by decide +kernel, rfl⟩
theorem dX0_init_51 : DD cX0_init 51 (.putfield 35) 3 54 := ⟨by decide +kernel, rfl⟩
theorem dX0_init_54 : DD cX0_init 54 (.aload_n 0) 1 55 := ⟨by decide +kernel, rfl⟩
theorem dX0_init_55 : DD cX0_init 55 (.aload_n 2) 1 56 := ⟨by decide +kernel, rfl⟩
theorem dX0_init_56 : DD cX0_init 56 (.putfield 38) 3 59 := ⟨by decide +kernel, rfl⟩
theorem dX0_init_59 : DD cX0_init 59 (.return_) 1 60 := ⟨by decide +kernel, rfl⟩
theorem dX0_takeFrom_0 : DD cX0_takeFrom 0 (.iconst 0) 1 1 := ⟨by decide +kernel, rfl⟩
theorem dX0_takeFrom_1 : DD cX0_takeFrom 1 (.istore_n 2) 1 2 := ⟨by decide +kernel, rfl⟩
theorem dX0_takeFrom_2 : DD cX0_takeFrom 2 (.iload_n 2) 1 3 := ⟨by decide +kernel, rfl⟩
theorem dX0_takeFrom_3 : DD cX0_takeFrom 3 (.bipush 10) 2 5 := ⟨by decide +kernel, rfl⟩
theorem dX0_takeFrom_5 : DD cX0_takeFrom 5 (.if_icmp .ge 21) 3 8 := ⟨by decide +kernel, rfl⟩
theorem dX0_takeFrom_8 : DD cX0_takeFrom 8 (.aload_n 0) 1 9 := ⟨by decide +kernel, rfl⟩
theorem dX0_takeFrom_9 : DD cX0_takeFrom 9 (.getfield 11) 3 12 := ⟨by decide +kernel, rfl⟩
theorem dX0_takeFrom_12 : DD cX0_takeFrom 12 (.iload_n 2) 1 13 := ⟨by decide +kernel, rfl⟩
theorem dX0_takeFrom_13 : DD cX0_takeFrom 13 (.aload_n 1) 1 14 := ⟨by decide +kernel, rfl⟩
theorem dX0_takeFrom_14 : DD cX0_takeFrom 14 (.getfield 11) 3 17 := ⟨by decide +kernel, rfl⟩
theorem dX0_takeFrom_17 : DD cX0_takeFrom 17 (.iload_n 2) 1 18 := ⟨by decide +kernel, rfl⟩
theorem dX0_takeFrom_18 : DD cX0_takeFrom 18 (.iaload) 1 19 := ⟨by decide +kernel, rfl⟩
theorem dX0_takeFrom_19 : DD cX0_takeFrom 19 (.iastore) 1 20 := ⟨by decide +kernel, rfl⟩
theorem dX0_takeFrom_20 : DD cX0_takeFrom 20 (.iinc 2 1) 3 23 := ⟨by decide +kernel, rfl⟩
theorem dX0_takeFrom_23 : DD cX0_takeFrom 23 (.goto (-21)) 3 26 := ⟨by decide +kernel, rfl⟩
theorem dX0_takeFrom_26 : DD cX0_takeFrom 26 (.aload_n 0) 1 27 := ⟨by decide +kernel, rfl⟩
theorem dX0_takeFrom_27 : DD cX0_takeFrom 27 (.getfield 18) 3 30 := ⟨by decide +kernel, rfl⟩
theorem dX0_takeFrom_30 : DD cX0_takeFrom 30 (.aload_n 1) 1 31 := ⟨by decide +kernel, rfl⟩
theorem dX0_takeFrom_31 : DD cX0_takeFrom 31 (.getfield 18) 3 34 := ⟨by decide +kernel, rfl⟩
theorem dX0_takeFrom_34 : DD cX0_takeFrom 34 (.invokevirtual 42) 3 37 := ⟨by decide +kernel, rfl⟩
theorem dX0_takeFrom_37 : DD cX0_takeFrom 37 (.aload_n 0) 1 38 := ⟨by decide +kernel, rfl⟩
theorem dX0_takeFrom_38 : DD cX0_takeFrom 38 (.getfield 22) 3 41 := ⟨by decide +kernel, rfl⟩
theorem dX0_takeFrom_41 : DD cX0_takeFrom 41 (.aload_n 1) 1 42 := ⟨by decide +kernel, rfl⟩
theorem dX0_takeFrom_42 : DD cX0_takeFrom 42 (.getfield 22) 3 45 := ⟨by decide +kernel, rfl⟩
theorem dX0_takeFrom_45 : DD cX0_takeFrom 45 (.invokevirtual 42) 3 48 := ⟨by decide +kernel, rfl⟩
theorem dX0_takeFrom_48 : DD cX0_takeFrom 48 (.aload_n 0) 1 49 := ⟨by decide +kernel, rfl⟩
theorem dX0_takeFrom_49 : DD cX0_takeFrom 49 (.aload_n 1) 1 50 := ⟨by decide +kernel, rfl⟩
theorem dX0_takeFrom_50 : DD cX0_takeFrom 50 (.getfield 25) 3 53 := ⟨by decide +kernel, rfl⟩
theorem dX0_takeFrom_53 : DD cX0_takeFrom 53 (.putfield 25) 3 56 := ⟨by decide +kernel, rfl⟩
theorem dX0_takeFrom_56 : DD cX0_takeFrom 56 (.aload_n 0) 1 57 := ⟨by decide +kernel, rfl⟩
theorem dX0_takeFrom_57 : DD cX0_takeFrom 57 (.aload_n 1) 1 58 := ⟨by decide +kernel, rfl⟩
theorem dX0_takeFrom_58 : DD cX0_takeFrom 58 (.getfield 29) 3 61 := ⟨by decide +kernel, rfl⟩
theorem dX0_takeFrom_61 : DD cX0_takeFrom 61 (.putfield 29) 3 64 := ⟨by decide +kernel, rfl⟩
theorem dX0_takeFrom_64 : DD cX0_takeFrom 64 (.aload_n 0) 1 65 := ⟨by decide +kernel, rfl⟩
theorem dX0_takeFrom_65 : DD cX0_takeFrom 65 (.aload_n 1) 1 66 := ⟨by decide +kernel, rfl⟩
theorem dX0_takeFrom_66 : DD cX0_takeFrom 66 (.getfield 32) 3 69 := ⟨by decide +kernel, rfl⟩
theorem dX0_takeFrom_69 : DD cX0_takeFrom 69 (.putfield 32) 3 72 := ⟨by decide +kernel, rfl⟩
theorem dX0_takeFrom_72 : DD cX0_takeFrom 72 (.return_) 1 73 := ⟨by decide +kernel, rfl⟩
theorem dX0_begin_0 : DD cX0_begin 0 (.aload_n 0) 1 1 := ⟨by decide +kernel, rfl⟩
theorem dX0_begin_1 : DD cX0_begin 1 (.getfield 18) 3 4 := ⟨by decide +kernel, rfl⟩
theorem dX0_begin_4 : DD cX0_begin 4 (.aload_n 1) 1 5 := ⟨by decide +kernel, rfl⟩
theorem dX0_begin_5 : DD cX0_begin 5 (.getfield 46) 3 8 := ⟨by decide +kernel, rfl⟩
theorem dX0_begin_8 : DD cX0_begin 8 (.invokevirtual 51) 3 11 := ⟨by decide +kernel, rfl⟩
theorem dX0_begin_11 : DD cX0_begin 11 (.aload_n 0) 1 12 := ⟨by decide +kernel, rfl⟩
theorem dX0_begin_12 : DD cX0_begin 12 (.getfield 22) 3 15 := ⟨by decide +kernel, rfl⟩
theorem dX0_begin_15 : DD cX0_begin 15 (.aload_n 2) 1 16 := ⟨by decide +kernel, rfl⟩
theorem dX0_begin_16 : DD cX0_begin 16 (.getfield 46) 3 19 := ⟨by decide +kernel, rfl⟩
theorem dX0_begin_19 : DD cX0_begin 19 (.invokevirtual 51) 3 22 := ⟨by decide +kernel, rfl⟩
theorem dX0_begin_22 : DD cX0_begin 22 (.aload_n 0) 1 23 := ⟨by decide +kernel, rfl⟩
theorem dX0_begin_23 : DD cX0_begin 23 (.iconst 0) 1 24 := ⟨by decide +kernel, rfl⟩
theorem dX0_begin_24 : DD cX0_begin 24 (.putfield 25) 3 27 := ⟨by decide +kernel, rfl⟩
theorem dX0_begin_27 : DD cX0_begin 27 (.aload_n 0) 1 28 := ⟨by decide +kernel, rfl⟩
theorem dX0_begin_28 : DD cX0_begin 28 (.iconst 0) 1 29 := ⟨by decide +kernel, rfl⟩
theorem dX0_begin_29 : DD cX0_begin 29 (.putfield 29) 3 32 := ⟨by decide +kernel, rfl⟩
theorem dX0_begin_32 : DD cX0_begin 32 (.aload_n 0) 1 33 := ⟨by decide +kernel, rfl⟩
theorem dX0_begin_33 : DD cX0_begin 33 (.getfield 11) 3 36 := ⟨by decide +kernel, rfl⟩
theorem dX0_begin_36 : DD cX0_begin 36 (.iconst 0) 1 37 := ⟨by decide +kernel, rfl⟩
theorem dX0_begin_37 : DD cX0_begin 37 (.iconst 0) 1 38 := ⟨by decide +kernel, rfl⟩
theorem dX0_begin_38 : DD cX0_begin 38 (.iastore) 1 39 := ⟨by decide +kernel, rfl⟩
theorem dX0_begin_39 : DD cX0_begin 39 (.return_) 1 40 := ⟨by decide +kernel, rfl⟩
theorem dX0_go_0 : DD cX0_go 0 (.iconst 0) 1 1 := ⟨by decide +kernel, rfl⟩
theorem dX0_go_1 : DD cX0_go 1 (.istore 4) 2 3 := ⟨by decide +kernel, rfl⟩
theorem dX0_go_3 : DD cX0_go 3 (.iconst 0) 1 4 := ⟨by decide +kernel, rfl⟩
theorem dX0_go_4 : DD cX0_go 4 (.istore 5) 2 6 := ⟨by decide +kernel, rfl⟩
theorem dX0_go_6 : DD cX0_go 6 (.iload 5) 2 8 := ⟨by decide +kernel, rfl⟩
theorem dX0_go_8 : DD cX0_go 8 (.iload_n 3) 1 9 := ⟨by decide +kernel, rfl⟩
theorem dX0_go_9 : DD cX0_go 9 (.if_icmp .ge 22) 3 12 := ⟨by decide +kernel, rfl⟩
theorem dX0_go_12 : DD cX0_go 12 (.iload 4) 2 14 := ⟨by decide +kernel, rfl⟩
theorem dX0_go_14 : DD cX0_go 14 (.ifCond .ne 17) 3 17 := ⟨by decide +kernel, rfl⟩
theorem dX0_go_17 : DD cX0_go 17 (.aload_n 0) 1 18 := ⟨by decide +kernel, rfl⟩
theorem dX0_go_18 : DD cX0_go 18 (.aload_n 1) 1 19 := ⟨by decide +kernel, rfl⟩
theorem dX0_go_19 : DD cX0_go 19 (.aload_n 2) 1 20 := ⟨by decide +kernel, rfl⟩
theorem dX0_go_20 : DD cX0_go 20 (.invokevirtual 55) 3 23 := ⟨by decide +kernel, rfl⟩
theorem dX0_go_23 : DD cX0_go 23 (.istore 4) 2 25 := ⟨by decide +kernel, rfl⟩
theorem dX0_go_25 : DD cX0_go 25 (.iinc 5 1) 3 28 := ⟨by decide +kernel, rfl⟩
theorem dX0_go_28 : DD cX0_go 28 (.goto (-22)) 3 31 := ⟨by decide +kernel, rfl⟩
theorem dX0_go_31 : DD cX0_go 31 (.iload 4) 2 33 := ⟨by decide +kernel, rfl⟩
theorem dX0_go_33 : DD cX0_go 33 (.ireturn) 1 34 := ⟨by decide +kernel, rfl⟩
theorem dX0_tick_0 : DD cX0_tick 0 (.aload_n 0) 1 1 := ⟨by decide +kernel, rfl⟩
theorem dX0_tick_1 : DD cX0_tick 1 (.getfield 18) 3 4 := ⟨by decide +kernel, rfl⟩
theorem dX0_tick_4 : DD cX0_tick 4 (.aload_n 0) 1 5 := ⟨by decide +kernel, rfl⟩
theorem dX0_tick_5 : DD cX0_tick 5 (.aload_n 1) 1 6 := ⟨by decide +kernel, rfl⟩
theorem dX0_tick_6 : DD cX0_tick 6 (.invokevirtual 59) 3 9 := ⟨by decide +kernel, rfl⟩
theorem dX0_tick_9 : DD cX0_tick 9 (.aload_n 0) 1 10 := ⟨by decide +kernel, rfl⟩
theorem dX0_tick_10 : DD cX0_tick 10 (.aload_n 1) 1 11 := ⟨by decide +kernel, rfl⟩
theorem dX0_tick_11 : DD cX0_tick 11 (.aload_n 0) 1 12 := ⟨by decide +kernel, rfl⟩
theorem dX0_tick_12 : DD cX0_tick 12 (.getfield 18) 3 15 := ⟨by decide +kernel, rfl⟩
theorem dX0_tick_15 : DD cX0_tick 15 (.invokevirtual 63) 3 18 := ⟨by decide +kernel, rfl⟩
theorem dX0_tick_18 : DD cX0_tick 18 (.invokevirtual 67) 3 21 := ⟨by decide +kernel, rfl⟩
theorem dX0_tick_21 : DD cX0_tick 21 (.aload_n 0) 1 22 := ⟨by decide +kernel, rfl⟩
theorem dX0_tick_22 : DD cX0_tick 22 (.getfield 22) 3 25 := ⟨by decide +kernel, rfl⟩
theorem dX0_tick_25 : DD cX0_tick 25 (.aload_n 0) 1 26 := ⟨by decide +kernel, rfl⟩
theorem dX0_tick_26 : DD cX0_tick 26 (.aload_n 2) 1 27 := ⟨by decide +kernel, rfl⟩
theorem dX0_tick_27 : DD cX0_tick 27 (.invokevirtual 59) 3 30 := ⟨by decide +kernel, rfl⟩
theorem dX0_tick_30 : DD cX0_tick 30 (.aload_n 0) 1 31 := ⟨by decide +kernel, rfl⟩
theorem dX0_tick_31 : DD cX0_tick 31 (.aload_n 2) 1 32 := ⟨by decide +kernel, rfl⟩
theorem dX0_tick_32 : DD cX0_tick 32 (.aload_n 0) 1 33 := ⟨by decide +kernel, rfl⟩
theorem dX0_tick_33 : DD cX0_tick 33 (.getfield 22) 3 36 := ⟨by decide +kernel, rfl⟩
theorem dX0_tick_36 : DD cX0_tick 36 (.invokevirtual 63) 3 39 := ⟨by decide +kernel, rfl⟩
theorem dX0_tick_39 : DD cX0_tick 39 (.invokevirtual 67) 3 42 := ⟨by decide +kernel, rfl⟩
theorem dX0_tick_42 : DD cX0_tick 42 (.aload_n 0) 1 43 := ⟨by decide +kernel, rfl⟩
theorem dX0_tick_43 : DD cX0_tick 43 (.aload_n 1) 1 44 := ⟨by decide +kernel, rfl⟩
theorem dX0_tick_44 : DD cX0_tick 44 (.aload_n 2) 1 45 := ⟨by decide +kernel, rfl⟩
theorem dX0_tick_45 : DD cX0_tick 45 (.invokevirtual 71) 3 48 := ⟨by decide +kernel, rfl⟩
theorem dX0_tick_48 : DD cX0_tick 48 (.aload_n 0) 1 49 := ⟨by decide +kernel, rfl⟩
theorem dX0_tick_49 : DD cX0_tick 49 (.aload_n 1) 1 50 := ⟨by decide +kernel, rfl⟩
theorem dX0_tick_50 : DD cX0_tick 50 (.aload_n 0) 1 51 := ⟨by decide +kernel, rfl⟩
theorem dX0_tick_51 : DD cX0_tick 51 (.getfield 18) 3 54 := ⟨by decide +kernel, rfl⟩
theorem dX0_tick_54 : DD cX0_tick 54 (.invokevirtual 75) 3 57 := ⟨by decide +kernel, rfl⟩
theorem dX0_tick_57 : DD cX0_tick 57 (.aload_n 0) 1 58 := ⟨by decide +kernel, rfl⟩
theorem dX0_tick_58 : DD cX0_tick 58 (.aload_n 2) 1 59 := ⟨by decide +kernel, rfl⟩
theorem dX0_tick_59 : DD cX0_tick 59 (.aload_n 0) 1 60 := ⟨by decide +kernel, rfl⟩
theorem dX0_tick_60 : DD cX0_tick 60 (.getfield 22) 3 63 := ⟨by decide +kernel, rfl⟩
theorem dX0_tick_63 : DD cX0_tick 63 (.invokevirtual 75) 3 66 := ⟨by decide +kernel, rfl⟩
theorem dX0_tick_66 : DD cX0_tick 66 (.aload_n 0) 1 67 := ⟨by decide +kernel, rfl⟩
theorem dX0_tick_67 : DD cX0_tick 67 (.getfield 18) 3 70 := ⟨by decide +kernel, rfl⟩
theorem dX0_tick_70 : DD cX0_tick 70 (.aload_n 0) 1 71 := ⟨by decide +kernel, rfl⟩
theorem dX0_tick_71 : DD cX0_tick 71 (.getfield 25) 3 74 := ⟨by decide +kernel, rfl⟩
theorem dX0_tick_74 : DD cX0_tick 74 (.invokevirtual 79) 3 77 := ⟨by decide +kernel, rfl⟩
theorem dX0_tick_77 : DD cX0_tick 77 (.aload_n 0) 1 78 := ⟨by decide +kernel, rfl⟩
theorem dX0_tick_78 : DD cX0_tick 78 (.getfield 22) 3 81 := ⟨by decide +kernel, rfl⟩
theorem dX0_tick_81 : DD cX0_tick 81 (.aload_n 0) 1 82 := ⟨by decide +kernel, rfl⟩
theorem dX0_tick_82 : DD cX0_tick 82 (.getfield 25) 3 85 := ⟨by decide +kernel, rfl⟩
theorem dX0_tick_85 : DD cX0_tick 85 (.invokevirtual 79) 3 88 := ⟨by decide +kernel, rfl⟩
theorem dX0_tick_88 : DD cX0_tick 88 (.aload_n 0) 1 89 := ⟨by decide +kernel, rfl⟩
theorem dX0_tick_89 : DD cX0_tick 89 (.dup) 1 90 := ⟨by decide +kernel, rfl⟩
theorem dX0_tick_90 : DD cX0_tick 90 (.getfield 29) 3 93 := ⟨by decide +kernel, rfl⟩
theorem dX0_tick_93 : DD cX0_tick 93 (.iconst 1) 1 94 := ⟨by decide +kernel, rfl⟩
theorem dX0_tick_94 : DD cX0_tick 94 (.iadd) 1 95 := ⟨by decide +kernel, rfl⟩
theorem dX0_tick_95 : DD cX0_tick 95 (.putfield 29) 3 98 := ⟨by decide +kernel, rfl⟩
theorem dX0_tick_98 : DD cX0_tick 98 (.aload_n 0) 1 99 := ⟨by decide +kernel, rfl⟩
theorem dX0_tick_99 : DD cX0_tick 99 (.getfield 11) 3 102 := ⟨by decide +kernel, rfl⟩
theorem dX0_tick_102 : DD cX0_tick 102 (.aload_n 0) 1 103 := ⟨by decide +kernel, rfl⟩
theorem dX0_tick_103 : DD cX0_tick 103 (.getfield 29) 3 106 := ⟨by decide +kernel, rfl⟩
theorem dX0_tick_106 : DD cX0_tick 106 (.bipush 10) 2 108 := ⟨by decide +kernel, rfl⟩
theorem dX0_tick_108 : DD cX0_tick 108 (.irem) 1 109 := ⟨by decide +kernel, rfl⟩
theorem dX0_tick_109 : DD cX0_tick 109 (.aload_n 0) 1 110 := ⟨by decide +kernel, rfl⟩
theorem dX0_tick_110 : DD cX0_tick 110 (.getfield 25) 3 113 := ⟨by decide +kernel, rfl⟩
theorem dX0_tick_113 : DD cX0_tick 113 (.iastore) 1 114 := ⟨by decide +kernel, rfl⟩
theorem dX0_tick_114 : DD cX0_tick 114 (.aload_n 0) 1 115 := ⟨by decide +kernel, rfl⟩
theorem dX0_tick_115 : DD cX0_tick 115 (.getfield 18) 3 118 := ⟨by decide +kernel, rfl⟩
theorem dX0_tick_118 : DD cX0_tick 118 (.getfield 82) 3 121 := ⟨by decide +kernel, rfl⟩
theorem dX0_tick_121 : DD cX0_tick 121 (.invokestatic 85) 3 124 := ⟨by decide +kernel, rfl⟩
theorem dX0_tick_124 : DD cX0_tick 124 (.aload_n 0) 1 125 := ⟨by decide +kernel, rfl⟩
theorem dX0_tick_125 : DD cX0_tick 125 (.getfield 35) 3 128 := ⟨by decide +kernel, rfl⟩
theorem dX0_tick_128 : DD cX0_tick 128 (.iconst 3) 1 129 := ⟨by decide +kernel, rfl⟩
theorem dX0_tick_129 : DD cX0_tick 129 (.iaload) 1 130 := ⟨by decide +kernel, rfl⟩
theorem dX0_tick_130 : DD cX0_tick 130 (.if_icmp .le 7) 3 133 := ⟨by decide +kernel, rfl⟩
theorem dX0_tick_133 : DD cX0_tick 133 (.iconst 1) 1 134 := ⟨by decide +kernel, rfl⟩
theorem dX0_tick_134 : DD cX0_tick 134 (.goto 4) 3 137 := ⟨by decide +kernel, rfl⟩
theorem dX0_tick_137 : DD cX0_tick 137 (.iconst 0) 1 138 := ⟨by decide +kernel, rfl⟩
theorem dX0_tick_138 : DD cX0_tick 138 (.istore_n 3) 1 139 := ⟨by decide +kernel, rfl⟩
theorem dX0_tick_139 : DD cX0_tick 139 (.aload_n 0) 1 140 := ⟨by decide +kernel, rfl⟩
theorem dX0_tick_140 : DD cX0_tick 140 (.getfield 22) 3 143 := ⟨by decide +kernel, rfl⟩
theorem dX0_tick_143 : DD cX0_tick 143 (.getfield 82) 3 146 := ⟨by decide +kernel, rfl⟩
theorem dX0_tick_146 : DD cX0_tick 146 (.invokestatic 85) 3 149 := ⟨by decide +kernel, rfl⟩
theorem dX0_tick_149 : DD cX0_tick 149 (.aload_n 0) 1 150 := ⟨by decide +kernel, rfl⟩
theorem dX0_tick_150 : DD cX0_tick 150 (.getfield 35) 3 153 := ⟨by decide +kernel, rfl⟩
theorem dX0_tick_153 : DD cX0_tick 153 (.iconst 3) 1 154 := ⟨by decide +kernel, rfl⟩
theorem dX0_tick_154 : DD cX0_tick 154 (.iaload) 1 155 := ⟨by decide +kernel, rfl⟩
theorem dX0_tick_155 : DD cX0_tick 155 (.if_icmp .le 7) 3 158 := ⟨by decide +kernel, rfl⟩
theorem dX0_tick_158 : DD cX0_tick 158 (.iconst 2) 1 159 := ⟨by decide +kernel, rfl⟩
theorem dX0_tick_159 : DD cX0_tick 159 (.goto 4) 3 162 := ⟨by decide +kernel, rfl⟩
theorem dX0_tick_162 : DD cX0_tick 162 (.iconst 0) 1 163 := ⟨by decide +kernel, rfl⟩
theorem dX0_tick_163 : DD cX0_tick 163 (.istore 4) 2 165 := ⟨by decide +kernel, rfl⟩
theorem dX0_tick_165 : DD cX0_tick 165 (.iload_n 3) 1 166 := ⟨by decide +kernel, rfl⟩
theorem dX0_tick_166 : DD cX0_tick 166 (.iload 4) 2 168 := ⟨by decide +kernel, rfl⟩
theorem dX0_tick_168 : DD cX0_tick 168 (.iadd) 1 169 := ⟨by decide +kernel, rfl⟩
theorem dX0_tick_169 : DD cX0_tick 169 (.ireturn) 1 170 := ⟨by decide +kernel, rfl⟩
theorem dX0_roll_0 : DD cX0_roll 0 (.aload_n 0) 1 1 := ⟨by decide +kernel, rfl⟩
theorem dX0_roll_1 : DD cX0_roll 1 (.getfield 35) 3 4 := ⟨by decide +kernel, rfl⟩
theorem dX0_roll_4 : DD cX0_roll 4 (.iconst 0) 1 5 := ⟨by decide +kernel, rfl⟩
theorem dX0_roll_5 : DD cX0_roll 5 (.iaload) 1 6 := ⟨by decide +kernel, rfl⟩
theorem dX0_roll_6 : DD cX0_roll 6 (.aload_n 0) 1 7 := ⟨by decide +kernel, rfl⟩
theorem dX0_roll_7 : DD cX0_roll 7 (.getfield 35) 3 10 := ⟨by decide +kernel, rfl⟩
theorem dX0_roll_10 : DD cX0_roll 10 (.iconst 0) 1 11 := ⟨by decide +kernel, rfl⟩
theorem dX0_roll_11 : DD cX0_roll 11 (.iaload) 1 12 := ⟨by decide +kernel, rfl⟩
theorem dX0_roll_12 : DD cX0_roll 12 (.imul) 1 13 := ⟨by decide +kernel, rfl⟩
theorem dX0_roll_13 : DD cX0_roll 13 (.aload_n 1) 1 14 := ⟨by decide +kernel, rfl⟩
theorem dX0_roll_14 : DD cX0_roll 14 (.getfield 91) 3 17 := ⟨by decide +kernel, rfl⟩
theorem dX0_roll_17 : DD cX0_roll 17 (.iadd) 1 18 := ⟨by decide +kernel, rfl⟩
theorem dX0_roll_18 : DD cX0_roll 18 (.aload_n 2) 1 19 := ⟨by decide +kernel, rfl⟩
theorem dX0_roll_19 : DD cX0_roll 19 (.getfield 91) 3 22 := ⟨by decide +kernel, rfl⟩
theorem dX0_roll_22 : DD cX0_roll 22 (.iadd) 1 23 := ⟨by decide +kernel, rfl⟩
theorem dX0_roll_23 : DD cX0_roll 23 (.istore_n 3) 1 24 := ⟨by decide +kernel, rfl⟩
theorem dX0_roll_24 : DD cX0_roll 24 (.iload_n 3) 1 25 := ⟨by decide +kernel, rfl⟩
theorem dX0_roll_25 : DD cX0_roll 25 (.ifCond .le 39) 3 28 := ⟨by decide +kernel, rfl⟩
theorem dX0_roll_28 : DD cX0_roll 28 (.aload_n 0) 1 29 := ⟨by decide +kernel, rfl⟩
theorem dX0_roll_29 : DD cX0_roll 29 (.dup) 1 30 := ⟨by decide +kernel, rfl⟩
theorem dX0_roll_30 : DD cX0_roll 30 (.getfield 25) 3 33 := ⟨by decide +kernel, rfl⟩
theorem dX0_roll_33 : DD cX0_roll 33 (.aload_n 0) 1 34 := ⟨by decide +kernel, rfl⟩
theorem dX0_roll_34 : DD cX0_roll 34 (.getfield 18) 3 37 := ⟨by decide +kernel, rfl⟩
theorem dX0_roll_37 : DD cX0_roll 37 (.getfield 94) 3 40 := ⟨by decide +kernel, rfl⟩
theorem dX0_roll_40 : DD cX0_roll 40 (.aload_n 1) 1 41 := ⟨by decide +kernel, rfl⟩
theorem dX0_roll_41 : DD cX0_roll 41 (.getfield 91) 3 44 := ⟨by decide +kernel, rfl⟩
theorem dX0_roll_44 : DD cX0_roll 44 (.imul) 1 45 := ⟨by decide +kernel, rfl⟩
theorem dX0_roll_45 : DD cX0_roll 45 (.aload_n 0) 1 46 := ⟨by decide +kernel, rfl⟩
theorem dX0_roll_46 : DD cX0_roll 46 (.getfield 22) 3 49 := ⟨by decide +kernel, rfl⟩
theorem dX0_roll_49 : DD cX0_roll 49 (.getfield 94) 3 52 := ⟨by decide +kernel, rfl⟩
theorem dX0_roll_52 : DD cX0_roll 52 (.aload_n 2) 1 53 := ⟨by decide +kernel, rfl⟩
theorem dX0_roll_53 : DD cX0_roll 53 (.getfield 91) 3 56 := ⟨by decide +kernel, rfl⟩
theorem dX0_roll_56 : DD cX0_roll 56 (.imul) 1 57 := ⟨by decide +kernel, rfl⟩
theorem dX0_roll_57 : DD cX0_roll 57 (.iadd) 1 58 := ⟨by decide +kernel, rfl⟩
theorem dX0_roll_58 : DD cX0_roll 58 (.iload_n 3) 1 59 := ⟨by decide +kernel, rfl⟩
theorem dX0_roll_59 : DD cX0_roll 59 (.idiv) 1 60 := ⟨by decide +kernel, rfl⟩
theorem dX0_roll_60 : DD cX0_roll 60 (.iadd) 1 61 := ⟨by decide +kernel, rfl⟩
theorem dX0_roll_61 : DD cX0_roll 61 (.putfield 25) 3 64 := ⟨by decide +kernel, rfl⟩
theorem dX0_roll_64 : DD cX0_roll 64 (.aload_n 0) 1 65 := ⟨by decide +kernel, rfl⟩
theorem dX0_roll_65 : DD cX0_roll 65 (.dup) 1 66 := ⟨by decide +kernel, rfl⟩
theorem dX0_roll_66 : DD cX0_roll 66 (.getfield 25) 3 69 := ⟨by decide +kernel, rfl⟩
theorem dX0_roll_69 : DD cX0_roll 69 (.aload_n 0) 1 70 := ⟨by decide +kernel, rfl⟩
theorem dX0_roll_70 : DD cX0_roll 70 (.getfield 25) 3 73 := ⟨by decide +kernel, rfl⟩
theorem dX0_roll_73 : DD cX0_roll 73 (.aload_n 0) 1 74 := ⟨by decide +kernel, rfl⟩
theorem dX0_roll_74 : DD cX0_roll 74 (.getfield 35) 3 77 := ⟨by decide +kernel, rfl⟩
theorem dX0_roll_77 : DD cX0_roll 77 (.iconst 1) 1 78 := ⟨by decide +kernel, rfl⟩
theorem dX0_roll_78 : DD cX0_roll 78 (.iaload) 1 79 := ⟨by decide +kernel, rfl⟩
theorem dX0_roll_79 : DD cX0_roll 79 (.aload_n 0) 1 80 := ⟨by decide +kernel, rfl⟩
theorem dX0_roll_80 : DD cX0_roll 80 (.getfield 35) 3 83 := ⟨by decide +kernel, rfl⟩
theorem dX0_roll_83 : DD cX0_roll 83 (.iconst 2) 1 84 := ⟨by decide +kernel, rfl⟩
theorem dX0_roll_84 : DD cX0_roll 84 (.iaload) 1 85 := ⟨by decide +kernel, rfl⟩
theorem dX0_roll_85 : DD cX0_roll 85 (.iadd) 1 86 := ⟨by decide +kernel, rfl⟩
theorem dX0_roll_86 : DD cX0_roll 86 (.imul) 1 87 := ⟨by decide +kernel, rfl⟩
theorem dX0_roll_87 : DD cX0_roll 87 (.bipush 100) 2 89 := ⟨by decide +kernel, rfl⟩
theorem dX0_roll_89 : DD cX0_roll 89 (.idiv) 1 90 := ⟨by decide +kernel, rfl⟩
theorem dX0_roll_90 : DD cX0_roll 90 (.isub) 1 91 := ⟨by decide +kernel, rfl⟩
theorem dX0_roll_91 : DD cX0_roll 91 (.putfield 25) 3 94 := ⟨by decide +kernel, rfl⟩
theorem dX0_roll_94 : DD cX0_roll 94 (.return_) 1 95 := ⟨by decide +kernel, rfl⟩
theorem dX0_stepUnlessSlipping_0 : DD cX0_stepUnlessSlipping 0 (.aload_n 0) 1 1 := ⟨by decide +kernel, rfl⟩
theorem dX0_stepUnlessSlipping_1 : DD cX0_stepUnlessSlipping 1 (.aload_n 0) 1 2 := ⟨by decide +kernel, rfl⟩
theorem dX0_stepUnlessSlipping_2 : DD cX0_stepUnlessSlipping 2 (.getfield 32) 3 5 := ⟨by decide +kernel, rfl⟩
theorem dX0_stepUnlessSlipping_5 : DD cX0_stepUnlessSlipping 5 (.ldc 97) 2 7 := ⟨by decide +kernel, rfl⟩
theorem dX0_stepUnlessSlipping_7 : DD cX0_stepUnlessSlipping 7 (.imul) 1 8 := ⟨by decide +kernel, rfl⟩
theorem dX0_stepUnlessSlipping_8 : DD cX0_stepUnlessSlipping 8 (.sipush 12345) 3 11 := ⟨by decide +kernel, rfl⟩
theorem dX0_stepUnlessSlipping_11 : DD cX0_stepUnlessSlipping 11 (.iadd) 1 12 := ⟨by decide +kernel, rfl⟩
theorem dX0_stepUnlessSlipping_12 : DD cX0_stepUnlessSlipping 12 (.putfield 32) 3 15 := ⟨by decide +kernel, rfl⟩
theorem dX0_stepUnlessSlipping_15 : DD cX0_stepUnlessSlipping 15 (.aload_n 0) 1 16 := ⟨by decide +kernel, rfl⟩
theorem dX0_stepUnlessSlipping_16 : DD cX0_stepUnlessSlipping 16 (.getfield 32) 3 19 := ⟨by decide +kernel, rfl⟩
theorem dX0_stepUnlessSlipping_19 : DD cX0_stepUnlessSlipping 19 (.bipush 8) 2 21 := ⟨by decide +kernel, rfl⟩
theorem dX0_stepUnlessSlipping_21 : DD cX0_stepUnlessSlipping 21 (.iushr) 1 22 := ⟨by decide +kernel, rfl⟩
theorem dX0_stepUnlessSlipping_22 : DD cX0_stepUnlessSlipping 22 (.bipush 100) 2 24 := ⟨by decide +kernel, rfl⟩
theorem dX0_stepUnlessSlipping_24 : DD cX0_stepUnlessSlipping 24 (.irem) 1 25 := ⟨by decide +kernel, rfl⟩
theorem dX0_stepUnlessSlipping_25 : DD cX0_stepUnlessSlipping 25 (.aload_n 0) 1 26 := ⟨by decide +kernel, rfl⟩
theorem dX0_stepUnlessSlipping_26 : DD cX0_stepUnlessSlipping 26 (.getfield 35) 3 29 := ⟨by decide +kernel, rfl⟩
theorem dX0_stepUnlessSlipping_29 : DD cX0_stepUnlessSlipping 29 (.iconst 4) 1 30 := ⟨by decide +kernel, rfl⟩
theorem dX0_stepUnlessSlipping_30 : DD cX0_stepUnlessSlipping 30 (.iaload) 1 31 := ⟨by decide +kernel, rfl⟩
theorem dX0_stepUnlessSlipping_31 : DD cX0_stepUnlessSlipping 31 (.if_icmp .lt 11) 3 34 := ⟨by decide +kernel, rfl⟩
theorem dX0_stepUnlessSlipping_34 : DD cX0_stepUnlessSlipping 34 (.aload_n 2) 1 35 := ⟨by decide +kernel, rfl⟩
theorem dX0_stepUnlessSlipping_35 : DD cX0_stepUnlessSlipping 35 (.aload_n 1) 1 36 := ⟨by decide +kernel, rfl⟩
theorem dX0_stepUnlessSlipping_36 : DD cX0_stepUnlessSlipping 36 (.getfield 98) 3 39 := ⟨by decide +kernel, rfl⟩
theorem dX0_stepUnlessSlipping_39 : DD cX0_stepUnlessSlipping 39 (.invokevirtual 101) 3 42 := ⟨by decide +kernel, rfl⟩
theorem dX0_stepUnlessSlipping_42 : DD cX0_stepUnlessSlipping 42 (.return_) 1 43 := ⟨by decide +kernel, rfl⟩
theorem dX0_seenBy_0 : DD cX0_seenBy 0 (.aload_n 0) 1 1 := ⟨by decide +kernel, rfl⟩
theorem dX0_seenBy_1 : DD cX0_seenBy 1 (.getfield 29) 3 4 := ⟨by decide +kernel, rfl⟩
theorem dX0_seenBy_4 : DD cX0_seenBy 4 (.aload_n 1) 1 5 := ⟨by decide +kernel, rfl⟩
theorem dX0_seenBy_5 : DD cX0_seenBy 5 (.getfield 104) 3 8 := ⟨by decide +kernel, rfl⟩
theorem dX0_seenBy_8 : DD cX0_seenBy 8 (.isub) 1 9 := ⟨by decide +kernel, rfl⟩
theorem dX0_seenBy_9 : DD cX0_seenBy 9 (.istore_n 2) 1 10 := ⟨by decide +kernel, rfl⟩
theorem dX0_seenBy_10 : DD cX0_seenBy 10 (.iload_n 2) 1 11 := ⟨by decide +kernel, rfl⟩
theorem dX0_seenBy_11 : DD cX0_seenBy 11 (.ifCond .ge 7) 3 14 := ⟨by decide +kernel, rfl⟩
theorem dX0_seenBy_14 : DD cX0_seenBy 14 (.iconst 0) 1 15 := ⟨by decide +kernel, rfl⟩
theorem dX0_seenBy_15 : DD cX0_seenBy 15 (.goto 12) 3 18 := ⟨by decide +kernel, rfl⟩
theorem dX0_seenBy_18 : DD cX0_seenBy 18 (.aload_n 0) 1 19 := ⟨by decide +kernel, rfl⟩
theorem dX0_seenBy_19 : DD cX0_seenBy 19 (.getfield 11) 3 22 := ⟨by decide +kernel, rfl⟩
theorem dX0_seenBy_22 : DD cX0_seenBy 22 (.iload_n 2) 1 23 := ⟨by decide +kernel, rfl⟩
theorem dX0_seenBy_23 : DD cX0_seenBy 23 (.bipush 10) 2 25 := ⟨by decide +kernel, rfl⟩
theorem dX0_seenBy_25 : DD cX0_seenBy 25 (.irem) 1 26 := ⟨by decide +kernel, rfl⟩
theorem dX0_seenBy_26 : DD cX0_seenBy 26 (.iaload) 1 27 := ⟨by decide +kernel, rfl⟩
theorem dX0_seenBy_27 : DD cX0_seenBy 27 (.ireturn) 1 28 := ⟨by decide +kernel, rfl⟩
theorem dX0_nextShove_0 : DD cX0_nextShove 0 (.aload_n 1) 1 1 := ⟨by decide +kernel, rfl⟩
theorem dX0_nextShove_1 : DD cX0_nextShove 1 (.getfield 107) 3 4 := ⟨by decide +kernel, rfl⟩
theorem dX0_nextShove_4 : DD cX0_nextShove 4 (.iconst 0) 1 5 := ⟨by decide +kernel, rfl⟩
theorem dX0_nextShove_5 : DD cX0_nextShove 5 (.iconst 5) 1 6 := ⟨by decide +kernel, rfl⟩
theorem dX0_nextShove_6 : DD cX0_nextShove 6 (.invokestatic 110) 3 9 := ⟨by decide +kernel, rfl⟩
theorem dX0_nextShove_9 : DD cX0_nextShove 9 (.ifCond .eq 15) 3 12 := ⟨by decide +kernel, rfl⟩
theorem dX0_nextShove_12 : DD cX0_nextShove 12 (.aload_n 0) 1 13 := ⟨by decide +kernel, rfl⟩
theorem dX0_nextShove_13 : DD cX0_nextShove 13 (.getfield 38) 3 16 := ⟨by decide +kernel, rfl⟩
theorem dX0_nextShove_16 : DD cX0_nextShove 16 (.aload_n 1) 1 17 := ⟨by decide +kernel, rfl⟩
theorem dX0_nextShove_17 : DD cX0_nextShove 17 (.getfield 107) 3 20 := ⟨by decide +kernel, rfl⟩
theorem dX0_nextShove_20 : DD cX0_nextShove 20 (.aaload) 1 21 := ⟨by decide +kernel, rfl⟩
theorem dX0_nextShove_21 : DD cX0_nextShove 21 (.goto 4) 3 24 := ⟨by decide +kernel, rfl⟩
theorem dX0_nextShove_24 : DD cX0_nextShove 24 (.aconst_null) 1 25 := ⟨by decide +kernel, rfl⟩
theorem dX0_nextShove_25 : DD cX0_nextShove 25 (.astore_n 3) 1 26 := ⟨by decide +kernel, rfl⟩
theorem dX0_nextShove_26 : DD cX0_nextShove 26 (.aload_n 1) 1 27 := ⟨by decide +kernel, rfl⟩
theorem dX0_nextShove_27 : DD cX0_nextShove 27 (.aload_n 3) 1 28 := ⟨by decide +kernel, rfl⟩
theorem dX0_nextShove_28 : DD cX0_nextShove 28 (.aload_n 0) 1 29 := ⟨by decide +kernel, rfl⟩
theorem dX0_nextShove_29 : DD cX0_nextShove 29 (.aload_n 1) 1 30 := ⟨by decide +kernel, rfl⟩
theorem dX0_nextShove_30 : DD cX0_nextShove 30 (.invokevirtual 59) 3 33 := ⟨by decide +kernel, rfl⟩
theorem dX0_nextShove_33 : DD cX0_nextShove 33 (.aload_n 2) 1 34 := ⟨by decide +kernel, rfl⟩
theorem dX0_nextShove_34 : DD cX0_nextShove 34 (.getfield 82) 3 37 := ⟨by decide +kernel, rfl⟩
theorem dX0_nextShove_37 : DD cX0_nextShove 37 (.aload_n 2) 1 38 := ⟨by decide +kernel, rfl⟩
theorem dX0_nextShove_38 : DD cX0_nextShove 38 (.getfield 114) 3 41 := ⟨by decide +kernel, rfl⟩
theorem dX0_nextShove_41 : DD cX0_nextShove 41 (.aload_n 0) 1 42 := ⟨by decide +kernel, rfl⟩
theorem dX0_nextShove_42 : DD cX0_nextShove 42 (.getfield 29) 3 45 := ⟨by decide +kernel, rfl⟩
theorem dX0_nextShove_45 : DD cX0_nextShove 45 (.invokevirtual 117) 3 48 := ⟨by decide +kernel, rfl⟩
theorem dX0_nextShove_48 : DD cX0_nextShove 48 (.istore 4) 2 50 := ⟨by decide +kernel, rfl⟩
theorem dX0_nextShove_50 : DD cX0_nextShove 50 (.aload_n 2) 1 51 := ⟨by decide +kernel, rfl⟩
theorem dX0_nextShove_51 : DD cX0_nextShove 51 (.getfield 114) 3 54 := ⟨by decide +kernel, rfl⟩
theorem dX0_nextShove_54 : DD cX0_nextShove 54 (.iload 4) 2 56 := ⟨by decide +kernel, rfl⟩
theorem dX0_nextShove_56 : DD cX0_nextShove 56 (.invokestatic 120) 3 59 := ⟨by decide +kernel, rfl⟩
theorem dX0_nextShove_59 : DD cX0_nextShove 59 (.if_icmp .ge 7) 3 62 := ⟨by decide +kernel, rfl⟩
theorem dX0_nextShove_62 : DD cX0_nextShove 62 (.iconst 0) 1 63 := ⟨by decide +kernel, rfl⟩
theorem dX0_nextShove_63 : DD cX0_nextShove 63 (.goto 5) 3 66 := ⟨by decide +kernel, rfl⟩
theorem dX0_nextShove_66 : DD cX0_nextShove 66 (.iload 4) 2 68 := ⟨by decide +kernel, rfl⟩
theorem dX0_nextShove_68 : DD cX0_nextShove 68 (.ireturn) 1 69 := ⟨by decide +kernel, rfl⟩
theorem dX1_init_0 : DD cX1_init 0 (.aload_n 0) 1 1 := ⟨by decide +kernel, rfl⟩
theorem dX1_init_1 : DD cX1_init 1 (.invokespecial 3) 3 4 := ⟨by decide +kernel, rfl⟩
theorem dX1_init_4 : DD cX1_init 4 (.return_) 1 5 := ⟨by decide +kernel, rfl⟩
theorem dX1_begin_0 : DD cX1_begin 0 (.aload_n 0) 1 1 := ⟨by decide +kernel, rfl⟩
theorem dX1_begin_1 : DD cX1_begin 1 (.iload_n 1) 1 2 := ⟨by decide +kernel, rfl⟩
theorem dX1_begin_2 : DD cX1_begin 2 (.putfield 9) 3 5 := ⟨by decide +kernel, rfl⟩
theorem dX1_begin_5 : DD cX1_begin 5 (.aload_n 0) 1 6 := ⟨by decide +kernel, rfl⟩
theorem dX1_begin_6 : DD cX1_begin 6 (.iload_n 2) 1 7 := ⟨by decide +kernel, rfl⟩
theorem dX1_begin_7 : DD cX1_begin 7 (.putfield 15) 3 10 := ⟨by decide +kernel, rfl⟩
theorem dX1_begin_10 : DD cX1_begin 10 (.aload_n 0) 1 11 := ⟨by decide +kernel, rfl⟩
theorem dX1_begin_11 : DD cX1_begin 11 (.iconst 2) 1 12 := ⟨by decide +kernel, rfl⟩
theorem dX1_begin_12 : DD cX1_begin 12 (.putfield 18) 3 15 := ⟨by decide +kernel, rfl⟩
theorem dX1_begin_15 : DD cX1_begin 15 (.aload_n 0) 1 16 := ⟨by decide +kernel, rfl⟩
theorem dX1_begin_16 : DD cX1_begin 16 (.bipush 20) 2 18 := ⟨by decide +kernel, rfl⟩
theorem dX1_begin_18 : DD cX1_begin 18 (.putfield 21) 3 21 := ⟨by decide +kernel, rfl⟩
theorem dX1_begin_21 : DD cX1_begin 21 (.aload_n 0) 1 22 := ⟨by decide +kernel, rfl⟩
theorem dX1_begin_22 : DD cX1_begin 22 (.sipush 300) 3 25 := ⟨by decide +kernel, rfl⟩
theorem dX1_begin_25 : DD cX1_begin 25 (.putfield 24) 3 28 := ⟨by decide +kernel, rfl⟩
theorem dX1_begin_28 : DD cX1_begin 28 (.aload_n 0) 1 29 := ⟨by decide +kernel, rfl⟩
theorem dX1_begin_29 : DD cX1_begin 29 (.iconst 0) 1 30 := ⟨by decide +kernel, rfl⟩
theorem dX1_begin_30 : DD cX1_begin 30 (.putfield 27) 3 33 := ⟨by decide +kernel, rfl⟩
theorem dX1_begin_33 : DD cX1_begin 33 (.aload_n 0) 1 34 := ⟨by decide +kernel, rfl⟩
theorem dX1_begin_34 : DD cX1_begin 34 (.iconst (-1)) 1 35 := ⟨by decide +kernel, rfl⟩
theorem dX1_begin_35 : DD cX1_begin 35 (.putfield 30) 3 38 := ⟨by decide +kernel, rfl⟩
theorem dX1_begin_38 : DD cX1_begin 38 (.return_) 1 39 := ⟨by decide +kernel, rfl⟩
theorem dX1_takeFrom_0 : DD cX1_takeFrom 0 (.aload_n 0) 1 1 := ⟨by decide +kernel, rfl⟩
theorem dX1_takeFrom_1 : DD cX1_takeFrom 1 (.aload_n 1) 1 2 := ⟨by decide +kernel, rfl⟩
theorem dX1_takeFrom_2 : DD cX1_takeFrom 2 (.getfield 9) 3 5 := ⟨by decide +kernel, rfl⟩
theorem dX1_takeFrom_5 : DD cX1_takeFrom 5 (.putfield 9) 3 8 := ⟨by decide +kernel, rfl⟩
theorem dX1_takeFrom_8 : DD cX1_takeFrom 8 (.aload_n 0) 1 9 := ⟨by decide +kernel, rfl⟩
theorem dX1_takeFrom_9 : DD cX1_takeFrom 9 (.aload_n 1) 1 10 := ⟨by decide +kernel, rfl⟩
theorem dX1_takeFrom_10 : DD cX1_takeFrom 10 (.getfield 15) 3 13 := ⟨by decide +kernel, rfl⟩
theorem dX1_takeFrom_13 : DD cX1_takeFrom 13 (.putfield 15) 3 16 := ⟨by decide +kernel, rfl⟩
theorem dX1_takeFrom_16 : DD cX1_takeFrom 16 (.aload_n 0) 1 17 := ⟨by decide +kernel, rfl⟩
theorem dX1_takeFrom_17 : DD cX1_takeFrom 17 (.aload_n 1) 1 18 := ⟨by decide +kernel, rfl⟩
theorem dX1_takeFrom_18 : DD cX1_takeFrom 18 (.getfield 18) 3 21 := ⟨by decide +kernel, rfl⟩
theorem dX1_takeFrom_21 : DD cX1_takeFrom 21 (.putfield 18) 3 24 := ⟨by decide +kernel, rfl⟩
theorem dX1_takeFrom_24 : DD cX1_takeFrom 24 (.aload_n 0) 1 25 := ⟨by decide +kernel, rfl⟩
theorem dX1_takeFrom_25 : DD cX1_takeFrom 25 (.aload_n 1) 1 26 := ⟨by decide +kernel, rfl⟩
theorem dX1_takeFrom_26 : DD cX1_takeFrom 26 (.getfield 21) 3 29 := ⟨by decide +kernel, rfl⟩
theorem dX1_takeFrom_29 : DD cX1_takeFrom 29 (.putfield 21) 3 32 := ⟨by decide +kernel, rfl⟩
theorem dX1_takeFrom_32 : DD cX1_takeFrom 32 (.aload_n 0) 1 33 := ⟨by decide +kernel, rfl⟩
theorem dX1_takeFrom_33 : DD cX1_takeFrom 33 (.aload_n 1) 1 34 := ⟨by decide +kernel, rfl⟩
theorem dX1_takeFrom_34 : DD cX1_takeFrom 34 (.getfield 24) 3 37 := ⟨by decide +kernel, rfl⟩
theorem dX1_takeFrom_37 : DD cX1_takeFrom 37 (.putfield 24) 3 40 := ⟨by decide +kernel, rfl⟩
theorem dX1_takeFrom_40 : DD cX1_takeFrom 40 (.aload_n 0) 1 41 := ⟨by decide +kernel, rfl⟩
theorem dX1_takeFrom_41 : DD cX1_takeFrom 41 (.aload_n 1) 1 42 := ⟨by decide +kernel, rfl⟩
theorem dX1_takeFrom_42 : DD cX1_takeFrom 42 (.getfield 27) 3 45 := ⟨by decide +kernel, rfl⟩
theorem dX1_takeFrom_45 : DD cX1_takeFrom 45 (.putfield 27) 3 48 := ⟨by decide +kernel, rfl⟩
theorem dX1_takeFrom_48 : DD cX1_takeFrom 48 (.aload_n 0) 1 49 := ⟨by decide +kernel, rfl⟩
theorem dX1_takeFrom_49 : DD cX1_takeFrom 49 (.aload_n 1) 1 50 := ⟨by decide +kernel, rfl⟩
theorem dX1_takeFrom_50 : DD cX1_takeFrom 50 (.getfield 30) 3 53 := ⟨by decide +kernel, rfl⟩
theorem dX1_takeFrom_53 : DD cX1_takeFrom 53 (.putfield 30) 3 56 := ⟨by decide +kernel, rfl⟩
theorem dX1_takeFrom_56 : DD cX1_takeFrom 56 (.return_) 1 57 := ⟨by decide +kernel, rfl⟩
theorem dX1_trait_0 : DD cX1_trait 0 (.iload_n 1) 1 1 := ⟨by decide +kernel, rfl⟩
theorem dX1_trait_1 : DD cX1_trait 1 (.tableswitch 69 0 5 #[39, 44, 49, 54, 59, 64]) 39 40 := ⟨by decide +kernel, rfl⟩
theorem dX1_trait_40 : DD cX1_trait 40 (.aload_n 0) 1 41 := ⟨by decide +kernel, rfl⟩
theorem dX1_trait_41 : DD cX1_trait 41 (.getfield 9) 3 44 := ⟨by decide +kernel, rfl⟩
theorem dX1_trait_44 : DD cX1_trait 44 (.ireturn) 1 45 := ⟨by decide +kernel, rfl⟩
theorem dX1_trait_45 : DD cX1_trait 45 (.aload_n 0) 1 46 := ⟨by decide +kernel, rfl⟩
theorem dX1_trait_46 : DD cX1_trait 46 (.getfield 15) 3 49 := ⟨by decide +kernel, rfl⟩
theorem dX1_trait_49 : DD cX1_trait 49 (.ireturn) 1 50 := ⟨by decide +kernel, rfl⟩
theorem dX1_trait_50 : DD cX1_trait 50 (.aload_n 0) 1 51 := ⟨by decide +kernel, rfl⟩
theorem dX1_trait_51 : DD cX1_trait 51 (.getfield 18) 3 54 := ⟨by decide +kernel, rfl⟩
theorem dX1_trait_54 : DD cX1_trait 54 (.ireturn) 1 55 := ⟨by decide +kernel, rfl⟩
theorem dX1_trait_55 : DD cX1_trait 55 (.aload_n 0) 1 56 := ⟨by decide +kernel, rfl⟩
theorem dX1_trait_56 : DD cX1_trait 56 (.getfield 21) 3 59 := ⟨by decide +kernel, rfl⟩
theorem dX1_trait_59 : DD cX1_trait 59 (.ireturn) 1 60 := ⟨by decide +kernel, rfl⟩
theorem dX1_trait_60 : DD cX1_trait 60 (.aload_n 0) 1 61 := ⟨by decide +kernel, rfl⟩
theorem dX1_trait_61 : DD cX1_trait 61 (.getfield 24) 3 64 := ⟨by decide +kernel, rfl⟩
theorem dX1_trait_64 : DD cX1_trait 64 (.ireturn) 1 65 := ⟨by decide +kernel, rfl⟩
theorem dX1_trait_65 : DD cX1_trait 65 (.aload_n 0) 1 66 := ⟨by decide +kernel, rfl⟩
theorem dX1_trait_66 : DD cX1_trait 66 (.getfield 27) 3 69 := ⟨by decide +kernel, rfl⟩
theorem dX1_trait_69 : DD cX1_trait 69 (.ireturn) 1 70 := ⟨by decide +kernel, rfl⟩
theorem dX1_trait_70 : DD cX1_trait 70 (.aload_n 0) 1 71 := ⟨by decide +kernel, rfl⟩
theorem dX1_trait_71 : DD cX1_trait 71 (.getfield 30) 3 74 := ⟨by decide +kernel, rfl⟩
theorem dX1_trait_74 : DD cX1_trait 74 (.ireturn) 1 75 := ⟨by decide +kernel, rfl⟩
theorem dX1_change_0 : DD cX1_change 0 (.iload_n 1) 1 1 := ⟨by decide +kernel, rfl⟩
theorem dX1_change_1 : DD cX1_change 1 (.tableswitch 79 1 6 #[39, 47, 55, 63, 79, 71]) 39 40 := ⟨by decide +kernel, rfl⟩
theorem dX1_change_40 : DD cX1_change 40 (.aload_n 0) 1 41 := ⟨by decide +kernel, rfl⟩
theorem dX1_change_41 : DD cX1_change 41 (.iload_n 2) 1 42 := ⟨by decide +kernel, rfl⟩
theorem dX1_change_42 : DD cX1_change 42 (.putfield 15) 3 45 := ⟨by decide +kernel, rfl⟩
theorem dX1_change_45 : DD cX1_change 45 (.goto 35) 3 48 := ⟨by decide +kernel, rfl⟩
theorem dX1_change_48 : DD cX1_change 48 (.aload_n 0) 1 49 := ⟨by decide +kernel, rfl⟩
theorem dX1_change_49 : DD cX1_change 49 (.iload_n 2) 1 50 := ⟨by decide +kernel, rfl⟩
theorem dX1_change_50 : DD cX1_change 50 (.putfield 18) 3 53 := ⟨by decide +kernel, rfl⟩
theorem dX1_change_53 : DD cX1_change 53 (.goto 27) 3 56 := ⟨by decide +kernel, rfl⟩
theorem dX1_change_56 : DD cX1_change 56 (.aload_n 0) 1 57 := ⟨by decide +kernel, rfl⟩
theorem dX1_change_57 : DD cX1_change 57 (.iload_n 2) 1 58 := ⟨by decide +kernel, rfl⟩
theorem dX1_change_58 : DD cX1_change 58 (.putfield 21) 3 61 := ⟨by decide +kernel, rfl⟩
theorem dX1_change_61 : DD cX1_change 61 (.goto 19) 3 64 := ⟨by decide +kernel, rfl⟩
theorem dX1_change_64 : DD cX1_change 64 (.aload_n 0) 1 65 := ⟨by decide +kernel, rfl⟩
theorem dX1_change_65 : DD cX1_change 65 (.iload_n 2) 1 66 := ⟨by decide +kernel, rfl⟩
theorem dX1_change_66 : DD cX1_change 66 (.putfield 24) 3 69 := ⟨by decide +kernel, rfl⟩
theorem dX1_change_69 : DD cX1_change 69 (.goto 11) 3 72 := ⟨by decide +kernel, rfl⟩
theorem dX1_change_72 : DD cX1_change 72 (.aload_n 0) 1 73 := ⟨by decide +kernel, rfl⟩
theorem dX1_change_73 : DD cX1_change 73 (.iload_n 2) 1 74 := ⟨by decide +kernel, rfl⟩
theorem dX1_change_74 : DD cX1_change 74 (.putfield 30) 3 77 := ⟨by decide +kernel, rfl⟩
theorem dX1_change_77 : DD cX1_change 77 (.goto 3) 3 80 := ⟨by decide +kernel, rfl⟩
theorem dX1_change_80 : DD cX1_change 80 (.return_) 1 81 := ⟨by decide +kernel, rfl⟩
theorem dX1_shove_0 : DD cX1_shove 0 (.aload_n 0) 1 1 := ⟨by decide +kernel, rfl⟩
theorem dX1_shove_1 : DD cX1_shove 1 (.getfield 9) 3 4 := ⟨by decide +kernel, rfl⟩
theorem dX1_shove_4 : DD cX1_shove 4 (.tableswitch 139 1 5 #[36, 51, 63, 94, 103]) 36 40 := ⟨by decide +kernel, rfl⟩
theorem dX1_shove_40 : DD cX1_shove 40 (.iload 4) 2 42 := ⟨by decide +kernel, rfl⟩
theorem dX1_shove_42 : DD cX1_shove 42 (.iconst 2) 1 43 := ⟨by decide +kernel, rfl⟩
theorem dX1_shove_43 : DD cX1_shove 43 (.if_icmp .lt 10) 3 46 := ⟨by decide +kernel, rfl⟩
theorem dX1_shove_46 : DD cX1_shove 46 (.aload_n 0) 1 47 := ⟨by decide +kernel, rfl⟩
theorem dX1_shove_47 : DD cX1_shove 47 (.getfield 21) 3 50 := ⟨by decide +kernel, rfl⟩
theorem dX1_shove_50 : DD cX1_shove 50 (.goto 4) 3 53 := ⟨by decide +kernel, rfl⟩
theorem dX1_shove_53 : DD cX1_shove 53 (.iconst 0) 1 54 := ⟨by decide +kernel, rfl⟩
theorem dX1_shove_54 : DD cX1_shove 54 (.ireturn) 1 55 := ⟨by decide +kernel, rfl⟩
theorem dX1_shove_55 : DD cX1_shove 55 (.iload_n 2) 1 56 := ⟨by decide +kernel, rfl⟩
theorem dX1_shove_56 : DD cX1_shove 56 (.iconst 2) 1 57 := ⟨by decide +kernel, rfl⟩
theorem dX1_shove_57 : DD cX1_shove 57 (.idiv) 1 58 := ⟨by decide +kernel, rfl⟩
theorem dX1_shove_58 : DD cX1_shove 58 (.ineg) 1 59 := ⟨by decide +kernel, rfl⟩
theorem dX1_shove_59 : DD cX1_shove 59 (.aload_n 0) 1 60 := ⟨by decide +kernel, rfl⟩
theorem dX1_shove_60 : DD cX1_shove 60 (.getfield 21) 3 63 := ⟨by decide +kernel, rfl⟩
theorem dX1_shove_63 : DD cX1_shove 63 (.invokestatic 33) 3 66 := ⟨by decide +kernel, rfl⟩
theorem dX1_shove_66 : DD cX1_shove 66 (.ireturn) 1 67 := ⟨by decide +kernel, rfl⟩
theorem dX1_shove_67 : DD cX1_shove 67 (.iload_n 2) 1 68 := ⟨by decide +kernel, rfl⟩
theorem dX1_shove_68 : DD cX1_shove 68 (.iconst 5) 1 69 := ⟨by decide +kernel, rfl⟩
theorem dX1_shove_69 : DD cX1_shove 69 (.if_icmp .ge 9) 3 72 := ⟨by decide +kernel, rfl⟩
theorem dX1_shove_72 : DD cX1_shove 72 (.iload_n 2) 1 73 := ⟨by decide +kernel, rfl⟩
theorem dX1_shove_73 : DD cX1_shove 73 (.bipush (-5)) 2 75 := ⟨by decide +kernel, rfl⟩
theorem dX1_shove_75 : DD cX1_shove 75 (.if_icmp .gt 17) 3 78 := ⟨by decide +kernel, rfl⟩
theorem dX1_shove_78 : DD cX1_shove 78 (.iload_n 2) 1 79 := ⟨by decide +kernel, rfl⟩
theorem dX1_shove_79 : DD cX1_shove 79 (.iconst 2) 1 80 := ⟨by decide +kernel, rfl⟩
theorem dX1_shove_80 : DD cX1_shove 80 (.idiv) 1 81 := ⟨by decide +kernel, rfl⟩
theorem dX1_shove_81 : DD cX1_shove 81 (.ineg) 1 82 := ⟨by decide +kernel, rfl⟩
theorem dX1_shove_82 : DD cX1_shove 82 (.aload_n 0) 1 83 := ⟨by decide +kernel, rfl⟩
theorem dX1_shove_83 : DD cX1_shove 83 (.getfield 21) 3 86 := ⟨by decide +kernel, rfl⟩
theorem dX1_shove_86 : DD cX1_shove 86 (.invokestatic 33) 3 89 := ⟨by decide +kernel, rfl⟩
theorem dX1_shove_89 : DD cX1_shove 89 (.goto 8) 3 92 := ⟨by decide +kernel, rfl⟩
theorem dX1_shove_92 : DD cX1_shove 92 (.aload_n 0) 1 93 := ⟨by decide +kernel, rfl⟩
theorem dX1_shove_93 : DD cX1_shove 93 (.getfield 21) 3 96 := ⟨by decide +kernel, rfl⟩
theorem dX1_shove_96 : DD cX1_shove 96 (.ineg) 1 97 := ⟨by decide +kernel, rfl⟩
theorem dX1_shove_97 : DD cX1_shove 97 (.ireturn) 1 98 := ⟨by decide +kernel, rfl⟩
theorem dX1_shove_98 : DD cX1_shove 98 (.aload_n 0) 1 99 := ⟨by decide +kernel, rfl⟩
theorem dX1_shove_99 : DD cX1_shove 99 (.iload 4) 2 101 := ⟨by decide +kernel, rfl⟩
theorem dX1_shove_101 : DD cX1_shove 101 (.iload 5) 2 103 := ⟨by decide +kernel, rfl⟩
theorem dX1_shove_103 : DD cX1_shove 103 (.invokevirtual 37) 3 106 := ⟨by decide +kernel, rfl⟩
theorem dX1_shove_106 : DD cX1_shove 106 (.ireturn) 1 107 := ⟨by decide +kernel, rfl⟩
theorem dX1_shove_107 : DD cX1_shove 107 (.aload_n 1) 1 108 := ⟨by decide +kernel, rfl⟩
theorem dX1_shove_108 : DD cX1_shove 108 (.ifnonnull 14) 3 111 := ⟨by decide +kernel, rfl⟩
theorem dX1_shove_111 : DD cX1_shove 111 (.aload_n 0) 1 112 := ⟨by decide +kernel, rfl⟩
theorem dX1_shove_112 : DD cX1_shove 112 (.iload 4) 2 114 := ⟨by decide +kernel, rfl⟩
theorem dX1_shove_114 : DD cX1_shove 114 (.iload 5) 2 116 := ⟨by decide +kernel, rfl⟩
theorem dX1_shove_116 : DD cX1_shove 116 (.invokevirtual 37) 3 119 := ⟨by decide +kernel, rfl⟩
theorem dX1_shove_119 : DD cX1_shove 119 (.goto 23) 3 122 := ⟨by decide +kernel, rfl⟩
theorem dX1_shove_122 : DD cX1_shove 122 (.aload_n 0) 1 123 := ⟨by decide +kernel, rfl⟩
theorem dX1_shove_123 : DD cX1_shove 123 (.aload_n 1) 1 124 := ⟨by decide +kernel, rfl⟩
theorem dX1_shove_124 : DD cX1_shove 124 (.aload_n 1) 1 125 := ⟨by decide +kernel, rfl⟩
theorem dX1_shove_125 : DD cX1_shove 125 (.iload_n 2) 1 126 := ⟨by decide +kernel, rfl⟩
theorem dX1_shove_126 : DD cX1_shove 126 (.iload_n 3) 1 127 := ⟨by decide +kernel, rfl⟩
theorem dX1_shove_127 : DD cX1_shove 127 (.iload 4) 2 129 := ⟨by decide +kernel, rfl⟩
theorem dX1_shove_129 : DD cX1_shove 129 (.iload 5) 2 131 := ⟨by decide +kernel, rfl⟩
theorem dX1_shove_131 : DD cX1_shove 131 (.invokevirtual 40) 3 134 := ⟨by decide +kernel, rfl⟩
theorem dX1_shove_134 : DD cX1_shove 134 (.invokevirtual 46) 3 137 := ⟨by decide +kernel, rfl⟩
theorem dX1_shove_137 : DD cX1_shove 137 (.iload_n 2) 1 138 := ⟨by decide +kernel, rfl⟩
theorem dX1_shove_138 : DD cX1_shove 138 (.iload_n 3) 1 139 := ⟨by decide +kernel, rfl⟩
theorem dX1_shove_139 : DD cX1_shove 139 (.invokevirtual 50) 3 142 := ⟨by decide +kernel, rfl⟩
theorem dX1_shove_142 : DD cX1_shove 142 (.ireturn) 1 143 := ⟨by decide +kernel, rfl⟩
theorem dX1_shove_143 : DD cX1_shove 143 (.iconst 0) 1 144 := ⟨by decide +kernel, rfl⟩
theorem dX1_shove_144 : DD cX1_shove 144 (.ireturn) 1 145 := ⟨by decide +kernel, rfl⟩
theorem dX1_waiterShove_0 : DD cX1_waiterShove 0 (.iload_n 2) 1 1 := ⟨by decide +kernel, rfl⟩
theorem dX1_waiterShove_1 : DD cX1_waiterShove 1 (.bipush 19) 2 3 := ⟨by decide +kernel, rfl⟩
theorem dX1_waiterShove_3 : DD cX1_waiterShove 3 (.if_icmp .le 17) 3 6 := ⟨by decide +kernel, rfl⟩
theorem dX1_waiterShove_6 : DD cX1_waiterShove 6 (.iload_n 1) 1 7 := ⟨by decide +kernel, rfl⟩
theorem dX1_waiterShove_7 : DD cX1_waiterShove 7 (.iconst 1) 1 8 := ⟨by decide +kernel, rfl⟩
theorem dX1_waiterShove_8 : DD cX1_waiterShove 8 (.if_icmp .lt 12) 3 11 := ⟨by decide +kernel, rfl⟩
theorem dX1_waiterShove_11 : DD cX1_waiterShove 11 (.aload_n 0) 1 12 := ⟨by decide +kernel, rfl⟩
theorem dX1_waiterShove_12 : DD cX1_waiterShove 12 (.getfield 21) 3 15 := ⟨by decide +kernel, rfl⟩
theorem dX1_waiterShove_15 : DD cX1_waiterShove 15 (.iconst 3) 1 16 := ⟨by decide +kernel, rfl⟩
theorem dX1_waiterShove_16 : DD cX1_waiterShove 16 (.idiv) 1 17 := ⟨by decide +kernel, rfl⟩
theorem dX1_waiterShove_17 : DD cX1_waiterShove 17 (.goto 4) 3 20 := ⟨by decide +kernel, rfl⟩
theorem dX1_waiterShove_20 : DD cX1_waiterShove 20 (.iconst 0) 1 21 := ⟨by decide +kernel, rfl⟩
theorem dX1_waiterShove_21 : DD cX1_waiterShove 21 (.ireturn) 1 22 := ⟨by decide +kernel, rfl⟩
theorem dX1_deedShove_0 : DD cX1_deedShove 0 (.iload_n 1) 1 1 := ⟨by decide +kernel, rfl⟩
theorem dX1_deedShove_1 : DD cX1_deedShove 1 (.tableswitch 70 0 4 #[35, 40, 52, 70, 58]) 35 36 := ⟨by decide +kernel, rfl⟩
theorem dX1_deedShove_36 : DD cX1_deedShove 36 (.aload_n 0) 1 37 := ⟨by decide +kernel, rfl⟩
theorem dX1_deedShove_37 : DD cX1_deedShove 37 (.getfield 21) 3 40 := ⟨by decide +kernel, rfl⟩
theorem dX1_deedShove_40 : DD cX1_deedShove 40 (.ireturn) 1 41 := ⟨by decide +kernel, rfl⟩
theorem dX1_deedShove_41 : DD cX1_deedShove 41 (.iload_n 2) 1 42 := ⟨by decide +kernel, rfl⟩
theorem dX1_deedShove_42 : DD cX1_deedShove 42 (.iconst 2) 1 43 := ⟨by decide +kernel, rfl⟩
theorem dX1_deedShove_43 : DD cX1_deedShove 43 (.idiv) 1 44 := ⟨by decide +kernel, rfl⟩
theorem dX1_deedShove_44 : DD cX1_deedShove 44 (.ineg) 1 45 := ⟨by decide +kernel, rfl⟩
theorem dX1_deedShove_45 : DD cX1_deedShove 45 (.aload_n 0) 1 46 := ⟨by decide +kernel, rfl⟩
theorem dX1_deedShove_46 : DD cX1_deedShove 46 (.getfield 21) 3 49 := ⟨by decide +kernel, rfl⟩
theorem dX1_deedShove_49 : DD cX1_deedShove 49 (.invokestatic 33) 3 52 := ⟨by decide +kernel, rfl⟩
theorem dX1_deedShove_52 : DD cX1_deedShove 52 (.ireturn) 1 53 := ⟨by decide +kernel, rfl⟩
theorem dX1_deedShove_53 : DD cX1_deedShove 53 (.aload_n 0) 1 54 := ⟨by decide +kernel, rfl⟩
theorem dX1_deedShove_54 : DD cX1_deedShove 54 (.getfield 21) 3 57 := ⟨by decide +kernel, rfl⟩
theorem dX1_deedShove_57 : DD cX1_deedShove 57 (.ineg) 1 58 := ⟨by decide +kernel, rfl⟩
theorem dX1_deedShove_58 : DD cX1_deedShove 58 (.ireturn) 1 59 := ⟨by decide +kernel, rfl⟩
theorem dX1_deedShove_59 : DD cX1_deedShove 59 (.iload_n 3) 1 60 := ⟨by decide +kernel, rfl⟩
theorem dX1_deedShove_60 : DD cX1_deedShove 60 (.iconst 2) 1 61 := ⟨by decide +kernel, rfl⟩
theorem dX1_deedShove_61 : DD cX1_deedShove 61 (.idiv) 1 62 := ⟨by decide +kernel, rfl⟩
theorem dX1_deedShove_62 : DD cX1_deedShove 62 (.ineg) 1 63 := ⟨by decide +kernel, rfl⟩
theorem dX1_deedShove_63 : DD cX1_deedShove 63 (.aload_n 0) 1 64 := ⟨by decide +kernel, rfl⟩
theorem dX1_deedShove_64 : DD cX1_deedShove 64 (.getfield 21) 3 67 := ⟨by decide +kernel, rfl⟩
theorem dX1_deedShove_67 : DD cX1_deedShove 67 (.invokestatic 33) 3 70 := ⟨by decide +kernel, rfl⟩
theorem dX1_deedShove_70 : DD cX1_deedShove 70 (.ireturn) 1 71 := ⟨by decide +kernel, rfl⟩
theorem dX1_deedShove_71 : DD cX1_deedShove 71 (.iconst 0) 1 72 := ⟨by decide +kernel, rfl⟩
theorem dX1_deedShove_72 : DD cX1_deedShove 72 (.ireturn) 1 73 := ⟨by decide +kernel, rfl⟩
theorem dX2_init_0 : DD cX2_init 0 (.aload_n 0) 1 1 := ⟨by decide +kernel, rfl⟩
theorem dX2_init_1 : DD cX2_init 1 (.invokespecial 3) 3 4 := ⟨by decide +kernel, rfl⟩
theorem dX2_init_4 : DD cX2_init 4 (.aload_n 0) 1 5 := ⟨by decide +kernel, rfl⟩
theorem dX2_init_5 : DD cX2_init 5 (.iconst 0) 1 6 := ⟨by decide +kernel, rfl⟩
theorem dX2_init_6 : DD cX2_init 6 (.putfield 9) 3 9 := ⟨by decide +kernel, rfl⟩
theorem dX2_init_9 : DD cX2_init 9 (.aload_n 0) 1 10 := ⟨by decide +kernel, rfl⟩
theorem dX2_init_10 : DD cX2_init 10 (.iconst 0) 1 11 := ⟨by decide +kernel, rfl⟩
theorem dX2_init_11 : DD cX2_init 11 (.putfield 15) 3 14 := ⟨by decide +kernel, rfl⟩
theorem dX2_init_14 : DD cX2_init 14 (.aload_n 0) 1 15 := ⟨by decide +kernel, rfl⟩
theorem dX2_init_15 : DD cX2_init 15 (.bipush 40) 2 17 := ⟨by decide +kernel, rfl⟩
theorem dX2_init_17 : DD cX2_init 17 (.newarray .long) 2 19 := ⟨by decide +kernel, rfl⟩
theorem dX2_init_19 : DD cX2_init 19 (.putfield 18) 3 22 := ⟨by decide +kernel, rfl⟩
theorem dX2_init_22 : DD cX2_init 22 (.return_) 1 23 := ⟨by decide +kernel, rfl⟩
theorem dX2_begin_0 : DD cX2_begin 0 (.aload_n 0) 1 1 := ⟨by decide +kernel, rfl⟩
theorem dX2_begin_1 : DD cX2_begin 1 (.iload_n 1) 1 2 := ⟨by decide +kernel, rfl⟩
theorem dX2_begin_2 : DD cX2_begin 2 (.putfield 9) 3 5 := ⟨by decide +kernel, rfl⟩
theorem dX2_begin_5 : DD cX2_begin 5 (.aload_n 0) 1 6 := ⟨by decide +kernel, rfl⟩
theorem dX2_begin_6 : DD cX2_begin 6 (.iload_n 2) 1 7 := ⟨by decide +kernel, rfl⟩
theorem dX2_begin_7 : DD cX2_begin 7 (.putfield 15) 3 10 := ⟨by decide +kernel, rfl⟩
theorem dX2_begin_10 : DD cX2_begin 10 (.iconst 0) 1 11 := ⟨by decide +kernel, rfl⟩
theorem dX2_begin_11 : DD cX2_begin 11 (.istore_n 3) 1 12 := ⟨by decide +kernel, rfl⟩
theorem dX2_begin_12 : DD cX2_begin 12 (.iload_n 3) 1 13 := ⟨by decide +kernel, rfl⟩
theorem dX2_begin_13 : DD cX2_begin 13 (.bipush 40) 2 15 := ⟨by decide +kernel, rfl⟩
theorem dX2_begin_15 : DD cX2_begin 15 (.if_icmp .ge 16) 3 18 := ⟨by decide +kernel, rfl⟩
theorem dX2_begin_18 : DD cX2_begin 18 (.aload_n 0) 1 19 := ⟨by decide +kernel, rfl⟩
theorem dX2_begin_19 : DD cX2_begin 19 (.getfield 18) 3 22 := ⟨by decide +kernel, rfl⟩
theorem dX2_begin_22 : DD cX2_begin 22 (.iload_n 3) 1 23 := ⟨by decide +kernel, rfl⟩
theorem dX2_begin_23 : DD cX2_begin 23 (.lconst 0) 1 24 := ⟨by decide +kernel, rfl⟩
theorem dX2_begin_24 : DD cX2_begin 24 (.lastore) 1 25 := ⟨by decide +kernel, rfl⟩
theorem dX2_begin_25 : DD cX2_begin 25 (.iinc 3 1) 3 28 := ⟨by decide +kernel, rfl⟩
theorem dX2_begin_28 : DD cX2_begin 28 (.goto (-16)) 3 31 := ⟨by decide +kernel, rfl⟩
theorem dX2_begin_31 : DD cX2_begin 31 (.return_) 1 32 := ⟨by decide +kernel, rfl⟩
theorem dX2_isMissing_0 : DD cX2_isMissing 0 (.aload_n 0) 1 1 := ⟨by decide +kernel, rfl⟩
theorem dX2_isMissing_1 : DD cX2_isMissing 1 (.getfield 9) 3 4 := ⟨by decide +kernel, rfl⟩
theorem dX2_isMissing_4 : DD cX2_isMissing 4 (.ifCond .ne 7) 3 7 := ⟨by decide +kernel, rfl⟩
theorem dX2_isMissing_7 : DD cX2_isMissing 7 (.iconst 1) 1 8 := ⟨by decide +kernel, rfl⟩
theorem dX2_isMissing_8 : DD cX2_isMissing 8 (.goto 4) 3 11 := ⟨by decide +kernel, rfl⟩
theorem dX2_isMissing_11 : DD cX2_isMissing 11 (.iconst 0) 1 12 := ⟨by decide +kernel, rfl⟩
theorem dX2_isMissing_12 : DD cX2_isMissing 12 (.ireturn) 1 13 := ⟨by decide +kernel, rfl⟩
theorem dX2_put_0 : DD cX2_put 0 (.iload_n 1) 1 1 := ⟨by decide +kernel, rfl⟩
theorem dX2_put_1 : DD cX2_put 1 (.iconst 0) 1 2 := ⟨by decide +kernel, rfl⟩
theorem dX2_put_2 : DD cX2_put 2 (.aload_n 0) 1 3 := ⟨by decide +kernel, rfl⟩
theorem dX2_put_3 : DD cX2_put 3 (.getfield 15) 3 6 := ⟨by decide +kernel, rfl⟩
theorem dX2_put_6 : DD cX2_put 6 (.iconst 1) 1 7 := ⟨by decide +kernel, rfl⟩
theorem dX2_put_7 : DD cX2_put 7 (.isub) 1 8 := ⟨by decide +kernel, rfl⟩
theorem dX2_put_8 : DD cX2_put 8 (.invokestatic 22) 3 11 := ⟨by decide +kernel, rfl⟩
theorem dX2_put_11 : DD cX2_put 11 (.ifCond .eq 42) 3 14 := ⟨by decide +kernel, rfl⟩
theorem dX2_put_14 : DD cX2_put 14 (.aload_n 0) 1 15 := ⟨by decide +kernel, rfl⟩
theorem dX2_put_15 : DD cX2_put 15 (.getfield 18) 3 18 := ⟨by decide +kernel, rfl⟩
theorem dX2_put_18 : DD cX2_put 18 (.iload_n 1) 1 19 := ⟨by decide +kernel, rfl⟩
theorem dX2_put_19 : DD cX2_put 19 (.aload_n 0) 1 20 := ⟨by decide +kernel, rfl⟩
theorem dX2_put_20 : DD cX2_put 20 (.getfield 9) 3 23 := ⟨by decide +kernel, rfl⟩
theorem dX2_put_23 : DD cX2_put 23 (.bipush 8) 2 25 := ⟨by decide +kernel, rfl⟩
theorem dX2_put_25 : DD cX2_put 25 (.if_icmp .ne 10) 3 28 := ⟨by decide +kernel, rfl⟩
theorem dX2_put_28 : DD cX2_put 28 (.lload_n 2) 1 29 := ⟨by decide +kernel, rfl⟩
theorem dX2_put_29 : DD cX2_put 29 (.l2i) 1 30 := ⟨by decide +kernel, rfl⟩
theorem dX2_put_30 : DD cX2_put 30 (.i2b) 1 31 := ⟨by decide +kernel, rfl⟩
theorem dX2_put_31 : DD cX2_put 31 (.i2l) 1 32 := ⟨by decide +kernel, rfl⟩
theorem dX2_put_32 : DD cX2_put 32 (.goto 20) 3 35 := ⟨by decide +kernel, rfl⟩
theorem dX2_put_35 : DD cX2_put 35 (.aload_n 0) 1 36 := ⟨by decide +kernel, rfl⟩
theorem dX2_put_36 : DD cX2_put 36 (.getfield 9) 3 39 := ⟨by decide +kernel, rfl⟩
theorem dX2_put_39 : DD cX2_put 39 (.bipush 16) 2 41 := ⟨by decide +kernel, rfl⟩
theorem dX2_put_41 : DD cX2_put 41 (.if_icmp .ne 10) 3 44 := ⟨by decide +kernel, rfl⟩
theorem dX2_put_44 : DD cX2_put 44 (.lload_n 2) 1 45 := ⟨by decide +kernel, rfl⟩
theorem dX2_put_45 : DD cX2_put 45 (.l2i) 1 46 := ⟨by decide +kernel, rfl⟩
theorem dX2_put_46 : DD cX2_put 46 (.i2s) 1 47 := ⟨by decide +kernel, rfl⟩
theorem dX2_put_47 : DD cX2_put 47 (.i2l) 1 48 := ⟨by decide +kernel, rfl⟩
theorem dX2_put_48 : DD cX2_put 48 (.goto 4) 3 51 := ⟨by decide +kernel, rfl⟩
theorem dX2_put_51 : DD cX2_put 51 (.lload_n 2) 1 52 := ⟨by decide +kernel, rfl⟩
theorem dX2_put_52 : DD cX2_put 52 (.lastore) 1 53 := ⟨by decide +kernel, rfl⟩
theorem dX2_put_53 : DD cX2_put 53 (.return_) 1 54 := ⟨by decide +kernel, rfl⟩
theorem dX2_hasRow_0 : DD cX2_hasRow 0 (.iload_n 1) 1 1 := ⟨by decide +kernel, rfl⟩
theorem dX2_hasRow_1 : DD cX2_hasRow 1 (.ifCond .lt 29) 3 4 := ⟨by decide +kernel, rfl⟩
theorem dX2_hasRow_4 : DD cX2_hasRow 4 (.iload_n 2) 1 5 := ⟨by decide +kernel, rfl⟩
theorem dX2_hasRow_5 : DD cX2_hasRow 5 (.ifCond .lt 25) 3 8 := ⟨by decide +kernel, rfl⟩
theorem dX2_hasRow_8 : DD cX2_hasRow 8 (.iload_n 1) 1 9 := ⟨by decide +kernel, rfl⟩
theorem dX2_hasRow_9 : DD cX2_hasRow 9 (.aload_n 0) 1 10 := ⟨by decide +kernel, rfl⟩
theorem dX2_hasRow_10 : DD cX2_hasRow 10 (.getfield 15) 3 13 := ⟨by decide +kernel, rfl⟩
theorem dX2_hasRow_13 : DD cX2_hasRow 13 (.if_icmp .gt 17) 3 16 := ⟨by decide +kernel, rfl⟩
theorem dX2_hasRow_16 : DD cX2_hasRow 16 (.iload_n 2) 1 17 := ⟨by decide +kernel, rfl⟩
theorem dX2_hasRow_17 : DD cX2_hasRow 17 (.aload_n 0) 1 18 := ⟨by decide +kernel, rfl⟩
theorem dX2_hasRow_18 : DD cX2_hasRow 18 (.getfield 15) 3 21 := ⟨by decide +kernel, rfl⟩
theorem dX2_hasRow_21 : DD cX2_hasRow 21 (.iload_n 1) 1 22 := ⟨by decide +kernel, rfl⟩
theorem dX2_hasRow_22 : DD cX2_hasRow 22 (.isub) 1 23 := ⟨by decide +kernel, rfl⟩
theorem dX2_hasRow_23 : DD cX2_hasRow 23 (.if_icmp .gt 7) 3 26 := ⟨by decide +kernel, rfl⟩
theorem dX2_hasRow_26 : DD cX2_hasRow 26 (.iconst 1) 1 27 := ⟨by decide +kernel, rfl⟩
theorem dX2_hasRow_27 : DD cX2_hasRow 27 (.goto 4) 3 30 := ⟨by decide +kernel, rfl⟩
theorem dX2_hasRow_30 : DD cX2_hasRow 30 (.iconst 0) 1 31 := ⟨by decide +kernel, rfl⟩
theorem dX2_hasRow_31 : DD cX2_hasRow 31 (.ireturn) 1 32 := ⟨by decide +kernel, rfl⟩
theorem dX3_init_0 : DD cX3_init 0 (.aload_n 0) 1 1 := ⟨by decide +kernel, rfl⟩
theorem dX3_init_1 : DD cX3_init 1 (.invokespecial 1) 3 4 := ⟨by decide +kernel, rfl⟩
theorem dX3_init_4 : DD cX3_init 4 (.return_) 1 5 := ⟨by decide +kernel, rfl⟩
theorem dX3_begin_0 : DD cX3_begin 0 (.aload_n 0) 1 1 := ⟨by decide +kernel, rfl⟩
theorem dX3_begin_1 : DD cX3_begin 1 (.iconst 0) 1 2 := ⟨by decide +kernel, rfl⟩
theorem dX3_begin_2 : DD cX3_begin 2 (.putfield 7) 3 5 := ⟨by decide +kernel, rfl⟩
theorem dX3_begin_5 : DD cX3_begin 5 (.aload_n 0) 1 6 := ⟨by decide +kernel, rfl⟩
theorem dX3_begin_6 : DD cX3_begin 6 (.iconst 0) 1 7 := ⟨by decide +kernel, rfl⟩
theorem dX3_begin_7 : DD cX3_begin 7 (.putfield 13) 3 10 := ⟨by decide +kernel, rfl⟩
theorem dX3_begin_10 : DD cX3_begin 10 (.aload_n 0) 1 11 := ⟨by decide +kernel, rfl⟩
theorem dX3_begin_11 : DD cX3_begin 11 (.iload_n 1) 1 12 := ⟨by decide +kernel, rfl⟩
theorem dX3_begin_12 : DD cX3_begin 12 (.putfield 16) 3 15 := ⟨by decide +kernel, rfl⟩
theorem dX3_begin_15 : DD cX3_begin 15 (.return_) 1 16 := ⟨by decide +kernel, rfl⟩
theorem dX3_takeFrom_0 : DD cX3_takeFrom 0 (.aload_n 0) 1 1 := ⟨by decide +kernel, rfl⟩
theorem dX3_takeFrom_1 : DD cX3_takeFrom 1 (.aload_n 1) 1 2 := ⟨by decide +kernel, rfl⟩
theorem dX3_takeFrom_2 : DD cX3_takeFrom 2 (.getfield 7) 3 5 := ⟨by decide +kernel, rfl⟩
theorem dX3_takeFrom_5 : DD cX3_takeFrom 5 (.putfield 7) 3 8 := ⟨by decide +kernel, rfl⟩
theorem dX3_takeFrom_8 : DD cX3_takeFrom 8 (.aload_n 0) 1 9 := ⟨by decide +kernel, rfl⟩
theorem dX3_takeFrom_9 : DD cX3_takeFrom 9 (.aload_n 1) 1 10 := ⟨by decide +kernel, rfl⟩
theorem dX3_takeFrom_10 : DD cX3_takeFrom 10 (.getfield 13) 3 13 := ⟨by decide +kernel, rfl⟩
theorem dX3_takeFrom_13 : DD cX3_takeFrom 13 (.putfield 13) 3 16 := ⟨by decide +kernel, rfl⟩
theorem dX3_takeFrom_16 : DD cX3_takeFrom 16 (.aload_n 0) 1 17 := ⟨by decide +kernel, rfl⟩
theorem dX3_takeFrom_17 : DD cX3_takeFrom 17 (.aload_n 1) 1 18 := ⟨by decide +kernel, rfl⟩
theorem dX3_takeFrom_18 : DD cX3_takeFrom 18 (.getfield 16) 3 21 := ⟨by decide +kernel, rfl⟩
theorem dX3_takeFrom_21 : DD cX3_takeFrom 21 (.putfield 16) 3 24 := ⟨by decide +kernel, rfl⟩
theorem dX3_takeFrom_24 : DD cX3_takeFrom 24 (.return_) 1 25 := ⟨by decide +kernel, rfl⟩
theorem dX3_cost_0 : DD cX3_cost 0 (.iload_n 0) 1 1 := ⟨by decide +kernel, rfl⟩
theorem dX3_cost_1 : DD cX3_cost 1 (.ifCond .ne 7) 3 4 := ⟨by decide +kernel, rfl⟩
theorem dX3_cost_4 : DD cX3_cost 4 (.iconst 0) 1 5 := ⟨by decide +kernel, rfl⟩
theorem dX3_cost_5 : DD cX3_cost 5 (.goto 12) 3 8 := ⟨by decide +kernel, rfl⟩
theorem dX3_cost_8 : DD cX3_cost 8 (.iload_n 0) 1 9 := ⟨by decide +kernel, rfl⟩
theorem dX3_cost_9 : DD cX3_cost 9 (.invokestatic 19) 3 12 := ⟨by decide +kernel, rfl⟩
theorem dX3_cost_12 : DD cX3_cost 12 (.bipush 10) 2 14 := ⟨by decide +kernel, rfl⟩
theorem dX3_cost_14 : DD cX3_cost 14 (.idiv) 1 15 := ⟨by decide +kernel, rfl⟩
theorem dX3_cost_15 : DD cX3_cost 15 (.iconst 1) 1 16 := ⟨by decide +kernel, rfl⟩
theorem dX3_cost_16 : DD cX3_cost 16 (.iadd) 1 17 := ⟨by decide +kernel, rfl⟩
theorem dX3_cost_17 : DD cX3_cost 17 (.ireturn) 1 18 := ⟨by decide +kernel, rfl⟩
theorem dX3_decide_0 : DD cX3_decide 0 (.aload_n 0) 1 1 := ⟨by decide +kernel, rfl⟩
theorem dX3_decide_1 : DD cX3_decide 1 (.iload_n 1) 1 2 := ⟨by decide +kernel, rfl⟩
theorem dX3_decide_2 : DD cX3_decide 2 (.putfield 25) 3 5 := ⟨by decide +kernel, rfl⟩
theorem dX3_decide_5 : DD cX3_decide 5 (.aload_n 0) 1 6 := ⟨by decide +kernel, rfl⟩
theorem dX3_decide_6 : DD cX3_decide 6 (.iload_n 2) 1 7 := ⟨by decide +kernel, rfl⟩
theorem dX3_decide_7 : DD cX3_decide 7 (.putfield 28) 3 10 := ⟨by decide +kernel, rfl⟩
theorem dX3_decide_10 : DD cX3_decide 10 (.aload_n 0) 1 11 := ⟨by decide +kernel, rfl⟩
theorem dX3_decide_11 : DD cX3_decide 11 (.dup) 1 12 := ⟨by decide +kernel, rfl⟩
theorem dX3_decide_12 : DD cX3_decide 12 (.getfield 16) 3 15 := ⟨by decide +kernel, rfl⟩
theorem dX3_decide_15 : DD cX3_decide 15 (.iload_n 2) 1 16 := ⟨by decide +kernel, rfl⟩
theorem dX3_decide_16 : DD cX3_decide 16 (.invokestatic 31) 3 19 := ⟨by decide +kernel, rfl⟩
theorem dX3_decide_19 : DD cX3_decide 19 (.isub) 1 20 := ⟨by decide +kernel, rfl⟩
theorem dX3_decide_20 : DD cX3_decide 20 (.putfield 16) 3 23 := ⟨by decide +kernel, rfl⟩
theorem dX3_decide_23 : DD cX3_decide 23 (.return_) 1 24 := ⟨by decide +kernel, rfl⟩
theorem dX3_step_0 : DD cX3_step 0 (.aload_n 0) 1 1 := ⟨by decide +kernel, rfl⟩
theorem dX3_step_1 : DD cX3_step 1 (.dup) 1 2 := ⟨by decide +kernel, rfl⟩
theorem dX3_step_2 : DD cX3_step 2 (.getfield 7) 3 5 := ⟨by decide +kernel, rfl⟩
theorem dX3_step_5 : DD cX3_step 5 (.aload_n 0) 1 6 := ⟨by decide +kernel, rfl⟩
theorem dX3_step_6 : DD cX3_step 6 (.getfield 25) 3 9 := ⟨by decide +kernel, rfl⟩
theorem dX3_step_9 : DD cX3_step 9 (.aload_n 0) 1 10 := ⟨by decide +kernel, rfl⟩
theorem dX3_step_10 : DD cX3_step 10 (.getfield 7) 3 13 := ⟨by decide +kernel, rfl⟩
theorem dX3_step_13 : DD cX3_step 13 (.isub) 1 14 := ⟨by decide +kernel, rfl⟩
theorem dX3_step_14 : DD cX3_step 14 (.iload_n 1) 1 15 := ⟨by decide +kernel, rfl⟩
theorem dX3_step_15 : DD cX3_step 15 (.invokestatic 34) 3 18 := ⟨by decide +kernel, rfl⟩
theorem dX3_step_18 : DD cX3_step 18 (.iadd) 1 19 := ⟨by decide +kernel, rfl⟩
theorem dX3_step_19 : DD cX3_step 19 (.putfield 7) 3 22 := ⟨by decide +kernel, rfl⟩
theorem dX3_step_22 : DD cX3_step 22 (.return_) 1 23 := ⟨by decide +kernel, rfl⟩
theorem dX3_sway_0 : DD cX3_sway 0 (.aload_n 0) 1 1 := ⟨by decide +kernel, rfl⟩
theorem dX3_sway_1 : DD cX3_sway 1 (.dup) 1 2 := ⟨by decide +kernel, rfl⟩
theorem dX3_sway_2 : DD cX3_sway 2 (.getfield 13) 3 5 := ⟨by decide +kernel, rfl⟩
theorem dX3_sway_5 : DD cX3_sway 5 (.iload_n 1) 1 6 := ⟨by decide +kernel, rfl⟩
theorem dX3_sway_6 : DD cX3_sway 6 (.aload_n 0) 1 7 := ⟨by decide +kernel, rfl⟩
theorem dX3_sway_7 : DD cX3_sway 7 (.getfield 7) 3 10 := ⟨by decide +kernel, rfl⟩
theorem dX3_sway_10 : DD cX3_sway 10 (.isub) 1 11 := ⟨by decide +kernel, rfl⟩
theorem dX3_sway_11 : DD cX3_sway 11 (.iconst 4) 1 12 := ⟨by decide +kernel, rfl⟩
theorem dX3_sway_12 : DD cX3_sway 12 (.idiv) 1 13 := ⟨by decide +kernel, rfl⟩
theorem dX3_sway_13 : DD cX3_sway 13 (.iadd) 1 14 := ⟨by decide +kernel, rfl⟩
theorem dX3_sway_14 : DD cX3_sway 14 (.putfield 13) 3 17 := ⟨by decide +kernel, rfl⟩
theorem dX3_sway_17 : DD cX3_sway 17 (.aload_n 0) 1 18 := ⟨by decide +kernel, rfl⟩
theorem dX3_sway_18 : DD cX3_sway 18 (.dup) 1 19 := ⟨by decide +kernel, rfl⟩
theorem dX3_sway_19 : DD cX3_sway 19 (.getfield 13) 3 22 := ⟨by decide +kernel, rfl⟩
theorem dX3_sway_22 : DD cX3_sway 22 (.aload_n 0) 1 23 := ⟨by decide +kernel, rfl⟩
theorem dX3_sway_23 : DD cX3_sway 23 (.getfield 13) 3 26 := ⟨by decide +kernel, rfl⟩
theorem dX3_sway_26 : DD cX3_sway 26 (.bipush 8) 2 28 := ⟨by decide +kernel, rfl⟩
theorem dX3_sway_28 : DD cX3_sway 28 (.idiv) 1 29 := ⟨by decide +kernel, rfl⟩
theorem dX3_sway_29 : DD cX3_sway 29 (.isub) 1 30 := ⟨by decide +kernel, rfl⟩
theorem dX3_sway_30 : DD cX3_sway 30 (.putfield 13) 3 33 := ⟨by decide +kernel, rfl⟩
theorem dX3_sway_33 : DD cX3_sway 33 (.return_) 1 34 := ⟨by decide +kernel, rfl⟩
theorem dX4_init_0 : DD cX4_init 0 (.aload_n 0) 1 1 := ⟨by decide +kernel, rfl⟩
theorem dX4_init_1 : DD cX4_init 1 (.invokespecial 3) 3 4 := ⟨by decide +kernel, rfl⟩
theorem dX4_init_4 : DD cX4_init 4 (.aload_n 0) 1 5 := ⟨by decide +kernel, rfl⟩
theorem dX4_init_5 : DD cX4_init 5 (.bipush 100) 2 7 := ⟨by decide +kernel, rfl⟩
theorem dX4_init_7 : DD cX4_init 7 (.newarray .int) 2 9 := ⟨by decide +kernel, rfl⟩
theorem dX4_init_9 : DD cX4_init 9 (.putfield 9) 3 12 := ⟨by decide +kernel, rfl⟩
theorem dX4_init_12 : DD cX4_init 12 (.aload_n 0) 1 13 := ⟨by decide +kernel, rfl⟩
theorem dX4_init_13 : DD cX4_init 13 (.iconst 0) 1 14 := ⟨by decide +kernel, rfl⟩
theorem dX4_init_14 : DD cX4_init 14 (.putfield 15) 3 17 := ⟨by decide +kernel, rfl⟩
theorem dX4_init_17 : DD cX4_init 17 (.aload_n 0) 1 18 := ⟨by decide +kernel, rfl⟩
theorem dX4_init_18 : DD cX4_init 18 (.iconst 0) 1 19 := ⟨by decide +kernel, rfl⟩
theorem dX4_init_19 : DD cX4_init 19 (.putfield 19) 3 22 := ⟨by decide +kernel, rfl⟩
theorem dX4_init_22 : DD cX4_init 22 (.aload_n 0) 1 23 := ⟨by decide +kernel, rfl⟩
theorem dX4_init_23 : DD cX4_init 23 (.iconst 0) 1 24 := ⟨by decide +kernel, rfl⟩
theorem dX4_init_24 : DD cX4_init 24 (.putfield 22) 3 27 := ⟨by decide +kernel, rfl⟩
theorem dX4_init_27 : DD cX4_init 27 (.aload_n 0) 1 28 := ⟨by decide +kernel, rfl⟩
theorem dX4_init_28 : DD cX4_init 28 (.iconst (-1)) 1 29 := ⟨by decide +kernel, rfl⟩
theorem dX4_init_29 : DD cX4_init 29 (.putfield 25) 3 32 := ⟨by decide +kernel, rfl⟩
theorem dX4_init_32 : DD cX4_init 32 (.aload_n 0) 1 33 := ⟨by decide +kernel, rfl⟩
theorem dX4_init_33 : DD cX4_init 33 (.iconst 0) 1 34 := ⟨by decide +kernel, rfl⟩
theorem dX4_init_34 : DD cX4_init 34 (.putfield 28) 3 37 := ⟨by decide +kernel, rfl⟩
theorem dX4_init_37 : DD cX4_init 37 (.return_) 1 38 := ⟨by decide +kernel, rfl⟩
theorem dX4_addByte_0 : DD cX4_addByte 0 (.aload_n 0) 1 1 := ⟨by decide +kernel, rfl⟩
theorem dX4_addByte_1 : DD cX4_addByte 1 (.getfield 15) 3 4 := ⟨by decide +kernel, rfl⟩
theorem dX4_addByte_4 : DD cX4_addByte 4 (.bipush 100) 2 6 := ⟨by decide +kernel, rfl⟩
theorem dX4_addByte_6 : DD cX4_addByte 6 (.if_icmp .ge 23) 3 9 := ⟨by decide +kernel, rfl⟩
theorem dX4_addByte_9 : DD cX4_addByte 9 (.aload_n 0) 1 10 := ⟨by decide +kernel, rfl⟩
theorem dX4_addByte_10 : DD cX4_addByte 10 (.getfield 9) 3 13 := ⟨by decide +kernel, rfl⟩
theorem dX4_addByte_13 : DD cX4_addByte 13 (.aload_n 0) 1 14 := ⟨by decide +kernel, rfl⟩
theorem dX4_addByte_14 : DD cX4_addByte 14 (.getfield 15) 3 17 := ⟨by decide +kernel, rfl⟩
theorem dX4_addByte_17 : DD cX4_addByte 17 (.iload_n 1) 1 18 := ⟨by decide +kernel, rfl⟩
theorem dX4_addByte_18 : DD cX4_addByte 18 (.iastore) 1 19 := ⟨by decide +kernel, rfl⟩
theorem dX4_addByte_19 : DD cX4_addByte 19 (.aload_n 0) 1 20 := ⟨by decide +kernel, rfl⟩
theorem dX4_addByte_20 : DD cX4_addByte 20 (.dup) 1 21 := ⟨by decide +kernel, rfl⟩
theorem dX4_addByte_21 : DD cX4_addByte 21 (.getfield 15) 3 24 := ⟨by decide +kernel, rfl⟩
theorem dX4_addByte_24 : DD cX4_addByte 24 (.iconst 1) 1 25 := ⟨by decide +kernel, rfl⟩
theorem dX4_addByte_25 : DD cX4_addByte 25 (.iadd) 1 26 := ⟨by decide +kernel, rfl⟩
theorem dX4_addByte_26 : DD cX4_addByte 26 (.putfield 15) 3 29 := ⟨by decide +kernel, rfl⟩
theorem dX4_addByte_29 : DD cX4_addByte 29 (.return_) 1 30 := ⟨by decide +kernel, rfl⟩
theorem dX4_toWay_0 : DD cX4_toWay 0 (.new 31) 3 3 := ⟨by decide +kernel, rfl⟩
theorem dX4_toWay_3 : DD cX4_toWay 3 (.dup) 1 4 := ⟨by decide +kernel, rfl⟩
theorem dX4_toWay_4 : DD cX4_toWay 4 (.invokespecial 33) 3 7 := ⟨by decide +kernel, rfl⟩
theorem dX4_toWay_7 : DD cX4_toWay 7 (.astore_n 1) 1 8 := ⟨by decide +kernel, rfl⟩
theorem dX4_toWay_8 : DD cX4_toWay 8 (.aload_n 0) 1 9 := ⟨by decide +kernel, rfl⟩
theorem dX4_toWay_9 : DD cX4_toWay 9 (.iconst 0) 1 10 := ⟨by decide +kernel, rfl⟩
theorem dX4_toWay_10 : DD cX4_toWay 10 (.putfield 22) 3 13 := ⟨by decide +kernel, rfl⟩
theorem dX4_toWay_13 : DD cX4_toWay 13 (.aload_n 0) 1 14 := ⟨by decide +kernel, rfl⟩
theorem dX4_toWay_14 : DD cX4_toWay 14 (.invokevirtual 34) 3 17 := ⟨by decide +kernel, rfl⟩
theorem dX4_toWay_17 : DD cX4_toWay 17 (.iconst 0) 1 18 := ⟨by decide +kernel, rfl⟩
theorem dX4_toWay_18 : DD cX4_toWay 18 (.istore_n 2) 1 19 := ⟨by decide +kernel, rfl⟩
theorem dX4_toWay_19 : DD cX4_toWay 19 (.iload_n 2) 1 20 := ⟨by decide +kernel, rfl⟩
theorem dX4_toWay_20 : DD cX4_toWay 20 (.bipush 6) 2 22 := ⟨by decide +kernel, rfl⟩
theorem dX4_toWay_22 : DD cX4_toWay 22 (.if_icmp .ge 44) 3 25 := ⟨by decide +kernel, rfl⟩
theorem dX4_toWay_25 : DD cX4_toWay 25 (.aload_n 0) 1 26 := ⟨by decide +kernel, rfl⟩
theorem dX4_toWay_26 : DD cX4_toWay 26 (.aload_n 1) 1 27 := ⟨by decide +kernel, rfl⟩
theorem dX4_toWay_27 : DD cX4_toWay 27 (.invokevirtual 37) 3 30 := ⟨by decide +kernel, rfl⟩
theorem dX4_toWay_30 : DD cX4_toWay 30 (.ifCond .ne 5) 3 33 := ⟨by decide +kernel, rfl⟩
theorem dX4_toWay_33 : DD cX4_toWay 33 (.aconst_null) 1 34 := ⟨by decide +kernel, rfl⟩
theorem dX4_toWay_34 : DD cX4_toWay 34 (.areturn) 1 35 := ⟨by decide +kernel, rfl⟩
theorem dX4_toWay_35 : DD cX4_toWay 35 (.aload_n 0) 1 36 := ⟨by decide +kernel, rfl⟩
theorem dX4_toWay_36 : DD cX4_toWay 36 (.getfield 25) 3 39 := ⟨by decide +kernel, rfl⟩
theorem dX4_toWay_39 : DD cX4_toWay 39 (.iconst (-1)) 1 40 := ⟨by decide +kernel, rfl⟩
theorem dX4_toWay_40 : DD cX4_toWay 40 (.if_icmp .ne 5) 3 43 := ⟨by decide +kernel, rfl⟩
theorem dX4_toWay_43 : DD cX4_toWay 43 (.aload_n 1) 1 44 := ⟨by decide +kernel, rfl⟩
theorem dX4_toWay_44 : DD cX4_toWay 44 (.areturn) 1 45 := ⟨by decide +kernel, rfl⟩
theorem dX4_toWay_45 : DD cX4_toWay 45 (.aload_n 0) 1 46 := ⟨by decide +kernel, rfl⟩
theorem dX4_toWay_46 : DD cX4_toWay 46 (.getfield 25) 3 49 := ⟨by decide +kernel, rfl⟩
theorem dX4_toWay_49 : DD cX4_toWay 49 (.bipush 59) 2 51 := ⟨by decide +kernel, rfl⟩
theorem dX4_toWay_51 : DD cX4_toWay 51 (.if_icmp .eq 5) 3 54 := ⟨by decide +kernel, rfl⟩
theorem dX4_toWay_54 : DD cX4_toWay 54 (.aconst_null) 1 55 := ⟨by decide +kernel, rfl⟩
theorem dX4_toWay_55 : DD cX4_toWay 55 (.areturn) 1 56 := ⟨by decide +kernel, rfl⟩
theorem dX4_toWay_56 : DD cX4_toWay 56 (.aload_n 0) 1 57 := ⟨by decide +kernel, rfl⟩
theorem dX4_toWay_57 : DD cX4_toWay 57 (.invokevirtual 34) 3 60 := ⟨by decide +kernel, rfl⟩
theorem dX4_toWay_60 : DD cX4_toWay 60 (.iinc 2 1) 3 63 := ⟨by decide +kernel, rfl⟩
theorem dX4_toWay_63 : DD cX4_toWay 63 (.goto (-44)) 3 66 := ⟨by decide +kernel, rfl⟩
theorem dX4_toWay_66 : DD cX4_toWay 66 (.aconst_null) 1 67 := ⟨by decide +kernel, rfl⟩
theorem dX4_toWay_67 : DD cX4_toWay 67 (.areturn) 1 68 := ⟨by decide +kernel, rfl⟩
theorem dX4_takeRule_0 : DD cX4_takeRule 0 (.aload_n 0) 1 1 := ⟨by decide +kernel, rfl⟩
theorem dX4_takeRule_1 : DD cX4_takeRule 1 (.invokevirtual 41) 3 4 := ⟨by decide +kernel, rfl⟩
theorem dX4_takeRule_4 : DD cX4_takeRule 4 (.istore_n 2) 1 5 := ⟨by decide +kernel, rfl⟩
theorem dX4_takeRule_5 : DD cX4_takeRule 5 (.iload_n 2) 1 6 := ⟨by decide +kernel, rfl⟩
theorem dX4_takeRule_6 : DD cX4_takeRule 6 (.ifCond .ge 5) 3 9 := ⟨by decide +kernel, rfl⟩
theorem dX4_takeRule_9 : DD cX4_takeRule 9 (.iconst 0) 1 10 := ⟨by decide +kernel, rfl⟩
theorem dX4_takeRule_10 : DD cX4_takeRule 10 (.ireturn) 1 11 := ⟨by decide +kernel, rfl⟩
theorem dX4_takeRule_11 : DD cX4_takeRule 11 (.aload_n 0) 1 12 := ⟨by decide +kernel, rfl⟩
theorem dX4_takeRule_12 : DD cX4_takeRule 12 (.invokevirtual 34) 3 15 := ⟨by decide +kernel, rfl⟩
theorem dX4_takeRule_15 : DD cX4_takeRule 15 (.aload_n 0) 1 16 := ⟨by decide +kernel, rfl⟩
theorem dX4_takeRule_16 : DD cX4_takeRule 16 (.getfield 25) 3 19 := ⟨by decide +kernel, rfl⟩
theorem dX4_takeRule_19 : DD cX4_takeRule 19 (.istore_n 3) 1 20 := ⟨by decide +kernel, rfl⟩
theorem dX4_takeRule_20 : DD cX4_takeRule 20 (.iconst 0) 1 21 := ⟨by decide +kernel, rfl⟩
theorem dX4_takeRule_21 : DD cX4_takeRule 21 (.istore 4) 2 23 := ⟨by decide +kernel, rfl⟩
theorem dX4_takeRule_23 : DD cX4_takeRule 23 (.iload_n 2) 1 24 := ⟨by decide +kernel, rfl⟩
theorem dX4_takeRule_24 : DD cX4_takeRule 24 (.iconst 4) 1 25 := ⟨by decide +kernel, rfl⟩
theorem dX4_takeRule_25 : DD cX4_takeRule 25 (.if_icmp .eq 18) 3 28 := ⟨by decide +kernel, rfl⟩
theorem dX4_takeRule_28 : DD cX4_takeRule 28 (.aload_n 0) 1 29 := ⟨by decide +kernel, rfl⟩
theorem dX4_takeRule_29 : DD cX4_takeRule 29 (.invokevirtual 45) 3 32 := ⟨by decide +kernel, rfl⟩
theorem dX4_takeRule_32 : DD cX4_takeRule 32 (.ifCond .ne 5) 3 35 := ⟨by decide +kernel, rfl⟩
theorem dX4_takeRule_35 : DD cX4_takeRule 35 (.iconst 0) 1 36 := ⟨by decide +kernel, rfl⟩
theorem dX4_takeRule_36 : DD cX4_takeRule 36 (.ireturn) 1 37 := ⟨by decide +kernel, rfl⟩
theorem dX4_takeRule_37 : DD cX4_takeRule 37 (.aload_n 0) 1 38 := ⟨by decide +kernel, rfl⟩
theorem dX4_takeRule_38 : DD cX4_takeRule 38 (.getfield 28) 3 41 := ⟨by decide +kernel, rfl⟩
theorem dX4_takeRule_41 : DD cX4_takeRule 41 (.istore 4) 2 43 := ⟨by decide +kernel, rfl⟩
theorem dX4_takeRule_43 : DD cX4_takeRule 43 (.aload_n 0) 1 44 := ⟨by decide +kernel, rfl⟩
theorem dX4_takeRule_44 : DD cX4_takeRule 44 (.getfield 25) 3 47 := ⟨by decide +kernel, rfl⟩
theorem dX4_takeRule_47 : DD cX4_takeRule 47 (.bipush 58) 2 49 := ⟨by decide +kernel, rfl⟩
theorem dX4_takeRule_49 : DD cX4_takeRule 49 (.if_icmp .eq 5) 3 52 := ⟨by decide +kernel, rfl⟩
theorem dX4_takeRule_52 : DD cX4_takeRule 52 (.iconst 0) 1 53 := ⟨by decide +kernel, rfl⟩
theorem dX4_takeRule_53 : DD cX4_takeRule 53 (.ireturn) 1 54 := ⟨by decide +kernel, rfl⟩
theorem dX4_takeRule_54 : DD cX4_takeRule 54 (.aload_n 0) 1 55 := ⟨by decide +kernel, rfl⟩
theorem dX4_takeRule_55 : DD cX4_takeRule 55 (.invokevirtual 34) 3 58 := ⟨by decide +kernel, rfl⟩
theorem dX4_takeRule_58 : DD cX4_takeRule 58 (.aload_n 0) 1 59 := ⟨by decide +kernel, rfl⟩
theorem dX4_takeRule_59 : DD cX4_takeRule 59 (.invokevirtual 49) 3 62 := ⟨by decide +kernel, rfl⟩
theorem dX4_takeRule_62 : DD cX4_takeRule 62 (.istore 5) 2 64 := ⟨by decide +kernel, rfl⟩
theorem dX4_takeRule_64 : DD cX4_takeRule 64 (.iload 5) 2 66 := ⟨by decide +kernel, rfl⟩
theorem dX4_takeRule_66 : DD cX4_takeRule 66 (.ifCond .ge 5) 3 69 := ⟨by decide +kernel, rfl⟩
theorem dX4_takeRule_69 : DD cX4_takeRule 69 (.iconst 0) 1 70 := ⟨by decide +kernel, rfl⟩
theorem dX4_takeRule_70 : DD cX4_takeRule 70 (.ireturn) 1 71 := ⟨by decide +kernel, rfl⟩
theorem dX4_takeRule_71 : DD cX4_takeRule 71 (.aload_n 0) 1 72 := ⟨by decide +kernel, rfl⟩
theorem dX4_takeRule_72 : DD cX4_takeRule 72 (.invokevirtual 34) 3 75 := ⟨by decide +kernel, rfl⟩
theorem dX4_takeRule_75 : DD cX4_takeRule 75 (.aload_n 1) 1 76 := ⟨by decide +kernel, rfl⟩
theorem dX4_takeRule_76 : DD cX4_takeRule 76 (.iload_n 2) 1 77 := ⟨by decide +kernel, rfl⟩
theorem dX4_takeRule_77 : DD cX4_takeRule 77 (.iload_n 3) 1 78 := ⟨by decide +kernel, rfl⟩
theorem dX4_takeRule_78 : DD cX4_takeRule 78 (.iload 4) 2 80 := ⟨by decide +kernel, rfl⟩
theorem dX4_takeRule_80 : DD cX4_takeRule 80 (.iload 5) 2 82 := ⟨by decide +kernel, rfl⟩
theorem dX4_takeRule_82 : DD cX4_takeRule 82 (.invokevirtual 52) 3 85 := ⟨by decide +kernel, rfl⟩
theorem dX4_takeRule_85 : DD cX4_takeRule 85 (.iconst 1) 1 86 := ⟨by decide +kernel, rfl⟩
theorem dX4_takeRule_86 : DD cX4_takeRule 86 (.ireturn) 1 87 := ⟨by decide +kernel, rfl⟩
theorem dX4_takeComparison_0 : DD cX4_takeComparison 0 (.aload_n 0) 1 1 := ⟨by decide +kernel, rfl⟩
theorem dX4_takeComparison_1 : DD cX4_takeComparison 1 (.getfield 25) 3 4 := ⟨by decide +kernel, rfl⟩
theorem dX4_takeComparison_4 : DD cX4_takeComparison 4 (.bipush 60) 2 6 := ⟨by decide +kernel, rfl⟩
theorem dX4_takeComparison_6 : DD cX4_takeComparison 6 (.if_icmp .eq 14) 3 9 := ⟨by decide +kernel, rfl⟩
theorem dX4_takeComparison_9 : DD cX4_takeComparison 9 (.aload_n 0) 1 10 := ⟨by decide +kernel, rfl⟩
theorem dX4_takeComparison_10 : DD cX4_takeComparison 10 (.getfield 25) 3 13 := ⟨by decide +kernel, rfl⟩
theorem dX4_takeComparison_13 : DD cX4_takeComparison 13 (.bipush 62) 2 15 := ⟨by decide +kernel, rfl⟩
theorem dX4_takeComparison_15 : DD cX4_takeComparison 15 (.if_icmp .eq 5) 3 18 := ⟨by decide +kernel, rfl⟩
theorem dX4_takeComparison_18 : DD cX4_takeComparison 18 (.iconst 0) 1 19 := ⟨by decide +kernel, rfl⟩
theorem dX4_takeComparison_19 : DD cX4_takeComparison 19 (.ireturn) 1 20 := ⟨by decide +kernel, rfl⟩
theorem dX4_takeComparison_20 : DD cX4_takeComparison 20 (.aload_n 0) 1 21 := ⟨by decide +kernel, rfl⟩
theorem dX4_takeComparison_21 : DD cX4_takeComparison 21 (.invokevirtual 34) 3 24 := ⟨by decide +kernel, rfl⟩
theorem dX4_takeComparison_24 : DD cX4_takeComparison 24 (.aload_n 0) 1 25 := ⟨by decide +kernel, rfl⟩
theorem dX4_takeComparison_25 : DD cX4_takeComparison 25 (.getfield 25) 3 28 := ⟨by decide +kernel, rfl⟩
theorem dX4_takeComparison_28 : DD cX4_takeComparison 28 (.bipush 45) 2 30 := ⟨by decide +kernel, rfl⟩
theorem dX4_takeComparison_30 : DD cX4_takeComparison 30 (.if_icmp .ne 7) 3 33 := ⟨by decide +kernel, rfl⟩
theorem dX4_takeComparison_33 : DD cX4_takeComparison 33 (.iconst 1) 1 34 := ⟨by decide +kernel, rfl⟩
theorem dX4_takeComparison_34 : DD cX4_takeComparison 34 (.goto 4) 3 37 := ⟨by decide +kernel, rfl⟩
theorem dX4_takeComparison_37 : DD cX4_takeComparison 37 (.iconst 0) 1 38 := ⟨by decide +kernel, rfl⟩
theorem dX4_takeComparison_38 : DD cX4_takeComparison 38 (.istore_n 1) 1 39 := ⟨by decide +kernel, rfl⟩
theorem dX4_takeComparison_39 : DD cX4_takeComparison 39 (.iload_n 1) 1 40 := ⟨by decide +kernel, rfl⟩
theorem dX4_takeComparison_40 : DD cX4_takeComparison 40 (.ifCond .eq 7) 3 43 := ⟨by decide +kernel, rfl⟩
theorem dX4_takeComparison_43 : DD cX4_takeComparison 43 (.aload_n 0) 1 44 := ⟨by decide +kernel, rfl⟩
theorem dX4_takeComparison_44 : DD cX4_takeComparison 44 (.invokevirtual 34) 3 47 := ⟨by decide +kernel, rfl⟩
theorem dX4_takeComparison_47 : DD cX4_takeComparison 47 (.aload_n 0) 1 48 := ⟨by decide +kernel, rfl⟩
theorem dX4_takeComparison_48 : DD cX4_takeComparison 48 (.getfield 25) 3 51 := ⟨by decide +kernel, rfl⟩
theorem dX4_takeComparison_51 : DD cX4_takeComparison 51 (.bipush (-3)) 2 53 := ⟨by decide +kernel, rfl⟩
theorem dX4_takeComparison_53 : DD cX4_takeComparison 53 (.if_icmp .eq 5) 3 56 := ⟨by decide +kernel, rfl⟩
theorem dX4_takeComparison_56 : DD cX4_takeComparison 56 (.iconst 0) 1 57 := ⟨by decide +kernel, rfl⟩
theorem dX4_takeComparison_57 : DD cX4_takeComparison 57 (.ireturn) 1 58 := ⟨by decide +kernel, rfl⟩
theorem dX4_takeComparison_58 : DD cX4_takeComparison 58 (.iload_n 1) 1 59 := ⟨by decide +kernel, rfl⟩
theorem dX4_takeComparison_59 : DD cX4_takeComparison 59 (.ifCond .eq 11) 3 62 := ⟨by decide +kernel, rfl⟩
theorem dX4_takeComparison_62 : DD cX4_takeComparison 62 (.aload_n 0) 1 63 := ⟨by decide +kernel, rfl⟩
theorem dX4_takeComparison_63 : DD cX4_takeComparison 63 (.getfield 28) 3 66 := ⟨by decide +kernel, rfl⟩
theorem dX4_takeComparison_66 : DD cX4_takeComparison 66 (.ineg) 1 67 := ⟨by decide +kernel, rfl⟩
theorem dX4_takeComparison_67 : DD cX4_takeComparison 67 (.goto 7) 3 70 := ⟨by decide +kernel, rfl⟩
theorem dX4_takeComparison_70 : DD cX4_takeComparison 70 (.aload_n 0) 1 71 := ⟨by decide +kernel, rfl⟩
theorem dX4_takeComparison_71 : DD cX4_takeComparison 71 (.getfield 28) 3 74 := ⟨by decide +kernel, rfl⟩
theorem dX4_takeComparison_74 : DD cX4_takeComparison 74 (.istore_n 2) 1 75 := ⟨by decide +kernel, rfl⟩
theorem dX4_takeComparison_75 : DD cX4_takeComparison 75 (.aload_n 0) 1 76 := ⟨by decide +kernel, rfl⟩
theorem dX4_takeComparison_76 : DD cX4_takeComparison 76 (.invokevirtual 34) 3 79 := ⟨by decide +kernel, rfl⟩
theorem dX4_takeComparison_79 : DD cX4_takeComparison 79 (.aload_n 0) 1 80 := ⟨by decide +kernel, rfl⟩
theorem dX4_takeComparison_80 : DD cX4_takeComparison 80 (.iload_n 2) 1 81 := ⟨by decide +kernel, rfl⟩
theorem dX4_takeComparison_81 : DD cX4_takeComparison 81 (.putfield 28) 3 84 := ⟨by decide +kernel, rfl⟩
theorem dX4_takeComparison_84 : DD cX4_takeComparison 84 (.iconst 1) 1 85 := ⟨by decide +kernel, rfl⟩
theorem dX4_takeComparison_85 : DD cX4_takeComparison 85 (.ireturn) 1 86 := ⟨by decide +kernel, rfl⟩
theorem dX4_nextToken_0 : DD cX4_nextToken 0 (.aload_n 0) 1 1 := ⟨by decide +kernel, rfl⟩
theorem dX4_nextToken_1 : DD cX4_nextToken 1 (.aload_n 0) 1 2 := ⟨by decide +kernel, rfl⟩
theorem dX4_nextToken_2 : DD cX4_nextToken 2 (.getfield 22) 3 5 := ⟨by decide +kernel, rfl⟩
theorem dX4_nextToken_5 : DD cX4_nextToken 5 (.putfield 19) 3 8 := ⟨by decide +kernel, rfl⟩
theorem dX4_nextToken_8 : DD cX4_nextToken 8 (.aload_n 0) 1 9 := ⟨by decide +kernel, rfl⟩
theorem dX4_nextToken_9 : DD cX4_nextToken 9 (.getfield 19) 3 12 := ⟨by decide +kernel, rfl⟩
theorem dX4_nextToken_12 : DD cX4_nextToken 12 (.aload_n 0) 1 13 := ⟨by decide +kernel, rfl⟩
theorem dX4_nextToken_13 : DD cX4_nextToken 13 (.getfield 15) 3 16 := ⟨by decide +kernel, rfl⟩
theorem dX4_nextToken_16 : DD cX4_nextToken 16 (.if_icmp .ge 30) 3 19 := ⟨by decide +kernel, rfl⟩
theorem dX4_nextToken_19 : DD cX4_nextToken 19 (.aload_n 0) 1 20 := ⟨by decide +kernel, rfl⟩
theorem dX4_nextToken_20 : DD cX4_nextToken 20 (.getfield 9) 3 23 := ⟨by decide +kernel, rfl⟩
theorem dX4_nextToken_23 : DD cX4_nextToken 23 (.aload_n 0) 1 24 := ⟨by decide +kernel, rfl⟩
theorem dX4_nextToken_24 : DD cX4_nextToken 24 (.getfield 19) 3 27 := ⟨by decide +kernel, rfl⟩
theorem dX4_nextToken_27 : DD cX4_nextToken 27 (.iaload) 1 28 := ⟨by decide +kernel, rfl⟩
theorem dX4_nextToken_28 : DD cX4_nextToken 28 (.bipush 32) 2 30 := ⟨by decide +kernel, rfl⟩
theorem dX4_nextToken_30 : DD cX4_nextToken 30 (.if_icmp .ne 16) 3 33 := ⟨by decide +kernel, rfl⟩
theorem dX4_nextToken_33 : DD cX4_nextToken 33 (.aload_n 0) 1 34 := ⟨by decide +kernel, rfl⟩
theorem dX4_nextToken_34 : DD cX4_nextToken 34 (.dup) 1 35 := ⟨by decide +kernel, rfl⟩
theorem dX4_nextToken_35 : DD cX4_nextToken 35 (.getfield 19) 3 38 := ⟨by decide +kernel, rfl⟩
theorem dX4_nextToken_38 : DD cX4_nextToken 38 (.iconst 1) 1 39 := ⟨by decide +kernel, rfl⟩
theorem dX4_nextToken_39 : DD cX4_nextToken 39 (.iadd) 1 40 := ⟨by decide +kernel, rfl⟩
theorem dX4_nextToken_40 : DD cX4_nextToken 40 (.putfield 19) 3 43 := ⟨by decide +kernel, rfl⟩
theorem dX4_nextToken_43 : DD cX4_nextToken 43 (.goto (-35)) 3 46 := ⟨by decide +kernel, rfl⟩
theorem dX4_nextToken_46 : DD cX4_nextToken 46 (.aload_n 0) 1 47 := ⟨by decide +kernel, rfl⟩
theorem dX4_nextToken_47 : DD cX4_nextToken 47 (.aload_n 0) 1 48 := ⟨by decide +kernel, rfl⟩
theorem dX4_nextToken_48 : DD cX4_nextToken 48 (.getfield 19) 3 51 := ⟨by decide +kernel, rfl⟩
theorem dX4_nextToken_51 : DD cX4_nextToken 51 (.putfield 22) 3 54 := ⟨by decide +kernel, rfl⟩
theorem dX4_nextToken_54 : DD cX4_nextToken 54 (.aload_n 0) 1 55 := ⟨by decide +kernel, rfl⟩
theorem dX4_nextToken_55 : DD cX4_nextToken 55 (.getfield 19) 3 58 := ⟨by decide +kernel, rfl⟩
theorem dX4_nextToken_58 : DD cX4_nextToken 58 (.aload_n 0) 1 59 := ⟨by decide +kernel, rfl⟩
theorem dX4_nextToken_59 : DD cX4_nextToken 59 (.getfield 15) 3 62 := ⟨by decide +kernel, rfl⟩
theorem dX4_nextToken_62 : DD cX4_nextToken 62 (.if_icmp .lt 11) 3 65 := ⟨by decide +kernel, rfl⟩
theorem dX4_nextToken_65 : DD cX4_nextToken 65 (.aload_n 0) 1 66 := ⟨by decide +kernel, rfl⟩
theorem dX4_nextToken_66 : DD cX4_nextToken 66 (.iconst (-1)) 1 67 := ⟨by decide +kernel, rfl⟩
theorem dX4_nextToken_67 : DD cX4_nextToken 67 (.putfield 25) 3 70 := ⟨by decide +kernel, rfl⟩
theorem dX4_nextToken_70 : DD cX4_nextToken 70 (.goto 90) 3 73 := ⟨by decide +kernel, rfl⟩
theorem dX4_nextToken_73 : DD cX4_nextToken 73 (.aload_n 0) 1 74 := ⟨by decide +kernel, rfl⟩
theorem dX4_nextToken_74 : DD cX4_nextToken 74 (.getfield 9) 3 77 := ⟨by decide +kernel, rfl⟩
theorem dX4_nextToken_77 : DD cX4_nextToken 77 (.aload_n 0) 1 78 := ⟨by decide +kernel, rfl⟩
theorem dX4_nextToken_78 : DD cX4_nextToken 78 (.getfield 19) 3 81 := ⟨by decide +kernel, rfl⟩
theorem dX4_nextToken_81 : DD cX4_nextToken 81 (.iaload) 1 82 := ⟨by decide +kernel, rfl⟩
theorem dX4_nextToken_82 : DD cX4_nextToken 82 (.invokestatic 56) 3 85 := ⟨by decide +kernel, rfl⟩
theorem dX4_nextToken_85 : DD cX4_nextToken 85 (.ifCond .eq 10) 3 88 := ⟨by decide +kernel, rfl⟩
theorem dX4_nextToken_88 : DD cX4_nextToken 88 (.aload_n 0) 1 89 := ⟨by decide +kernel, rfl⟩
theorem dX4_nextToken_89 : DD cX4_nextToken 89 (.invokevirtual 60) 3 92 := ⟨by decide +kernel, rfl⟩
theorem dX4_nextToken_92 : DD cX4_nextToken 92 (.goto 68) 3 95 := ⟨by decide +kernel, rfl⟩
theorem dX4_nextToken_95 : DD cX4_nextToken 95 (.aload_n 0) 1 96 := ⟨by decide +kernel, rfl⟩
theorem dX4_nextToken_96 : DD cX4_nextToken 96 (.getfield 9) 3 99 := ⟨by decide +kernel, rfl⟩
theorem dX4_nextToken_99 : DD cX4_nextToken 99 (.aload_n 0) 1 100 := ⟨by decide +kernel, rfl⟩
theorem dX4_nextToken_100 : DD cX4_nextToken 100 (.getfield 19) 3 103 := ⟨by decide +kernel, rfl⟩
theorem dX4_nextToken_103 : DD cX4_nextToken 103 (.iaload) 1 104 := ⟨by decide +kernel, rfl⟩
theorem dX4_nextToken_104 : DD cX4_nextToken 104 (.invokestatic 63) 3 107 := ⟨by decide +kernel, rfl⟩
theorem dX4_nextToken_107 : DD cX4_nextToken 107 (.ifCond .eq 10) 3 110 := ⟨by decide +kernel, rfl⟩
theorem dX4_nextToken_110 : DD cX4_nextToken 110 (.aload_n 0) 1 111 := ⟨by decide +kernel, rfl⟩
theorem dX4_nextToken_111 : DD cX4_nextToken 111 (.invokevirtual 66) 3 114 := ⟨by decide +kernel, rfl⟩
theorem dX4_nextToken_114 : DD cX4_nextToken 114 (.goto 46) 3 117 := ⟨by decide +kernel, rfl⟩
theorem dX4_nextToken_117 : DD cX4_nextToken 117 (.aload_n 0) 1 118 := ⟨by decide +kernel, rfl⟩
theorem dX4_nextToken_118 : DD cX4_nextToken 118 (.aload_n 0) 1 119 := ⟨by decide +kernel, rfl⟩
theorem dX4_nextToken_119 : DD cX4_nextToken 119 (.getfield 9) 3 122 := ⟨by decide +kernel, rfl⟩
theorem dX4_nextToken_122 : DD cX4_nextToken 122 (.aload_n 0) 1 123 := ⟨by decide +kernel, rfl⟩
theorem dX4_nextToken_123 : DD cX4_nextToken 123 (.getfield 19) 3 126 := ⟨by decide +kernel, rfl⟩
theorem dX4_nextToken_126 : DD cX4_nextToken 126 (.iaload) 1 127 := ⟨by decide +kernel, rfl⟩
theorem dX4_nextToken_127 : DD cX4_nextToken 127 (.invokestatic 69) 3 130 := ⟨by decide +kernel, rfl⟩
theorem dX4_nextToken_130 : DD cX4_nextToken 130 (.ifCond .eq 15) 3 133 := ⟨by decide +kernel, rfl⟩
theorem dX4_nextToken_133 : DD cX4_nextToken 133 (.aload_n 0) 1 134 := ⟨by decide +kernel, rfl⟩
theorem dX4_nextToken_134 : DD cX4_nextToken 134 (.getfield 9) 3 137 := ⟨by decide +kernel, rfl⟩
theorem dX4_nextToken_137 : DD cX4_nextToken 137 (.aload_n 0) 1 138 := ⟨by decide +kernel, rfl⟩
theorem dX4_nextToken_138 : DD cX4_nextToken 138 (.getfield 19) 3 141 := ⟨by decide +kernel, rfl⟩
theorem dX4_nextToken_141 : DD cX4_nextToken 141 (.iaload) 1 142 := ⟨by decide +kernel, rfl⟩
theorem dX4_nextToken_142 : DD cX4_nextToken 142 (.goto 5) 3 145 := ⟨by decide +kernel, rfl⟩
theorem dX4_nextToken_145 : DD cX4_nextToken 145 (.bipush (-4)) 2 147 := ⟨by decide +kernel, rfl⟩
theorem dX4_nextToken_147 : DD cX4_nextToken 147 (.putfield 25) 3 150 := ⟨by decide +kernel, rfl⟩
theorem dX4_nextToken_150 : DD cX4_nextToken 150 (.aload_n 0) 1 151 := ⟨by decide +kernel, rfl⟩
theorem dX4_nextToken_151 : DD cX4_nextToken 151 (.aload_n 0) 1 152 := ⟨by decide +kernel, rfl⟩
theorem dX4_nextToken_152 : DD cX4_nextToken 152 (.getfield 19) 3 155 := ⟨by decide +kernel, rfl⟩
theorem dX4_nextToken_155 : DD cX4_nextToken 155 (.iconst 1) 1 156 := ⟨by decide +kernel, rfl⟩
theorem dX4_nextToken_156 : DD cX4_nextToken 156 (.iadd) 1 157 := ⟨by decide +kernel, rfl⟩
theorem dX4_nextToken_157 : DD cX4_nextToken 157 (.putfield 22) 3 160 := ⟨by decide +kernel, rfl⟩
theorem dX4_nextToken_160 : DD cX4_nextToken 160 (.return_) 1 161 := ⟨by decide +kernel, rfl⟩
theorem dX4_takeWord_0 : DD cX4_takeWord 0 (.aload_n 0) 1 1 := ⟨by decide +kernel, rfl⟩
theorem dX4_takeWord_1 : DD cX4_takeWord 1 (.getfield 22) 3 4 := ⟨by decide +kernel, rfl⟩
theorem dX4_takeWord_4 : DD cX4_takeWord 4 (.aload_n 0) 1 5 := ⟨by decide +kernel, rfl⟩
theorem dX4_takeWord_5 : DD cX4_takeWord 5 (.getfield 15) 3 8 := ⟨by decide +kernel, rfl⟩
theorem dX4_takeWord_8 : DD cX4_takeWord 8 (.if_icmp .ge 31) 3 11 := ⟨by decide +kernel, rfl⟩
theorem dX4_takeWord_11 : DD cX4_takeWord 11 (.aload_n 0) 1 12 := ⟨by decide +kernel, rfl⟩
theorem dX4_takeWord_12 : DD cX4_takeWord 12 (.getfield 9) 3 15 := ⟨by decide +kernel, rfl⟩
theorem dX4_takeWord_15 : DD cX4_takeWord 15 (.aload_n 0) 1 16 := ⟨by decide +kernel, rfl⟩
theorem dX4_takeWord_16 : DD cX4_takeWord 16 (.getfield 22) 3 19 := ⟨by decide +kernel, rfl⟩
theorem dX4_takeWord_19 : DD cX4_takeWord 19 (.iaload) 1 20 := ⟨by decide +kernel, rfl⟩
theorem dX4_takeWord_20 : DD cX4_takeWord 20 (.invokestatic 56) 3 23 := ⟨by decide +kernel, rfl⟩
theorem dX4_takeWord_23 : DD cX4_takeWord 23 (.ifCond .eq 16) 3 26 := ⟨by decide +kernel, rfl⟩
theorem dX4_takeWord_26 : DD cX4_takeWord 26 (.aload_n 0) 1 27 := ⟨by decide +kernel, rfl⟩
theorem dX4_takeWord_27 : DD cX4_takeWord 27 (.dup) 1 28 := ⟨by decide +kernel, rfl⟩
theorem dX4_takeWord_28 : DD cX4_takeWord 28 (.getfield 22) 3 31 := ⟨by decide +kernel, rfl⟩
theorem dX4_takeWord_31 : DD cX4_takeWord 31 (.iconst 1) 1 32 := ⟨by decide +kernel, rfl⟩
theorem dX4_takeWord_32 : DD cX4_takeWord 32 (.iadd) 1 33 := ⟨by decide +kernel, rfl⟩
theorem dX4_takeWord_33 : DD cX4_takeWord 33 (.putfield 22) 3 36 := ⟨by decide +kernel, rfl⟩
theorem dX4_takeWord_36 : DD cX4_takeWord 36 (.goto (-36)) 3 39 := ⟨by decide +kernel, rfl⟩
theorem dX4_takeWord_39 : DD cX4_takeWord 39 (.aload_n 0) 1 40 := ⟨by decide +kernel, rfl⟩
theorem dX4_takeWord_40 : DD cX4_takeWord 40 (.bipush (-2)) 2 42 := ⟨by decide +kernel, rfl⟩
theorem dX4_takeWord_42 : DD cX4_takeWord 42 (.putfield 25) 3 45 := ⟨by decide +kernel, rfl⟩
theorem dX4_takeWord_45 : DD cX4_takeWord 45 (.return_) 1 46 := ⟨by decide +kernel, rfl⟩
theorem dX4_takeNumber_0 : DD cX4_takeNumber 0 (.iconst 0) 1 1 := ⟨by decide +kernel, rfl⟩
theorem dX4_takeNumber_1 : DD cX4_takeNumber 1 (.istore_n 1) 1 2 := ⟨by decide +kernel, rfl⟩
theorem dX4_takeNumber_2 : DD cX4_takeNumber 2 (.aload_n 0) 1 3 := ⟨by decide +kernel, rfl⟩
theorem dX4_takeNumber_3 : DD cX4_takeNumber 3 (.getfield 22) 3 6 := ⟨by decide +kernel, rfl⟩
theorem dX4_takeNumber_6 : DD cX4_takeNumber 6 (.aload_n 0) 1 7 := ⟨by decide +kernel, rfl⟩
theorem dX4_takeNumber_7 : DD cX4_takeNumber 7 (.getfield 15) 3 10 := ⟨by decide +kernel, rfl⟩
theorem dX4_takeNumber_10 : DD cX4_takeNumber 10 (.if_icmp .ge 55) 3 13 := ⟨by decide +kernel, rfl⟩
theorem dX4_takeNumber_13 : DD cX4_takeNumber 13 (.aload_n 0) 1 14 := ⟨by decide +kernel, rfl⟩
theorem dX4_takeNumber_14 : DD cX4_takeNumber 14 (.getfield 9) 3 17 := ⟨by decide +kernel, rfl⟩
theorem dX4_takeNumber_17 : DD cX4_takeNumber 17 (.aload_n 0) 1 18 := ⟨by decide +kernel, rfl⟩
theorem dX4_takeNumber_18 : DD cX4_takeNumber 18 (.getfield 22) 3 21 := ⟨by decide +kernel, rfl⟩
theorem dX4_takeNumber_21 : DD cX4_takeNumber 21 (.iaload) 1 22 := ⟨by decide +kernel, rfl⟩
theorem dX4_takeNumber_22 : DD cX4_takeNumber 22 (.invokestatic 63) 3 25 := ⟨by decide +kernel, rfl⟩
theorem dX4_takeNumber_25 : DD cX4_takeNumber 25 (.ifCond .eq 40) 3 28 := ⟨by decide +kernel, rfl⟩
theorem dX4_takeNumber_28 : DD cX4_takeNumber 28 (.iload_n 1) 1 29 := ⟨by decide +kernel, rfl⟩
theorem dX4_takeNumber_29 : DD cX4_takeNumber 29 (.bipush 10) 2 31 := ⟨by decide +kernel, rfl⟩
theorem dX4_takeNumber_31 : DD cX4_takeNumber 31 (.imul) 1 32 := ⟨by decide +kernel, rfl⟩
theorem dX4_takeNumber_32 : DD cX4_takeNumber 32 (.aload_n 0) 1 33 := ⟨by decide +kernel, rfl⟩
theorem dX4_takeNumber_33 : DD cX4_takeNumber 33 (.getfield 9) 3 36 := ⟨by decide +kernel, rfl⟩
theorem dX4_takeNumber_36 : DD cX4_takeNumber 36 (.aload_n 0) 1 37 := ⟨by decide +kernel, rfl⟩
theorem dX4_takeNumber_37 : DD cX4_takeNumber 37 (.getfield 22) 3 40 := ⟨by decide +kernel, rfl⟩
theorem dX4_takeNumber_40 : DD cX4_takeNumber 40 (.iaload) 1 41 := ⟨by decide +kernel, rfl⟩
theorem dX4_takeNumber_41 : DD cX4_takeNumber 41 (.iadd) 1 42 := ⟨by decide +kernel, rfl⟩
theorem dX4_takeNumber_42 : DD cX4_takeNumber 42 (.bipush 48) 2 44 := ⟨by decide +kernel, rfl⟩
theorem dX4_takeNumber_44 : DD cX4_takeNumber 44 (.isub) 1 45 := ⟨by decide +kernel, rfl⟩
theorem dX4_takeNumber_45 : DD cX4_takeNumber 45 (.sipush 1000) 3 48 := ⟨by decide +kernel, rfl⟩
theorem dX4_takeNumber_48 : DD cX4_takeNumber 48 (.invokestatic 72) 3 51 := ⟨by decide +kernel, rfl⟩
theorem dX4_takeNumber_51 : DD cX4_takeNumber 51 (.istore_n 1) 1 52 := ⟨by decide +kernel, rfl⟩
theorem dX4_takeNumber_52 : DD cX4_takeNumber 52 (.aload_n 0) 1 53 := ⟨by decide +kernel, rfl⟩
theorem dX4_takeNumber_53 : DD cX4_takeNumber 53 (.dup) 1 54 := ⟨by decide +kernel, rfl⟩
theorem dX4_takeNumber_54 : DD cX4_takeNumber 54 (.getfield 22) 3 57 := ⟨by decide +kernel, rfl⟩
theorem dX4_takeNumber_57 : DD cX4_takeNumber 57 (.iconst 1) 1 58 := ⟨by decide +kernel, rfl⟩
theorem dX4_takeNumber_58 : DD cX4_takeNumber 58 (.iadd) 1 59 := ⟨by decide +kernel, rfl⟩
theorem dX4_takeNumber_59 : DD cX4_takeNumber 59 (.putfield 22) 3 62 := ⟨by decide +kernel, rfl⟩
theorem dX4_takeNumber_62 : DD cX4_takeNumber 62 (.goto (-60)) 3 65 := ⟨by decide +kernel, rfl⟩
theorem dX4_takeNumber_65 : DD cX4_takeNumber 65 (.aload_n 0) 1 66 := ⟨by decide +kernel, rfl⟩
theorem dX4_takeNumber_66 : DD cX4_takeNumber 66 (.iload_n 1) 1 67 := ⟨by decide +kernel, rfl⟩
theorem dX4_takeNumber_67 : DD cX4_takeNumber 67 (.putfield 28) 3 70 := ⟨by decide +kernel, rfl⟩
theorem dX4_takeNumber_70 : DD cX4_takeNumber 70 (.aload_n 0) 1 71 := ⟨by decide +kernel, rfl⟩
theorem dX4_takeNumber_71 : DD cX4_takeNumber 71 (.iload_n 1) 1 72 := ⟨by decide +kernel, rfl⟩
theorem dX4_takeNumber_72 : DD cX4_takeNumber 72 (.sipush 999) 3 75 := ⟨by decide +kernel, rfl⟩
theorem dX4_takeNumber_75 : DD cX4_takeNumber 75 (.if_icmp .le 8) 3 78 := ⟨by decide +kernel, rfl⟩
theorem dX4_takeNumber_78 : DD cX4_takeNumber 78 (.bipush (-4)) 2 80 := ⟨by decide +kernel, rfl⟩
theorem dX4_takeNumber_80 : DD cX4_takeNumber 80 (.goto 5) 3 83 := ⟨by decide +kernel, rfl⟩
theorem dX4_takeNumber_83 : DD cX4_takeNumber 83 (.bipush (-3)) 2 85 := ⟨by decide +kernel, rfl⟩
theorem dX4_takeNumber_85 : DD cX4_takeNumber 85 (.putfield 25) 3 88 := ⟨by decide +kernel, rfl⟩
theorem dX4_takeNumber_88 : DD cX4_takeNumber 88 (.return_) 1 89 := ⟨by decide +kernel, rfl⟩
theorem dX4_isLetter_0 : DD cX4_isLetter 0 (.iload_n 0) 1 1 := ⟨by decide +kernel, rfl⟩
theorem dX4_isLetter_1 : DD cX4_isLetter 1 (.bipush 97) 2 3 := ⟨by decide +kernel, rfl⟩
theorem dX4_isLetter_3 : DD cX4_isLetter 3 (.if_icmp .lt 13) 3 6 := ⟨by decide +kernel, rfl⟩
theorem dX4_isLetter_6 : DD cX4_isLetter 6 (.iload_n 0) 1 7 := ⟨by decide +kernel, rfl⟩
theorem dX4_isLetter_7 : DD cX4_isLetter 7 (.bipush 122) 2 9 := ⟨by decide +kernel, rfl⟩
theorem dX4_isLetter_9 : DD cX4_isLetter 9 (.if_icmp .gt 7) 3 12 := ⟨by decide +kernel, rfl⟩
theorem dX4_isLetter_12 : DD cX4_isLetter 12 (.iconst 1) 1 13 := ⟨by decide +kernel, rfl⟩
theorem dX4_isLetter_13 : DD cX4_isLetter 13 (.goto 4) 3 16 := ⟨by decide +kernel, rfl⟩
theorem dX4_isLetter_16 : DD cX4_isLetter 16 (.iconst 0) 1 17 := ⟨by decide +kernel, rfl⟩
theorem dX4_isLetter_17 : DD cX4_isLetter 17 (.ireturn) 1 18 := ⟨by decide +kernel, rfl⟩
theorem dX4_isDigit_0 : DD cX4_isDigit 0 (.iload_n 0) 1 1 := ⟨by decide +kernel, rfl⟩
theorem dX4_isDigit_1 : DD cX4_isDigit 1 (.bipush 48) 2 3 := ⟨by decide +kernel, rfl⟩
theorem dX4_isDigit_3 : DD cX4_isDigit 3 (.if_icmp .lt 13) 3 6 := ⟨by decide +kernel, rfl⟩
theorem dX4_isDigit_6 : DD cX4_isDigit 6 (.iload_n 0) 1 7 := ⟨by decide +kernel, rfl⟩
theorem dX4_isDigit_7 : DD cX4_isDigit 7 (.bipush 57) 2 9 := ⟨by decide +kernel, rfl⟩
theorem dX4_isDigit_9 : DD cX4_isDigit 9 (.if_icmp .gt 7) 3 12 := ⟨by decide +kernel, rfl⟩
theorem dX4_isDigit_12 : DD cX4_isDigit 12 (.iconst 1) 1 13 := ⟨by decide +kernel, rfl⟩
theorem dX4_isDigit_13 : DD cX4_isDigit 13 (.goto 4) 3 16 := ⟨by decide +kernel, rfl⟩
theorem dX4_isDigit_16 : DD cX4_isDigit 16 (.iconst 0) 1 17 := ⟨by decide +kernel, rfl⟩
theorem dX4_isDigit_17 : DD cX4_isDigit 17 (.ireturn) 1 18 := ⟨by decide +kernel, rfl⟩
theorem dX4_isSign_0 : DD cX4_isSign 0 (.iload_n 0) 1 1 := ⟨by decide +kernel, rfl⟩
theorem dX4_isSign_1 : DD cX4_isSign 1 (.bipush 60) 2 3 := ⟨by decide +kernel, rfl⟩
theorem dX4_isSign_3 : DD cX4_isSign 3 (.if_icmp .eq 27) 3 6 := ⟨by decide +kernel, rfl⟩
theorem dX4_isSign_6 : DD cX4_isSign 6 (.iload_n 0) 1 7 := ⟨by decide +kernel, rfl⟩
theorem dX4_isSign_7 : DD cX4_isSign 7 (.bipush 62) 2 9 := ⟨by decide +kernel, rfl⟩
theorem dX4_isSign_9 : DD cX4_isSign 9 (.if_icmp .eq 21) 3 12 := ⟨by decide +kernel, rfl⟩
theorem dX4_isSign_12 : DD cX4_isSign 12 (.iload_n 0) 1 13 := ⟨by decide +kernel, rfl⟩
theorem dX4_isSign_13 : DD cX4_isSign 13 (.bipush 45) 2 15 := ⟨by decide +kernel, rfl⟩
theorem dX4_isSign_15 : DD cX4_isSign 15 (.if_icmp .eq 15) 3 18 := ⟨by decide +kernel, rfl⟩
theorem dX4_isSign_18 : DD cX4_isSign 18 (.iload_n 0) 1 19 := ⟨by decide +kernel, rfl⟩
theorem dX4_isSign_19 : DD cX4_isSign 19 (.bipush 58) 2 21 := ⟨by decide +kernel, rfl⟩
theorem dX4_isSign_21 : DD cX4_isSign 21 (.if_icmp .eq 9) 3 24 := ⟨by decide +kernel, rfl⟩
theorem dX4_isSign_24 : DD cX4_isSign 24 (.iload_n 0) 1 25 := ⟨by decide +kernel, rfl⟩
theorem dX4_isSign_25 : DD cX4_isSign 25 (.bipush 59) 2 27 := ⟨by decide +kernel, rfl⟩
theorem dX4_isSign_27 : DD cX4_isSign 27 (.if_icmp .ne 7) 3 30 := ⟨by decide +kernel, rfl⟩
theorem dX4_isSign_30 : DD cX4_isSign 30 (.iconst 1) 1 31 := ⟨by decide +kernel, rfl⟩
theorem dX4_isSign_31 : DD cX4_isSign 31 (.goto 4) 3 34 := ⟨by decide +kernel, rfl⟩
theorem dX4_isSign_34 : DD cX4_isSign 34 (.iconst 0) 1 35 := ⟨by decide +kernel, rfl⟩
theorem dX4_isSign_35 : DD cX4_isSign 35 (.ireturn) 1 36 := ⟨by decide +kernel, rfl⟩
theorem dX4_nameHere_0 : DD cX4_nameHere 0 (.aload_n 0) 1 1 := ⟨by decide +kernel, rfl⟩
theorem dX4_nameHere_1 : DD cX4_nameHere 1 (.ldc 78) 2 3 := ⟨by decide +kernel, rfl⟩
theorem dX4_nameHere_3 : DD cX4_nameHere 3 (.invokevirtual 80) 3 6 := ⟨by decide +kernel, rfl⟩
theorem dX4_nameHere_6 : DD cX4_nameHere 6 (.ifCond .eq 5) 3 9 := ⟨by decide +kernel, rfl⟩
theorem dX4_nameHere_9 : DD cX4_nameHere 9 (.iconst 0) 1 10 := ⟨by decide +kernel, rfl⟩
theorem dX4_nameHere_10 : DD cX4_nameHere 10 (.ireturn) 1 11 := ⟨by decide +kernel, rfl⟩
theorem dX4_nameHere_11 : DD cX4_nameHere 11 (.aload_n 0) 1 12 := ⟨by decide +kernel, rfl⟩
theorem dX4_nameHere_12 : DD cX4_nameHere 12 (.ldc 84) 2 14 := ⟨by decide +kernel, rfl⟩
theorem dX4_nameHere_14 : DD cX4_nameHere 14 (.invokevirtual 80) 3 17 := ⟨by decide +kernel, rfl⟩
theorem dX4_nameHere_17 : DD cX4_nameHere 17 (.ifCond .eq 5) 3 20 := ⟨by decide +kernel, rfl⟩
theorem dX4_nameHere_20 : DD cX4_nameHere 20 (.iconst 1) 1 21 := ⟨by decide +kernel, rfl⟩
theorem dX4_nameHere_21 : DD cX4_nameHere 21 (.ireturn) 1 22 := ⟨by decide +kernel, rfl⟩
theorem dX4_nameHere_22 : DD cX4_nameHere 22 (.aload_n 0) 1 23 := ⟨by decide +kernel, rfl⟩
theorem dX4_nameHere_23 : DD cX4_nameHere 23 (.ldc 86) 2 25 := ⟨by decide +kernel, rfl⟩
theorem dX4_nameHere_25 : DD cX4_nameHere 25 (.invokevirtual 80) 3 28 := ⟨by decide +kernel, rfl⟩
theorem dX4_nameHere_28 : DD cX4_nameHere 28 (.ifCond .eq 5) 3 31 := ⟨by decide +kernel, rfl⟩
theorem dX4_nameHere_31 : DD cX4_nameHere 31 (.iconst 2) 1 32 := ⟨by decide +kernel, rfl⟩
theorem dX4_nameHere_32 : DD cX4_nameHere 32 (.ireturn) 1 33 := ⟨by decide +kernel, rfl⟩
theorem dX4_nameHere_33 : DD cX4_nameHere 33 (.aload_n 0) 1 34 := ⟨by decide +kernel, rfl⟩
theorem dX4_nameHere_34 : DD cX4_nameHere 34 (.ldc 88) 2 36 := ⟨by decide +kernel, rfl⟩
theorem dX4_nameHere_36 : DD cX4_nameHere 36 (.invokevirtual 80) 3 39 := ⟨by decide +kernel, rfl⟩
theorem dX4_nameHere_39 : DD cX4_nameHere 39 (.ifCond .eq 5) 3 42 := ⟨by decide +kernel, rfl⟩
theorem dX4_nameHere_42 : DD cX4_nameHere 42 (.iconst 3) 1 43 := ⟨by decide +kernel, rfl⟩
theorem dX4_nameHere_43 : DD cX4_nameHere 43 (.ireturn) 1 44 := ⟨by decide +kernel, rfl⟩
theorem dX4_nameHere_44 : DD cX4_nameHere 44 (.aload_n 0) 1 45 := ⟨by decide +kernel, rfl⟩
theorem dX4_nameHere_45 : DD cX4_nameHere 45 (.ldc 90) 2 47 := ⟨by decide +kernel, rfl⟩
theorem dX4_nameHere_47 : DD cX4_nameHere 47 (.invokevirtual 80) 3 50 := ⟨by decide +kernel, rfl⟩
theorem dX4_nameHere_50 : DD cX4_nameHere 50 (.ifCond .eq 7) 3 53 := ⟨by decide +kernel, rfl⟩
theorem dX4_nameHere_53 : DD cX4_nameHere 53 (.iconst 4) 1 54 := ⟨by decide +kernel, rfl⟩
theorem dX4_nameHere_54 : DD cX4_nameHere 54 (.goto 4) 3 57 := ⟨by decide +kernel, rfl⟩
theorem dX4_nameHere_57 : DD cX4_nameHere 57 (.iconst (-1)) 1 58 := ⟨by decide +kernel, rfl⟩
theorem dX4_nameHere_58 : DD cX4_nameHere 58 (.ireturn) 1 59 := ⟨by decide +kernel, rfl⟩
theorem dX4_deedHere_0 : DD cX4_deedHere 0 (.aload_n 0) 1 1 := ⟨by decide +kernel, rfl⟩
theorem dX4_deedHere_1 : DD cX4_deedHere 1 (.ldc 92) 2 3 := ⟨by decide +kernel, rfl⟩
theorem dX4_deedHere_3 : DD cX4_deedHere 3 (.invokevirtual 80) 3 6 := ⟨by decide +kernel, rfl⟩
theorem dX4_deedHere_6 : DD cX4_deedHere 6 (.ifCond .eq 5) 3 9 := ⟨by decide +kernel, rfl⟩
theorem dX4_deedHere_9 : DD cX4_deedHere 9 (.iconst 0) 1 10 := ⟨by decide +kernel, rfl⟩
theorem dX4_deedHere_10 : DD cX4_deedHere 10 (.ireturn) 1 11 := ⟨by decide +kernel, rfl⟩
theorem dX4_deedHere_11 : DD cX4_deedHere 11 (.aload_n 0) 1 12 := ⟨by decide +kernel, rfl⟩
theorem dX4_deedHere_12 : DD cX4_deedHere 12 (.ldc 94) 2 14 := ⟨by decide +kernel, rfl⟩
theorem dX4_deedHere_14 : DD cX4_deedHere 14 (.invokevirtual 80) 3 17 := ⟨by decide +kernel, rfl⟩
theorem dX4_deedHere_17 : DD cX4_deedHere 17 (.ifCond .eq 5) 3 20 := ⟨by decide +kernel, rfl⟩
theorem dX4_deedHere_20 : DD cX4_deedHere 20 (.iconst 1) 1 21 := ⟨by decide +kernel, rfl⟩
theorem dX4_deedHere_21 : DD cX4_deedHere 21 (.ireturn) 1 22 := ⟨by decide +kernel, rfl⟩
theorem dX4_deedHere_22 : DD cX4_deedHere 22 (.aload_n 0) 1 23 := ⟨by decide +kernel, rfl⟩
theorem dX4_deedHere_23 : DD cX4_deedHere 23 (.ldc 96) 2 25 := ⟨by decide +kernel, rfl⟩
theorem dX4_deedHere_25 : DD cX4_deedHere 25 (.invokevirtual 80) 3 28 := ⟨by decide +kernel, rfl⟩
theorem dX4_deedHere_28 : DD cX4_deedHere 28 (.ifCond .eq 5) 3 31 := ⟨by decide +kernel, rfl⟩
theorem dX4_deedHere_31 : DD cX4_deedHere 31 (.iconst 2) 1 32 := ⟨by decide +kernel, rfl⟩
theorem dX4_deedHere_32 : DD cX4_deedHere 32 (.ireturn) 1 33 := ⟨by decide +kernel, rfl⟩
theorem dX4_deedHere_33 : DD cX4_deedHere 33 (.aload_n 0) 1 34 := ⟨by decide +kernel, rfl⟩
theorem dX4_deedHere_34 : DD cX4_deedHere 34 (.ldc 98) 2 36 := ⟨by decide +kernel, rfl⟩
theorem dX4_deedHere_36 : DD cX4_deedHere 36 (.invokevirtual 80) 3 39 := ⟨by decide +kernel, rfl⟩
theorem dX4_deedHere_39 : DD cX4_deedHere 39 (.ifCond .eq 5) 3 42 := ⟨by decide +kernel, rfl⟩
theorem dX4_deedHere_42 : DD cX4_deedHere 42 (.iconst 3) 1 43 := ⟨by decide +kernel, rfl⟩
theorem dX4_deedHere_43 : DD cX4_deedHere 43 (.ireturn) 1 44 := ⟨by decide +kernel, rfl⟩
theorem dX4_deedHere_44 : DD cX4_deedHere 44 (.aload_n 0) 1 45 := ⟨by decide +kernel, rfl⟩
theorem dX4_deedHere_45 : DD cX4_deedHere 45 (.ldc 100) 2 47 := ⟨by decide +kernel, rfl⟩
theorem dX4_deedHere_47 : DD cX4_deedHere 47 (.invokevirtual 80) 3 50 := ⟨by decide +kernel, rfl⟩
theorem dX4_deedHere_50 : DD cX4_deedHere 50 (.ifCond .eq 7) 3 53 := ⟨by decide +kernel, rfl⟩
theorem dX4_deedHere_53 : DD cX4_deedHere 53 (.iconst 4) 1 54 := ⟨by decide +kernel, rfl⟩
theorem dX4_deedHere_54 : DD cX4_deedHere 54 (.goto 4) 3 57 := ⟨by decide +kernel, rfl⟩
theorem dX4_deedHere_57 : DD cX4_deedHere 57 (.iconst (-1)) 1 58 := ⟨by decide +kernel, rfl⟩
theorem dX4_deedHere_58 : DD cX4_deedHere 58 (.ireturn) 1 59 := ⟨by decide +kernel, rfl⟩
theorem dX4_isWord_0 : DD cX4_isWord 0 (.aload_n 0) 1 1 := ⟨by decide +kernel, rfl⟩
theorem dX4_isWord_1 : DD cX4_isWord 1 (.getfield 25) 3 4 := ⟨by decide +kernel, rfl⟩
theorem dX4_isWord_4 : DD cX4_isWord 4 (.bipush (-2)) 2 6 := ⟨by decide +kernel, rfl⟩
theorem dX4_isWord_6 : DD cX4_isWord 6 (.if_icmp .ne 19) 3 9 := ⟨by decide +kernel, rfl⟩
theorem dX4_isWord_9 : DD cX4_isWord 9 (.aload_n 0) 1 10 := ⟨by decide +kernel, rfl⟩
theorem dX4_isWord_10 : DD cX4_isWord 10 (.getfield 22) 3 13 := ⟨by decide +kernel, rfl⟩
theorem dX4_isWord_13 : DD cX4_isWord 13 (.aload_n 0) 1 14 := ⟨by decide +kernel, rfl⟩
theorem dX4_isWord_14 : DD cX4_isWord 14 (.getfield 19) 3 17 := ⟨by decide +kernel, rfl⟩
theorem dX4_isWord_17 : DD cX4_isWord 17 (.isub) 1 18 := ⟨by decide +kernel, rfl⟩
theorem dX4_isWord_18 : DD cX4_isWord 18 (.aload_n 1) 1 19 := ⟨by decide +kernel, rfl⟩
theorem dX4_isWord_19 : DD cX4_isWord 19 (.invokevirtual 102) 3 22 := ⟨by decide +kernel, rfl⟩
theorem dX4_isWord_22 : DD cX4_isWord 22 (.if_icmp .eq 5) 3 25 := ⟨by decide +kernel, rfl⟩
theorem dX4_isWord_25 : DD cX4_isWord 25 (.iconst 0) 1 26 := ⟨by decide +kernel, rfl⟩
theorem dX4_isWord_26 : DD cX4_isWord 26 (.ireturn) 1 27 := ⟨by decide +kernel, rfl⟩
theorem dX4_isWord_27 : DD cX4_isWord 27 (.iconst 0) 1 28 := ⟨by decide +kernel, rfl⟩
theorem dX4_isWord_28 : DD cX4_isWord 28 (.istore_n 2) 1 29 := ⟨by decide +kernel, rfl⟩
theorem dX4_isWord_29 : DD cX4_isWord 29 (.iload_n 2) 1 30 := ⟨by decide +kernel, rfl⟩
theorem dX4_isWord_30 : DD cX4_isWord 30 (.aload_n 1) 1 31 := ⟨by decide +kernel, rfl⟩
theorem dX4_isWord_31 : DD cX4_isWord 31 (.invokevirtual 102) 3 34 := ⟨by decide +kernel, rfl⟩
theorem dX4_isWord_34 : DD cX4_isWord 34 (.if_icmp .ge 30) 3 37 := ⟨by decide +kernel, rfl⟩
theorem dX4_isWord_37 : DD cX4_isWord 37 (.aload_n 0) 1 38 := ⟨by decide +kernel, rfl⟩
theorem dX4_isWord_38 : DD cX4_isWord 38 (.getfield 9) 3 41 := ⟨by decide +kernel, rfl⟩
theorem dX4_isWord_41 : DD cX4_isWord 41 (.aload_n 0) 1 42 := ⟨by decide +kernel, rfl⟩
theorem dX4_isWord_42 : DD cX4_isWord 42 (.getfield 19) 3 45 := ⟨by decide +kernel, rfl⟩
theorem dX4_isWord_45 : DD cX4_isWord 45 (.iload_n 2) 1 46 := ⟨by decide +kernel, rfl⟩
theorem dX4_isWord_46 : DD cX4_isWord 46 (.iadd) 1 47 := ⟨by decide +kernel, rfl⟩
theorem dX4_isWord_47 : DD cX4_isWord 47 (.iaload) 1 48 := ⟨by decide +kernel, rfl⟩
theorem dX4_isWord_48 : DD cX4_isWord 48 (.aload_n 1) 1 49 := ⟨by decide +kernel, rfl⟩
theorem dX4_isWord_49 : DD cX4_isWord 49 (.iload_n 2) 1 50 := ⟨by decide +kernel, rfl⟩
theorem dX4_isWord_50 : DD cX4_isWord 50 (.invokevirtual 107) 3 53 := ⟨by decide +kernel, rfl⟩
theorem dX4_isWord_53 : DD cX4_isWord 53 (.if_icmp .eq 5) 3 56 := ⟨by decide +kernel, rfl⟩
theorem dX4_isWord_56 : DD cX4_isWord 56 (.iconst 0) 1 57 := ⟨by decide +kernel, rfl⟩
theorem dX4_isWord_57 : DD cX4_isWord 57 (.ireturn) 1 58 := ⟨by decide +kernel, rfl⟩
theorem dX4_isWord_58 : DD cX4_isWord 58 (.iinc 2 1) 3 61 := ⟨by decide +kernel, rfl⟩
theorem dX4_isWord_61 : DD cX4_isWord 61 (.goto (-32)) 3 64 := ⟨by decide +kernel, rfl⟩
theorem dX4_isWord_64 : DD cX4_isWord 64 (.iconst 1) 1 65 := ⟨by decide +kernel, rfl⟩
theorem dX4_isWord_65 : DD cX4_isWord 65 (.ireturn) 1 66 := ⟨by decide +kernel, rfl⟩
theorem dX5_init_0 : DD cX5_init 0 (.aload_n 0) 1 1 := ⟨by decide +kernel, rfl⟩
theorem dX5_init_1 : DD cX5_init 1 (.invokespecial 3) 3 4 := ⟨by decide +kernel, rfl⟩
theorem dX5_init_4 : DD cX5_init 4 (.aload_n 0) 1 5 := ⟨by decide +kernel, rfl⟩
theorem dX5_init_5 : DD cX5_init 5 (.iconst 0) 1 6 := ⟨by decide +kernel, rfl⟩
theorem dX5_init_6 : DD cX5_init 6 (.putfield 9) 3 9 := ⟨by decide +kernel, rfl⟩
theorem dX5_init_9 : DD cX5_init 9 (.aload_n 0) 1 10 := ⟨by decide +kernel, rfl⟩
theorem dX5_init_10 : DD cX5_init 10 (.bipush 6) 2 12 := ⟨by decide +kernel, rfl⟩
theorem dX5_init_12 : DD cX5_init 12 (.newarray .int) 2 14 := ⟨by decide +kernel, rfl⟩
theorem dX5_init_14 : DD cX5_init 14 (.putfield 15) 3 17 := ⟨by decide +kernel, rfl⟩
theorem dX5_init_17 : DD cX5_init 17 (.aload_n 0) 1 18 := ⟨by decide +kernel, rfl⟩
theorem dX5_init_18 : DD cX5_init 18 (.bipush 6) 2 20 := ⟨by decide +kernel, rfl⟩
theorem dX5_init_20 : DD cX5_init 20 (.newarray .int) 2 22 := ⟨by decide +kernel, rfl⟩
theorem dX5_init_22 : DD cX5_init 22 (.putfield 19) 3 25 := ⟨by decide +kernel, rfl⟩
theorem dX5_init_25 : DD cX5_init 25 (.aload_n 0) 1 26 := ⟨by decide +kernel, rfl⟩
theorem dX5_init_26 : DD cX5_init 26 (.bipush 6) 2 28 := ⟨by decide +kernel, rfl⟩
theorem dX5_init_28 : DD cX5_init 28 (.newarray .int) 2 30 := ⟨by decide +kernel, rfl⟩
theorem dX5_init_30 : DD cX5_init 30 (.putfield 22) 3 33 := ⟨by decide +kernel, rfl⟩
theorem dX5_init_33 : DD cX5_init 33 (.aload_n 0) 1 34 := ⟨by decide +kernel, rfl⟩
theorem dX5_init_34 : DD cX5_init 34 (.bipush 6) 2 36 := ⟨by decide +kernel, rfl⟩
theorem dX5_init_36 : DD cX5_init 36 (.newarray .int) 2 38 := ⟨by decide +kernel, rfl⟩
theorem dX5_init_38 : DD cX5_init 38 (.putfield 25) 3 41 := ⟨by decide +kernel, rfl⟩
theorem dX5_init_41 : DD cX5_init 41 (.return_) 1 42 := ⟨by decide +kernel, rfl⟩
theorem dX5_addRule_0 : DD cX5_addRule 0 (.aload_n 0) 1 1 := ⟨by decide +kernel, rfl⟩
theorem dX5_addRule_1 : DD cX5_addRule 1 (.getfield 9) 3 4 := ⟨by decide +kernel, rfl⟩
theorem dX5_addRule_4 : DD cX5_addRule 4 (.bipush 6) 2 6 := ⟨by decide +kernel, rfl⟩
theorem dX5_addRule_6 : DD cX5_addRule 6 (.if_icmp .ge 54) 3 9 := ⟨by decide +kernel, rfl⟩
theorem dX5_addRule_9 : DD cX5_addRule 9 (.aload_n 0) 1 10 := ⟨by decide +kernel, rfl⟩
theorem dX5_addRule_10 : DD cX5_addRule 10 (.getfield 15) 3 13 := ⟨by decide +kernel, rfl⟩
theorem dX5_addRule_13 : DD cX5_addRule 13 (.aload_n 0) 1 14 := ⟨by decide +kernel, rfl⟩
theorem dX5_addRule_14 : DD cX5_addRule 14 (.getfield 9) 3 17 := ⟨by decide +kernel, rfl⟩
theorem dX5_addRule_17 : DD cX5_addRule 17 (.iload_n 1) 1 18 := ⟨by decide +kernel, rfl⟩
theorem dX5_addRule_18 : DD cX5_addRule 18 (.iastore) 1 19 := ⟨by decide +kernel, rfl⟩
theorem dX5_addRule_19 : DD cX5_addRule 19 (.aload_n 0) 1 20 := ⟨by decide +kernel, rfl⟩
theorem dX5_addRule_20 : DD cX5_addRule 20 (.getfield 19) 3 23 := ⟨by decide +kernel, rfl⟩
theorem dX5_addRule_23 : DD cX5_addRule 23 (.aload_n 0) 1 24 := ⟨by decide +kernel, rfl⟩
theorem dX5_addRule_24 : DD cX5_addRule 24 (.getfield 9) 3 27 := ⟨by decide +kernel, rfl⟩
theorem dX5_addRule_27 : DD cX5_addRule 27 (.iload_n 2) 1 28 := ⟨by decide +kernel, rfl⟩
theorem dX5_addRule_28 : DD cX5_addRule 28 (.iastore) 1 29 := ⟨by decide +kernel, rfl⟩
theorem dX5_addRule_29 : DD cX5_addRule 29 (.aload_n 0) 1 30 := ⟨by decide +kernel, rfl⟩
theorem dX5_addRule_30 : DD cX5_addRule 30 (.getfield 22) 3 33 := ⟨by decide +kernel, rfl⟩
theorem dX5_addRule_33 : DD cX5_addRule 33 (.aload_n 0) 1 34 := ⟨by decide +kernel, rfl⟩
theorem dX5_addRule_34 : DD cX5_addRule 34 (.getfield 9) 3 37 := ⟨by decide +kernel, rfl⟩
theorem dX5_addRule_37 : DD cX5_addRule 37 (.iload_n 3) 1 38 := ⟨by decide +kernel, rfl⟩
theorem dX5_addRule_38 : DD cX5_addRule 38 (.iastore) 1 39 := ⟨by decide +kernel, rfl⟩
theorem dX5_addRule_39 : DD cX5_addRule 39 (.aload_n 0) 1 40 := ⟨by decide +kernel, rfl⟩
theorem dX5_addRule_40 : DD cX5_addRule 40 (.getfield 25) 3 43 := ⟨by decide +kernel, rfl⟩
theorem dX5_addRule_43 : DD cX5_addRule 43 (.aload_n 0) 1 44 := ⟨by decide +kernel, rfl⟩
theorem dX5_addRule_44 : DD cX5_addRule 44 (.getfield 9) 3 47 := ⟨by decide +kernel, rfl⟩
theorem dX5_addRule_47 : DD cX5_addRule 47 (.iload 4) 2 49 := ⟨by decide +kernel, rfl⟩
theorem dX5_addRule_49 : DD cX5_addRule 49 (.iastore) 1 50 := ⟨by decide +kernel, rfl⟩
theorem dX5_addRule_50 : DD cX5_addRule 50 (.aload_n 0) 1 51 := ⟨by decide +kernel, rfl⟩
theorem dX5_addRule_51 : DD cX5_addRule 51 (.dup) 1 52 := ⟨by decide +kernel, rfl⟩
theorem dX5_addRule_52 : DD cX5_addRule 52 (.getfield 9) 3 55 := ⟨by decide +kernel, rfl⟩
theorem dX5_addRule_55 : DD cX5_addRule 55 (.iconst 1) 1 56 := ⟨by decide +kernel, rfl⟩
theorem dX5_addRule_56 : DD cX5_addRule 56 (.iadd) 1 57 := ⟨by decide +kernel, rfl⟩
theorem dX5_addRule_57 : DD cX5_addRule 57 (.putfield 9) 3 60 := ⟨by decide +kernel, rfl⟩
theorem dX5_addRule_60 : DD cX5_addRule 60 (.return_) 1 61 := ⟨by decide +kernel, rfl⟩
theorem dX5_firstThat_0 : DD cX5_firstThat 0 (.iconst 0) 1 1 := ⟨by decide +kernel, rfl⟩
theorem dX5_firstThat_1 : DD cX5_firstThat 1 (.istore 5) 2 3 := ⟨by decide +kernel, rfl⟩
theorem dX5_firstThat_3 : DD cX5_firstThat 3 (.iload 5) 2 5 := ⟨by decide +kernel, rfl⟩
theorem dX5_firstThat_5 : DD cX5_firstThat 5 (.aload_n 0) 1 6 := ⟨by decide +kernel, rfl⟩
theorem dX5_firstThat_6 : DD cX5_firstThat 6 (.getfield 9) 3 9 := ⟨by decide +kernel, rfl⟩
theorem dX5_firstThat_9 : DD cX5_firstThat 9 (.if_icmp .ge 116) 3 12 := ⟨by decide +kernel, rfl⟩
theorem dX5_firstThat_12 : DD cX5_firstThat 12 (.aload_n 0) 1 13 := ⟨by decide +kernel, rfl⟩
theorem dX5_firstThat_13 : DD cX5_firstThat 13 (.getfield 15) 3 16 := ⟨by decide +kernel, rfl⟩
theorem dX5_firstThat_16 : DD cX5_firstThat 16 (.iload 5) 2 18 := ⟨by decide +kernel, rfl⟩
theorem dX5_firstThat_18 : DD cX5_firstThat 18 (.iaload) 1 19 := ⟨by decide +kernel, rfl⟩
theorem dX5_firstThat_19 : DD cX5_firstThat 19 (.istore 6) 2 21 := ⟨by decide +kernel, rfl⟩
theorem dX5_firstThat_21 : DD cX5_firstThat 21 (.iload 6) 2 23 := ⟨by decide +kernel, rfl⟩
theorem dX5_firstThat_23 : DD cX5_firstThat 23 (.ifCond .ne 7) 3 26 := ⟨by decide +kernel, rfl⟩
theorem dX5_firstThat_26 : DD cX5_firstThat 26 (.iload_n 1) 1 27 := ⟨by decide +kernel, rfl⟩
theorem dX5_firstThat_27 : DD cX5_firstThat 27 (.goto 25) 3 30 := ⟨by decide +kernel, rfl⟩
theorem dX5_firstThat_30 : DD cX5_firstThat 30 (.iload 6) 2 32 := ⟨by decide +kernel, rfl⟩
theorem dX5_firstThat_32 : DD cX5_firstThat 32 (.iconst 1) 1 33 := ⟨by decide +kernel, rfl⟩
theorem dX5_firstThat_33 : DD cX5_firstThat 33 (.if_icmp .ne 7) 3 36 := ⟨by decide +kernel, rfl⟩
theorem dX5_firstThat_36 : DD cX5_firstThat 36 (.iload_n 2) 1 37 := ⟨by decide +kernel, rfl⟩
theorem dX5_firstThat_37 : DD cX5_firstThat 37 (.goto 15) 3 40 := ⟨by decide +kernel, rfl⟩
theorem dX5_firstThat_40 : DD cX5_firstThat 40 (.iload 6) 2 42 := ⟨by decide +kernel, rfl⟩
theorem dX5_firstThat_42 : DD cX5_firstThat 42 (.iconst 2) 1 43 := ⟨by decide +kernel, rfl⟩
theorem dX5_firstThat_43 : DD cX5_firstThat 43 (.if_icmp .ne 7) 3 46 := ⟨by decide +kernel, rfl⟩
theorem dX5_firstThat_46 : DD cX5_firstThat 46 (.iload_n 3) 1 47 := ⟨by decide +kernel, rfl⟩
theorem dX5_firstThat_47 : DD cX5_firstThat 47 (.goto 5) 3 50 := ⟨by decide +kernel, rfl⟩
theorem dX5_firstThat_50 : DD cX5_firstThat 50 (.iload 4) 2 52 := ⟨by decide +kernel, rfl⟩
theorem dX5_firstThat_52 : DD cX5_firstThat 52 (.istore 7) 2 54 := ⟨by decide +kernel, rfl⟩
theorem dX5_firstThat_54 : DD cX5_firstThat 54 (.aload_n 0) 1 55 := ⟨by decide +kernel, rfl⟩
theorem dX5_firstThat_55 : DD cX5_firstThat 55 (.getfield 19) 3 58 := ⟨by decide +kernel, rfl⟩
theorem dX5_firstThat_58 : DD cX5_firstThat 58 (.iload 5) 2 60 := ⟨by decide +kernel, rfl⟩
theorem dX5_firstThat_60 : DD cX5_firstThat 60 (.iaload) 1 61 := ⟨by decide +kernel, rfl⟩
theorem dX5_firstThat_61 : DD cX5_firstThat 61 (.bipush 60) 2 63 := ⟨by decide +kernel, rfl⟩
theorem dX5_firstThat_63 : DD cX5_firstThat 63 (.if_icmp .ne 23) 3 66 := ⟨by decide +kernel, rfl⟩
theorem dX5_firstThat_66 : DD cX5_firstThat 66 (.iload 7) 2 68 := ⟨by decide +kernel, rfl⟩
theorem dX5_firstThat_68 : DD cX5_firstThat 68 (.aload_n 0) 1 69 := ⟨by decide +kernel, rfl⟩
theorem dX5_firstThat_69 : DD cX5_firstThat 69 (.getfield 22) 3 72 := ⟨by decide +kernel, rfl⟩
theorem dX5_firstThat_72 : DD cX5_firstThat 72 (.iload 5) 2 74 := ⟨by decide +kernel, rfl⟩
theorem dX5_firstThat_74 : DD cX5_firstThat 74 (.iaload) 1 75 := ⟨by decide +kernel, rfl⟩
theorem dX5_firstThat_75 : DD cX5_firstThat 75 (.if_icmp .ge 7) 3 78 := ⟨by decide +kernel, rfl⟩
theorem dX5_firstThat_78 : DD cX5_firstThat 78 (.iconst 1) 1 79 := ⟨by decide +kernel, rfl⟩
theorem dX5_firstThat_79 : DD cX5_firstThat 79 (.goto 24) 3 82 := ⟨by decide +kernel, rfl⟩
theorem dX5_firstThat_82 : DD cX5_firstThat 82 (.iconst 0) 1 83 := ⟨by decide +kernel, rfl⟩
theorem dX5_firstThat_83 : DD cX5_firstThat 83 (.goto 20) 3 86 := ⟨by decide +kernel, rfl⟩
theorem dX5_firstThat_86 : DD cX5_firstThat 86 (.iload 7) 2 88 := ⟨by decide +kernel, rfl⟩
theorem dX5_firstThat_88 : DD cX5_firstThat 88 (.aload_n 0) 1 89 := ⟨by decide +kernel, rfl⟩
theorem dX5_firstThat_89 : DD cX5_firstThat 89 (.getfield 22) 3 92 := ⟨by decide +kernel, rfl⟩
theorem dX5_firstThat_92 : DD cX5_firstThat 92 (.iload 5) 2 94 := ⟨by decide +kernel, rfl⟩
theorem dX5_firstThat_94 : DD cX5_firstThat 94 (.iaload) 1 95 := ⟨by decide +kernel, rfl⟩
theorem dX5_firstThat_95 : DD cX5_firstThat 95 (.if_icmp .le 7) 3 98 := ⟨by decide +kernel, rfl⟩
theorem dX5_firstThat_98 : DD cX5_firstThat 98 (.iconst 1) 1 99 := ⟨by decide +kernel, rfl⟩
theorem dX5_firstThat_99 : DD cX5_firstThat 99 (.goto 4) 3 102 := ⟨by decide +kernel, rfl⟩
theorem dX5_firstThat_102 : DD cX5_firstThat 102 (.iconst 0) 1 103 := ⟨by decide +kernel, rfl⟩
theorem dX5_firstThat_103 : DD cX5_firstThat 103 (.istore 8) 2 105 := ⟨by decide +kernel, rfl⟩
theorem dX5_firstThat_105 : DD cX5_firstThat 105 (.iload 8) 2 107 := ⟨by decide +kernel, rfl⟩
theorem dX5_firstThat_107 : DD cX5_firstThat 107 (.ifCond .ne 9) 3 110 := ⟨by decide +kernel, rfl⟩
theorem dX5_firstThat_110 : DD cX5_firstThat 110 (.iload 6) 2 112 := ⟨by decide +kernel, rfl⟩
theorem dX5_firstThat_112 : DD cX5_firstThat 112 (.iconst 4) 1 113 := ⟨by decide +kernel, rfl⟩
theorem dX5_firstThat_113 : DD cX5_firstThat 113 (.if_icmp .ne 6) 3 116 := ⟨by decide +kernel, rfl⟩
theorem dX5_firstThat_116 : DD cX5_firstThat 116 (.iload 5) 2 118 := ⟨by decide +kernel, rfl⟩
theorem dX5_firstThat_118 : DD cX5_firstThat 118 (.ireturn) 1 119 := ⟨by decide +kernel, rfl⟩
theorem dX5_firstThat_119 : DD cX5_firstThat 119 (.iinc 5 1) 3 122 := ⟨by decide +kernel, rfl⟩
theorem dX5_firstThat_122 : DD cX5_firstThat 122 (.goto (-119)) 3 125 := ⟨by decide +kernel, rfl⟩
theorem dX5_firstThat_125 : DD cX5_firstThat 125 (.iconst (-1)) 1 126 := ⟨by decide +kernel, rfl⟩
theorem dX5_firstThat_126 : DD cX5_firstThat 126 (.ireturn) 1 127 := ⟨by decide +kernel, rfl⟩
theorem dX5_deedOf_0 : DD cX5_deedOf 0 (.iload_n 1) 1 1 := ⟨by decide +kernel, rfl⟩
theorem dX5_deedOf_1 : DD cX5_deedOf 1 (.iconst 0) 1 2 := ⟨by decide +kernel, rfl⟩
theorem dX5_deedOf_2 : DD cX5_deedOf 2 (.aload_n 0) 1 3 := ⟨by decide +kernel, rfl⟩
theorem dX5_deedOf_3 : DD cX5_deedOf 3 (.getfield 9) 3 6 := ⟨by decide +kernel, rfl⟩
theorem dX5_deedOf_6 : DD cX5_deedOf 6 (.iconst 1) 1 7 := ⟨by decide +kernel, rfl⟩
theorem dX5_deedOf_7 : DD cX5_deedOf 7 (.isub) 1 8 := ⟨by decide +kernel, rfl⟩
theorem dX5_deedOf_8 : DD cX5_deedOf 8 (.invokestatic 28) 3 11 := ⟨by decide +kernel, rfl⟩
theorem dX5_deedOf_11 : DD cX5_deedOf 11 (.ifCond .eq 12) 3 14 := ⟨by decide +kernel, rfl⟩
theorem dX5_deedOf_14 : DD cX5_deedOf 14 (.aload_n 0) 1 15 := ⟨by decide +kernel, rfl⟩
theorem dX5_deedOf_15 : DD cX5_deedOf 15 (.getfield 25) 3 18 := ⟨by decide +kernel, rfl⟩
theorem dX5_deedOf_18 : DD cX5_deedOf 18 (.iload_n 1) 1 19 := ⟨by decide +kernel, rfl⟩
theorem dX5_deedOf_19 : DD cX5_deedOf 19 (.iaload) 1 20 := ⟨by decide +kernel, rfl⟩
theorem dX5_deedOf_20 : DD cX5_deedOf 20 (.goto 4) 3 23 := ⟨by decide +kernel, rfl⟩
theorem dX5_deedOf_23 : DD cX5_deedOf 23 (.iconst 3) 1 24 := ⟨by decide +kernel, rfl⟩
theorem dX5_deedOf_24 : DD cX5_deedOf 24 (.ireturn) 1 25 := ⟨by decide +kernel, rfl⟩
theorem dX6_init_0 : DD cX6_init 0 (.aload_n 0) 1 1 := ⟨by decide +kernel, rfl⟩
theorem dX6_init_1 : DD cX6_init 1 (.invokespecial 3) 3 4 := ⟨by decide +kernel, rfl⟩
theorem dX6_init_4 : DD cX6_init 4 (.aload_n 0) 1 5 := ⟨by decide +kernel, rfl⟩
theorem dX6_init_5 : DD cX6_init 5 (.bipush 8) 2 7 := ⟨by decide +kernel, rfl⟩
theorem dX6_init_7 : DD cX6_init 7 (.anewarray 9) 3 10 := ⟨by decide +kernel, rfl⟩
theorem dX6_init_10 : DD cX6_init 10 (.putfield 11) 3 13 := ⟨by decide +kernel, rfl⟩
theorem dX6_init_13 : DD cX6_init 13 (.aload_n 0) 1 14 := ⟨by decide +kernel, rfl⟩
theorem dX6_init_14 : DD cX6_init 14 (.iconst 0) 1 15 := ⟨by decide +kernel, rfl⟩
theorem dX6_init_15 : DD cX6_init 15 (.putfield 17) 3 18 := ⟨by decide +kernel, rfl⟩
theorem dX6_init_18 : DD cX6_init 18 (.aload_n 0) 1 19 := ⟨by decide +kernel, rfl⟩
theorem dX6_init_19 : DD cX6_init 19 (.bipush 6) 2 21 := ⟨by decide +kernel, rfl⟩
theorem dX6_init_21 : DD cX6_init 21 (.anewarray 21) 3 24 := ⟨by decide +kernel, rfl⟩
theorem dX6_init_24 : DD cX6_init 24 (.putfield 23) 3 27 := ⟨by decide +kernel, rfl⟩
theorem dX6_init_27 : DD cX6_init 27 (.aload_n 0) 1 28 := ⟨by decide +kernel, rfl⟩
theorem dX6_init_28 : DD cX6_init 28 (.iconst 0) 1 29 := ⟨by decide +kernel, rfl⟩
theorem dX6_init_29 : DD cX6_init 29 (.putfield 27) 3 32 := ⟨by decide +kernel, rfl⟩
theorem dX6_init_32 : DD cX6_init 32 (.aload_n 0) 1 33 := ⟨by decide +kernel, rfl⟩
theorem dX6_init_33 : DD cX6_init 33 (.getstatic 30) 3 36 := ⟨by decide +kernel, rfl⟩
theorem dX6_init_36 : DD cX6_init 36 (.invokevirtual 34) 3 39 := ⟨by decide +kernel, rfl⟩
theorem dX6_init_39 : DD cX6_init 39 (.checkcast 35) 3 42 := ⟨by decide +kernel, rfl⟩
theorem dX6_init_42 : DD cX6_init 42 (.putfield 39) 3 45 := ⟨by decide +kernel, rfl⟩
theorem dX6_init_45 : DD cX6_init 45 (.aload_n 0) 1 46 := ⟨by decide +kernel, rfl⟩
theorem dX6_init_46 : DD cX6_init 46 (.new 42) 3 49 := ⟨by decide +kernel, rfl⟩
theorem dX6_init_49 : DD cX6_init 49 (.dup) 1 50 := ⟨by decide +kernel, rfl⟩
theorem dX6_init_50 : DD cX6_init 50 (.aload_n 0) 1 51 := ⟨by decide +kernel, rfl⟩
theorem dX6_init_51 : DD cX6_init 51 (.getfield 39) 3 54 := ⟨by decide +kernel, rfl⟩
theorem dX6_init_54 : DD cX6_init 54 (.aload_n 0) 1 55 := ⟨by decide +kernel, rfl⟩
theorem dX6_init_55 : DD cX6_init 55 (.getfield 23) 3 58 := ⟨by decide +kernel, rfl⟩
theorem dX6_init_58 : DD cX6_init 58 (.invokespecial 44) 3 61 := ⟨by decide +kernel, rfl⟩
theorem dX6_init_61 : DD cX6_init 61 (.putfield 47) 3 64 := ⟨by decide +kernel, rfl⟩
theorem dX6_init_64 : DD cX6_init 64 (.aload_n 0) 1 65 := ⟨by decide +kernel, rfl⟩
theorem dX6_init_65 : DD cX6_init 65 (.iconst 0) 1 66 := ⟨by decide +kernel, rfl⟩
theorem dX6_init_66 : DD cX6_init 66 (.putfield 51) 3 69 := ⟨by decide +kernel, rfl⟩
theorem dX6_init_69 : DD cX6_init 69 (.aload_n 0) 1 70 := ⟨by decide +kernel, rfl⟩
theorem dX6_init_70 : DD cX6_init 70 (.iconst 0) 1 71 := ⟨by decide +kernel, rfl⟩
theorem dX6_init_71 : DD cX6_init 71 (.putfield 55) 3 74 := ⟨by decide +kernel, rfl⟩
theorem dX6_init_74 : DD cX6_init 74 (.aload_n 0) 1 75 := ⟨by decide +kernel, rfl⟩
theorem dX6_init_75 : DD cX6_init 75 (.iconst 0) 1 76 := ⟨by decide +kernel, rfl⟩
theorem dX6_init_76 : DD cX6_init 76 (.putfield 58) 3 79 := ⟨by decide +kernel, rfl⟩
theorem dX6_init_79 : DD cX6_init 79 (.aload_n 0) 1 80 := ⟨by decide +kernel, rfl⟩
theorem dX6_init_80 : DD cX6_init 80 (.iconst 0) 1 81 := ⟨by decide +kernel, rfl⟩
theorem dX6_init_81 : DD cX6_init 81 (.putfield 61) 3 84 := ⟨by decide +kernel, rfl⟩
theorem dX6_init_84 : DD cX6_init 84 (.iconst 0) 1 85 := ⟨by decide +kernel, rfl⟩
theorem dX6_init_85 : DD cX6_init 85 (.istore_n 1) 1 86 := ⟨by decide +kernel, rfl⟩
theorem dX6_init_86 : DD cX6_init 86 (.iload_n 1) 1 87 := ⟨by decide +kernel, rfl⟩
theorem dX6_init_87 : DD cX6_init 87 (.bipush 8) 2 89 := ⟨by decide +kernel, rfl⟩
theorem dX6_init_89 : DD cX6_init 89 (.if_icmp .ge 22) 3 92 := ⟨by decide +kernel, rfl⟩
theorem dX6_init_92 : DD cX6_init 92 (.aload_n 0) 1 93 := ⟨by decide +kernel, rfl⟩
theorem dX6_init_93 : DD cX6_init 93 (.getfield 11) 3 96 := ⟨by decide +kernel, rfl⟩
theorem dX6_init_96 : DD cX6_init 96 (.iload_n 1) 1 97 := ⟨by decide +kernel, rfl⟩
theorem dX6_init_97 : DD cX6_init 97 (.new 9) 3 100 := ⟨by decide +kernel, rfl⟩
theorem dX6_init_100 : DD cX6_init 100 (.dup) 1 101 := ⟨by decide +kernel, rfl⟩
theorem dX6_init_101 : DD cX6_init 101 (.invokespecial 64) 3 104 := ⟨by decide +kernel, rfl⟩
theorem dX6_init_104 : DD cX6_init 104 (.aastore) 1 105 := ⟨by decide +kernel, rfl⟩
theorem dX6_init_105 : DD cX6_init 105 (.iinc 1 1) 3 108 := ⟨by decide +kernel, rfl⟩
theorem dX6_init_108 : DD cX6_init 108 (.goto (-22)) 3 111 := ⟨by decide +kernel, rfl⟩
theorem dX6_init_111 : DD cX6_init 111 (.return_) 1 112 := ⟨by decide +kernel, rfl⟩
theorem dX6_takeFrom_0 : DD cX6_takeFrom 0 (.iconst 0) 1 1 := ⟨by decide +kernel, rfl⟩
theorem dX6_takeFrom_1 : DD cX6_takeFrom 1 (.istore_n 2) 1 2 := ⟨by decide +kernel, rfl⟩
theorem dX6_takeFrom_2 : DD cX6_takeFrom 2 (.iload_n 2) 1 3 := ⟨by decide +kernel, rfl⟩
theorem dX6_takeFrom_3 : DD cX6_takeFrom 3 (.bipush 8) 2 5 := ⟨by decide +kernel, rfl⟩
theorem dX6_takeFrom_5 : DD cX6_takeFrom 5 (.if_icmp .ge 24) 3 8 := ⟨by decide +kernel, rfl⟩
theorem dX6_takeFrom_8 : DD cX6_takeFrom 8 (.aload_n 0) 1 9 := ⟨by decide +kernel, rfl⟩
theorem dX6_takeFrom_9 : DD cX6_takeFrom 9 (.getfield 11) 3 12 := ⟨by decide +kernel, rfl⟩
theorem dX6_takeFrom_12 : DD cX6_takeFrom 12 (.iload_n 2) 1 13 := ⟨by decide +kernel, rfl⟩
theorem dX6_takeFrom_13 : DD cX6_takeFrom 13 (.aaload) 1 14 := ⟨by decide +kernel, rfl⟩
theorem dX6_takeFrom_14 : DD cX6_takeFrom 14 (.aload_n 1) 1 15 := ⟨by decide +kernel, rfl⟩
theorem dX6_takeFrom_15 : DD cX6_takeFrom 15 (.getfield 11) 3 18 := ⟨by decide +kernel, rfl⟩
theorem dX6_takeFrom_18 : DD cX6_takeFrom 18 (.iload_n 2) 1 19 := ⟨by decide +kernel, rfl⟩
theorem dX6_takeFrom_19 : DD cX6_takeFrom 19 (.aaload) 1 20 := ⟨by decide +kernel, rfl⟩
theorem dX6_takeFrom_20 : DD cX6_takeFrom 20 (.invokevirtual 65) 3 23 := ⟨by decide +kernel, rfl⟩
theorem dX6_takeFrom_23 : DD cX6_takeFrom 23 (.iinc 2 1) 3 26 := ⟨by decide +kernel, rfl⟩
theorem dX6_takeFrom_26 : DD cX6_takeFrom 26 (.goto (-24)) 3 29 := ⟨by decide +kernel, rfl⟩
theorem dX6_takeFrom_29 : DD cX6_takeFrom 29 (.aload_n 0) 1 30 := ⟨by decide +kernel, rfl⟩
theorem dX6_takeFrom_30 : DD cX6_takeFrom 30 (.aload_n 1) 1 31 := ⟨by decide +kernel, rfl⟩
theorem dX6_takeFrom_31 : DD cX6_takeFrom 31 (.getfield 17) 3 34 := ⟨by decide +kernel, rfl⟩
theorem dX6_takeFrom_34 : DD cX6_takeFrom 34 (.putfield 17) 3 37 := ⟨by decide +kernel, rfl⟩
theorem dX6_takeFrom_37 : DD cX6_takeFrom 37 (.iconst 0) 1 38 := ⟨by decide +kernel, rfl⟩
theorem dX6_takeFrom_38 : DD cX6_takeFrom 38 (.istore_n 2) 1 39 := ⟨by decide +kernel, rfl⟩
theorem dX6_takeFrom_39 : DD cX6_takeFrom 39 (.iload_n 2) 1 40 := ⟨by decide +kernel, rfl⟩
theorem dX6_takeFrom_40 : DD cX6_takeFrom 40 (.bipush 6) 2 42 := ⟨by decide +kernel, rfl⟩
theorem dX6_takeFrom_42 : DD cX6_takeFrom 42 (.if_icmp .ge 21) 3 45 := ⟨by decide +kernel, rfl⟩
theorem dX6_takeFrom_45 : DD cX6_takeFrom 45 (.aload_n 0) 1 46 := ⟨by decide +kernel, rfl⟩
theorem dX6_takeFrom_46 : DD cX6_takeFrom 46 (.getfield 23) 3 49 := ⟨by decide +kernel, rfl⟩
theorem dX6_takeFrom_49 : DD cX6_takeFrom 49 (.iload_n 2) 1 50 := ⟨by decide +kernel, rfl⟩
theorem dX6_takeFrom_50 : DD cX6_takeFrom 50 (.aload_n 1) 1 51 := ⟨by decide +kernel, rfl⟩
theorem dX6_takeFrom_51 : DD cX6_takeFrom 51 (.getfield 23) 3 54 := ⟨by decide +kernel, rfl⟩
theorem dX6_takeFrom_54 : DD cX6_takeFrom 54 (.iload_n 2) 1 55 := ⟨by decide +kernel, rfl⟩
theorem dX6_takeFrom_55 : DD cX6_takeFrom 55 (.aaload) 1 56 := ⟨by decide +kernel, rfl⟩
theorem dX6_takeFrom_56 : DD cX6_takeFrom 56 (.aastore) 1 57 := ⟨by decide +kernel, rfl⟩
theorem dX6_takeFrom_57 : DD cX6_takeFrom 57 (.iinc 2 1) 3 60 := ⟨by decide +kernel, rfl⟩
theorem dX6_takeFrom_60 : DD cX6_takeFrom 60 (.goto (-21)) 3 63 := ⟨by decide +kernel, rfl⟩
theorem dX6_takeFrom_63 : DD cX6_takeFrom 63 (.aload_n 0) 1 64 := ⟨by decide +kernel, rfl⟩
theorem dX6_takeFrom_64 : DD cX6_takeFrom 64 (.aload_n 1) 1 65 := ⟨by decide +kernel, rfl⟩
theorem dX6_takeFrom_65 : DD cX6_takeFrom 65 (.getfield 27) 3 68 := ⟨by decide +kernel, rfl⟩
theorem dX6_takeFrom_68 : DD cX6_takeFrom 68 (.putfield 27) 3 71 := ⟨by decide +kernel, rfl⟩
theorem dX6_takeFrom_71 : DD cX6_takeFrom 71 (.iconst 0) 1 72 := ⟨by decide +kernel, rfl⟩
theorem dX6_takeFrom_72 : DD cX6_takeFrom 72 (.istore_n 2) 1 73 := ⟨by decide +kernel, rfl⟩
theorem dX6_takeFrom_73 : DD cX6_takeFrom 73 (.iload_n 2) 1 74 := ⟨by decide +kernel, rfl⟩
theorem dX6_takeFrom_74 : DD cX6_takeFrom 74 (.iconst 5) 1 75 := ⟨by decide +kernel, rfl⟩
theorem dX6_takeFrom_75 : DD cX6_takeFrom 75 (.if_icmp .ge 21) 3 78 := ⟨by decide +kernel, rfl⟩
theorem dX6_takeFrom_78 : DD cX6_takeFrom 78 (.aload_n 0) 1 79 := ⟨by decide +kernel, rfl⟩
theorem dX6_takeFrom_79 : DD cX6_takeFrom 79 (.getfield 39) 3 82 := ⟨by decide +kernel, rfl⟩
theorem dX6_takeFrom_82 : DD cX6_takeFrom 82 (.iload_n 2) 1 83 := ⟨by decide +kernel, rfl⟩
theorem dX6_takeFrom_83 : DD cX6_takeFrom 83 (.aload_n 1) 1 84 := ⟨by decide +kernel, rfl⟩
theorem dX6_takeFrom_84 : DD cX6_takeFrom 84 (.getfield 39) 3 87 := ⟨by decide +kernel, rfl⟩
theorem dX6_takeFrom_87 : DD cX6_takeFrom 87 (.iload_n 2) 1 88 := ⟨by decide +kernel, rfl⟩
theorem dX6_takeFrom_88 : DD cX6_takeFrom 88 (.iaload) 1 89 := ⟨by decide +kernel, rfl⟩
theorem dX6_takeFrom_89 : DD cX6_takeFrom 89 (.iastore) 1 90 := ⟨by decide +kernel, rfl⟩
theorem dX6_takeFrom_90 : DD cX6_takeFrom 90 (.iinc 2 1) 3 93 := ⟨by decide +kernel, rfl⟩
theorem dX6_takeFrom_93 : DD cX6_takeFrom 93 (.goto (-20)) 3 96 := ⟨by decide +kernel, rfl⟩
theorem dX6_takeFrom_96 : DD cX6_takeFrom 96 (.aload_n 0) 1 97 := ⟨by decide +kernel, rfl⟩
theorem dX6_takeFrom_97 : DD cX6_takeFrom 97 (.getfield 47) 3 100 := ⟨by decide +kernel, rfl⟩
theorem dX6_takeFrom_100 : DD cX6_takeFrom 100 (.aload_n 1) 1 101 := ⟨by decide +kernel, rfl⟩
theorem dX6_takeFrom_101 : DD cX6_takeFrom 101 (.getfield 47) 3 104 := ⟨by decide +kernel, rfl⟩
theorem dX6_takeFrom_104 : DD cX6_takeFrom 104 (.invokevirtual 69) 3 107 := ⟨by decide +kernel, rfl⟩
theorem dX6_takeFrom_107 : DD cX6_takeFrom 107 (.aload_n 0) 1 108 := ⟨by decide +kernel, rfl⟩
theorem dX6_takeFrom_108 : DD cX6_takeFrom 108 (.aload_n 1) 1 109 := ⟨by decide +kernel, rfl⟩
theorem dX6_takeFrom_109 : DD cX6_takeFrom 109 (.getfield 51) 3 112 := ⟨by decide +kernel, rfl⟩
theorem dX6_takeFrom_112 : DD cX6_takeFrom 112 (.putfield 51) 3 115 := ⟨by decide +kernel, rfl⟩
theorem dX6_takeFrom_115 : DD cX6_takeFrom 115 (.aload_n 0) 1 116 := ⟨by decide +kernel, rfl⟩
theorem dX6_takeFrom_116 : DD cX6_takeFrom 116 (.aload_n 1) 1 117 := ⟨by decide +kernel, rfl⟩
theorem dX6_takeFrom_117 : DD cX6_takeFrom 117 (.getfield 55) 3 120 := ⟨by decide +kernel, rfl⟩
theorem dX6_takeFrom_120 : DD cX6_takeFrom 120 (.putfield 55) 3 123 := ⟨by decide +kernel, rfl⟩
theorem dX6_takeFrom_123 : DD cX6_takeFrom 123 (.aload_n 0) 1 124 := ⟨by decide +kernel, rfl⟩
theorem dX6_takeFrom_124 : DD cX6_takeFrom 124 (.aload_n 1) 1 125 := ⟨by decide +kernel, rfl⟩
theorem dX6_takeFrom_125 : DD cX6_takeFrom 125 (.getfield 58) 3 128 := ⟨by decide +kernel, rfl⟩
theorem dX6_takeFrom_128 : DD cX6_takeFrom 128 (.putfield 58) 3 131 := ⟨by decide +kernel, rfl⟩
theorem dX6_takeFrom_131 : DD cX6_takeFrom 131 (.aload_n 0) 1 132 := ⟨by decide +kernel, rfl⟩
theorem dX6_takeFrom_132 : DD cX6_takeFrom 132 (.aload_n 1) 1 133 := ⟨by decide +kernel, rfl⟩
theorem dX6_takeFrom_133 : DD cX6_takeFrom 133 (.getfield 61) 3 136 := ⟨by decide +kernel, rfl⟩
theorem dX6_takeFrom_136 : DD cX6_takeFrom 136 (.putfield 61) 3 139 := ⟨by decide +kernel, rfl⟩
theorem dX6_takeFrom_139 : DD cX6_takeFrom 139 (.return_) 1 140 := ⟨by decide +kernel, rfl⟩
theorem dX6_isOnLog_0 : DD cX6_isOnLog 0 (.aload_n 0) 1 1 := ⟨by decide +kernel, rfl⟩
theorem dX6_isOnLog_1 : DD cX6_isOnLog 1 (.getfield 51) 3 4 := ⟨by decide +kernel, rfl⟩
theorem dX6_isOnLog_4 : DD cX6_isOnLog 4 (.ifCond .eq 23) 3 7 := ⟨by decide +kernel, rfl⟩
theorem dX6_isOnLog_7 : DD cX6_isOnLog 7 (.iload_n 1) 1 8 := ⟨by decide +kernel, rfl⟩
theorem dX6_isOnLog_8 : DD cX6_isOnLog 8 (.aload_n 0) 1 9 := ⟨by decide +kernel, rfl⟩
theorem dX6_isOnLog_9 : DD cX6_isOnLog 9 (.getfield 55) 3 12 := ⟨by decide +kernel, rfl⟩
theorem dX6_isOnLog_12 : DD cX6_isOnLog 12 (.if_icmp .eq 11) 3 15 := ⟨by decide +kernel, rfl⟩
theorem dX6_isOnLog_15 : DD cX6_isOnLog 15 (.iload_n 1) 1 16 := ⟨by decide +kernel, rfl⟩
theorem dX6_isOnLog_16 : DD cX6_isOnLog 16 (.aload_n 0) 1 17 := ⟨by decide +kernel, rfl⟩
theorem dX6_isOnLog_17 : DD cX6_isOnLog 17 (.getfield 58) 3 20 := ⟨by decide +kernel, rfl⟩
theorem dX6_isOnLog_20 : DD cX6_isOnLog 20 (.if_icmp .ne 7) 3 23 := ⟨by decide +kernel, rfl⟩
theorem dX6_isOnLog_23 : DD cX6_isOnLog 23 (.iconst 1) 1 24 := ⟨by decide +kernel, rfl⟩
theorem dX6_isOnLog_24 : DD cX6_isOnLog 24 (.goto 4) 3 27 := ⟨by decide +kernel, rfl⟩
theorem dX6_isOnLog_27 : DD cX6_isOnLog 27 (.iconst 0) 1 28 := ⟨by decide +kernel, rfl⟩
theorem dX6_isOnLog_28 : DD cX6_isOnLog 28 (.ireturn) 1 29 := ⟨by decide +kernel, rfl⟩
theorem dX6_wayAt_0 : DD cX6_wayAt 0 (.iload_n 1) 1 1 := ⟨by decide +kernel, rfl⟩
theorem dX6_wayAt_1 : DD cX6_wayAt 1 (.iconst 0) 1 2 := ⟨by decide +kernel, rfl⟩
theorem dX6_wayAt_2 : DD cX6_wayAt 2 (.aload_n 0) 1 3 := ⟨by decide +kernel, rfl⟩
theorem dX6_wayAt_3 : DD cX6_wayAt 3 (.getfield 27) 3 6 := ⟨by decide +kernel, rfl⟩
theorem dX6_wayAt_6 : DD cX6_wayAt 6 (.iconst 1) 1 7 := ⟨by decide +kernel, rfl⟩
theorem dX6_wayAt_7 : DD cX6_wayAt 7 (.isub) 1 8 := ⟨by decide +kernel, rfl⟩
theorem dX6_wayAt_8 : DD cX6_wayAt 8 (.invokestatic 72) 3 11 := ⟨by decide +kernel, rfl⟩
theorem dX6_wayAt_11 : DD cX6_wayAt 11 (.ifCond .eq 12) 3 14 := ⟨by decide +kernel, rfl⟩
theorem dX6_wayAt_14 : DD cX6_wayAt 14 (.aload_n 0) 1 15 := ⟨by decide +kernel, rfl⟩
theorem dX6_wayAt_15 : DD cX6_wayAt 15 (.getfield 23) 3 18 := ⟨by decide +kernel, rfl⟩
theorem dX6_wayAt_18 : DD cX6_wayAt 18 (.iload_n 1) 1 19 := ⟨by decide +kernel, rfl⟩
theorem dX6_wayAt_19 : DD cX6_wayAt 19 (.aaload) 1 20 := ⟨by decide +kernel, rfl⟩
theorem dX6_wayAt_20 : DD cX6_wayAt 20 (.goto 4) 3 23 := ⟨by decide +kernel, rfl⟩
theorem dX6_wayAt_23 : DD cX6_wayAt 23 (.aconst_null) 1 24 := ⟨by decide +kernel, rfl⟩
theorem dX6_wayAt_24 : DD cX6_wayAt 24 (.areturn) 1 25 := ⟨by decide +kernel, rfl⟩
theorem dX6_allFalls_0 : DD cX6_allFalls 0 (.iconst 0) 1 1 := ⟨by decide +kernel, rfl⟩
theorem dX6_allFalls_1 : DD cX6_allFalls 1 (.istore_n 1) 1 2 := ⟨by decide +kernel, rfl⟩
theorem dX6_allFalls_2 : DD cX6_allFalls 2 (.iconst 0) 1 3 := ⟨by decide +kernel, rfl⟩
theorem dX6_allFalls_3 : DD cX6_allFalls 3 (.istore_n 2) 1 4 := ⟨by decide +kernel, rfl⟩
theorem dX6_allFalls_4 : DD cX6_allFalls 4 (.iload_n 2) 1 5 := ⟨by decide +kernel, rfl⟩
theorem dX6_allFalls_5 : DD cX6_allFalls 5 (.aload_n 0) 1 6 := ⟨by decide +kernel, rfl⟩
theorem dX6_allFalls_6 : DD cX6_allFalls 6 (.getfield 17) 3 9 := ⟨by decide +kernel, rfl⟩
theorem dX6_allFalls_9 : DD cX6_allFalls 9 (.if_icmp .ge 21) 3 12 := ⟨by decide +kernel, rfl⟩
theorem dX6_allFalls_12 : DD cX6_allFalls 12 (.iload_n 1) 1 13 := ⟨by decide +kernel, rfl⟩
theorem dX6_allFalls_13 : DD cX6_allFalls 13 (.aload_n 0) 1 14 := ⟨by decide +kernel, rfl⟩
theorem dX6_allFalls_14 : DD cX6_allFalls 14 (.getfield 11) 3 17 := ⟨by decide +kernel, rfl⟩
theorem dX6_allFalls_17 : DD cX6_allFalls 17 (.iload_n 2) 1 18 := ⟨by decide +kernel, rfl⟩
theorem dX6_allFalls_18 : DD cX6_allFalls 18 (.aaload) 1 19 := ⟨by decide +kernel, rfl⟩
theorem dX6_allFalls_19 : DD cX6_allFalls 19 (.getfield 76) 3 22 := ⟨by decide +kernel, rfl⟩
theorem dX6_allFalls_22 : DD cX6_allFalls 22 (.iadd) 1 23 := ⟨by decide +kernel, rfl⟩
theorem dX6_allFalls_23 : DD cX6_allFalls 23 (.istore_n 1) 1 24 := ⟨by decide +kernel, rfl⟩
theorem dX6_allFalls_24 : DD cX6_allFalls 24 (.iinc 2 1) 3 27 := ⟨by decide +kernel, rfl⟩
theorem dX6_allFalls_27 : DD cX6_allFalls 27 (.goto (-23)) 3 30 := ⟨by decide +kernel, rfl⟩
theorem dX6_allFalls_30 : DD cX6_allFalls 30 (.iload_n 1) 1 31 := ⟨by decide +kernel, rfl⟩
theorem dX6_allFalls_31 : DD cX6_allFalls 31 (.ireturn) 1 32 := ⟨by decide +kernel, rfl⟩
theorem dJ6_bitCount_0f7a4_0 : DD cJ6_bitCount_0f7a4 0 (.iload_n 0) 1 1 := ⟨by decide +kernel, rfl⟩
theorem dJ6_bitCount_0f7a4_1 : DD cJ6_bitCount_0f7a4 1 (.iload_n 0) 1 2 := ⟨by decide +kernel, rfl⟩
theorem dJ6_bitCount_0f7a4_2 : DD cJ6_bitCount_0f7a4 2 (.iconst 1) 1 3 := ⟨by decide +kernel, rfl⟩
theorem dJ6_bitCount_0f7a4_3 : DD cJ6_bitCount_0f7a4 3 (.iushr) 1 4 := ⟨by decide +kernel, rfl⟩
theorem dJ6_bitCount_0f7a4_4 : DD cJ6_bitCount_0f7a4 4 (.ldc_w 265) 3 7 := ⟨by decide +kernel, rfl⟩
theorem dJ6_bitCount_0f7a4_7 : DD cJ6_bitCount_0f7a4 7 (.iand) 1 8 := ⟨by decide +kernel, rfl⟩
theorem dJ6_bitCount_0f7a4_8 : DD cJ6_bitCount_0f7a4 8 (.isub) 1 9 := ⟨by decide +kernel, rfl⟩
theorem dJ6_bitCount_0f7a4_9 : DD cJ6_bitCount_0f7a4 9 (.istore_n 0) 1 10 := ⟨by decide +kernel, rfl⟩
theorem dJ6_bitCount_0f7a4_10 : DD cJ6_bitCount_0f7a4 10 (.iload_n 0) 1 11 := ⟨by decide +kernel, rfl⟩
theorem dJ6_bitCount_0f7a4_11 : DD cJ6_bitCount_0f7a4 11 (.ldc_w 266) 3 14 := ⟨by decide +kernel, rfl⟩
theorem dJ6_bitCount_0f7a4_14 : DD cJ6_bitCount_0f7a4 14 (.iand) 1 15 := ⟨by decide +kernel, rfl⟩
theorem dJ6_bitCount_0f7a4_15 : DD cJ6_bitCount_0f7a4 15 (.iload_n 0) 1 16 := ⟨by decide +kernel, rfl⟩
theorem dJ6_bitCount_0f7a4_16 : DD cJ6_bitCount_0f7a4 16 (.iconst 2) 1 17 := ⟨by decide +kernel, rfl⟩
theorem dJ6_bitCount_0f7a4_17 : DD cJ6_bitCount_0f7a4 17 (.iushr) 1 18 := ⟨by decide +kernel, rfl⟩
theorem dJ6_bitCount_0f7a4_18 : DD cJ6_bitCount_0f7a4 18 (.ldc_w 266) 3 21 := ⟨by decide +kernel, rfl⟩
theorem dJ6_bitCount_0f7a4_21 : DD cJ6_bitCount_0f7a4 21 (.iand) 1 22 := ⟨by decide +kernel, rfl⟩
theorem dJ6_bitCount_0f7a4_22 : DD cJ6_bitCount_0f7a4 22 (.iadd) 1 23 := ⟨by decide +kernel, rfl⟩
theorem dJ6_bitCount_0f7a4_23 : DD cJ6_bitCount_0f7a4 23 (.istore_n 0) 1 24 := ⟨by decide +kernel, rfl⟩
theorem dJ6_bitCount_0f7a4_24 : DD cJ6_bitCount_0f7a4 24 (.iload_n 0) 1 25 := ⟨by decide +kernel, rfl⟩
theorem dJ6_bitCount_0f7a4_25 : DD cJ6_bitCount_0f7a4 25 (.iload_n 0) 1 26 := ⟨by decide +kernel, rfl⟩
theorem dJ6_bitCount_0f7a4_26 : DD cJ6_bitCount_0f7a4 26 (.iconst 4) 1 27 := ⟨by decide +kernel, rfl⟩
theorem dJ6_bitCount_0f7a4_27 : DD cJ6_bitCount_0f7a4 27 (.iushr) 1 28 := ⟨by decide +kernel, rfl⟩
theorem dJ6_bitCount_0f7a4_28 : DD cJ6_bitCount_0f7a4 28 (.iadd) 1 29 := ⟨by decide +kernel, rfl⟩
theorem dJ6_bitCount_0f7a4_29 : DD cJ6_bitCount_0f7a4 29 (.ldc_w 267) 3 32 := ⟨by decide +kernel, rfl⟩
theorem dJ6_bitCount_0f7a4_32 : DD cJ6_bitCount_0f7a4 32 (.iand) 1 33 := ⟨by decide +kernel, rfl⟩
theorem dJ6_bitCount_0f7a4_33 : DD cJ6_bitCount_0f7a4 33 (.istore_n 0) 1 34 := ⟨by decide +kernel, rfl⟩
theorem dJ6_bitCount_0f7a4_34 : DD cJ6_bitCount_0f7a4 34 (.iload_n 0) 1 35 := ⟨by decide +kernel, rfl⟩
theorem dJ6_bitCount_0f7a4_35 : DD cJ6_bitCount_0f7a4 35 (.iload_n 0) 1 36 := ⟨by decide +kernel, rfl⟩
theorem dJ6_bitCount_0f7a4_36 : DD cJ6_bitCount_0f7a4 36 (.bipush 8) 2 38 := ⟨by decide +kernel, rfl⟩
theorem dJ6_bitCount_0f7a4_38 : DD cJ6_bitCount_0f7a4 38 (.iushr) 1 39 := ⟨by decide +kernel, rfl⟩
theorem dJ6_bitCount_0f7a4_39 : DD cJ6_bitCount_0f7a4 39 (.iadd) 1 40 := ⟨by decide +kernel, rfl⟩
theorem dJ6_bitCount_0f7a4_40 : DD cJ6_bitCount_0f7a4 40 (.istore_n 0) 1 41 := ⟨by decide +kernel, rfl⟩
theorem dJ6_bitCount_0f7a4_41 : DD cJ6_bitCount_0f7a4 41 (.iload_n 0) 1 42 := ⟨by decide +kernel, rfl⟩
theorem dJ6_bitCount_0f7a4_42 : DD cJ6_bitCount_0f7a4 42 (.iload_n 0) 1 43 := ⟨by decide +kernel, rfl⟩
theorem dJ6_bitCount_0f7a4_43 : DD cJ6_bitCount_0f7a4 43 (.bipush 16) 2 45 := ⟨by decide +kernel, rfl⟩
theorem dJ6_bitCount_0f7a4_45 : DD cJ6_bitCount_0f7a4 45 (.iushr) 1 46 := ⟨by decide +kernel, rfl⟩
theorem dJ6_bitCount_0f7a4_46 : DD cJ6_bitCount_0f7a4 46 (.iadd) 1 47 := ⟨by decide +kernel, rfl⟩
theorem dJ6_bitCount_0f7a4_47 : DD cJ6_bitCount_0f7a4 47 (.istore_n 0) 1 48 := ⟨by decide +kernel, rfl⟩
theorem dJ6_bitCount_0f7a4_48 : DD cJ6_bitCount_0f7a4 48 (.iload_n 0) 1 49 := ⟨by decide +kernel, rfl⟩
theorem dJ6_bitCount_0f7a4_49 : DD cJ6_bitCount_0f7a4 49 (.bipush 63) 2 51 := ⟨by decide +kernel, rfl⟩
theorem dJ6_bitCount_0f7a4_51 : DD cJ6_bitCount_0f7a4 51 (.iand) 1 52 := ⟨by decide +kernel, rfl⟩
theorem dJ6_bitCount_0f7a4_52 : DD cJ6_bitCount_0f7a4 52 (.ireturn) 1 53 := ⟨by decide +kernel, rfl⟩
theorem dJ9_abs_0f7a4_0 : DD cJ9_abs_0f7a4 0 (.iload_n 0) 1 1 := ⟨by decide +kernel, rfl⟩
theorem dJ9_abs_0f7a4_1 : DD cJ9_abs_0f7a4 1 (.ifCond .ge 8) 3 4 := ⟨by decide +kernel, rfl⟩
theorem dJ9_abs_0f7a4_4 : DD cJ9_abs_0f7a4 4 (.iload_n 0) 1 5 := ⟨by decide +kernel, rfl⟩
theorem dJ9_abs_0f7a4_5 : DD cJ9_abs_0f7a4 5 (.ineg) 1 6 := ⟨by decide +kernel, rfl⟩
theorem dJ9_abs_0f7a4_6 : DD cJ9_abs_0f7a4 6 (.goto 4) 3 9 := ⟨by decide +kernel, rfl⟩
theorem dJ9_abs_0f7a4_9 : DD cJ9_abs_0f7a4 9 (.iload_n 0) 1 10 := ⟨by decide +kernel, rfl⟩
theorem dJ9_abs_0f7a4_10 : DD cJ9_abs_0f7a4 10 (.ireturn) 1 11 := ⟨by decide +kernel, rfl⟩
theorem dJ9_max_7cf53_0 : DD cJ9_max_7cf53 0 (.iload_n 0) 1 1 := ⟨by decide +kernel, rfl⟩
theorem dJ9_max_7cf53_1 : DD cJ9_max_7cf53 1 (.iload_n 1) 1 2 := ⟨by decide +kernel, rfl⟩
theorem dJ9_max_7cf53_2 : DD cJ9_max_7cf53 2 (.if_icmp .lt 7) 3 5 := ⟨by decide +kernel, rfl⟩
theorem dJ9_max_7cf53_5 : DD cJ9_max_7cf53 5 (.iload_n 0) 1 6 := ⟨by decide +kernel, rfl⟩
theorem dJ9_max_7cf53_6 : DD cJ9_max_7cf53 6 (.goto 4) 3 9 := ⟨by decide +kernel, rfl⟩
theorem dJ9_max_7cf53_9 : DD cJ9_max_7cf53 9 (.iload_n 1) 1 10 := ⟨by decide +kernel, rfl⟩
theorem dJ9_max_7cf53_10 : DD cJ9_max_7cf53 10 (.ireturn) 1 11 := ⟨by decide +kernel, rfl⟩
theorem dJ9_min_7cf53_0 : DD cJ9_min_7cf53 0 (.iload_n 0) 1 1 := ⟨by decide +kernel, rfl⟩
theorem dJ9_min_7cf53_1 : DD cJ9_min_7cf53 1 (.iload_n 1) 1 2 := ⟨by decide +kernel, rfl⟩
theorem dJ9_min_7cf53_2 : DD cJ9_min_7cf53 2 (.if_icmp .gt 7) 3 5 := ⟨by decide +kernel, rfl⟩
theorem dJ9_min_7cf53_5 : DD cJ9_min_7cf53 5 (.iload_n 0) 1 6 := ⟨by decide +kernel, rfl⟩
theorem dJ9_min_7cf53_6 : DD cJ9_min_7cf53 6 (.goto 4) 3 9 := ⟨by decide +kernel, rfl⟩
theorem dJ9_min_7cf53_9 : DD cJ9_min_7cf53 9 (.iload_n 1) 1 10 := ⟨by decide +kernel, rfl⟩
theorem dJ9_min_7cf53_10 : DD cJ9_min_7cf53 10 (.ireturn) 1 11 := ⟨by decide +kernel, rfl⟩
theorem dJ0_length_8abf5_0 : DD cJ0_length_8abf5 0 (.aload_n 0) 1 1 := ⟨by decide +kernel, rfl⟩
theorem dJ0_length_8abf5_1 : DD cJ0_length_8abf5 1 (.getfield 9) 3 4 := ⟨by decide +kernel, rfl⟩
theorem dJ0_length_8abf5_4 : DD cJ0_length_8abf5 4 (.arraylength) 1 5 := ⟨by decide +kernel, rfl⟩
theorem dJ0_length_8abf5_5 : DD cJ0_length_8abf5 5 (.aload_n 0) 1 6 := ⟨by decide +kernel, rfl⟩
theorem dJ0_length_8abf5_6 : DD cJ0_length_8abf5 6 (.invokevirtual 335) 3 9 := ⟨by decide +kernel, rfl⟩
theorem dJ0_length_8abf5_9 : DD cJ0_length_8abf5 9 (.ishr) 1 10 := ⟨by decide +kernel, rfl⟩
theorem dJ0_length_8abf5_10 : DD cJ0_length_8abf5 10 (.ireturn) 1 11 := ⟨by decide +kernel, rfl⟩
theorem dJ0_charAt_5068e_0 : DD cJ0_charAt_5068e 0 (.aload_n 0) 1 1 := ⟨by decide +kernel, rfl⟩
theorem dJ0_charAt_5068e_1 : DD cJ0_charAt_5068e 1 (.invokevirtual 492) 3 4 := ⟨by decide +kernel, rfl⟩
theorem dJ0_charAt_5068e_4 : DD cJ0_charAt_5068e 4 (.ifCond .eq 12) 3 7 := ⟨by decide +kernel, rfl⟩
theorem dJ0_charAt_5068e_7 : DD cJ0_charAt_5068e 7 (.aload_n 0) 1 8 := ⟨by decide +kernel, rfl⟩
theorem dJ0_charAt_5068e_8 : DD cJ0_charAt_5068e 8 (.getfield 9) 3 11 := ⟨by decide +kernel, rfl⟩
theorem dJ0_charAt_5068e_11 : DD cJ0_charAt_5068e 11 (.iload_n 1) 1 12 := ⟨by decide +kernel, rfl⟩
theorem dJ0_charAt_5068e_12 : DD cJ0_charAt_5068e 12 (.invokestatic 495) 3 15 := ⟨by decide +kernel, rfl⟩
theorem dJ0_charAt_5068e_15 : DD cJ0_charAt_5068e 15 (.ireturn) 1 16 := ⟨by decide +kernel, rfl⟩
theorem dJ0_charAt_5068e_16 : DD cJ0_charAt_5068e 16 (.aload_n 0) 1 17 := ⟨by decide +kernel, rfl⟩
theorem dJ0_charAt_5068e_17 : DD cJ0_charAt_5068e 17 (.getfield 9) 3 20 := ⟨by decide +kernel, rfl⟩
theorem dJ0_charAt_5068e_20 : DD cJ0_charAt_5068e 20 (.iload_n 1) 1 21 := ⟨by decide +kernel, rfl⟩
theorem dJ0_charAt_5068e_21 : DD cJ0_charAt_5068e 21 (.invokestatic 498) 3 24 := ⟨by decide +kernel, rfl⟩
theorem dJ0_charAt_5068e_24 : DD cJ0_charAt_5068e 24 (.ireturn) 1 25 := ⟨by decide +kernel, rfl⟩
theorem dJ0_coder_7d493_0 : DD cJ0_coder_7d493 0 (.getstatic 38) 3 3 := ⟨by decide +kernel, rfl⟩
theorem dJ0_coder_7d493_3 : DD cJ0_coder_7d493 3 (.ifCond .eq 10) 3 6 := ⟨by decide +kernel, rfl⟩
theorem dJ0_coder_7d493_6 : DD cJ0_coder_7d493 6 (.aload_n 0) 1 7 := ⟨by decide +kernel, rfl⟩
theorem dJ0_coder_7d493_7 : DD cJ0_coder_7d493 7 (.getfield 15) 3 10 := ⟨by decide +kernel, rfl⟩
theorem dJ0_coder_7d493_10 : DD cJ0_coder_7d493 10 (.goto 4) 3 13 := ⟨by decide +kernel, rfl⟩
theorem dJ0_coder_7d493_13 : DD cJ0_coder_7d493 13 (.iconst 1) 1 14 := ⟨by decide +kernel, rfl⟩
theorem dJ0_coder_7d493_14 : DD cJ0_coder_7d493 14 (.ireturn) 1 15 := ⟨by decide +kernel, rfl⟩
theorem dJ0_isLatin1_aae02_0 : DD cJ0_isLatin1_aae02 0 (.getstatic 38) 3 3 := ⟨by decide +kernel, rfl⟩
theorem dJ0_isLatin1_aae02_3 : DD cJ0_isLatin1_aae02 3 (.ifCond .eq 14) 3 6 := ⟨by decide +kernel, rfl⟩
theorem dJ0_isLatin1_aae02_6 : DD cJ0_isLatin1_aae02 6 (.aload_n 0) 1 7 := ⟨by decide +kernel, rfl⟩
theorem dJ0_isLatin1_aae02_7 : DD cJ0_isLatin1_aae02 7 (.getfield 15) 3 10 := ⟨by decide +kernel, rfl⟩
theorem dJ0_isLatin1_aae02_10 : DD cJ0_isLatin1_aae02 10 (.ifCond .ne 7) 3 13 := ⟨by decide +kernel, rfl⟩
theorem dJ0_isLatin1_aae02_13 : DD cJ0_isLatin1_aae02 13 (.iconst 1) 1 14 := ⟨by decide +kernel, rfl⟩
theorem dJ0_isLatin1_aae02_14 : DD cJ0_isLatin1_aae02 14 (.goto 4) 3 17 := ⟨by decide +kernel, rfl⟩
theorem dJ0_isLatin1_aae02_17 : DD cJ0_isLatin1_aae02 17 (.iconst 0) 1 18 := ⟨by decide +kernel, rfl⟩
theorem dJ0_isLatin1_aae02_18 : DD cJ0_isLatin1_aae02 18 (.ireturn) 1 19 := ⟨by decide +kernel, rfl⟩
theorem dJ0_checkIndex_df160_0 : DD cJ0_checkIndex_df160 0 (.iload_n 0) 1 1 := ⟨by decide +kernel, rfl⟩
theorem dJ0_checkIndex_df160_1 : DD cJ0_checkIndex_df160 1 (.iload_n 1) 1 2 := ⟨by decide +kernel, rfl⟩
theorem dJ0_checkIndex_df160_2 : DD cJ0_checkIndex_df160 2 (.getstatic 1053) 3 5 := ⟨by decide +kernel, rfl⟩
theorem dJ0_checkIndex_df160_5 : DD cJ0_checkIndex_df160 5 (.invokestatic 1059) 3 8 := ⟨by decide +kernel, rfl⟩
theorem dJ0_checkIndex_df160_8 : DD cJ0_checkIndex_df160 8 (.pop) 1 9 := ⟨by decide +kernel, rfl⟩
theorem dJ0_checkIndex_df160_9 : DD cJ0_checkIndex_df160 9 (.return_) 1 10 := ⟨by decide +kernel, rfl⟩
theorem dJ1_charAt_3b067_0 : DD cJ1_charAt_3b067 0 (.iload_n 1) 1 1 := ⟨by decide +kernel, rfl⟩
theorem dJ1_charAt_3b067_1 : DD cJ1_charAt_3b067 1 (.aload_n 0) 1 2 := ⟨by decide +kernel, rfl⟩
theorem dJ1_charAt_3b067_2 : DD cJ1_charAt_3b067 2 (.arraylength) 1 3 := ⟨by decide +kernel, rfl⟩
theorem dJ1_charAt_3b067_3 : DD cJ1_charAt_3b067 3 (.invokestatic 9) 3 6 := ⟨by decide +kernel, rfl⟩
theorem dJ1_charAt_3b067_6 : DD cJ1_charAt_3b067 6 (.aload_n 0) 1 7 := ⟨by decide +kernel, rfl⟩
theorem dJ1_charAt_3b067_7 : DD cJ1_charAt_3b067 7 (.iload_n 1) 1 8 := ⟨by decide +kernel, rfl⟩
theorem dJ1_charAt_3b067_8 : DD cJ1_charAt_3b067 8 (.baload) 1 9 := ⟨by decide +kernel, rfl⟩
theorem dJ1_charAt_3b067_9 : DD cJ1_charAt_3b067 9 (.sipush 255) 3 12 := ⟨by decide +kernel, rfl⟩
theorem dJ1_charAt_3b067_12 : DD cJ1_charAt_3b067 12 (.iand) 1 13 := ⟨by decide +kernel, rfl⟩
theorem dJ1_charAt_3b067_13 : DD cJ1_charAt_3b067 13 (.i2c) 1 14 := ⟨by decide +kernel, rfl⟩
theorem dJ1_charAt_3b067_14 : DD cJ1_charAt_3b067 14 (.ireturn) 1 15 := ⟨by decide +kernel, rfl⟩
theorem dJ2_getChar_3b067_0 : DD cJ2_getChar_3b067 0 (.getstatic 44) 3 3 := ⟨by decide +kernel, rfl⟩
theorem dJ2_getChar_3b067_3 : DD cJ2_getChar_3b067 3 (.ifCond .ne 25) 3 6 := ⟨by decide +kernel, rfl⟩
theorem dJ2_getChar_3b067_6 : DD cJ2_getChar_3b067 6 (.iload_n 1) 1 7 := ⟨by decide +kernel, rfl⟩
theorem dJ2_getChar_3b067_7 : DD cJ2_getChar_3b067 7 (.ifCond .lt 11) 3 10 := ⟨by decide +kernel, rfl⟩
theorem dJ2_getChar_3b067_10 : DD cJ2_getChar_3b067 10 (.iload_n 1) 1 11 := ⟨by decide +kernel, rfl⟩
theorem dJ2_getChar_3b067_11 : DD cJ2_getChar_3b067 11 (.aload_n 0) 1 12 := ⟨by decide +kernel, rfl⟩
theorem dJ2_getChar_3b067_12 : DD cJ2_getChar_3b067 12 (.invokestatic 48) 3 15 := ⟨by decide +kernel, rfl⟩
theorem dJ2_getChar_3b067_15 : DD cJ2_getChar_3b067 15 (.if_icmp .lt 13) 3 18 := ⟨by decide +kernel, rfl⟩
theorem dJ2_getChar_3b067_18 : DD cJ2_getChar_3b067 18 (.new 52) 3 21 := ⟨by decide +kernel, rfl⟩
theorem dJ2_getChar_3b067_21 : DD cJ2_getChar_3b067 21 (.dup) 1 22 := ⟨by decide +kernel, rfl⟩
theorem dJ2_getChar_3b067_22 : DD cJ2_getChar_3b067 22 (.ldc 54) 2 24 := ⟨by decide +kernel, rfl⟩
theorem dJ2_getChar_3b067_24 : DD cJ2_getChar_3b067 24 (.invokespecial 56) 3 27 := ⟨by decide +kernel, rfl⟩
theorem dJ2_getChar_3b067_27 : DD cJ2_getChar_3b067 27 (.athrow) 1 28 := ⟨by decide +kernel, rfl⟩
theorem dJ2_getChar_3b067_28 : DD cJ2_getChar_3b067 28 (.iload_n 1) 1 29 := ⟨by decide +kernel, rfl⟩
theorem dJ2_getChar_3b067_29 : DD cJ2_getChar_3b067 29 (.iconst 1) 1 30 := ⟨by decide +kernel, rfl⟩
theorem dJ2_getChar_3b067_30 : DD cJ2_getChar_3b067 30 (.ishl) 1 31 := ⟨by decide +kernel, rfl⟩
theorem dJ2_getChar_3b067_31 : DD cJ2_getChar_3b067 31 (.istore_n 1) 1 32 := ⟨by decide +kernel, rfl⟩
theorem dJ2_getChar_3b067_32 : DD cJ2_getChar_3b067 32 (.aload_n 0) 1 33 := ⟨by decide +kernel, rfl⟩
theorem dJ2_getChar_3b067_33 : DD cJ2_getChar_3b067 33 (.iload_n 1) 1 34 := ⟨by decide +kernel, rfl⟩
theorem dJ2_getChar_3b067_34 : DD cJ2_getChar_3b067 34 (.iinc 1 1) 3 37 := ⟨by decide +kernel, rfl⟩
theorem dJ2_getChar_3b067_37 : DD cJ2_getChar_3b067 37 (.baload) 1 38 := ⟨by decide +kernel, rfl⟩
theorem dJ2_getChar_3b067_38 : DD cJ2_getChar_3b067 38 (.sipush 255) 3 41 := ⟨by decide +kernel, rfl⟩
theorem dJ2_getChar_3b067_41 : DD cJ2_getChar_3b067 41 (.iand) 1 42 := ⟨by decide +kernel, rfl⟩
theorem dJ2_getChar_3b067_42 : DD cJ2_getChar_3b067 42 (.getstatic 59) 3 45 := ⟨by decide +kernel, rfl⟩
theorem dJ2_getChar_3b067_45 : DD cJ2_getChar_3b067 45 (.ishl) 1 46 := ⟨by decide +kernel, rfl⟩
theorem dJ2_getChar_3b067_46 : DD cJ2_getChar_3b067 46 (.aload_n 0) 1 47 := ⟨by decide +kernel, rfl⟩
theorem dJ2_getChar_3b067_47 : DD cJ2_getChar_3b067 47 (.iload_n 1) 1 48 := ⟨by decide +kernel, rfl⟩
theorem dJ2_getChar_3b067_48 : DD cJ2_getChar_3b067 48 (.baload) 1 49 := ⟨by decide +kernel, rfl⟩
theorem dJ2_getChar_3b067_49 : DD cJ2_getChar_3b067 49 (.sipush 255) 3 52 := ⟨by decide +kernel, rfl⟩
theorem dJ2_getChar_3b067_52 : DD cJ2_getChar_3b067 52 (.iand) 1 53 := ⟨by decide +kernel, rfl⟩
theorem dJ2_getChar_3b067_53 : DD cJ2_getChar_3b067 53 (.getstatic 63) 3 56 := ⟨by decide +kernel, rfl⟩
theorem dJ2_getChar_3b067_56 : DD cJ2_getChar_3b067 56 (.ishl) 1 57 := ⟨by decide +kernel, rfl⟩
theorem dJ2_getChar_3b067_57 : DD cJ2_getChar_3b067 57 (.ior) 1 58 := ⟨by decide +kernel, rfl⟩
theorem dJ2_getChar_3b067_58 : DD cJ2_getChar_3b067 58 (.i2c) 1 59 := ⟨by decide +kernel, rfl⟩
theorem dJ2_getChar_3b067_59 : DD cJ2_getChar_3b067 59 (.ireturn) 1 60 := ⟨by decide +kernel, rfl⟩
theorem dJ2_length_9d52b_0 : DD cJ2_length_9d52b 0 (.aload_n 0) 1 1 := ⟨by decide +kernel, rfl⟩
theorem dJ2_length_9d52b_1 : DD cJ2_length_9d52b 1 (.arraylength) 1 2 := ⟨by decide +kernel, rfl⟩
theorem dJ2_length_9d52b_2 : DD cJ2_length_9d52b 2 (.iconst 1) 1 3 := ⟨by decide +kernel, rfl⟩
theorem dJ2_length_9d52b_3 : DD cJ2_length_9d52b 3 (.ishr) 1 4 := ⟨by decide +kernel, rfl⟩
theorem dJ2_length_9d52b_4 : DD cJ2_length_9d52b 4 (.ireturn) 1 5 := ⟨by decide +kernel, rfl⟩
theorem dJ2_charAt_3b067_0 : DD cJ2_charAt_3b067 0 (.iload_n 1) 1 1 := ⟨by decide +kernel, rfl⟩
theorem dJ2_charAt_3b067_1 : DD cJ2_charAt_3b067 1 (.aload_n 0) 1 2 := ⟨by decide +kernel, rfl⟩
theorem dJ2_charAt_3b067_2 : DD cJ2_charAt_3b067 2 (.invokestatic 67) 3 5 := ⟨by decide +kernel, rfl⟩
theorem dJ2_charAt_3b067_5 : DD cJ2_charAt_3b067 5 (.aload_n 0) 1 6 := ⟨by decide +kernel, rfl⟩
theorem dJ2_charAt_3b067_6 : DD cJ2_charAt_3b067 6 (.iload_n 1) 1 7 := ⟨by decide +kernel, rfl⟩
theorem dJ2_charAt_3b067_7 : DD cJ2_charAt_3b067 7 (.invokestatic 71) 3 10 := ⟨by decide +kernel, rfl⟩
theorem dJ2_charAt_3b067_10 : DD cJ2_charAt_3b067 10 (.ireturn) 1 11 := ⟨by decide +kernel, rfl⟩
theorem dJ2_checkIndex_2214a_0 : DD cJ2_checkIndex_2214a 0 (.iload_n 0) 1 1 := ⟨by decide +kernel, rfl⟩
theorem dJ2_checkIndex_2214a_1 : DD cJ2_checkIndex_2214a 1 (.aload_n 1) 1 2 := ⟨by decide +kernel, rfl⟩
theorem dJ2_checkIndex_2214a_2 : DD cJ2_checkIndex_2214a 2 (.invokestatic 48) 3 5 := ⟨by decide +kernel, rfl⟩
theorem dJ2_checkIndex_2214a_5 : DD cJ2_checkIndex_2214a 5 (.invokestatic 414) 3 8 := ⟨by decide +kernel, rfl⟩
theorem dJ2_checkIndex_2214a_8 : DD cJ2_checkIndex_2214a 8 (.return_) 1 9 := ⟨by decide +kernel, rfl⟩
theorem dJ3_checkIndex_8e157_0 : DD cJ3_checkIndex_8e157 0 (.iload_n 0) 1 1 := ⟨by decide +kernel, rfl⟩
theorem dJ3_checkIndex_8e157_1 : DD cJ3_checkIndex_8e157 1 (.ifCond .lt 8) 3 4 := ⟨by decide +kernel, rfl⟩
theorem dJ3_checkIndex_8e157_4 : DD cJ3_checkIndex_8e157 4 (.iload_n 0) 1 5 := ⟨by decide +kernel, rfl⟩
theorem dJ3_checkIndex_8e157_5 : DD cJ3_checkIndex_8e157 5 (.iload_n 1) 1 6 := ⟨by decide +kernel, rfl⟩
theorem dJ3_checkIndex_8e157_6 : DD cJ3_checkIndex_8e157 6 (.if_icmp .lt 10) 3 9 := ⟨by decide +kernel, rfl⟩
theorem dJ3_checkIndex_8e157_9 : DD cJ3_checkIndex_8e157 9 (.aload_n 2) 1 10 := ⟨by decide +kernel, rfl⟩
theorem dJ3_checkIndex_8e157_10 : DD cJ3_checkIndex_8e157 10 (.iload_n 0) 1 11 := ⟨by decide +kernel, rfl⟩
theorem dJ3_checkIndex_8e157_11 : DD cJ3_checkIndex_8e157 11 (.iload_n 1) 1 12 := ⟨by decide +kernel, rfl⟩
theorem dJ3_checkIndex_8e157_12 : DD cJ3_checkIndex_8e157 12 (.invokestatic 95) 3 15 := ⟨by decide +kernel, rfl⟩
theorem dJ3_checkIndex_8e157_15 : DD cJ3_checkIndex_8e157 15 (.athrow) 1 16 := ⟨by decide +kernel, rfl⟩
theorem dJ3_checkIndex_8e157_16 : DD cJ3_checkIndex_8e157 16 (.iload_n 0) 1 17 := ⟨by decide +kernel, rfl⟩
theorem dJ3_checkIndex_8e157_17 : DD cJ3_checkIndex_8e157 17 (.ireturn) 1 18 := ⟨by decide +kernel, rfl⟩
end
section
theorem dX7_init_0 : DD cX7_init 0 (.aload_n 0) 1 1 := ⟨by decide +kernel, rfl⟩
theorem dX7_init_1 : DD cX7_init 1 (.invokespecial 1) 3 4 := ⟨by decide +kernel, rfl⟩
theorem dX7_init_4 : DD cX7_init 4 (.aload_n 0) 1 5 := ⟨by decide +kernel, rfl⟩
theorem dX7_init_5 : DD cX7_init 5 (.new 7) 3 8 := ⟨by decide +kernel, rfl⟩
theorem dX7_init_8 : DD cX7_init 8 (.dup) 1 9 := ⟨by decide +kernel, rfl⟩
theorem dX7_init_9 : DD cX7_init 9 (.invokespecial 9) 3 12 := ⟨by decide +kernel, rfl⟩
theorem dX7_init_12 : DD cX7_init 12 (.putfield 10) 3 15 := ⟨by decide +kernel, rfl⟩
theorem dX7_init_15 : DD cX7_init 15 (.aload_n 0) 1 16 := ⟨by decide +kernel, rfl⟩
theorem dX7_init_16 : DD cX7_init 16 (.new 7) 3 19 := ⟨by decide +kernel, rfl⟩
theorem dX7_init_19 : DD cX7_init 19 (.dup) 1 20 := ⟨by decide +kernel, rfl⟩
theorem dX7_init_20 : DD cX7_init 20 (.invokespecial 9) 3 23 := ⟨by decide +kernel, rfl⟩
theorem dX7_init_23 : DD cX7_init 23 (.putfield 16) 3 26 := ⟨by decide +kernel, rfl⟩
theorem dX7_init_26 : DD cX7_init 26 (.aload_n 0) 1 27 := ⟨by decide +kernel, rfl⟩
theorem dX7_init_27 : DD cX7_init 27 (.iconst 0) 1 28 := ⟨by decide +kernel, rfl⟩
theorem dX7_init_28 : DD cX7_init 28 (.putfield 19) 3 31 := ⟨by decide +kernel, rfl⟩
theorem dX7_init_31 : DD cX7_init 31 (.aload_n 0) 1 32 := ⟨by decide +kernel, rfl⟩
theorem dX7_init_32 : DD cX7_init 32 (.new 23) 3 35 := ⟨by decide +kernel, rfl⟩
theorem dX7_init_35 : DD cX7_init 35 (.dup) 1 36 := ⟨by decide +kernel, rfl⟩
theorem dX7_init_36 : DD cX7_init 36 (.aload_n 0) 1 37 := ⟨by decide +kernel, rfl⟩
theorem dX7_init_37 : DD cX7_init 37 (.getfield 10) 3 40 := ⟨by decide +kernel, rfl⟩
theorem dX7_init_40 : DD cX7_init 40 (.getfield 25) 3 43 := ⟨by decide +kernel, rfl⟩
theorem dX7_init_43 : DD cX7_init 43 (.aload_n 0) 1 44 := ⟨by decide +kernel, rfl⟩
theorem dX7_init_44 : DD cX7_init 44 (.getfield 10) 3 47 := ⟨by decide +kernel, rfl⟩
theorem dX7_init_47 : DD cX7_init 47 (.getfield 29) 3 50 := ⟨by decide +kernel, rfl⟩
theorem dX7_init_50 : DD cX7_init 50 (.invokespecial 33) 3 53 := ⟨by decide +kernel, rfl⟩
theorem dX7_init_53 : DD cX7_init 53 (.putfield 36) 3 56 := ⟨by decide +kernel, rfl⟩
theorem dX7_init_56 : DD cX7_init 56 (.aload_n 0) 1 57 := ⟨by decide +kernel, rfl⟩
theorem dX7_init_57 : DD cX7_init 57 (.new 40) 3 60 := ⟨by decide +kernel, rfl⟩
theorem dX7_init_60 : DD cX7_init 60 (.dup) 1 61 := ⟨by decide +kernel, rfl⟩
theorem dX7_init_61 : DD cX7_init 61 (.invokespecial 42) 3 64 := ⟨by decide +kernel, rfl⟩
theorem dX7_init_64 : DD cX7_init 64 (.putfield 43) 3 67 := ⟨by decide +kernel, rfl⟩
theorem dX7_init_67 : DD cX7_init 67 (.aload_n 0) 1 68 := ⟨by decide +kernel, rfl⟩
theorem dX7_init_68 : DD cX7_init 68 (.new 47) 3 71 := ⟨by decide +kernel, rfl⟩
theorem dX7_init_71 : DD cX7_init 71 (.dup) 1 72 := ⟨by decide +kernel, rfl⟩
theorem dX7_init_72 : DD cX7_init 72 (.invokespecial 49) 3 75 := ⟨by decide +kernel, rfl⟩
theorem dX7_init_75 : DD cX7_init 75 (.putfield 50) 3 78 := ⟨by decide +kernel, rfl⟩
theorem dX7_init_78 : DD cX7_init 78 (.aload_n 0) 1 79 := ⟨by decide +kernel, rfl⟩
theorem dX7_init_79 : DD cX7_init 79 (.iconst 4) 1 80 := ⟨by decide +kernel, rfl⟩
theorem dX7_init_80 : DD cX7_init 80 (.anewarray 54) 3 83 := ⟨by decide +kernel, rfl⟩
theorem dX7_init_83 : DD cX7_init 83 (.putfield 56) 3 86 := ⟨by decide +kernel, rfl⟩
theorem dX7_init_86 : DD cX7_init 86 (.aload_n 0) 1 87 := ⟨by decide +kernel, rfl⟩
theorem dX7_init_87 : DD cX7_init 87 (.bipush 7) 2 89 := ⟨by decide +kernel, rfl⟩
theorem dX7_init_89 : DD cX7_init 89 (.newarray .int) 2 91 := ⟨by decide +kernel, rfl⟩
theorem dX7_init_91 : DD cX7_init 91 (.putfield 60) 3 94 := ⟨by decide +kernel, rfl⟩
theorem dX7_init_94 : DD cX7_init 94 (.iconst 0) 1 95 := ⟨by decide +kernel, rfl⟩
theorem dX7_init_95 : DD cX7_init 95 (.istore_n 1) 1 96 := ⟨by decide +kernel, rfl⟩
theorem dX7_init_96 : DD cX7_init 96 (.iload_n 1) 1 97 := ⟨by decide +kernel, rfl⟩
theorem dX7_init_97 : DD cX7_init 97 (.iconst 4) 1 98 := ⟨by decide +kernel, rfl⟩
theorem dX7_init_98 : DD cX7_init 98 (.if_icmp .ge 22) 3 101 := ⟨by decide +kernel, rfl⟩
theorem dX7_init_101 : DD cX7_init 101 (.aload_n 0) 1 102 := ⟨by decide +kernel, rfl⟩
theorem dX7_init_102 : DD cX7_init 102 (.getfield 56) 3 105 := ⟨by decide +kernel, rfl⟩
theorem dX7_init_105 : DD cX7_init 105 (.iload_n 1) 1 106 := ⟨by decide +kernel, rfl⟩
theorem dX7_init_106 : DD cX7_init 106 (.new 54) 3 109 := ⟨by decide +kernel, rfl⟩
theorem dX7_init_109 : DD cX7_init 109 (.dup) 1 110 := ⟨by decide +kernel, rfl⟩
theorem dX7_init_110 : DD cX7_init 110 (.invokespecial 63) 3 113 := ⟨by decide +kernel, rfl⟩
theorem dX7_init_113 : DD cX7_init 113 (.aastore) 1 114 := ⟨by decide +kernel, rfl⟩
theorem dX7_init_114 : DD cX7_init 114 (.iinc 1 1) 3 117 := ⟨by decide +kernel, rfl⟩
theorem dX7_init_117 : DD cX7_init 117 (.goto (-21)) 3 120 := ⟨by decide +kernel, rfl⟩
theorem dX7_init_120 : DD cX7_init 120 (.return_) 1 121 := ⟨by decide +kernel, rfl⟩
theorem dX7_roller_0 : DD cX7_roller 0 (.iload_n 1) 1 1 := ⟨by decide +kernel, rfl⟩
theorem dX7_roller_1 : DD cX7_roller 1 (.invokestatic 64) 3 4 := ⟨by decide +kernel, rfl⟩
theorem dX7_roller_4 : DD cX7_roller 4 (.ifCond .eq 14) 3 7 := ⟨by decide +kernel, rfl⟩
theorem dX7_roller_7 : DD cX7_roller 7 (.iload_n 2) 1 8 := ⟨by decide +kernel, rfl⟩
theorem dX7_roller_8 : DD cX7_roller 8 (.iconst 1) 1 9 := ⟨by decide +kernel, rfl⟩
theorem dX7_roller_9 : DD cX7_roller 9 (.sipush 299) 3 12 := ⟨by decide +kernel, rfl⟩
theorem dX7_roller_12 : DD cX7_roller 12 (.invokestatic 68) 3 15 := ⟨by decide +kernel, rfl⟩
theorem dX7_roller_15 : DD cX7_roller 15 (.ifCond .ne 10) 3 18 := ⟨by decide +kernel, rfl⟩
theorem dX7_roller_18 : DD cX7_roller 18 (.aload_n 0) 1 19 := ⟨by decide +kernel, rfl⟩
theorem dX7_roller_19 : DD cX7_roller 19 (.ldc 72) 2 21 := ⟨by decide +kernel, rfl⟩
theorem dX7_roller_21 : DD cX7_roller 21 (.invokevirtual 73) 3 24 := ⟨by decide +kernel, rfl⟩
theorem dX7_roller_24 : DD cX7_roller 24 (.ireturn) 1 25 := ⟨by decide +kernel, rfl⟩
theorem dX7_roller_25 : DD cX7_roller 25 (.aload_n 0) 1 26 := ⟨by decide +kernel, rfl⟩
theorem dX7_roller_26 : DD cX7_roller 26 (.getfield 10) 3 29 := ⟨by decide +kernel, rfl⟩
theorem dX7_roller_29 : DD cX7_roller 29 (.getfield 77) 3 32 := ⟨by decide +kernel, rfl⟩
theorem dX7_roller_32 : DD cX7_roller 32 (.bipush 8) 2 34 := ⟨by decide +kernel, rfl⟩
theorem dX7_roller_34 : DD cX7_roller 34 (.if_icmp .lt 10) 3 37 := ⟨by decide +kernel, rfl⟩
theorem dX7_roller_37 : DD cX7_roller 37 (.aload_n 0) 1 38 := ⟨by decide +kernel, rfl⟩
theorem dX7_roller_38 : DD cX7_roller 38 (.ldc 81) 2 40 := ⟨by decide +kernel, rfl⟩
theorem dX7_roller_40 : DD cX7_roller 40 (.invokevirtual 73) 3 43 := ⟨by decide +kernel, rfl⟩
theorem dX7_roller_43 : DD cX7_roller 43 (.ireturn) 1 44 := ⟨by decide +kernel, rfl⟩
theorem dX7_roller_44 : DD cX7_roller 44 (.aload_n 0) 1 45 := ⟨by decide +kernel, rfl⟩
theorem dX7_roller_45 : DD cX7_roller 45 (.getfield 10) 3 48 := ⟨by decide +kernel, rfl⟩
theorem dX7_roller_48 : DD cX7_roller 48 (.getfield 77) 3 51 := ⟨by decide +kernel, rfl⟩
theorem dX7_roller_51 : DD cX7_roller 51 (.istore_n 3) 1 52 := ⟨by decide +kernel, rfl⟩
theorem dX7_roller_52 : DD cX7_roller 52 (.aload_n 0) 1 53 := ⟨by decide +kernel, rfl⟩
theorem dX7_roller_53 : DD cX7_roller 53 (.getfield 10) 3 56 := ⟨by decide +kernel, rfl⟩
theorem dX7_roller_56 : DD cX7_roller 56 (.getfield 82) 3 59 := ⟨by decide +kernel, rfl⟩
theorem dX7_roller_59 : DD cX7_roller 59 (.iload_n 3) 1 60 := ⟨by decide +kernel, rfl⟩
theorem dX7_roller_60 : DD cX7_roller 60 (.aaload) 1 61 := ⟨by decide +kernel, rfl⟩
theorem dX7_roller_61 : DD cX7_roller 61 (.iload_n 1) 1 62 := ⟨by decide +kernel, rfl⟩
theorem dX7_roller_62 : DD cX7_roller 62 (.iload_n 2) 1 63 := ⟨by decide +kernel, rfl⟩
theorem dX7_roller_63 : DD cX7_roller 63 (.invokevirtual 86) 3 66 := ⟨by decide +kernel, rfl⟩
theorem dX7_roller_66 : DD cX7_roller 66 (.aload_n 0) 1 67 := ⟨by decide +kernel, rfl⟩
theorem dX7_roller_67 : DD cX7_roller 67 (.getfield 10) 3 70 := ⟨by decide +kernel, rfl⟩
theorem dX7_roller_70 : DD cX7_roller 70 (.dup) 1 71 := ⟨by decide +kernel, rfl⟩
theorem dX7_roller_71 : DD cX7_roller 71 (.getfield 77) 3 74 := ⟨by decide +kernel, rfl⟩
theorem dX7_roller_74 : DD cX7_roller 74 (.iconst 1) 1 75 := ⟨by decide +kernel, rfl⟩
theorem dX7_roller_75 : DD cX7_roller 75 (.iadd) 1 76 := ⟨by decide +kernel, rfl⟩
theorem dX7_roller_76 : DD cX7_roller 76 (.putfield 77) 3 79 := ⟨by decide +kernel, rfl⟩
theorem dX7_roller_79 : DD cX7_roller 79 (.iload_n 3) 1 80 := ⟨by decide +kernel, rfl⟩
theorem dX7_roller_80 : DD cX7_roller 80 (.ireturn) 1 81 := ⟨by decide +kernel, rfl⟩
theorem dX7_of_0 : DD cX7_of 0 (.aload_n 0) 1 1 := ⟨by decide +kernel, rfl⟩
theorem dX7_of_1 : DD cX7_of 1 (.iload_n 1) 1 2 := ⟨by decide +kernel, rfl⟩
theorem dX7_of_2 : DD cX7_of 2 (.invokevirtual 90) 3 5 := ⟨by decide +kernel, rfl⟩
theorem dX7_of_5 : DD cX7_of 5 (.ifCond .eq 13) 3 8 := ⟨by decide +kernel, rfl⟩
theorem dX7_of_8 : DD cX7_of 8 (.iload_n 2) 1 9 := ⟨by decide +kernel, rfl⟩
theorem dX7_of_9 : DD cX7_of 9 (.iconst 0) 1 10 := ⟨by decide +kernel, rfl⟩
theorem dX7_of_10 : DD cX7_of 10 (.bipush 6) 2 12 := ⟨by decide +kernel, rfl⟩
theorem dX7_of_12 : DD cX7_of 12 (.invokestatic 68) 3 15 := ⟨by decide +kernel, rfl⟩
theorem dX7_of_15 : DD cX7_of 15 (.ifCond .ne 10) 3 18 := ⟨by decide +kernel, rfl⟩
theorem dX7_of_18 : DD cX7_of 18 (.aload_n 0) 1 19 := ⟨by decide +kernel, rfl⟩
theorem dX7_of_19 : DD cX7_of 19 (.ldc 72) 2 21 := ⟨by decide +kernel, rfl⟩
theorem dX7_of_21 : DD cX7_of 21 (.invokevirtual 73) 3 24 := ⟨by decide +kernel, rfl⟩
theorem dX7_of_24 : DD cX7_of 24 (.ireturn) 1 25 := ⟨by decide +kernel, rfl⟩
theorem dX7_of_25 : DD cX7_of 25 (.aload_n 0) 1 26 := ⟨by decide +kernel, rfl⟩
theorem dX7_of_26 : DD cX7_of 26 (.getfield 10) 3 29 := ⟨by decide +kernel, rfl⟩
theorem dX7_of_29 : DD cX7_of 29 (.getfield 82) 3 32 := ⟨by decide +kernel, rfl⟩
theorem dX7_of_32 : DD cX7_of 32 (.iload_n 1) 1 33 := ⟨by decide +kernel, rfl⟩
theorem dX7_of_33 : DD cX7_of 33 (.aaload) 1 34 := ⟨by decide +kernel, rfl⟩
theorem dX7_of_34 : DD cX7_of 34 (.iload_n 2) 1 35 := ⟨by decide +kernel, rfl⟩
theorem dX7_of_35 : DD cX7_of 35 (.invokevirtual 93) 3 38 := ⟨by decide +kernel, rfl⟩
theorem dX7_of_38 : DD cX7_of 38 (.ireturn) 1 39 := ⟨by decide +kernel, rfl⟩
theorem dX7_set_0 : DD cX7_set 0 (.aload_n 0) 1 1 := ⟨by decide +kernel, rfl⟩
theorem dX7_set_1 : DD cX7_set 1 (.iload_n 1) 1 2 := ⟨by decide +kernel, rfl⟩
theorem dX7_set_2 : DD cX7_set 2 (.invokevirtual 90) 3 5 := ⟨by decide +kernel, rfl⟩
theorem dX7_set_5 : DD cX7_set 5 (.ifCond .eq 12) 3 8 := ⟨by decide +kernel, rfl⟩
theorem dX7_set_8 : DD cX7_set 8 (.aload_n 0) 1 9 := ⟨by decide +kernel, rfl⟩
theorem dX7_set_9 : DD cX7_set 9 (.iload_n 2) 1 10 := ⟨by decide +kernel, rfl⟩
theorem dX7_set_10 : DD cX7_set 10 (.iload_n 3) 1 11 := ⟨by decide +kernel, rfl⟩
theorem dX7_set_11 : DD cX7_set 11 (.invokevirtual 96) 3 14 := ⟨by decide +kernel, rfl⟩
theorem dX7_set_14 : DD cX7_set 14 (.ifCond .ne 10) 3 17 := ⟨by decide +kernel, rfl⟩
theorem dX7_set_17 : DD cX7_set 17 (.aload_n 0) 1 18 := ⟨by decide +kernel, rfl⟩
theorem dX7_set_18 : DD cX7_set 18 (.ldc 72) 2 20 := ⟨by decide +kernel, rfl⟩
theorem dX7_set_20 : DD cX7_set 20 (.invokevirtual 73) 3 23 := ⟨by decide +kernel, rfl⟩
theorem dX7_set_23 : DD cX7_set 23 (.ireturn) 1 24 := ⟨by decide +kernel, rfl⟩
theorem dX7_set_24 : DD cX7_set 24 (.aload_n 0) 1 25 := ⟨by decide +kernel, rfl⟩
theorem dX7_set_25 : DD cX7_set 25 (.getfield 10) 3 28 := ⟨by decide +kernel, rfl⟩
theorem dX7_set_28 : DD cX7_set 28 (.iload_n 1) 1 29 := ⟨by decide +kernel, rfl⟩
theorem dX7_set_29 : DD cX7_set 29 (.invokevirtual 100) 3 32 := ⟨by decide +kernel, rfl⟩
theorem dX7_set_32 : DD cX7_set 32 (.ifCond .eq 10) 3 35 := ⟨by decide +kernel, rfl⟩
theorem dX7_set_35 : DD cX7_set 35 (.aload_n 0) 1 36 := ⟨by decide +kernel, rfl⟩
theorem dX7_set_36 : DD cX7_set 36 (.ldc 103) 2 38 := ⟨by decide +kernel, rfl⟩
theorem dX7_set_38 : DD cX7_set 38 (.invokevirtual 73) 3 41 := ⟨by decide +kernel, rfl⟩
theorem dX7_set_41 : DD cX7_set 41 (.ireturn) 1 42 := ⟨by decide +kernel, rfl⟩
theorem dX7_set_42 : DD cX7_set 42 (.aload_n 0) 1 43 := ⟨by decide +kernel, rfl⟩
theorem dX7_set_43 : DD cX7_set 43 (.getfield 10) 3 46 := ⟨by decide +kernel, rfl⟩
theorem dX7_set_46 : DD cX7_set 46 (.getfield 82) 3 49 := ⟨by decide +kernel, rfl⟩
theorem dX7_set_49 : DD cX7_set 49 (.iload_n 1) 1 50 := ⟨by decide +kernel, rfl⟩
theorem dX7_set_50 : DD cX7_set 50 (.aaload) 1 51 := ⟨by decide +kernel, rfl⟩
theorem dX7_set_51 : DD cX7_set 51 (.iload_n 2) 1 52 := ⟨by decide +kernel, rfl⟩
theorem dX7_set_52 : DD cX7_set 52 (.invokevirtual 93) 3 55 := ⟨by decide +kernel, rfl⟩
theorem dX7_set_55 : DD cX7_set 55 (.istore 4) 2 57 := ⟨by decide +kernel, rfl⟩
theorem dX7_set_57 : DD cX7_set 57 (.aload_n 0) 1 58 := ⟨by decide +kernel, rfl⟩
theorem dX7_set_58 : DD cX7_set 58 (.getfield 10) 3 61 := ⟨by decide +kernel, rfl⟩
theorem dX7_set_61 : DD cX7_set 61 (.getfield 82) 3 64 := ⟨by decide +kernel, rfl⟩
theorem dX7_set_64 : DD cX7_set 64 (.iload_n 1) 1 65 := ⟨by decide +kernel, rfl⟩
theorem dX7_set_65 : DD cX7_set 65 (.aaload) 1 66 := ⟨by decide +kernel, rfl⟩
theorem dX7_set_66 : DD cX7_set 66 (.iload_n 2) 1 67 := ⟨by decide +kernel, rfl⟩
theorem dX7_set_67 : DD cX7_set 67 (.iload_n 3) 1 68 := ⟨by decide +kernel, rfl⟩
theorem dX7_set_68 : DD cX7_set 68 (.invokevirtual 104) 3 71 := ⟨by decide +kernel, rfl⟩
theorem dX7_set_71 : DD cX7_set 71 (.iload 4) 2 73 := ⟨by decide +kernel, rfl⟩
theorem dX7_set_73 : DD cX7_set 73 (.ireturn) 1 74 := ⟨by decide +kernel, rfl⟩
theorem dX7_as_0 : DD cX7_as 0 (.aload_n 0) 1 1 := ⟨by decide +kernel, rfl⟩
theorem dX7_as_1 : DD cX7_as 1 (.iload_n 1) 1 2 := ⟨by decide +kernel, rfl⟩
theorem dX7_as_2 : DD cX7_as 2 (.invokevirtual 90) 3 5 := ⟨by decide +kernel, rfl⟩
theorem dX7_as_5 : DD cX7_as 5 (.ifCond .eq 10) 3 8 := ⟨by decide +kernel, rfl⟩
theorem dX7_as_8 : DD cX7_as 8 (.iload_n 2) 1 9 := ⟨by decide +kernel, rfl⟩
theorem dX7_as_9 : DD cX7_as 9 (.invokestatic 64) 3 12 := ⟨by decide +kernel, rfl⟩
theorem dX7_as_12 : DD cX7_as 12 (.ifCond .ne 10) 3 15 := ⟨by decide +kernel, rfl⟩
theorem dX7_as_15 : DD cX7_as 15 (.aload_n 0) 1 16 := ⟨by decide +kernel, rfl⟩
theorem dX7_as_16 : DD cX7_as 16 (.ldc 72) 2 18 := ⟨by decide +kernel, rfl⟩
theorem dX7_as_18 : DD cX7_as 18 (.invokevirtual 73) 3 21 := ⟨by decide +kernel, rfl⟩
theorem dX7_as_21 : DD cX7_as 21 (.ireturn) 1 22 := ⟨by decide +kernel, rfl⟩
theorem dX7_as_22 : DD cX7_as 22 (.aload_n 0) 1 23 := ⟨by decide +kernel, rfl⟩
theorem dX7_as_23 : DD cX7_as 23 (.getfield 10) 3 26 := ⟨by decide +kernel, rfl⟩
theorem dX7_as_26 : DD cX7_as 26 (.getfield 82) 3 29 := ⟨by decide +kernel, rfl⟩
theorem dX7_as_29 : DD cX7_as 29 (.iload_n 1) 1 30 := ⟨by decide +kernel, rfl⟩
theorem dX7_as_30 : DD cX7_as 30 (.aaload) 1 31 := ⟨by decide +kernel, rfl⟩
theorem dX7_as_31 : DD cX7_as 31 (.getfield 107) 3 34 := ⟨by decide +kernel, rfl⟩
theorem dX7_as_34 : DD cX7_as 34 (.iload_n 2) 1 35 := ⟨by decide +kernel, rfl⟩
theorem dX7_as_35 : DD cX7_as 35 (.invokestatic 110) 3 38 := ⟨by decide +kernel, rfl⟩
theorem dX7_as_38 : DD cX7_as 38 (.ifCond .ne 10) 3 41 := ⟨by decide +kernel, rfl⟩
theorem dX7_as_41 : DD cX7_as 41 (.aload_n 0) 1 42 := ⟨by decide +kernel, rfl⟩
theorem dX7_as_42 : DD cX7_as 42 (.ldc 113) 2 44 := ⟨by decide +kernel, rfl⟩
theorem dX7_as_44 : DD cX7_as 44 (.invokevirtual 73) 3 47 := ⟨by decide +kernel, rfl⟩
theorem dX7_as_47 : DD cX7_as 47 (.ireturn) 1 48 := ⟨by decide +kernel, rfl⟩
theorem dX7_as_48 : DD cX7_as 48 (.aload_n 0) 1 49 := ⟨by decide +kernel, rfl⟩
theorem dX7_as_49 : DD cX7_as 49 (.getfield 10) 3 52 := ⟨by decide +kernel, rfl⟩
theorem dX7_as_52 : DD cX7_as 52 (.getfield 82) 3 55 := ⟨by decide +kernel, rfl⟩
theorem dX7_as_55 : DD cX7_as 55 (.iload_n 1) 1 56 := ⟨by decide +kernel, rfl⟩
theorem dX7_as_56 : DD cX7_as 56 (.aaload) 1 57 := ⟨by decide +kernel, rfl⟩
theorem dX7_as_57 : DD cX7_as 57 (.getfield 114) 3 60 := ⟨by decide +kernel, rfl⟩
theorem dX7_as_60 : DD cX7_as 60 (.ireturn) 1 61 := ⟨by decide +kernel, rfl⟩
theorem dX7_log_0 : DD cX7_log 0 (.iload_n 1) 1 1 := ⟨by decide +kernel, rfl⟩
theorem dX7_log_1 : DD cX7_log 1 (.iconst 0) 1 2 := ⟨by decide +kernel, rfl⟩
theorem dX7_log_2 : DD cX7_log 2 (.iconst 4) 1 3 := ⟨by decide +kernel, rfl⟩
theorem dX7_log_3 : DD cX7_log 3 (.invokestatic 68) 3 6 := ⟨by decide +kernel, rfl⟩
theorem dX7_log_6 : DD cX7_log 6 (.ifCond .eq 20) 3 9 := ⟨by decide +kernel, rfl⟩
theorem dX7_log_9 : DD cX7_log 9 (.iload_n 2) 1 10 := ⟨by decide +kernel, rfl⟩
theorem dX7_log_10 : DD cX7_log 10 (.getstatic 117) 3 13 := ⟨by decide +kernel, rfl⟩
theorem dX7_log_13 : DD cX7_log 13 (.iload_n 1) 1 14 := ⟨by decide +kernel, rfl⟩
theorem dX7_log_14 : DD cX7_log 14 (.iaload) 1 15 := ⟨by decide +kernel, rfl⟩
theorem dX7_log_15 : DD cX7_log 15 (.getstatic 120) 3 18 := ⟨by decide +kernel, rfl⟩
theorem dX7_log_18 : DD cX7_log 18 (.iload_n 1) 1 19 := ⟨by decide +kernel, rfl⟩
theorem dX7_log_19 : DD cX7_log 19 (.iaload) 1 20 := ⟨by decide +kernel, rfl⟩
theorem dX7_log_20 : DD cX7_log 20 (.invokestatic 68) 3 23 := ⟨by decide +kernel, rfl⟩
theorem dX7_log_23 : DD cX7_log 23 (.ifCond .ne 10) 3 26 := ⟨by decide +kernel, rfl⟩
theorem dX7_log_26 : DD cX7_log 26 (.aload_n 0) 1 27 := ⟨by decide +kernel, rfl⟩
theorem dX7_log_27 : DD cX7_log 27 (.ldc 72) 2 29 := ⟨by decide +kernel, rfl⟩
theorem dX7_log_29 : DD cX7_log 29 (.invokevirtual 73) 3 32 := ⟨by decide +kernel, rfl⟩
theorem dX7_log_32 : DD cX7_log 32 (.ireturn) 1 33 := ⟨by decide +kernel, rfl⟩
theorem dX7_log_33 : DD cX7_log 33 (.aload_n 0) 1 34 := ⟨by decide +kernel, rfl⟩
theorem dX7_log_34 : DD cX7_log 34 (.getfield 10) 3 37 := ⟨by decide +kernel, rfl⟩
theorem dX7_log_37 : DD cX7_log 37 (.getfield 25) 3 40 := ⟨by decide +kernel, rfl⟩
theorem dX7_log_40 : DD cX7_log 40 (.iload_n 1) 1 41 := ⟨by decide +kernel, rfl⟩
theorem dX7_log_41 : DD cX7_log 41 (.iaload) 1 42 := ⟨by decide +kernel, rfl⟩
theorem dX7_log_42 : DD cX7_log 42 (.istore_n 3) 1 43 := ⟨by decide +kernel, rfl⟩
theorem dX7_log_43 : DD cX7_log 43 (.aload_n 0) 1 44 := ⟨by decide +kernel, rfl⟩
theorem dX7_log_44 : DD cX7_log 44 (.getfield 10) 3 47 := ⟨by decide +kernel, rfl⟩
theorem dX7_log_47 : DD cX7_log 47 (.getfield 25) 3 50 := ⟨by decide +kernel, rfl⟩
theorem dX7_log_50 : DD cX7_log 50 (.iload_n 1) 1 51 := ⟨by decide +kernel, rfl⟩
theorem dX7_log_51 : DD cX7_log 51 (.iload_n 2) 1 52 := ⟨by decide +kernel, rfl⟩
theorem dX7_log_52 : DD cX7_log 52 (.iastore) 1 53 := ⟨by decide +kernel, rfl⟩
theorem dX7_log_53 : DD cX7_log 53 (.iload_n 3) 1 54 := ⟨by decide +kernel, rfl⟩
theorem dX7_log_54 : DD cX7_log 54 (.ireturn) 1 55 := ⟨by decide +kernel, rfl⟩
theorem dX7_push_0 : DD cX7_push 0 (.aload_n 0) 1 1 := ⟨by decide +kernel, rfl⟩
theorem dX7_push_1 : DD cX7_push 1 (.iload_n 1) 1 2 := ⟨by decide +kernel, rfl⟩
theorem dX7_push_2 : DD cX7_push 2 (.invokevirtual 90) 3 5 := ⟨by decide +kernel, rfl⟩
theorem dX7_push_5 : DD cX7_push 5 (.ifCond .eq 15) 3 8 := ⟨by decide +kernel, rfl⟩
theorem dX7_push_8 : DD cX7_push 8 (.iload_n 2) 1 9 := ⟨by decide +kernel, rfl⟩
theorem dX7_push_9 : DD cX7_push 9 (.iload_n 3) 1 10 := ⟨by decide +kernel, rfl⟩
theorem dX7_push_10 : DD cX7_push 10 (.iload 4) 2 12 := ⟨by decide +kernel, rfl⟩
theorem dX7_push_12 : DD cX7_push 12 (.iload 5) 2 14 := ⟨by decide +kernel, rfl⟩
theorem dX7_push_14 : DD cX7_push 14 (.invokestatic 123) 3 17 := ⟨by decide +kernel, rfl⟩
theorem dX7_push_17 : DD cX7_push 17 (.ifCond .ne 10) 3 20 := ⟨by decide +kernel, rfl⟩
theorem dX7_push_20 : DD cX7_push 20 (.aload_n 0) 1 21 := ⟨by decide +kernel, rfl⟩
theorem dX7_push_21 : DD cX7_push 21 (.ldc 72) 2 23 := ⟨by decide +kernel, rfl⟩
theorem dX7_push_23 : DD cX7_push 23 (.invokevirtual 73) 3 26 := ⟨by decide +kernel, rfl⟩
theorem dX7_push_26 : DD cX7_push 26 (.ireturn) 1 27 := ⟨by decide +kernel, rfl⟩
theorem dX7_push_27 : DD cX7_push 27 (.aload_n 0) 1 28 := ⟨by decide +kernel, rfl⟩
theorem dX7_push_28 : DD cX7_push 28 (.getfield 10) 3 31 := ⟨by decide +kernel, rfl⟩
theorem dX7_push_31 : DD cX7_push 31 (.getfield 82) 3 34 := ⟨by decide +kernel, rfl⟩
theorem dX7_push_34 : DD cX7_push 34 (.iload_n 1) 1 35 := ⟨by decide +kernel, rfl⟩
theorem dX7_push_35 : DD cX7_push 35 (.aaload) 1 36 := ⟨by decide +kernel, rfl⟩
theorem dX7_push_36 : DD cX7_push 36 (.astore 6) 2 38 := ⟨by decide +kernel, rfl⟩
theorem dX7_push_38 : DD cX7_push 38 (.aload 6) 2 40 := ⟨by decide +kernel, rfl⟩
theorem dX7_push_40 : DD cX7_push 40 (.aload_n 0) 1 41 := ⟨by decide +kernel, rfl⟩
theorem dX7_push_41 : DD cX7_push 41 (.getfield 10) 3 44 := ⟨by decide +kernel, rfl⟩
theorem dX7_push_44 : DD cX7_push 44 (.aload 6) 2 46 := ⟨by decide +kernel, rfl⟩
theorem dX7_push_46 : DD cX7_push 46 (.getfield 127) 3 49 := ⟨by decide +kernel, rfl⟩
theorem dX7_push_49 : DD cX7_push 49 (.invokevirtual 130) 3 52 := ⟨by decide +kernel, rfl⟩
theorem dX7_push_52 : DD cX7_push 52 (.iload_n 2) 1 53 := ⟨by decide +kernel, rfl⟩
theorem dX7_push_53 : DD cX7_push 53 (.iload_n 3) 1 54 := ⟨by decide +kernel, rfl⟩
theorem dX7_push_54 : DD cX7_push 54 (.iload 4) 2 56 := ⟨by decide +kernel, rfl⟩
theorem dX7_push_56 : DD cX7_push 56 (.iload 5) 2 58 := ⟨by decide +kernel, rfl⟩
theorem dX7_push_58 : DD cX7_push 58 (.invokevirtual 134) 3 61 := ⟨by decide +kernel, rfl⟩
theorem dX7_push_61 : DD cX7_push 61 (.ireturn) 1 62 := ⟨by decide +kernel, rfl⟩
theorem dX7_mount_0 : DD cX7_mount 0 (.aload_n 0) 1 1 := ⟨by decide +kernel, rfl⟩
theorem dX7_mount_1 : DD cX7_mount 1 (.iload_n 1) 1 2 := ⟨by decide +kernel, rfl⟩
theorem dX7_mount_2 : DD cX7_mount 2 (.iload_n 2) 1 3 := ⟨by decide +kernel, rfl⟩
theorem dX7_mount_3 : DD cX7_mount 3 (.invokevirtual 138) 3 6 := ⟨by decide +kernel, rfl⟩
theorem dX7_mount_6 : DD cX7_mount 6 (.ifCond .ne 10) 3 9 := ⟨by decide +kernel, rfl⟩
theorem dX7_mount_9 : DD cX7_mount 9 (.aload_n 0) 1 10 := ⟨by decide +kernel, rfl⟩
theorem dX7_mount_10 : DD cX7_mount 10 (.ldc 72) 2 12 := ⟨by decide +kernel, rfl⟩
theorem dX7_mount_12 : DD cX7_mount 12 (.invokevirtual 73) 3 15 := ⟨by decide +kernel, rfl⟩
theorem dX7_mount_15 : DD cX7_mount 15 (.ireturn) 1 16 := ⟨by decide +kernel, rfl⟩
theorem dX7_mount_16 : DD cX7_mount 16 (.aload_n 0) 1 17 := ⟨by decide +kernel, rfl⟩
theorem dX7_mount_17 : DD cX7_mount 17 (.getfield 10) 3 20 := ⟨by decide +kernel, rfl⟩
theorem dX7_mount_20 : DD cX7_mount 20 (.getfield 141) 3 23 := ⟨by decide +kernel, rfl⟩
theorem dX7_mount_23 : DD cX7_mount 23 (.ifCond .eq 10) 3 26 := ⟨by decide +kernel, rfl⟩
theorem dX7_mount_26 : DD cX7_mount 26 (.aload_n 0) 1 27 := ⟨by decide +kernel, rfl⟩
theorem dX7_mount_27 : DD cX7_mount 27 (.ldc 103) 2 29 := ⟨by decide +kernel, rfl⟩
theorem dX7_mount_29 : DD cX7_mount 29 (.invokevirtual 73) 3 32 := ⟨by decide +kernel, rfl⟩
theorem dX7_mount_32 : DD cX7_mount 32 (.ireturn) 1 33 := ⟨by decide +kernel, rfl⟩
theorem dX7_mount_33 : DD cX7_mount 33 (.aload_n 0) 1 34 := ⟨by decide +kernel, rfl⟩
theorem dX7_mount_34 : DD cX7_mount 34 (.getfield 10) 3 37 := ⟨by decide +kernel, rfl⟩
theorem dX7_mount_37 : DD cX7_mount 37 (.iload_n 1) 1 38 := ⟨by decide +kernel, rfl⟩
theorem dX7_mount_38 : DD cX7_mount 38 (.putfield 144) 3 41 := ⟨by decide +kernel, rfl⟩
theorem dX7_mount_41 : DD cX7_mount 41 (.aload_n 0) 1 42 := ⟨by decide +kernel, rfl⟩
theorem dX7_mount_42 : DD cX7_mount 42 (.getfield 10) 3 45 := ⟨by decide +kernel, rfl⟩
theorem dX7_mount_45 : DD cX7_mount 45 (.iload_n 2) 1 46 := ⟨by decide +kernel, rfl⟩
theorem dX7_mount_46 : DD cX7_mount 46 (.putfield 147) 3 49 := ⟨by decide +kernel, rfl⟩
theorem dX7_mount_49 : DD cX7_mount 49 (.aload_n 0) 1 50 := ⟨by decide +kernel, rfl⟩
theorem dX7_mount_50 : DD cX7_mount 50 (.getfield 10) 3 53 := ⟨by decide +kernel, rfl⟩
theorem dX7_mount_53 : DD cX7_mount 53 (.iconst 1) 1 54 := ⟨by decide +kernel, rfl⟩
theorem dX7_mount_54 : DD cX7_mount 54 (.putfield 141) 3 57 := ⟨by decide +kernel, rfl⟩
theorem dX7_mount_57 : DD cX7_mount 57 (.aload_n 0) 1 58 := ⟨by decide +kernel, rfl⟩
theorem dX7_mount_58 : DD cX7_mount 58 (.getfield 10) 3 61 := ⟨by decide +kernel, rfl⟩
theorem dX7_mount_61 : DD cX7_mount 61 (.getfield 150) 3 64 := ⟨by decide +kernel, rfl⟩
theorem dX7_mount_64 : DD cX7_mount 64 (.aload_n 0) 1 65 := ⟨by decide +kernel, rfl⟩
theorem dX7_mount_65 : DD cX7_mount 65 (.getfield 10) 3 68 := ⟨by decide +kernel, rfl⟩
theorem dX7_mount_68 : DD cX7_mount 68 (.getfield 82) 3 71 := ⟨by decide +kernel, rfl⟩
theorem dX7_mount_71 : DD cX7_mount 71 (.iload_n 1) 1 72 := ⟨by decide +kernel, rfl⟩
theorem dX7_mount_72 : DD cX7_mount 72 (.aaload) 1 73 := ⟨by decide +kernel, rfl⟩
theorem dX7_mount_73 : DD cX7_mount 73 (.aload_n 0) 1 74 := ⟨by decide +kernel, rfl⟩
theorem dX7_mount_74 : DD cX7_mount 74 (.getfield 10) 3 77 := ⟨by decide +kernel, rfl⟩
theorem dX7_mount_77 : DD cX7_mount 77 (.getfield 82) 3 80 := ⟨by decide +kernel, rfl⟩
theorem dX7_mount_80 : DD cX7_mount 80 (.iload_n 2) 1 81 := ⟨by decide +kernel, rfl⟩
theorem dX7_mount_81 : DD cX7_mount 81 (.aaload) 1 82 := ⟨by decide +kernel, rfl⟩
theorem dX7_mount_82 : DD cX7_mount 82 (.invokevirtual 153) 3 85 := ⟨by decide +kernel, rfl⟩
theorem dX7_mount_85 : DD cX7_mount 85 (.iconst 1) 1 86 := ⟨by decide +kernel, rfl⟩
theorem dX7_mount_86 : DD cX7_mount 86 (.ireturn) 1 87 := ⟨by decide +kernel, rfl⟩
theorem dX7_off_0 : DD cX7_off 0 (.aload_n 0) 1 1 := ⟨by decide +kernel, rfl⟩
theorem dX7_off_1 : DD cX7_off 1 (.getfield 10) 3 4 := ⟨by decide +kernel, rfl⟩
theorem dX7_off_4 : DD cX7_off 4 (.getfield 141) 3 7 := ⟨by decide +kernel, rfl⟩
theorem dX7_off_7 : DD cX7_off 7 (.ifCond .ne 10) 3 10 := ⟨by decide +kernel, rfl⟩
theorem dX7_off_10 : DD cX7_off 10 (.aload_n 0) 1 11 := ⟨by decide +kernel, rfl⟩
theorem dX7_off_11 : DD cX7_off 11 (.ldc 103) 2 13 := ⟨by decide +kernel, rfl⟩
theorem dX7_off_13 : DD cX7_off 13 (.invokevirtual 73) 3 16 := ⟨by decide +kernel, rfl⟩
theorem dX7_off_16 : DD cX7_off 16 (.ireturn) 1 17 := ⟨by decide +kernel, rfl⟩
theorem dX7_off_17 : DD cX7_off 17 (.aload_n 0) 1 18 := ⟨by decide +kernel, rfl⟩
theorem dX7_off_18 : DD cX7_off 18 (.getfield 10) 3 21 := ⟨by decide +kernel, rfl⟩
theorem dX7_off_21 : DD cX7_off 21 (.iconst 0) 1 22 := ⟨by decide +kernel, rfl⟩
theorem dX7_off_22 : DD cX7_off 22 (.putfield 141) 3 25 := ⟨by decide +kernel, rfl⟩
theorem dX7_off_25 : DD cX7_off 25 (.aload_n 0) 1 26 := ⟨by decide +kernel, rfl⟩
theorem dX7_off_26 : DD cX7_off 26 (.getfield 10) 3 29 := ⟨by decide +kernel, rfl⟩
theorem dX7_off_29 : DD cX7_off 29 (.getfield 150) 3 32 := ⟨by decide +kernel, rfl⟩
theorem dX7_off_32 : DD cX7_off 32 (.getfield 156) 3 35 := ⟨by decide +kernel, rfl⟩
theorem dX7_off_35 : DD cX7_off 35 (.ireturn) 1 36 := ⟨by decide +kernel, rfl⟩
theorem dX7_bout_0 : DD cX7_bout 0 (.iload_n 1) 1 1 := ⟨by decide +kernel, rfl⟩
theorem dX7_bout_1 : DD cX7_bout 1 (.iconst 1) 1 2 := ⟨by decide +kernel, rfl⟩
theorem dX7_bout_2 : DD cX7_bout 2 (.sipush 400) 3 5 := ⟨by decide +kernel, rfl⟩
theorem dX7_bout_5 : DD cX7_bout 5 (.invokestatic 68) 3 8 := ⟨by decide +kernel, rfl⟩
theorem dX7_bout_8 : DD cX7_bout 8 (.ifCond .ne 10) 3 11 := ⟨by decide +kernel, rfl⟩
theorem dX7_bout_11 : DD cX7_bout 11 (.aload_n 0) 1 12 := ⟨by decide +kernel, rfl⟩
theorem dX7_bout_12 : DD cX7_bout 12 (.ldc 72) 2 14 := ⟨by decide +kernel, rfl⟩
theorem dX7_bout_14 : DD cX7_bout 14 (.invokevirtual 73) 3 17 := ⟨by decide +kernel, rfl⟩
theorem dX7_bout_17 : DD cX7_bout 17 (.ireturn) 1 18 := ⟨by decide +kernel, rfl⟩
theorem dX7_bout_18 : DD cX7_bout 18 (.aload_n 0) 1 19 := ⟨by decide +kernel, rfl⟩
theorem dX7_bout_19 : DD cX7_bout 19 (.getfield 10) 3 22 := ⟨by decide +kernel, rfl⟩
theorem dX7_bout_22 : DD cX7_bout 22 (.getfield 141) 3 25 := ⟨by decide +kernel, rfl⟩
theorem dX7_bout_25 : DD cX7_bout 25 (.ifCond .ne 10) 3 28 := ⟨by decide +kernel, rfl⟩
theorem dX7_bout_28 : DD cX7_bout 28 (.aload_n 0) 1 29 := ⟨by decide +kernel, rfl⟩
theorem dX7_bout_29 : DD cX7_bout 29 (.ldc 103) 2 31 := ⟨by decide +kernel, rfl⟩
theorem dX7_bout_31 : DD cX7_bout 31 (.invokevirtual 73) 3 34 := ⟨by decide +kernel, rfl⟩
theorem dX7_bout_34 : DD cX7_bout 34 (.ireturn) 1 35 := ⟨by decide +kernel, rfl⟩
theorem dX7_bout_35 : DD cX7_bout 35 (.aload_n 0) 1 36 := ⟨by decide +kernel, rfl⟩
theorem dX7_bout_36 : DD cX7_bout 36 (.getfield 10) 3 39 := ⟨by decide +kernel, rfl⟩
theorem dX7_bout_39 : DD cX7_bout 39 (.getfield 82) 3 42 := ⟨by decide +kernel, rfl⟩
theorem dX7_bout_42 : DD cX7_bout 42 (.aload_n 0) 1 43 := ⟨by decide +kernel, rfl⟩
theorem dX7_bout_43 : DD cX7_bout 43 (.getfield 10) 3 46 := ⟨by decide +kernel, rfl⟩
theorem dX7_bout_46 : DD cX7_bout 46 (.getfield 144) 3 49 := ⟨by decide +kernel, rfl⟩
theorem dX7_bout_49 : DD cX7_bout 49 (.aaload) 1 50 := ⟨by decide +kernel, rfl⟩
theorem dX7_bout_50 : DD cX7_bout 50 (.astore_n 2) 1 51 := ⟨by decide +kernel, rfl⟩
theorem dX7_bout_51 : DD cX7_bout 51 (.aload_n 0) 1 52 := ⟨by decide +kernel, rfl⟩
theorem dX7_bout_52 : DD cX7_bout 52 (.getfield 10) 3 55 := ⟨by decide +kernel, rfl⟩
theorem dX7_bout_55 : DD cX7_bout 55 (.getfield 82) 3 58 := ⟨by decide +kernel, rfl⟩
theorem dX7_bout_58 : DD cX7_bout 58 (.aload_n 0) 1 59 := ⟨by decide +kernel, rfl⟩
theorem dX7_bout_59 : DD cX7_bout 59 (.getfield 10) 3 62 := ⟨by decide +kernel, rfl⟩
theorem dX7_bout_62 : DD cX7_bout 62 (.getfield 147) 3 65 := ⟨by decide +kernel, rfl⟩
theorem dX7_bout_65 : DD cX7_bout 65 (.aaload) 1 66 := ⟨by decide +kernel, rfl⟩
theorem dX7_bout_66 : DD cX7_bout 66 (.astore_n 3) 1 67 := ⟨by decide +kernel, rfl⟩
theorem dX7_bout_67 : DD cX7_bout 67 (.aload_n 0) 1 68 := ⟨by decide +kernel, rfl⟩
theorem dX7_bout_68 : DD cX7_bout 68 (.getfield 10) 3 71 := ⟨by decide +kernel, rfl⟩
theorem dX7_bout_71 : DD cX7_bout 71 (.getfield 150) 3 74 := ⟨by decide +kernel, rfl⟩
theorem dX7_bout_74 : DD cX7_bout 74 (.aload_n 2) 1 75 := ⟨by decide +kernel, rfl⟩
theorem dX7_bout_75 : DD cX7_bout 75 (.aload_n 3) 1 76 := ⟨by decide +kernel, rfl⟩
theorem dX7_bout_76 : DD cX7_bout 76 (.iload_n 1) 1 77 := ⟨by decide +kernel, rfl⟩
theorem dX7_bout_77 : DD cX7_bout 77 (.invokevirtual 159) 3 80 := ⟨by decide +kernel, rfl⟩
theorem dX7_bout_80 : DD cX7_bout 80 (.istore 4) 2 82 := ⟨by decide +kernel, rfl⟩
theorem dX7_bout_82 : DD cX7_bout 82 (.iload 4) 2 84 := ⟨by decide +kernel, rfl⟩
theorem dX7_bout_84 : DD cX7_bout 84 (.ifCond .eq 11) 3 87 := ⟨by decide +kernel, rfl⟩
theorem dX7_bout_87 : DD cX7_bout 87 (.aload_n 0) 1 88 := ⟨by decide +kernel, rfl⟩
theorem dX7_bout_88 : DD cX7_bout 88 (.aload_n 2) 1 89 := ⟨by decide +kernel, rfl⟩
theorem dX7_bout_89 : DD cX7_bout 89 (.aload_n 3) 1 90 := ⟨by decide +kernel, rfl⟩
theorem dX7_bout_90 : DD cX7_bout 90 (.iload 4) 2 92 := ⟨by decide +kernel, rfl⟩
theorem dX7_bout_92 : DD cX7_bout 92 (.invokevirtual 163) 3 95 := ⟨by decide +kernel, rfl⟩
theorem dX7_bout_95 : DD cX7_bout 95 (.iload 4) 2 97 := ⟨by decide +kernel, rfl⟩
theorem dX7_bout_97 : DD cX7_bout 97 (.ireturn) 1 98 := ⟨by decide +kernel, rfl⟩
theorem dX7_stands_0 : DD cX7_stands 0 (.iload_n 1) 1 1 := ⟨by decide +kernel, rfl⟩
theorem dX7_stands_1 : DD cX7_stands 1 (.iconst 0) 1 2 := ⟨by decide +kernel, rfl⟩
theorem dX7_stands_2 : DD cX7_stands 2 (.iconst 1) 1 3 := ⟨by decide +kernel, rfl⟩
theorem dX7_stands_3 : DD cX7_stands 3 (.invokestatic 68) 3 6 := ⟨by decide +kernel, rfl⟩
theorem dX7_stands_6 : DD cX7_stands 6 (.ifCond .eq 12) 3 9 := ⟨by decide +kernel, rfl⟩
theorem dX7_stands_9 : DD cX7_stands 9 (.iload_n 2) 1 10 := ⟨by decide +kernel, rfl⟩
theorem dX7_stands_10 : DD cX7_stands 10 (.iconst 0) 1 11 := ⟨by decide +kernel, rfl⟩
theorem dX7_stands_11 : DD cX7_stands 11 (.iconst 5) 1 12 := ⟨by decide +kernel, rfl⟩
theorem dX7_stands_12 : DD cX7_stands 12 (.invokestatic 68) 3 15 := ⟨by decide +kernel, rfl⟩
theorem dX7_stands_15 : DD cX7_stands 15 (.ifCond .ne 10) 3 18 := ⟨by decide +kernel, rfl⟩
theorem dX7_stands_18 : DD cX7_stands 18 (.aload_n 0) 1 19 := ⟨by decide +kernel, rfl⟩
theorem dX7_stands_19 : DD cX7_stands 19 (.ldc 72) 2 21 := ⟨by decide +kernel, rfl⟩
theorem dX7_stands_21 : DD cX7_stands 21 (.invokevirtual 73) 3 24 := ⟨by decide +kernel, rfl⟩
theorem dX7_stands_24 : DD cX7_stands 24 (.ireturn) 1 25 := ⟨by decide +kernel, rfl⟩
theorem dX7_stands_25 : DD cX7_stands 25 (.aload_n 0) 1 26 := ⟨by decide +kernel, rfl⟩
theorem dX7_stands_26 : DD cX7_stands 26 (.getfield 10) 3 29 := ⟨by decide +kernel, rfl⟩
theorem dX7_stands_29 : DD cX7_stands 29 (.getfield 141) 3 32 := ⟨by decide +kernel, rfl⟩
theorem dX7_stands_32 : DD cX7_stands 32 (.ifCond .ne 10) 3 35 := ⟨by decide +kernel, rfl⟩
theorem dX7_stands_35 : DD cX7_stands 35 (.aload_n 0) 1 36 := ⟨by decide +kernel, rfl⟩
theorem dX7_stands_36 : DD cX7_stands 36 (.ldc 103) 2 38 := ⟨by decide +kernel, rfl⟩
theorem dX7_stands_38 : DD cX7_stands 38 (.invokevirtual 73) 3 41 := ⟨by decide +kernel, rfl⟩
theorem dX7_stands_41 : DD cX7_stands 41 (.ireturn) 1 42 := ⟨by decide +kernel, rfl⟩
theorem dX7_stands_42 : DD cX7_stands 42 (.iload_n 1) 1 43 := ⟨by decide +kernel, rfl⟩
theorem dX7_stands_43 : DD cX7_stands 43 (.ifCond .ne 13) 3 46 := ⟨by decide +kernel, rfl⟩
theorem dX7_stands_46 : DD cX7_stands 46 (.aload_n 0) 1 47 := ⟨by decide +kernel, rfl⟩
theorem dX7_stands_47 : DD cX7_stands 47 (.getfield 10) 3 50 := ⟨by decide +kernel, rfl⟩
theorem dX7_stands_50 : DD cX7_stands 50 (.getfield 144) 3 53 := ⟨by decide +kernel, rfl⟩
theorem dX7_stands_53 : DD cX7_stands 53 (.goto 10) 3 56 := ⟨by decide +kernel, rfl⟩
theorem dX7_stands_56 : DD cX7_stands 56 (.aload_n 0) 1 57 := ⟨by decide +kernel, rfl⟩
theorem dX7_stands_57 : DD cX7_stands 57 (.getfield 10) 3 60 := ⟨by decide +kernel, rfl⟩
theorem dX7_stands_60 : DD cX7_stands 60 (.getfield 147) 3 63 := ⟨by decide +kernel, rfl⟩
theorem dX7_stands_63 : DD cX7_stands 63 (.istore_n 3) 1 64 := ⟨by decide +kernel, rfl⟩
theorem dX7_stands_64 : DD cX7_stands 64 (.iload_n 1) 1 65 := ⟨by decide +kernel, rfl⟩
theorem dX7_stands_65 : DD cX7_stands 65 (.ifCond .ne 16) 3 68 := ⟨by decide +kernel, rfl⟩
theorem dX7_stands_68 : DD cX7_stands 68 (.aload_n 0) 1 69 := ⟨by decide +kernel, rfl⟩
theorem dX7_stands_69 : DD cX7_stands 69 (.getfield 10) 3 72 := ⟨by decide +kernel, rfl⟩
theorem dX7_stands_72 : DD cX7_stands 72 (.getfield 150) 3 75 := ⟨by decide +kernel, rfl⟩
theorem dX7_stands_75 : DD cX7_stands 75 (.getfield 167) 3 78 := ⟨by decide +kernel, rfl⟩
theorem dX7_stands_78 : DD cX7_stands 78 (.goto 13) 3 81 := ⟨by decide +kernel, rfl⟩
theorem dX7_stands_81 : DD cX7_stands 81 (.aload_n 0) 1 82 := ⟨by decide +kernel, rfl⟩
theorem dX7_stands_82 : DD cX7_stands 82 (.getfield 10) 3 85 := ⟨by decide +kernel, rfl⟩
theorem dX7_stands_85 : DD cX7_stands 85 (.getfield 150) 3 88 := ⟨by decide +kernel, rfl⟩
theorem dX7_stands_88 : DD cX7_stands 88 (.getfield 170) 3 91 := ⟨by decide +kernel, rfl⟩
theorem dX7_stands_91 : DD cX7_stands 91 (.astore 4) 2 93 := ⟨by decide +kernel, rfl⟩
theorem dX7_stands_93 : DD cX7_stands 93 (.aload_n 0) 1 94 := ⟨by decide +kernel, rfl⟩
theorem dX7_stands_94 : DD cX7_stands 94 (.getfield 10) 3 97 := ⟨by decide +kernel, rfl⟩
theorem dX7_stands_97 : DD cX7_stands 97 (.getfield 82) 3 100 := ⟨by decide +kernel, rfl⟩
theorem dX7_stands_100 : DD cX7_stands 100 (.iload_n 3) 1 101 := ⟨by decide +kernel, rfl⟩
theorem dX7_stands_101 : DD cX7_stands 101 (.aaload) 1 102 := ⟨by decide +kernel, rfl⟩
theorem dX7_stands_102 : DD cX7_stands 102 (.astore 5) 2 104 := ⟨by decide +kernel, rfl⟩
theorem dX7_stands_104 : DD cX7_stands 104 (.iload_n 2) 1 105 := ⟨by decide +kernel, rfl⟩
theorem dX7_stands_105 : DD cX7_stands 105 (.tableswitch 68 0 4 #[35, 37, 43, 49, 55]) 35 140 := ⟨by decide +kernel, rfl⟩
theorem dX7_stands_140 : DD cX7_stands 140 (.iload_n 3) 1 141 := ⟨by decide +kernel, rfl⟩
theorem dX7_stands_141 : DD cX7_stands 141 (.ireturn) 1 142 := ⟨by decide +kernel, rfl⟩
theorem dX7_stands_142 : DD cX7_stands 142 (.aload 4) 2 144 := ⟨by decide +kernel, rfl⟩
theorem dX7_stands_144 : DD cX7_stands 144 (.getfield 172) 3 147 := ⟨by decide +kernel, rfl⟩
theorem dX7_stands_147 : DD cX7_stands 147 (.ireturn) 1 148 := ⟨by decide +kernel, rfl⟩
theorem dX7_stands_148 : DD cX7_stands 148 (.aload 4) 2 150 := ⟨by decide +kernel, rfl⟩
theorem dX7_stands_150 : DD cX7_stands 150 (.getfield 177) 3 153 := ⟨by decide +kernel, rfl⟩
theorem dX7_stands_153 : DD cX7_stands 153 (.ireturn) 1 154 := ⟨by decide +kernel, rfl⟩
theorem dX7_stands_154 : DD cX7_stands 154 (.aload 4) 2 156 := ⟨by decide +kernel, rfl⟩
theorem dX7_stands_156 : DD cX7_stands 156 (.getfield 180) 3 159 := ⟨by decide +kernel, rfl⟩
theorem dX7_stands_159 : DD cX7_stands 159 (.ireturn) 1 160 := ⟨by decide +kernel, rfl⟩
theorem dX7_stands_160 : DD cX7_stands 160 (.aload_n 0) 1 161 := ⟨by decide +kernel, rfl⟩
theorem dX7_stands_161 : DD cX7_stands 161 (.getfield 10) 3 164 := ⟨by decide +kernel, rfl⟩
theorem dX7_stands_164 : DD cX7_stands 164 (.getfield 150) 3 167 := ⟨by decide +kernel, rfl⟩
theorem dX7_stands_167 : DD cX7_stands 167 (.aload 5) 2 169 := ⟨by decide +kernel, rfl⟩
theorem dX7_stands_169 : DD cX7_stands 169 (.invokevirtual 183) 3 172 := ⟨by decide +kernel, rfl⟩
theorem dX7_stands_172 : DD cX7_stands 172 (.ireturn) 1 173 := ⟨by decide +kernel, rfl⟩
theorem dX7_stands_173 : DD cX7_stands 173 (.aload_n 0) 1 174 := ⟨by decide +kernel, rfl⟩
theorem dX7_stands_174 : DD cX7_stands 174 (.getfield 10) 3 177 := ⟨by decide +kernel, rfl⟩
theorem dX7_stands_177 : DD cX7_stands 177 (.getfield 150) 3 180 := ⟨by decide +kernel, rfl⟩
theorem dX7_stands_180 : DD cX7_stands 180 (.aload 5) 2 182 := ⟨by decide +kernel, rfl⟩
theorem dX7_stands_182 : DD cX7_stands 182 (.aload 4) 2 184 := ⟨by decide +kernel, rfl⟩
theorem dX7_stands_184 : DD cX7_stands 184 (.invokevirtual 187) 3 187 := ⟨by decide +kernel, rfl⟩
theorem dX7_stands_187 : DD cX7_stands 187 (.ireturn) 1 188 := ⟨by decide +kernel, rfl⟩
theorem dX7_now_0 : DD cX7_now 0 (.iload_n 1) 1 1 := ⟨by decide +kernel, rfl⟩
theorem dX7_now_1 : DD cX7_now 1 (.tableswitch 57 0 2 #[27, 38, 49]) 27 28 := ⟨by decide +kernel, rfl⟩
theorem dX7_now_28 : DD cX7_now 28 (.aload_n 0) 1 29 := ⟨by decide +kernel, rfl⟩
theorem dX7_now_29 : DD cX7_now 29 (.getfield 10) 3 32 := ⟨by decide +kernel, rfl⟩
theorem dX7_now_32 : DD cX7_now 32 (.getfield 150) 3 35 := ⟨by decide +kernel, rfl⟩
theorem dX7_now_35 : DD cX7_now 35 (.getfield 191) 3 38 := ⟨by decide +kernel, rfl⟩
theorem dX7_now_38 : DD cX7_now 38 (.ireturn) 1 39 := ⟨by decide +kernel, rfl⟩
theorem dX7_now_39 : DD cX7_now 39 (.aload_n 0) 1 40 := ⟨by decide +kernel, rfl⟩
theorem dX7_now_40 : DD cX7_now 40 (.getfield 10) 3 43 := ⟨by decide +kernel, rfl⟩
theorem dX7_now_43 : DD cX7_now 43 (.getfield 150) 3 46 := ⟨by decide +kernel, rfl⟩
theorem dX7_now_46 : DD cX7_now 46 (.getfield 156) 3 49 := ⟨by decide +kernel, rfl⟩
theorem dX7_now_49 : DD cX7_now 49 (.ireturn) 1 50 := ⟨by decide +kernel, rfl⟩
theorem dX7_now_50 : DD cX7_now 50 (.aload_n 0) 1 51 := ⟨by decide +kernel, rfl⟩
theorem dX7_now_51 : DD cX7_now 51 (.getfield 10) 3 54 := ⟨by decide +kernel, rfl⟩
theorem dX7_now_54 : DD cX7_now 54 (.getfield 194) 3 57 := ⟨by decide +kernel, rfl⟩
theorem dX7_now_57 : DD cX7_now 57 (.ireturn) 1 58 := ⟨by decide +kernel, rfl⟩
theorem dX7_now_58 : DD cX7_now 58 (.aload_n 0) 1 59 := ⟨by decide +kernel, rfl⟩
theorem dX7_now_59 : DD cX7_now 59 (.ldc 72) 2 61 := ⟨by decide +kernel, rfl⟩
theorem dX7_now_61 : DD cX7_now 61 (.invokevirtual 73) 3 64 := ⟨by decide +kernel, rfl⟩
theorem dX7_now_64 : DD cX7_now 64 (.ireturn) 1 65 := ⟨by decide +kernel, rfl⟩
theorem dX7_seed_0 : DD cX7_seed 0 (.aload_n 0) 1 1 := ⟨by decide +kernel, rfl⟩
theorem dX7_seed_1 : DD cX7_seed 1 (.getfield 10) 3 4 := ⟨by decide +kernel, rfl⟩
theorem dX7_seed_4 : DD cX7_seed 4 (.getfield 150) 3 7 := ⟨by decide +kernel, rfl⟩
theorem dX7_seed_7 : DD cX7_seed 7 (.getfield 197) 3 10 := ⟨by decide +kernel, rfl⟩
theorem dX7_seed_10 : DD cX7_seed 10 (.istore_n 2) 1 11 := ⟨by decide +kernel, rfl⟩
theorem dX7_seed_11 : DD cX7_seed 11 (.aload_n 0) 1 12 := ⟨by decide +kernel, rfl⟩
theorem dX7_seed_12 : DD cX7_seed 12 (.getfield 10) 3 15 := ⟨by decide +kernel, rfl⟩
theorem dX7_seed_15 : DD cX7_seed 15 (.getfield 150) 3 18 := ⟨by decide +kernel, rfl⟩
theorem dX7_seed_18 : DD cX7_seed 18 (.iload_n 1) 1 19 := ⟨by decide +kernel, rfl⟩
theorem dX7_seed_19 : DD cX7_seed 19 (.putfield 197) 3 22 := ⟨by decide +kernel, rfl⟩
theorem dX7_seed_22 : DD cX7_seed 22 (.iload_n 2) 1 23 := ⟨by decide +kernel, rfl⟩
theorem dX7_seed_23 : DD cX7_seed 23 (.ireturn) 1 24 := ⟨by decide +kernel, rfl⟩
theorem dX7_ahead_0 : DD cX7_ahead 0 (.aload_n 0) 1 1 := ⟨by decide +kernel, rfl⟩
theorem dX7_ahead_1 : DD cX7_ahead 1 (.iload_n 1) 1 2 := ⟨by decide +kernel, rfl⟩
theorem dX7_ahead_2 : DD cX7_ahead 2 (.iload_n 2) 1 3 := ⟨by decide +kernel, rfl⟩
theorem dX7_ahead_3 : DD cX7_ahead 3 (.invokevirtual 138) 3 6 := ⟨by decide +kernel, rfl⟩
theorem dX7_ahead_6 : DD cX7_ahead 6 (.ifCond .eq 24) 3 9 := ⟨by decide +kernel, rfl⟩
theorem dX7_ahead_9 : DD cX7_ahead 9 (.iload_n 3) 1 10 := ⟨by decide +kernel, rfl⟩
theorem dX7_ahead_10 : DD cX7_ahead 10 (.iconst 1) 1 11 := ⟨by decide +kernel, rfl⟩
theorem dX7_ahead_11 : DD cX7_ahead 11 (.sipush 200) 3 14 := ⟨by decide +kernel, rfl⟩
theorem dX7_ahead_14 : DD cX7_ahead 14 (.invokestatic 68) 3 17 := ⟨by decide +kernel, rfl⟩
theorem dX7_ahead_17 : DD cX7_ahead 17 (.ifCond .eq 13) 3 20 := ⟨by decide +kernel, rfl⟩
theorem dX7_ahead_20 : DD cX7_ahead 20 (.iload 4) 2 22 := ⟨by decide +kernel, rfl⟩
theorem dX7_ahead_22 : DD cX7_ahead 22 (.iconst 0) 1 23 := ⟨by decide +kernel, rfl⟩
theorem dX7_ahead_23 : DD cX7_ahead 23 (.iconst 4) 1 24 := ⟨by decide +kernel, rfl⟩
theorem dX7_ahead_24 : DD cX7_ahead 24 (.invokestatic 68) 3 27 := ⟨by decide +kernel, rfl⟩
theorem dX7_ahead_27 : DD cX7_ahead 27 (.ifCond .ne 10) 3 30 := ⟨by decide +kernel, rfl⟩
theorem dX7_ahead_30 : DD cX7_ahead 30 (.aload_n 0) 1 31 := ⟨by decide +kernel, rfl⟩
theorem dX7_ahead_31 : DD cX7_ahead 31 (.ldc 72) 2 33 := ⟨by decide +kernel, rfl⟩
theorem dX7_ahead_33 : DD cX7_ahead 33 (.invokevirtual 73) 3 36 := ⟨by decide +kernel, rfl⟩
theorem dX7_ahead_36 : DD cX7_ahead 36 (.ireturn) 1 37 := ⟨by decide +kernel, rfl⟩
theorem dX7_ahead_37 : DD cX7_ahead 37 (.aload_n 0) 1 38 := ⟨by decide +kernel, rfl⟩
theorem dX7_ahead_38 : DD cX7_ahead 38 (.aload_n 0) 1 39 := ⟨by decide +kernel, rfl⟩
theorem dX7_ahead_39 : DD cX7_ahead 39 (.getfield 10) 3 42 := ⟨by decide +kernel, rfl⟩
theorem dX7_ahead_42 : DD cX7_ahead 42 (.getfield 82) 3 45 := ⟨by decide +kernel, rfl⟩
theorem dX7_ahead_45 : DD cX7_ahead 45 (.iload_n 1) 1 46 := ⟨by decide +kernel, rfl⟩
theorem dX7_ahead_46 : DD cX7_ahead 46 (.aaload) 1 47 := ⟨by decide +kernel, rfl⟩
theorem dX7_ahead_47 : DD cX7_ahead 47 (.aload_n 0) 1 48 := ⟨by decide +kernel, rfl⟩
theorem dX7_ahead_48 : DD cX7_ahead 48 (.getfield 10) 3 51 := ⟨by decide +kernel, rfl⟩
theorem dX7_ahead_51 : DD cX7_ahead 51 (.getfield 82) 3 54 := ⟨by decide +kernel, rfl⟩
theorem dX7_ahead_54 : DD cX7_ahead 54 (.iload_n 2) 1 55 := ⟨by decide +kernel, rfl⟩
theorem dX7_ahead_55 : DD cX7_ahead 55 (.aaload) 1 56 := ⟨by decide +kernel, rfl⟩
theorem dX7_ahead_56 : DD cX7_ahead 56 (.invokevirtual 200) 3 59 := ⟨by decide +kernel, rfl⟩
theorem dX7_ahead_59 : DD cX7_ahead 59 (.aload_n 0) 1 60 := ⟨by decide +kernel, rfl⟩
theorem dX7_ahead_60 : DD cX7_ahead 60 (.getfield 36) 3 63 := ⟨by decide +kernel, rfl⟩
theorem dX7_ahead_63 : DD cX7_ahead 63 (.aload_n 0) 1 64 := ⟨by decide +kernel, rfl⟩
theorem dX7_ahead_64 : DD cX7_ahead 64 (.getfield 10) 3 67 := ⟨by decide +kernel, rfl⟩
theorem dX7_ahead_67 : DD cX7_ahead 67 (.getfield 82) 3 70 := ⟨by decide +kernel, rfl⟩
theorem dX7_ahead_70 : DD cX7_ahead 70 (.iload_n 1) 1 71 := ⟨by decide +kernel, rfl⟩
theorem dX7_ahead_71 : DD cX7_ahead 71 (.aaload) 1 72 := ⟨by decide +kernel, rfl⟩
theorem dX7_ahead_72 : DD cX7_ahead 72 (.aload_n 0) 1 73 := ⟨by decide +kernel, rfl⟩
theorem dX7_ahead_73 : DD cX7_ahead 73 (.getfield 10) 3 76 := ⟨by decide +kernel, rfl⟩
theorem dX7_ahead_76 : DD cX7_ahead 76 (.getfield 82) 3 79 := ⟨by decide +kernel, rfl⟩
theorem dX7_ahead_79 : DD cX7_ahead 79 (.iload_n 2) 1 80 := ⟨by decide +kernel, rfl⟩
theorem dX7_ahead_80 : DD cX7_ahead 80 (.aaload) 1 81 := ⟨by decide +kernel, rfl⟩
theorem dX7_ahead_81 : DD cX7_ahead 81 (.iload_n 3) 1 82 := ⟨by decide +kernel, rfl⟩
theorem dX7_ahead_82 : DD cX7_ahead 82 (.invokevirtual 159) 3 85 := ⟨by decide +kernel, rfl⟩
theorem dX7_ahead_85 : DD cX7_ahead 85 (.istore 5) 2 87 := ⟨by decide +kernel, rfl⟩
theorem dX7_ahead_87 : DD cX7_ahead 87 (.iload 4) 2 89 := ⟨by decide +kernel, rfl⟩
theorem dX7_ahead_89 : DD cX7_ahead 89 (.tableswitch 61 0 3 #[31, 34, 42, 50]) 31 120 := ⟨by decide +kernel, rfl⟩
theorem dX7_ahead_120 : DD cX7_ahead 120 (.iload 5) 2 122 := ⟨by decide +kernel, rfl⟩
theorem dX7_ahead_122 : DD cX7_ahead 122 (.ireturn) 1 123 := ⟨by decide +kernel, rfl⟩
theorem dX7_ahead_123 : DD cX7_ahead 123 (.aload_n 0) 1 124 := ⟨by decide +kernel, rfl⟩
theorem dX7_ahead_124 : DD cX7_ahead 124 (.getfield 36) 3 127 := ⟨by decide +kernel, rfl⟩
theorem dX7_ahead_127 : DD cX7_ahead 127 (.getfield 156) 3 130 := ⟨by decide +kernel, rfl⟩
theorem dX7_ahead_130 : DD cX7_ahead 130 (.ireturn) 1 131 := ⟨by decide +kernel, rfl⟩
theorem dX7_ahead_131 : DD cX7_ahead 131 (.aload_n 0) 1 132 := ⟨by decide +kernel, rfl⟩
theorem dX7_ahead_132 : DD cX7_ahead 132 (.getfield 36) 3 135 := ⟨by decide +kernel, rfl⟩
theorem dX7_ahead_135 : DD cX7_ahead 135 (.getfield 191) 3 138 := ⟨by decide +kernel, rfl⟩
theorem dX7_ahead_138 : DD cX7_ahead 138 (.ireturn) 1 139 := ⟨by decide +kernel, rfl⟩
theorem dX7_ahead_139 : DD cX7_ahead 139 (.aload_n 0) 1 140 := ⟨by decide +kernel, rfl⟩
theorem dX7_ahead_140 : DD cX7_ahead 140 (.getfield 36) 3 143 := ⟨by decide +kernel, rfl⟩
theorem dX7_ahead_143 : DD cX7_ahead 143 (.getfield 167) 3 146 := ⟨by decide +kernel, rfl⟩
theorem dX7_ahead_146 : DD cX7_ahead 146 (.getfield 177) 3 149 := ⟨by decide +kernel, rfl⟩
theorem dX7_ahead_149 : DD cX7_ahead 149 (.ireturn) 1 150 := ⟨by decide +kernel, rfl⟩
theorem dX7_ahead_150 : DD cX7_ahead 150 (.aload_n 0) 1 151 := ⟨by decide +kernel, rfl⟩
theorem dX7_ahead_151 : DD cX7_ahead 151 (.getfield 36) 3 154 := ⟨by decide +kernel, rfl⟩
theorem dX7_ahead_154 : DD cX7_ahead 154 (.getfield 167) 3 157 := ⟨by decide +kernel, rfl⟩
theorem dX7_ahead_157 : DD cX7_ahead 157 (.getfield 180) 3 160 := ⟨by decide +kernel, rfl⟩
theorem dX7_ahead_160 : DD cX7_ahead 160 (.ireturn) 1 161 := ⟨by decide +kernel, rfl⟩
theorem dX7_best_0 : DD cX7_best 0 (.aload_n 0) 1 1 := ⟨by decide +kernel, rfl⟩
theorem dX7_best_1 : DD cX7_best 1 (.iload_n 1) 1 2 := ⟨by decide +kernel, rfl⟩
theorem dX7_best_2 : DD cX7_best 2 (.iload_n 2) 1 3 := ⟨by decide +kernel, rfl⟩
theorem dX7_best_3 : DD cX7_best 3 (.invokevirtual 138) 3 6 := ⟨by decide +kernel, rfl⟩
theorem dX7_best_6 : DD cX7_best 6 (.ifCond .eq 14) 3 9 := ⟨by decide +kernel, rfl⟩
theorem dX7_best_9 : DD cX7_best 9 (.iload_n 3) 1 10 := ⟨by decide +kernel, rfl⟩
theorem dX7_best_10 : DD cX7_best 10 (.iconst 1) 1 11 := ⟨by decide +kernel, rfl⟩
theorem dX7_best_11 : DD cX7_best 11 (.sipush 200) 3 14 := ⟨by decide +kernel, rfl⟩
theorem dX7_best_14 : DD cX7_best 14 (.invokestatic 68) 3 17 := ⟨by decide +kernel, rfl⟩
theorem dX7_best_17 : DD cX7_best 17 (.ifCond .ne 10) 3 20 := ⟨by decide +kernel, rfl⟩
theorem dX7_best_20 : DD cX7_best 20 (.aload_n 0) 1 21 := ⟨by decide +kernel, rfl⟩
theorem dX7_best_21 : DD cX7_best 21 (.ldc 72) 2 23 := ⟨by decide +kernel, rfl⟩
theorem dX7_best_23 : DD cX7_best 23 (.invokevirtual 73) 3 26 := ⟨by decide +kernel, rfl⟩
theorem dX7_best_26 : DD cX7_best 26 (.ireturn) 1 27 := ⟨by decide +kernel, rfl⟩
theorem dX7_best_27 : DD cX7_best 27 (.iconst (-1)) 1 28 := ⟨by decide +kernel, rfl⟩
theorem dX7_best_28 : DD cX7_best 28 (.istore 4) 2 30 := ⟨by decide +kernel, rfl⟩
theorem dX7_best_30 : DD cX7_best 30 (.iconst 0) 1 31 := ⟨by decide +kernel, rfl⟩
theorem dX7_best_31 : DD cX7_best 31 (.istore 5) 2 33 := ⟨by decide +kernel, rfl⟩
theorem dX7_best_33 : DD cX7_best 33 (.aload_n 0) 1 34 := ⟨by decide +kernel, rfl⟩
theorem dX7_best_34 : DD cX7_best 34 (.getfield 43) 3 37 := ⟨by decide +kernel, rfl⟩
theorem dX7_best_37 : DD cX7_best 37 (.aload_n 0) 1 38 := ⟨by decide +kernel, rfl⟩
theorem dX7_best_38 : DD cX7_best 38 (.getfield 10) 3 41 := ⟨by decide +kernel, rfl⟩
theorem dX7_best_41 : DD cX7_best 41 (.getfield 82) 3 44 := ⟨by decide +kernel, rfl⟩
theorem dX7_best_44 : DD cX7_best 44 (.iload_n 1) 1 45 := ⟨by decide +kernel, rfl⟩
theorem dX7_best_45 : DD cX7_best 45 (.aaload) 1 46 := ⟨by decide +kernel, rfl⟩
theorem dX7_best_46 : DD cX7_best 46 (.invokevirtual 203) 3 49 := ⟨by decide +kernel, rfl⟩
theorem dX7_best_49 : DD cX7_best 49 (.iconst 0) 1 50 := ⟨by decide +kernel, rfl⟩
theorem dX7_best_50 : DD cX7_best 50 (.istore 6) 2 52 := ⟨by decide +kernel, rfl⟩
theorem dX7_best_52 : DD cX7_best 52 (.iload 6) 2 54 := ⟨by decide +kernel, rfl⟩
theorem dX7_best_54 : DD cX7_best 54 (.iconst 5) 1 55 := ⟨by decide +kernel, rfl⟩
theorem dX7_best_55 : DD cX7_best 55 (.if_icmp .gt 102) 3 58 := ⟨by decide +kernel, rfl⟩
theorem dX7_best_58 : DD cX7_best 58 (.aload_n 0) 1 59 := ⟨by decide +kernel, rfl⟩
theorem dX7_best_59 : DD cX7_best 59 (.getfield 43) 3 62 := ⟨by decide +kernel, rfl⟩
theorem dX7_best_62 : DD cX7_best 62 (.iload 6) 2 64 := ⟨by decide +kernel, rfl⟩
theorem dX7_best_64 : DD cX7_best 64 (.putfield 107) 3 67 := ⟨by decide +kernel, rfl⟩
theorem dX7_best_67 : DD cX7_best 67 (.aload_n 0) 1 68 := ⟨by decide +kernel, rfl⟩
theorem dX7_best_68 : DD cX7_best 68 (.aload_n 0) 1 69 := ⟨by decide +kernel, rfl⟩
theorem dX7_best_69 : DD cX7_best 69 (.getfield 43) 3 72 := ⟨by decide +kernel, rfl⟩
theorem dX7_best_72 : DD cX7_best 72 (.aload_n 0) 1 73 := ⟨by decide +kernel, rfl⟩
theorem dX7_best_73 : DD cX7_best 73 (.getfield 10) 3 76 := ⟨by decide +kernel, rfl⟩
theorem dX7_best_76 : DD cX7_best 76 (.getfield 82) 3 79 := ⟨by decide +kernel, rfl⟩
theorem dX7_best_79 : DD cX7_best 79 (.iload_n 2) 1 80 := ⟨by decide +kernel, rfl⟩
theorem dX7_best_80 : DD cX7_best 80 (.aaload) 1 81 := ⟨by decide +kernel, rfl⟩
theorem dX7_best_81 : DD cX7_best 81 (.invokevirtual 200) 3 84 := ⟨by decide +kernel, rfl⟩
theorem dX7_best_84 : DD cX7_best 84 (.aload_n 0) 1 85 := ⟨by decide +kernel, rfl⟩
theorem dX7_best_85 : DD cX7_best 85 (.getfield 36) 3 88 := ⟨by decide +kernel, rfl⟩
theorem dX7_best_88 : DD cX7_best 88 (.aload_n 0) 1 89 := ⟨by decide +kernel, rfl⟩
theorem dX7_best_89 : DD cX7_best 89 (.getfield 43) 3 92 := ⟨by decide +kernel, rfl⟩
theorem dX7_best_92 : DD cX7_best 92 (.aload_n 0) 1 93 := ⟨by decide +kernel, rfl⟩
theorem dX7_best_93 : DD cX7_best 93 (.getfield 10) 3 96 := ⟨by decide +kernel, rfl⟩
theorem dX7_best_96 : DD cX7_best 96 (.getfield 82) 3 99 := ⟨by decide +kernel, rfl⟩
theorem dX7_best_99 : DD cX7_best 99 (.iload_n 2) 1 100 := ⟨by decide +kernel, rfl⟩
theorem dX7_best_100 : DD cX7_best 100 (.aaload) 1 101 := ⟨by decide +kernel, rfl⟩
theorem dX7_best_101 : DD cX7_best 101 (.iload_n 3) 1 102 := ⟨by decide +kernel, rfl⟩
theorem dX7_best_102 : DD cX7_best 102 (.invokevirtual 159) 3 105 := ⟨by decide +kernel, rfl⟩
theorem dX7_best_105 : DD cX7_best 105 (.iconst 2) 1 106 := ⟨by decide +kernel, rfl⟩
theorem dX7_best_106 : DD cX7_best 106 (.if_icmp .ne 7) 3 109 := ⟨by decide +kernel, rfl⟩
theorem dX7_best_109 : DD cX7_best 109 (.iconst 1) 1 110 := ⟨by decide +kernel, rfl⟩
theorem dX7_best_110 : DD cX7_best 110 (.goto 4) 3 113 := ⟨by decide +kernel, rfl⟩
theorem dX7_best_113 : DD cX7_best 113 (.iconst 0) 1 114 := ⟨by decide +kernel, rfl⟩
theorem dX7_best_114 : DD cX7_best 114 (.istore 7) 2 116 := ⟨by decide +kernel, rfl⟩
theorem dX7_best_116 : DD cX7_best 116 (.iload 7) 2 118 := ⟨by decide +kernel, rfl⟩
theorem dX7_best_118 : DD cX7_best 118 (.ifCond .eq 33) 3 121 := ⟨by decide +kernel, rfl⟩
theorem dX7_best_121 : DD cX7_best 121 (.iload 4) 2 123 := ⟨by decide +kernel, rfl⟩
theorem dX7_best_123 : DD cX7_best 123 (.ifCond .lt 15) 3 126 := ⟨by decide +kernel, rfl⟩
theorem dX7_best_126 : DD cX7_best 126 (.aload_n 0) 1 127 := ⟨by decide +kernel, rfl⟩
theorem dX7_best_127 : DD cX7_best 127 (.getfield 36) 3 130 := ⟨by decide +kernel, rfl⟩
theorem dX7_best_130 : DD cX7_best 130 (.getfield 156) 3 133 := ⟨by decide +kernel, rfl⟩
theorem dX7_best_133 : DD cX7_best 133 (.iload 5) 2 135 := ⟨by decide +kernel, rfl⟩
theorem dX7_best_135 : DD cX7_best 135 (.if_icmp .ge 16) 3 138 := ⟨by decide +kernel, rfl⟩
theorem dX7_best_138 : DD cX7_best 138 (.iload 6) 2 140 := ⟨by decide +kernel, rfl⟩
theorem dX7_best_140 : DD cX7_best 140 (.istore 4) 2 142 := ⟨by decide +kernel, rfl⟩
theorem dX7_best_142 : DD cX7_best 142 (.aload_n 0) 1 143 := ⟨by decide +kernel, rfl⟩
theorem dX7_best_143 : DD cX7_best 143 (.getfield 36) 3 146 := ⟨by decide +kernel, rfl⟩
theorem dX7_best_146 : DD cX7_best 146 (.getfield 156) 3 149 := ⟨by decide +kernel, rfl⟩
theorem dX7_best_149 : DD cX7_best 149 (.istore 5) 2 151 := ⟨by decide +kernel, rfl⟩
theorem dX7_best_151 : DD cX7_best 151 (.iinc 6 1) 3 154 := ⟨by decide +kernel, rfl⟩
theorem dX7_best_154 : DD cX7_best 154 (.goto (-102)) 3 157 := ⟨by decide +kernel, rfl⟩
theorem dX7_best_157 : DD cX7_best 157 (.iload 4) 2 159 := ⟨by decide +kernel, rfl⟩
theorem dX7_best_159 : DD cX7_best 159 (.ifCond .ge 12) 3 162 := ⟨by decide +kernel, rfl⟩
theorem dX7_best_162 : DD cX7_best 162 (.aload_n 0) 1 163 := ⟨by decide +kernel, rfl⟩
theorem dX7_best_163 : DD cX7_best 163 (.ldc 207) 2 165 := ⟨by decide +kernel, rfl⟩
theorem dX7_best_165 : DD cX7_best 165 (.invokevirtual 73) 3 168 := ⟨by decide +kernel, rfl⟩
theorem dX7_best_168 : DD cX7_best 168 (.goto 5) 3 171 := ⟨by decide +kernel, rfl⟩
theorem dX7_best_171 : DD cX7_best 171 (.iload 4) 2 173 := ⟨by decide +kernel, rfl⟩
theorem dX7_best_173 : DD cX7_best 173 (.ireturn) 1 174 := ⟨by decide +kernel, rfl⟩
theorem dX7_light_0 : DD cX7_light 0 (.aload_n 0) 1 1 := ⟨by decide +kernel, rfl⟩
theorem dX7_light_1 : DD cX7_light 1 (.iload_n 1) 1 2 := ⟨by decide +kernel, rfl⟩
theorem dX7_light_2 : DD cX7_light 2 (.iload_n 2) 1 3 := ⟨by decide +kernel, rfl⟩
theorem dX7_light_3 : DD cX7_light 3 (.invokevirtual 138) 3 6 := ⟨by decide +kernel, rfl⟩
theorem dX7_light_6 : DD cX7_light 6 (.ifCond .eq 13) 3 9 := ⟨by decide +kernel, rfl⟩
theorem dX7_light_9 : DD cX7_light 9 (.iload_n 3) 1 10 := ⟨by decide +kernel, rfl⟩
theorem dX7_light_10 : DD cX7_light 10 (.iconst 1) 1 11 := ⟨by decide +kernel, rfl⟩
theorem dX7_light_11 : DD cX7_light 11 (.bipush 100) 2 13 := ⟨by decide +kernel, rfl⟩
theorem dX7_light_13 : DD cX7_light 13 (.invokestatic 68) 3 16 := ⟨by decide +kernel, rfl⟩
theorem dX7_light_16 : DD cX7_light 16 (.ifCond .ne 10) 3 19 := ⟨by decide +kernel, rfl⟩
theorem dX7_light_19 : DD cX7_light 19 (.aload_n 0) 1 20 := ⟨by decide +kernel, rfl⟩
theorem dX7_light_20 : DD cX7_light 20 (.ldc 72) 2 22 := ⟨by decide +kernel, rfl⟩
theorem dX7_light_22 : DD cX7_light 22 (.invokevirtual 73) 3 25 := ⟨by decide +kernel, rfl⟩
theorem dX7_light_25 : DD cX7_light 25 (.ireturn) 1 26 := ⟨by decide +kernel, rfl⟩
theorem dX7_light_26 : DD cX7_light 26 (.aload_n 0) 1 27 := ⟨by decide +kernel, rfl⟩
theorem dX7_light_27 : DD cX7_light 27 (.getfield 43) 3 30 := ⟨by decide +kernel, rfl⟩
theorem dX7_light_30 : DD cX7_light 30 (.aload_n 0) 1 31 := ⟨by decide +kernel, rfl⟩
theorem dX7_light_31 : DD cX7_light 31 (.getfield 10) 3 34 := ⟨by decide +kernel, rfl⟩
theorem dX7_light_34 : DD cX7_light 34 (.getfield 82) 3 37 := ⟨by decide +kernel, rfl⟩
theorem dX7_light_37 : DD cX7_light 37 (.iload_n 1) 1 38 := ⟨by decide +kernel, rfl⟩
theorem dX7_light_38 : DD cX7_light 38 (.aaload) 1 39 := ⟨by decide +kernel, rfl⟩
theorem dX7_light_39 : DD cX7_light 39 (.invokevirtual 203) 3 42 := ⟨by decide +kernel, rfl⟩
theorem dX7_light_42 : DD cX7_light 42 (.iconst 1) 1 43 := ⟨by decide +kernel, rfl⟩
theorem dX7_light_43 : DD cX7_light 43 (.istore 4) 2 45 := ⟨by decide +kernel, rfl⟩
theorem dX7_light_45 : DD cX7_light 45 (.iload 4) 2 47 := ⟨by decide +kernel, rfl⟩
theorem dX7_light_47 : DD cX7_light 47 (.sipush 299) 3 50 := ⟨by decide +kernel, rfl⟩
theorem dX7_light_50 : DD cX7_light 50 (.if_icmp .gt 63) 3 53 := ⟨by decide +kernel, rfl⟩
theorem dX7_light_53 : DD cX7_light 53 (.aload_n 0) 1 54 := ⟨by decide +kernel, rfl⟩
theorem dX7_light_54 : DD cX7_light 54 (.getfield 43) 3 57 := ⟨by decide +kernel, rfl⟩
theorem dX7_light_57 : DD cX7_light 57 (.iload 4) 2 59 := ⟨by decide +kernel, rfl⟩
theorem dX7_light_59 : DD cX7_light 59 (.putfield 208) 3 62 := ⟨by decide +kernel, rfl⟩
theorem dX7_light_62 : DD cX7_light 62 (.aload_n 0) 1 63 := ⟨by decide +kernel, rfl⟩
theorem dX7_light_63 : DD cX7_light 63 (.aload_n 0) 1 64 := ⟨by decide +kernel, rfl⟩
theorem dX7_light_64 : DD cX7_light 64 (.getfield 43) 3 67 := ⟨by decide +kernel, rfl⟩
theorem dX7_light_67 : DD cX7_light 67 (.aload_n 0) 1 68 := ⟨by decide +kernel, rfl⟩
theorem dX7_light_68 : DD cX7_light 68 (.getfield 10) 3 71 := ⟨by decide +kernel, rfl⟩
theorem dX7_light_71 : DD cX7_light 71 (.getfield 82) 3 74 := ⟨by decide +kernel, rfl⟩
theorem dX7_light_74 : DD cX7_light 74 (.iload_n 2) 1 75 := ⟨by decide +kernel, rfl⟩
theorem dX7_light_75 : DD cX7_light 75 (.aaload) 1 76 := ⟨by decide +kernel, rfl⟩
theorem dX7_light_76 : DD cX7_light 76 (.invokevirtual 200) 3 79 := ⟨by decide +kernel, rfl⟩
theorem dX7_light_79 : DD cX7_light 79 (.aload_n 0) 1 80 := ⟨by decide +kernel, rfl⟩
theorem dX7_light_80 : DD cX7_light 80 (.getfield 36) 3 83 := ⟨by decide +kernel, rfl⟩
theorem dX7_light_83 : DD cX7_light 83 (.aload_n 0) 1 84 := ⟨by decide +kernel, rfl⟩
theorem dX7_light_84 : DD cX7_light 84 (.getfield 43) 3 87 := ⟨by decide +kernel, rfl⟩
theorem dX7_light_87 : DD cX7_light 87 (.aload_n 0) 1 88 := ⟨by decide +kernel, rfl⟩
theorem dX7_light_88 : DD cX7_light 88 (.getfield 10) 3 91 := ⟨by decide +kernel, rfl⟩
theorem dX7_light_91 : DD cX7_light 91 (.getfield 82) 3 94 := ⟨by decide +kernel, rfl⟩
theorem dX7_light_94 : DD cX7_light 94 (.iload_n 2) 1 95 := ⟨by decide +kernel, rfl⟩
theorem dX7_light_95 : DD cX7_light 95 (.aaload) 1 96 := ⟨by decide +kernel, rfl⟩
theorem dX7_light_96 : DD cX7_light 96 (.iload_n 3) 1 97 := ⟨by decide +kernel, rfl⟩
theorem dX7_light_97 : DD cX7_light 97 (.invokevirtual 159) 3 100 := ⟨by decide +kernel, rfl⟩
theorem dX7_light_100 : DD cX7_light 100 (.iconst 2) 1 101 := ⟨by decide +kernel, rfl⟩
theorem dX7_light_101 : DD cX7_light 101 (.if_icmp .ne 6) 3 104 := ⟨by decide +kernel, rfl⟩
theorem dX7_light_104 : DD cX7_light 104 (.iload 4) 2 106 := ⟨by decide +kernel, rfl⟩
theorem dX7_light_106 : DD cX7_light 106 (.ireturn) 1 107 := ⟨by decide +kernel, rfl⟩
theorem dX7_light_107 : DD cX7_light 107 (.iinc 4 1) 3 110 := ⟨by decide +kernel, rfl⟩
theorem dX7_light_110 : DD cX7_light 110 (.goto (-65)) 3 113 := ⟨by decide +kernel, rfl⟩
theorem dX7_light_113 : DD cX7_light 113 (.aload_n 0) 1 114 := ⟨by decide +kernel, rfl⟩
theorem dX7_light_114 : DD cX7_light 114 (.ldc 207) 2 116 := ⟨by decide +kernel, rfl⟩
theorem dX7_light_116 : DD cX7_light 116 (.invokevirtual 73) 3 119 := ⟨by decide +kernel, rfl⟩
theorem dX7_light_119 : DD cX7_light 119 (.ireturn) 1 120 := ⟨by decide +kernel, rfl⟩
theorem dX7_late_0 : DD cX7_late 0 (.aload_n 0) 1 1 := ⟨by decide +kernel, rfl⟩
theorem dX7_late_1 : DD cX7_late 1 (.iload_n 1) 1 2 := ⟨by decide +kernel, rfl⟩
theorem dX7_late_2 : DD cX7_late 2 (.iload_n 2) 1 3 := ⟨by decide +kernel, rfl⟩
theorem dX7_late_3 : DD cX7_late 3 (.invokevirtual 138) 3 6 := ⟨by decide +kernel, rfl⟩
theorem dX7_late_6 : DD cX7_late 6 (.ifCond .eq 14) 3 9 := ⟨by decide +kernel, rfl⟩
theorem dX7_late_9 : DD cX7_late 9 (.iload_n 3) 1 10 := ⟨by decide +kernel, rfl⟩
theorem dX7_late_10 : DD cX7_late 10 (.iconst 1) 1 11 := ⟨by decide +kernel, rfl⟩
theorem dX7_late_11 : DD cX7_late 11 (.sipush 200) 3 14 := ⟨by decide +kernel, rfl⟩
theorem dX7_late_14 : DD cX7_late 14 (.invokestatic 68) 3 17 := ⟨by decide +kernel, rfl⟩
theorem dX7_late_17 : DD cX7_late 17 (.ifCond .ne 10) 3 20 := ⟨by decide +kernel, rfl⟩
theorem dX7_late_20 : DD cX7_late 20 (.aload_n 0) 1 21 := ⟨by decide +kernel, rfl⟩
theorem dX7_late_21 : DD cX7_late 21 (.ldc 72) 2 23 := ⟨by decide +kernel, rfl⟩
theorem dX7_late_23 : DD cX7_late 23 (.invokevirtual 73) 3 26 := ⟨by decide +kernel, rfl⟩
theorem dX7_late_26 : DD cX7_late 26 (.ireturn) 1 27 := ⟨by decide +kernel, rfl⟩
theorem dX7_late_27 : DD cX7_late 27 (.aload_n 0) 1 28 := ⟨by decide +kernel, rfl⟩
theorem dX7_late_28 : DD cX7_late 28 (.getfield 43) 3 31 := ⟨by decide +kernel, rfl⟩
theorem dX7_late_31 : DD cX7_late 31 (.aload_n 0) 1 32 := ⟨by decide +kernel, rfl⟩
theorem dX7_late_32 : DD cX7_late 32 (.getfield 10) 3 35 := ⟨by decide +kernel, rfl⟩
theorem dX7_late_35 : DD cX7_late 35 (.getfield 82) 3 38 := ⟨by decide +kernel, rfl⟩
theorem dX7_late_38 : DD cX7_late 38 (.iload_n 1) 1 39 := ⟨by decide +kernel, rfl⟩
theorem dX7_late_39 : DD cX7_late 39 (.aaload) 1 40 := ⟨by decide +kernel, rfl⟩
theorem dX7_late_40 : DD cX7_late 40 (.invokevirtual 203) 3 43 := ⟨by decide +kernel, rfl⟩
theorem dX7_late_43 : DD cX7_late 43 (.bipush 9) 2 45 := ⟨by decide +kernel, rfl⟩
theorem dX7_late_45 : DD cX7_late 45 (.istore 4) 2 47 := ⟨by decide +kernel, rfl⟩
theorem dX7_late_47 : DD cX7_late 47 (.iload 4) 2 49 := ⟨by decide +kernel, rfl⟩
theorem dX7_late_49 : DD cX7_late 49 (.ifCond .lt 72) 3 52 := ⟨by decide +kernel, rfl⟩
theorem dX7_late_52 : DD cX7_late 52 (.aload_n 0) 1 53 := ⟨by decide +kernel, rfl⟩
theorem dX7_late_53 : DD cX7_late 53 (.getfield 43) 3 56 := ⟨by decide +kernel, rfl⟩
theorem dX7_late_56 : DD cX7_late 56 (.iload 4) 2 58 := ⟨by decide +kernel, rfl⟩
theorem dX7_late_58 : DD cX7_late 58 (.putfield 211) 3 61 := ⟨by decide +kernel, rfl⟩
theorem dX7_late_61 : DD cX7_late 61 (.aload_n 0) 1 62 := ⟨by decide +kernel, rfl⟩
theorem dX7_late_62 : DD cX7_late 62 (.aload_n 0) 1 63 := ⟨by decide +kernel, rfl⟩
theorem dX7_late_63 : DD cX7_late 63 (.getfield 43) 3 66 := ⟨by decide +kernel, rfl⟩
theorem dX7_late_66 : DD cX7_late 66 (.aload_n 0) 1 67 := ⟨by decide +kernel, rfl⟩
theorem dX7_late_67 : DD cX7_late 67 (.getfield 10) 3 70 := ⟨by decide +kernel, rfl⟩
theorem dX7_late_70 : DD cX7_late 70 (.getfield 82) 3 73 := ⟨by decide +kernel, rfl⟩
theorem dX7_late_73 : DD cX7_late 73 (.iload_n 2) 1 74 := ⟨by decide +kernel, rfl⟩
theorem dX7_late_74 : DD cX7_late 74 (.aaload) 1 75 := ⟨by decide +kernel, rfl⟩
theorem dX7_late_75 : DD cX7_late 75 (.invokevirtual 200) 3 78 := ⟨by decide +kernel, rfl⟩
theorem dX7_late_78 : DD cX7_late 78 (.aload_n 0) 1 79 := ⟨by decide +kernel, rfl⟩
theorem dX7_late_79 : DD cX7_late 79 (.getfield 36) 3 82 := ⟨by decide +kernel, rfl⟩
theorem dX7_late_82 : DD cX7_late 82 (.aload_n 0) 1 83 := ⟨by decide +kernel, rfl⟩
theorem dX7_late_83 : DD cX7_late 83 (.getfield 43) 3 86 := ⟨by decide +kernel, rfl⟩
theorem dX7_late_86 : DD cX7_late 86 (.aload_n 0) 1 87 := ⟨by decide +kernel, rfl⟩
theorem dX7_late_87 : DD cX7_late 87 (.getfield 10) 3 90 := ⟨by decide +kernel, rfl⟩
theorem dX7_late_90 : DD cX7_late 90 (.getfield 82) 3 93 := ⟨by decide +kernel, rfl⟩
theorem dX7_late_93 : DD cX7_late 93 (.iload_n 2) 1 94 := ⟨by decide +kernel, rfl⟩
theorem dX7_late_94 : DD cX7_late 94 (.aaload) 1 95 := ⟨by decide +kernel, rfl⟩
theorem dX7_late_95 : DD cX7_late 95 (.iload_n 3) 1 96 := ⟨by decide +kernel, rfl⟩
theorem dX7_late_96 : DD cX7_late 96 (.invokevirtual 159) 3 99 := ⟨by decide +kernel, rfl⟩
theorem dX7_late_99 : DD cX7_late 99 (.istore 5) 2 101 := ⟨by decide +kernel, rfl⟩
theorem dX7_late_101 : DD cX7_late 101 (.iload 5) 2 103 := ⟨by decide +kernel, rfl⟩
theorem dX7_late_103 : DD cX7_late 103 (.ifCond .eq 9) 3 106 := ⟨by decide +kernel, rfl⟩
theorem dX7_late_106 : DD cX7_late 106 (.iload 5) 2 108 := ⟨by decide +kernel, rfl⟩
theorem dX7_late_108 : DD cX7_late 108 (.iconst 2) 1 109 := ⟨by decide +kernel, rfl⟩
theorem dX7_late_109 : DD cX7_late 109 (.if_icmp .ne 6) 3 112 := ⟨by decide +kernel, rfl⟩
theorem dX7_late_112 : DD cX7_late 112 (.iload 4) 2 114 := ⟨by decide +kernel, rfl⟩
theorem dX7_late_114 : DD cX7_late 114 (.ireturn) 1 115 := ⟨by decide +kernel, rfl⟩
theorem dX7_late_115 : DD cX7_late 115 (.iinc 4 (-1)) 3 118 := ⟨by decide +kernel, rfl⟩
theorem dX7_late_118 : DD cX7_late 118 (.goto (-71)) 3 121 := ⟨by decide +kernel, rfl⟩
theorem dX7_late_121 : DD cX7_late 121 (.aload_n 0) 1 122 := ⟨by decide +kernel, rfl⟩
theorem dX7_late_122 : DD cX7_late 122 (.ldc 207) 2 124 := ⟨by decide +kernel, rfl⟩
theorem dX7_late_124 : DD cX7_late 124 (.invokevirtual 73) 3 127 := ⟨by decide +kernel, rfl⟩
theorem dX7_late_127 : DD cX7_late 127 (.ireturn) 1 128 := ⟨by decide +kernel, rfl⟩
theorem dX7_swing_0 : DD cX7_swing 0 (.aload_n 0) 1 1 := ⟨by decide +kernel, rfl⟩
theorem dX7_swing_1 : DD cX7_swing 1 (.iload_n 1) 1 2 := ⟨by decide +kernel, rfl⟩
theorem dX7_swing_2 : DD cX7_swing 2 (.iload_n 2) 1 3 := ⟨by decide +kernel, rfl⟩
theorem dX7_swing_3 : DD cX7_swing 3 (.invokevirtual 138) 3 6 := ⟨by decide +kernel, rfl⟩
theorem dX7_swing_6 : DD cX7_swing 6 (.ifCond .eq 24) 3 9 := ⟨by decide +kernel, rfl⟩
theorem dX7_swing_9 : DD cX7_swing 9 (.iload_n 3) 1 10 := ⟨by decide +kernel, rfl⟩
theorem dX7_swing_10 : DD cX7_swing 10 (.iconst 2) 1 11 := ⟨by decide +kernel, rfl⟩
theorem dX7_swing_11 : DD cX7_swing 11 (.sipush 200) 3 14 := ⟨by decide +kernel, rfl⟩
theorem dX7_swing_14 : DD cX7_swing 14 (.invokestatic 68) 3 17 := ⟨by decide +kernel, rfl⟩
theorem dX7_swing_17 : DD cX7_swing 17 (.ifCond .eq 13) 3 20 := ⟨by decide +kernel, rfl⟩
theorem dX7_swing_20 : DD cX7_swing 20 (.iload 4) 2 22 := ⟨by decide +kernel, rfl⟩
theorem dX7_swing_22 : DD cX7_swing 22 (.iconst 0) 1 23 := ⟨by decide +kernel, rfl⟩
theorem dX7_swing_23 : DD cX7_swing 23 (.iconst 2) 1 24 := ⟨by decide +kernel, rfl⟩
theorem dX7_swing_24 : DD cX7_swing 24 (.invokestatic 68) 3 27 := ⟨by decide +kernel, rfl⟩
theorem dX7_swing_27 : DD cX7_swing 27 (.ifCond .ne 10) 3 30 := ⟨by decide +kernel, rfl⟩
theorem dX7_swing_30 : DD cX7_swing 30 (.aload_n 0) 1 31 := ⟨by decide +kernel, rfl⟩
theorem dX7_swing_31 : DD cX7_swing 31 (.ldc 72) 2 33 := ⟨by decide +kernel, rfl⟩
theorem dX7_swing_33 : DD cX7_swing 33 (.invokevirtual 73) 3 36 := ⟨by decide +kernel, rfl⟩
theorem dX7_swing_36 : DD cX7_swing 36 (.ireturn) 1 37 := ⟨by decide +kernel, rfl⟩
theorem dX7_swing_37 : DD cX7_swing 37 (.iload_n 3) 1 38 := ⟨by decide +kernel, rfl⟩
theorem dX7_swing_38 : DD cX7_swing 38 (.iconst 2) 1 39 := ⟨by decide +kernel, rfl⟩
theorem dX7_swing_39 : DD cX7_swing 39 (.idiv) 1 40 := ⟨by decide +kernel, rfl⟩
theorem dX7_swing_40 : DD cX7_swing 40 (.istore 5) 2 42 := ⟨by decide +kernel, rfl⟩
theorem dX7_swing_42 : DD cX7_swing 42 (.iconst 0) 1 43 := ⟨by decide +kernel, rfl⟩
theorem dX7_swing_43 : DD cX7_swing 43 (.istore 6) 2 45 := ⟨by decide +kernel, rfl⟩
theorem dX7_swing_45 : DD cX7_swing 45 (.iconst 0) 1 46 := ⟨by decide +kernel, rfl⟩
theorem dX7_swing_46 : DD cX7_swing 46 (.istore 7) 2 48 := ⟨by decide +kernel, rfl⟩
theorem dX7_swing_48 : DD cX7_swing 48 (.iconst 0) 1 49 := ⟨by decide +kernel, rfl⟩
theorem dX7_swing_49 : DD cX7_swing 49 (.istore 8) 2 51 := ⟨by decide +kernel, rfl⟩
theorem dX7_swing_51 : DD cX7_swing 51 (.aload_n 0) 1 52 := ⟨by decide +kernel, rfl⟩
theorem dX7_swing_52 : DD cX7_swing 52 (.aload_n 0) 1 53 := ⟨by decide +kernel, rfl⟩
theorem dX7_swing_53 : DD cX7_swing 53 (.getfield 10) 3 56 := ⟨by decide +kernel, rfl⟩
theorem dX7_swing_56 : DD cX7_swing 56 (.getfield 82) 3 59 := ⟨by decide +kernel, rfl⟩
theorem dX7_swing_59 : DD cX7_swing 59 (.iload_n 1) 1 60 := ⟨by decide +kernel, rfl⟩
theorem dX7_swing_60 : DD cX7_swing 60 (.aaload) 1 61 := ⟨by decide +kernel, rfl⟩
theorem dX7_swing_61 : DD cX7_swing 61 (.aload_n 0) 1 62 := ⟨by decide +kernel, rfl⟩
theorem dX7_swing_62 : DD cX7_swing 62 (.getfield 10) 3 65 := ⟨by decide +kernel, rfl⟩
theorem dX7_swing_65 : DD cX7_swing 65 (.getfield 82) 3 68 := ⟨by decide +kernel, rfl⟩
theorem dX7_swing_68 : DD cX7_swing 68 (.iload_n 2) 1 69 := ⟨by decide +kernel, rfl⟩
theorem dX7_swing_69 : DD cX7_swing 69 (.aaload) 1 70 := ⟨by decide +kernel, rfl⟩
theorem dX7_swing_70 : DD cX7_swing 70 (.invokevirtual 200) 3 73 := ⟨by decide +kernel, rfl⟩
theorem dX7_swing_73 : DD cX7_swing 73 (.iconst 0) 1 74 := ⟨by decide +kernel, rfl⟩
theorem dX7_swing_74 : DD cX7_swing 74 (.istore 9) 2 76 := ⟨by decide +kernel, rfl⟩
theorem dX7_swing_76 : DD cX7_swing 76 (.iload 9) 2 78 := ⟨by decide +kernel, rfl⟩
theorem dX7_swing_78 : DD cX7_swing 78 (.iload_n 3) 1 79 := ⟨by decide +kernel, rfl⟩
theorem dX7_swing_79 : DD cX7_swing 79 (.if_icmp .ge 84) 3 82 := ⟨by decide +kernel, rfl⟩
theorem dX7_swing_82 : DD cX7_swing 82 (.iload 8) 2 84 := ⟨by decide +kernel, rfl⟩
theorem dX7_swing_84 : DD cX7_swing 84 (.ifCond .ne 79) 3 87 := ⟨by decide +kernel, rfl⟩
theorem dX7_swing_87 : DD cX7_swing 87 (.aload_n 0) 1 88 := ⟨by decide +kernel, rfl⟩
theorem dX7_swing_88 : DD cX7_swing 88 (.getfield 36) 3 91 := ⟨by decide +kernel, rfl⟩
theorem dX7_swing_91 : DD cX7_swing 91 (.aload_n 0) 1 92 := ⟨by decide +kernel, rfl⟩
theorem dX7_swing_92 : DD cX7_swing 92 (.getfield 10) 3 95 := ⟨by decide +kernel, rfl⟩
theorem dX7_swing_95 : DD cX7_swing 95 (.getfield 82) 3 98 := ⟨by decide +kernel, rfl⟩
theorem dX7_swing_98 : DD cX7_swing 98 (.iload_n 1) 1 99 := ⟨by decide +kernel, rfl⟩
theorem dX7_swing_99 : DD cX7_swing 99 (.aaload) 1 100 := ⟨by decide +kernel, rfl⟩
theorem dX7_swing_100 : DD cX7_swing 100 (.aload_n 0) 1 101 := ⟨by decide +kernel, rfl⟩
theorem dX7_swing_101 : DD cX7_swing 101 (.getfield 10) 3 104 := ⟨by decide +kernel, rfl⟩
theorem dX7_swing_104 : DD cX7_swing 104 (.getfield 82) 3 107 := ⟨by decide +kernel, rfl⟩
theorem dX7_swing_107 : DD cX7_swing 107 (.iload_n 2) 1 108 := ⟨by decide +kernel, rfl⟩
theorem dX7_swing_108 : DD cX7_swing 108 (.aaload) 1 109 := ⟨by decide +kernel, rfl⟩
theorem dX7_swing_109 : DD cX7_swing 109 (.invokevirtual 214) 3 112 := ⟨by decide +kernel, rfl⟩
theorem dX7_swing_112 : DD cX7_swing 112 (.istore 8) 2 114 := ⟨by decide +kernel, rfl⟩
theorem dX7_swing_114 : DD cX7_swing 114 (.aload_n 0) 1 115 := ⟨by decide +kernel, rfl⟩
theorem dX7_swing_115 : DD cX7_swing 115 (.getfield 36) 3 118 := ⟨by decide +kernel, rfl⟩
theorem dX7_swing_118 : DD cX7_swing 118 (.getfield 167) 3 121 := ⟨by decide +kernel, rfl⟩
theorem dX7_swing_121 : DD cX7_swing 121 (.getfield 177) 3 124 := ⟨by decide +kernel, rfl⟩
theorem dX7_swing_124 : DD cX7_swing 124 (.invokestatic 218) 3 127 := ⟨by decide +kernel, rfl⟩
theorem dX7_swing_127 : DD cX7_swing 127 (.istore 10) 2 129 := ⟨by decide +kernel, rfl⟩
theorem dX7_swing_129 : DD cX7_swing 129 (.iload 9) 2 131 := ⟨by decide +kernel, rfl⟩
theorem dX7_swing_131 : DD cX7_swing 131 (.iload 5) 2 133 := ⟨by decide +kernel, rfl⟩
theorem dX7_swing_133 : DD cX7_swing 133 (.if_icmp .ge 15) 3 136 := ⟨by decide +kernel, rfl⟩
theorem dX7_swing_136 : DD cX7_swing 136 (.iload 6) 2 138 := ⟨by decide +kernel, rfl⟩
theorem dX7_swing_138 : DD cX7_swing 138 (.iload 10) 2 140 := ⟨by decide +kernel, rfl⟩
theorem dX7_swing_140 : DD cX7_swing 140 (.invokestatic 223) 3 143 := ⟨by decide +kernel, rfl⟩
theorem dX7_swing_143 : DD cX7_swing 143 (.istore 6) 2 145 := ⟨by decide +kernel, rfl⟩
theorem dX7_swing_145 : DD cX7_swing 145 (.goto 12) 3 148 := ⟨by decide +kernel, rfl⟩
theorem dX7_swing_148 : DD cX7_swing 148 (.iload 7) 2 150 := ⟨by decide +kernel, rfl⟩
theorem dX7_swing_150 : DD cX7_swing 150 (.iload 10) 2 152 := ⟨by decide +kernel, rfl⟩
theorem dX7_swing_152 : DD cX7_swing 152 (.invokestatic 223) 3 155 := ⟨by decide +kernel, rfl⟩
theorem dX7_swing_155 : DD cX7_swing 155 (.istore 7) 2 157 := ⟨by decide +kernel, rfl⟩
theorem dX7_swing_157 : DD cX7_swing 157 (.iinc 9 1) 3 160 := ⟨by decide +kernel, rfl⟩
theorem dX7_swing_160 : DD cX7_swing 160 (.goto (-84)) 3 163 := ⟨by decide +kernel, rfl⟩
theorem dX7_swing_163 : DD cX7_swing 163 (.iload 4) 2 165 := ⟨by decide +kernel, rfl⟩
theorem dX7_swing_165 : DD cX7_swing 165 (.iconst 2) 1 166 := ⟨by decide +kernel, rfl⟩
theorem dX7_swing_166 : DD cX7_swing 166 (.if_icmp .ne 16) 3 169 := ⟨by decide +kernel, rfl⟩
theorem dX7_swing_169 : DD cX7_swing 169 (.iload 7) 2 171 := ⟨by decide +kernel, rfl⟩
theorem dX7_swing_171 : DD cX7_swing 171 (.iload 6) 2 173 := ⟨by decide +kernel, rfl⟩
theorem dX7_swing_173 : DD cX7_swing 173 (.if_icmp .le 7) 3 176 := ⟨by decide +kernel, rfl⟩
theorem dX7_swing_176 : DD cX7_swing 176 (.iconst 1) 1 177 := ⟨by decide +kernel, rfl⟩
theorem dX7_swing_177 : DD cX7_swing 177 (.goto 4) 3 180 := ⟨by decide +kernel, rfl⟩
theorem dX7_swing_180 : DD cX7_swing 180 (.iconst 0) 1 181 := ⟨by decide +kernel, rfl⟩
theorem dX7_swing_181 : DD cX7_swing 181 (.ireturn) 1 182 := ⟨by decide +kernel, rfl⟩
theorem dX7_swing_182 : DD cX7_swing 182 (.iload 4) 2 184 := ⟨by decide +kernel, rfl⟩
theorem dX7_swing_184 : DD cX7_swing 184 (.ifCond .ne 8) 3 187 := ⟨by decide +kernel, rfl⟩
theorem dX7_swing_187 : DD cX7_swing 187 (.iload 6) 2 189 := ⟨by decide +kernel, rfl⟩
theorem dX7_swing_189 : DD cX7_swing 189 (.goto 5) 3 192 := ⟨by decide +kernel, rfl⟩
theorem dX7_swing_192 : DD cX7_swing 192 (.iload 7) 2 194 := ⟨by decide +kernel, rfl⟩
theorem dX7_swing_194 : DD cX7_swing 194 (.ireturn) 1 195 := ⟨by decide +kernel, rfl⟩
theorem dX7_beats_0 : DD cX7_beats 0 (.aload_n 0) 1 1 := ⟨by decide +kernel, rfl⟩
theorem dX7_beats_1 : DD cX7_beats 1 (.iload_n 1) 1 2 := ⟨by decide +kernel, rfl⟩
theorem dX7_beats_2 : DD cX7_beats 2 (.invokevirtual 90) 3 5 := ⟨by decide +kernel, rfl⟩
theorem dX7_beats_5 : DD cX7_beats 5 (.ifCond .eq 13) 3 8 := ⟨by decide +kernel, rfl⟩
theorem dX7_beats_8 : DD cX7_beats 8 (.iload_n 2) 1 9 := ⟨by decide +kernel, rfl⟩
theorem dX7_beats_9 : DD cX7_beats 9 (.iconst 1) 1 10 := ⟨by decide +kernel, rfl⟩
theorem dX7_beats_10 : DD cX7_beats 10 (.bipush 100) 2 12 := ⟨by decide +kernel, rfl⟩
theorem dX7_beats_12 : DD cX7_beats 12 (.invokestatic 68) 3 15 := ⟨by decide +kernel, rfl⟩
theorem dX7_beats_15 : DD cX7_beats 15 (.ifCond .ne 10) 3 18 := ⟨by decide +kernel, rfl⟩
theorem dX7_beats_18 : DD cX7_beats 18 (.aload_n 0) 1 19 := ⟨by decide +kernel, rfl⟩
theorem dX7_beats_19 : DD cX7_beats 19 (.ldc 72) 2 21 := ⟨by decide +kernel, rfl⟩
theorem dX7_beats_21 : DD cX7_beats 21 (.invokevirtual 73) 3 24 := ⟨by decide +kernel, rfl⟩
theorem dX7_beats_24 : DD cX7_beats 24 (.ireturn) 1 25 := ⟨by decide +kernel, rfl⟩
theorem dX7_beats_25 : DD cX7_beats 25 (.aload_n 0) 1 26 := ⟨by decide +kernel, rfl⟩
theorem dX7_beats_26 : DD cX7_beats 26 (.iload_n 1) 1 27 := ⟨by decide +kernel, rfl⟩
theorem dX7_beats_27 : DD cX7_beats 27 (.iload_n 2) 1 28 := ⟨by decide +kernel, rfl⟩
theorem dX7_beats_28 : DD cX7_beats 28 (.invokevirtual 227) 3 31 := ⟨by decide +kernel, rfl⟩
theorem dX7_beats_31 : DD cX7_beats 31 (.ireturn) 1 32 := ⟨by decide +kernel, rfl⟩
theorem dX7_five_0 : DD cX7_five 0 (.aload_n 0) 1 1 := ⟨by decide +kernel, rfl⟩
theorem dX7_five_1 : DD cX7_five 1 (.iload_n 1) 1 2 := ⟨by decide +kernel, rfl⟩
theorem dX7_five_2 : DD cX7_five 2 (.iload_n 2) 1 3 := ⟨by decide +kernel, rfl⟩
theorem dX7_five_3 : DD cX7_five 3 (.invokevirtual 138) 3 6 := ⟨by decide +kernel, rfl⟩
theorem dX7_five_6 : DD cX7_five 6 (.ifCond .eq 13) 3 9 := ⟨by decide +kernel, rfl⟩
theorem dX7_five_9 : DD cX7_five 9 (.iload_n 3) 1 10 := ⟨by decide +kernel, rfl⟩
theorem dX7_five_10 : DD cX7_five 10 (.iconst 1) 1 11 := ⟨by decide +kernel, rfl⟩
theorem dX7_five_11 : DD cX7_five 11 (.bipush 100) 2 13 := ⟨by decide +kernel, rfl⟩
theorem dX7_five_13 : DD cX7_five 13 (.invokestatic 68) 3 16 := ⟨by decide +kernel, rfl⟩
theorem dX7_five_16 : DD cX7_five 16 (.ifCond .ne 10) 3 19 := ⟨by decide +kernel, rfl⟩
theorem dX7_five_19 : DD cX7_five 19 (.aload_n 0) 1 20 := ⟨by decide +kernel, rfl⟩
theorem dX7_five_20 : DD cX7_five 20 (.ldc 72) 2 22 := ⟨by decide +kernel, rfl⟩
theorem dX7_five_22 : DD cX7_five 22 (.invokevirtual 73) 3 25 := ⟨by decide +kernel, rfl⟩
theorem dX7_five_25 : DD cX7_five 25 (.ireturn) 1 26 := ⟨by decide +kernel, rfl⟩
theorem dX7_five_26 : DD cX7_five 26 (.iconst 0) 1 27 := ⟨by decide +kernel, rfl⟩
theorem dX7_five_27 : DD cX7_five 27 (.istore 4) 2 29 := ⟨by decide +kernel, rfl⟩
theorem dX7_five_29 : DD cX7_five 29 (.iconst 0) 1 30 := ⟨by decide +kernel, rfl⟩
theorem dX7_five_30 : DD cX7_five 30 (.istore 5) 2 32 := ⟨by decide +kernel, rfl⟩
theorem dX7_five_32 : DD cX7_five 32 (.aload_n 0) 1 33 := ⟨by decide +kernel, rfl⟩
theorem dX7_five_33 : DD cX7_five 33 (.getfield 36) 3 36 := ⟨by decide +kernel, rfl⟩
theorem dX7_five_36 : DD cX7_five 36 (.aload_n 0) 1 37 := ⟨by decide +kernel, rfl⟩
theorem dX7_five_37 : DD cX7_five 37 (.getfield 10) 3 40 := ⟨by decide +kernel, rfl⟩
theorem dX7_five_40 : DD cX7_five 40 (.getfield 150) 3 43 := ⟨by decide +kernel, rfl⟩
theorem dX7_five_43 : DD cX7_five 43 (.getfield 197) 3 46 := ⟨by decide +kernel, rfl⟩
theorem dX7_five_46 : DD cX7_five 46 (.putfield 197) 3 49 := ⟨by decide +kernel, rfl⟩
theorem dX7_five_49 : DD cX7_five 49 (.iconst 0) 1 50 := ⟨by decide +kernel, rfl⟩
theorem dX7_five_50 : DD cX7_five 50 (.istore 6) 2 52 := ⟨by decide +kernel, rfl⟩
theorem dX7_five_52 : DD cX7_five 52 (.iload 6) 2 54 := ⟨by decide +kernel, rfl⟩
theorem dX7_five_54 : DD cX7_five 54 (.iconst 5) 1 55 := ⟨by decide +kernel, rfl⟩
theorem dX7_five_55 : DD cX7_five 55 (.if_icmp .ge 104) 3 58 := ⟨by decide +kernel, rfl⟩
theorem dX7_five_58 : DD cX7_five 58 (.iload 4) 2 60 := ⟨by decide +kernel, rfl⟩
theorem dX7_five_60 : DD cX7_five 60 (.iconst 3) 1 61 := ⟨by decide +kernel, rfl⟩
theorem dX7_five_61 : DD cX7_five 61 (.if_icmp .ge 98) 3 64 := ⟨by decide +kernel, rfl⟩
theorem dX7_five_64 : DD cX7_five 64 (.iload 5) 2 66 := ⟨by decide +kernel, rfl⟩
theorem dX7_five_66 : DD cX7_five 66 (.iconst 3) 1 67 := ⟨by decide +kernel, rfl⟩
theorem dX7_five_67 : DD cX7_five 67 (.if_icmp .ge 92) 3 70 := ⟨by decide +kernel, rfl⟩
theorem dX7_five_70 : DD cX7_five 70 (.aload_n 0) 1 71 := ⟨by decide +kernel, rfl⟩
theorem dX7_five_71 : DD cX7_five 71 (.getfield 36) 3 74 := ⟨by decide +kernel, rfl⟩
theorem dX7_five_74 : DD cX7_five 74 (.aload_n 0) 1 75 := ⟨by decide +kernel, rfl⟩
theorem dX7_five_75 : DD cX7_five 75 (.getfield 10) 3 78 := ⟨by decide +kernel, rfl⟩
theorem dX7_five_78 : DD cX7_five 78 (.getfield 82) 3 81 := ⟨by decide +kernel, rfl⟩
theorem dX7_five_81 : DD cX7_five 81 (.iload_n 1) 1 82 := ⟨by decide +kernel, rfl⟩
theorem dX7_five_82 : DD cX7_five 82 (.aaload) 1 83 := ⟨by decide +kernel, rfl⟩
theorem dX7_five_83 : DD cX7_five 83 (.aload_n 0) 1 84 := ⟨by decide +kernel, rfl⟩
theorem dX7_five_84 : DD cX7_five 84 (.getfield 10) 3 87 := ⟨by decide +kernel, rfl⟩
theorem dX7_five_87 : DD cX7_five 87 (.getfield 82) 3 90 := ⟨by decide +kernel, rfl⟩
theorem dX7_five_90 : DD cX7_five 90 (.iload_n 2) 1 91 := ⟨by decide +kernel, rfl⟩
theorem dX7_five_91 : DD cX7_five 91 (.aaload) 1 92 := ⟨by decide +kernel, rfl⟩
theorem dX7_five_92 : DD cX7_five 92 (.invokevirtual 153) 3 95 := ⟨by decide +kernel, rfl⟩
theorem dX7_five_95 : DD cX7_five 95 (.aload_n 0) 1 96 := ⟨by decide +kernel, rfl⟩
theorem dX7_five_96 : DD cX7_five 96 (.getfield 36) 3 99 := ⟨by decide +kernel, rfl⟩
theorem dX7_five_99 : DD cX7_five 99 (.aload_n 0) 1 100 := ⟨by decide +kernel, rfl⟩
theorem dX7_five_100 : DD cX7_five 100 (.getfield 10) 3 103 := ⟨by decide +kernel, rfl⟩
theorem dX7_five_103 : DD cX7_five 103 (.getfield 82) 3 106 := ⟨by decide +kernel, rfl⟩
theorem dX7_five_106 : DD cX7_five 106 (.iload_n 1) 1 107 := ⟨by decide +kernel, rfl⟩
theorem dX7_five_107 : DD cX7_five 107 (.aaload) 1 108 := ⟨by decide +kernel, rfl⟩
theorem dX7_five_108 : DD cX7_five 108 (.aload_n 0) 1 109 := ⟨by decide +kernel, rfl⟩
theorem dX7_five_109 : DD cX7_five 109 (.getfield 10) 3 112 := ⟨by decide +kernel, rfl⟩
theorem dX7_five_112 : DD cX7_five 112 (.getfield 82) 3 115 := ⟨by decide +kernel, rfl⟩
theorem dX7_five_115 : DD cX7_five 115 (.iload_n 2) 1 116 := ⟨by decide +kernel, rfl⟩
theorem dX7_five_116 : DD cX7_five 116 (.aaload) 1 117 := ⟨by decide +kernel, rfl⟩
theorem dX7_five_117 : DD cX7_five 117 (.iload_n 3) 1 118 := ⟨by decide +kernel, rfl⟩
theorem dX7_five_118 : DD cX7_five 118 (.invokevirtual 159) 3 121 := ⟨by decide +kernel, rfl⟩
theorem dX7_five_121 : DD cX7_five 121 (.istore 7) 2 123 := ⟨by decide +kernel, rfl⟩
theorem dX7_five_123 : DD cX7_five 123 (.iload 7) 2 125 := ⟨by decide +kernel, rfl⟩
theorem dX7_five_125 : DD cX7_five 125 (.iconst 2) 1 126 := ⟨by decide +kernel, rfl⟩
theorem dX7_five_126 : DD cX7_five 126 (.if_icmp .eq 9) 3 129 := ⟨by decide +kernel, rfl⟩
theorem dX7_five_129 : DD cX7_five 129 (.iload 7) 2 131 := ⟨by decide +kernel, rfl⟩
theorem dX7_five_131 : DD cX7_five 131 (.iconst 3) 1 132 := ⟨by decide +kernel, rfl⟩
theorem dX7_five_132 : DD cX7_five 132 (.if_icmp .ne 6) 3 135 := ⟨by decide +kernel, rfl⟩
theorem dX7_five_135 : DD cX7_five 135 (.iinc 4 1) 3 138 := ⟨by decide +kernel, rfl⟩
theorem dX7_five_138 : DD cX7_five 138 (.iload 7) 2 140 := ⟨by decide +kernel, rfl⟩
theorem dX7_five_140 : DD cX7_five 140 (.iconst 1) 1 141 := ⟨by decide +kernel, rfl⟩
theorem dX7_five_141 : DD cX7_five 141 (.if_icmp .eq 9) 3 144 := ⟨by decide +kernel, rfl⟩
theorem dX7_five_144 : DD cX7_five 144 (.iload 7) 2 146 := ⟨by decide +kernel, rfl⟩
theorem dX7_five_146 : DD cX7_five 146 (.iconst 3) 1 147 := ⟨by decide +kernel, rfl⟩
theorem dX7_five_147 : DD cX7_five 147 (.if_icmp .ne 6) 3 150 := ⟨by decide +kernel, rfl⟩
theorem dX7_five_150 : DD cX7_five 150 (.iinc 5 1) 3 153 := ⟨by decide +kernel, rfl⟩
theorem dX7_five_153 : DD cX7_five 153 (.iinc 6 1) 3 156 := ⟨by decide +kernel, rfl⟩
theorem dX7_five_156 : DD cX7_five 156 (.goto (-104)) 3 159 := ⟨by decide +kernel, rfl⟩
theorem dX7_five_159 : DD cX7_five 159 (.iload 4) 2 161 := ⟨by decide +kernel, rfl⟩
theorem dX7_five_161 : DD cX7_five 161 (.iconst 3) 1 162 := ⟨by decide +kernel, rfl⟩
theorem dX7_five_162 : DD cX7_five 162 (.if_icmp .lt 15) 3 165 := ⟨by decide +kernel, rfl⟩
theorem dX7_five_165 : DD cX7_five 165 (.iload 5) 2 167 := ⟨by decide +kernel, rfl⟩
theorem dX7_five_167 : DD cX7_five 167 (.iconst 3) 1 168 := ⟨by decide +kernel, rfl⟩
theorem dX7_five_168 : DD cX7_five 168 (.if_icmp .lt 7) 3 171 := ⟨by decide +kernel, rfl⟩
theorem dX7_five_171 : DD cX7_five 171 (.iconst 0) 1 172 := ⟨by decide +kernel, rfl⟩
theorem dX7_five_172 : DD cX7_five 172 (.goto 4) 3 175 := ⟨by decide +kernel, rfl⟩
theorem dX7_five_175 : DD cX7_five 175 (.iconst 1) 1 176 := ⟨by decide +kernel, rfl⟩
theorem dX7_five_176 : DD cX7_five 176 (.ireturn) 1 177 := ⟨by decide +kernel, rfl⟩
theorem dX7_five_177 : DD cX7_five 177 (.iload 5) 2 179 := ⟨by decide +kernel, rfl⟩
theorem dX7_five_179 : DD cX7_five 179 (.iconst 3) 1 180 := ⟨by decide +kernel, rfl⟩
theorem dX7_five_180 : DD cX7_five 180 (.if_icmp .lt 7) 3 183 := ⟨by decide +kernel, rfl⟩
theorem dX7_five_183 : DD cX7_five 183 (.iconst 2) 1 184 := ⟨by decide +kernel, rfl⟩
theorem dX7_five_184 : DD cX7_five 184 (.goto 4) 3 187 := ⟨by decide +kernel, rfl⟩
theorem dX7_five_187 : DD cX7_five 187 (.iconst 0) 1 188 := ⟨by decide +kernel, rfl⟩
theorem dX7_five_188 : DD cX7_five 188 (.ireturn) 1 189 := ⟨by decide +kernel, rfl⟩
theorem dX7_champion_0 : DD cX7_champion 0 (.iload_n 1) 1 1 := ⟨by decide +kernel, rfl⟩
theorem dX7_champion_1 : DD cX7_champion 1 (.iconst 1) 1 2 := ⟨by decide +kernel, rfl⟩
theorem dX7_champion_2 : DD cX7_champion 2 (.bipush 50) 2 4 := ⟨by decide +kernel, rfl⟩
theorem dX7_champion_4 : DD cX7_champion 4 (.invokestatic 68) 3 7 := ⟨by decide +kernel, rfl⟩
theorem dX7_champion_7 : DD cX7_champion 7 (.ifCond .ne 10) 3 10 := ⟨by decide +kernel, rfl⟩
theorem dX7_champion_10 : DD cX7_champion 10 (.aload_n 0) 1 11 := ⟨by decide +kernel, rfl⟩
theorem dX7_champion_11 : DD cX7_champion 11 (.ldc 72) 2 13 := ⟨by decide +kernel, rfl⟩
theorem dX7_champion_13 : DD cX7_champion 13 (.invokevirtual 73) 3 16 := ⟨by decide +kernel, rfl⟩
theorem dX7_champion_16 : DD cX7_champion 16 (.ireturn) 1 17 := ⟨by decide +kernel, rfl⟩
theorem dX7_champion_17 : DD cX7_champion 17 (.aload_n 0) 1 18 := ⟨by decide +kernel, rfl⟩
theorem dX7_champion_18 : DD cX7_champion 18 (.getfield 10) 3 21 := ⟨by decide +kernel, rfl⟩
theorem dX7_champion_21 : DD cX7_champion 21 (.getfield 77) 3 24 := ⟨by decide +kernel, rfl⟩
theorem dX7_champion_24 : DD cX7_champion 24 (.ifCond .ne 10) 3 27 := ⟨by decide +kernel, rfl⟩
theorem dX7_champion_27 : DD cX7_champion 27 (.aload_n 0) 1 28 := ⟨by decide +kernel, rfl⟩
theorem dX7_champion_28 : DD cX7_champion 28 (.ldc 207) 2 30 := ⟨by decide +kernel, rfl⟩
theorem dX7_champion_30 : DD cX7_champion 30 (.invokevirtual 73) 3 33 := ⟨by decide +kernel, rfl⟩
theorem dX7_champion_33 : DD cX7_champion 33 (.ireturn) 1 34 := ⟨by decide +kernel, rfl⟩
theorem dX7_champion_34 : DD cX7_champion 34 (.iconst 0) 1 35 := ⟨by decide +kernel, rfl⟩
theorem dX7_champion_35 : DD cX7_champion 35 (.istore_n 2) 1 36 := ⟨by decide +kernel, rfl⟩
theorem dX7_champion_36 : DD cX7_champion 36 (.iconst (-1)) 1 37 := ⟨by decide +kernel, rfl⟩
theorem dX7_champion_37 : DD cX7_champion 37 (.istore_n 3) 1 38 := ⟨by decide +kernel, rfl⟩
theorem dX7_champion_38 : DD cX7_champion 38 (.iconst 0) 1 39 := ⟨by decide +kernel, rfl⟩
theorem dX7_champion_39 : DD cX7_champion 39 (.istore 4) 2 41 := ⟨by decide +kernel, rfl⟩
theorem dX7_champion_41 : DD cX7_champion 41 (.iload 4) 2 43 := ⟨by decide +kernel, rfl⟩
theorem dX7_champion_43 : DD cX7_champion 43 (.aload_n 0) 1 44 := ⟨by decide +kernel, rfl⟩
theorem dX7_champion_44 : DD cX7_champion 44 (.getfield 10) 3 47 := ⟨by decide +kernel, rfl⟩
theorem dX7_champion_47 : DD cX7_champion 47 (.getfield 77) 3 50 := ⟨by decide +kernel, rfl⟩
theorem dX7_champion_50 : DD cX7_champion 50 (.if_icmp .ge 33) 3 53 := ⟨by decide +kernel, rfl⟩
theorem dX7_champion_53 : DD cX7_champion 53 (.aload_n 0) 1 54 := ⟨by decide +kernel, rfl⟩
theorem dX7_champion_54 : DD cX7_champion 54 (.iload 4) 2 56 := ⟨by decide +kernel, rfl⟩
theorem dX7_champion_56 : DD cX7_champion 56 (.iload_n 1) 1 57 := ⟨by decide +kernel, rfl⟩
theorem dX7_champion_57 : DD cX7_champion 57 (.invokevirtual 227) 3 60 := ⟨by decide +kernel, rfl⟩
theorem dX7_champion_60 : DD cX7_champion 60 (.invokestatic 230) 3 63 := ⟨by decide +kernel, rfl⟩
theorem dX7_champion_63 : DD cX7_champion 63 (.istore 5) 2 65 := ⟨by decide +kernel, rfl⟩
theorem dX7_champion_65 : DD cX7_champion 65 (.iload 5) 2 67 := ⟨by decide +kernel, rfl⟩
theorem dX7_champion_67 : DD cX7_champion 67 (.iload_n 3) 1 68 := ⟨by decide +kernel, rfl⟩
theorem dX7_champion_68 : DD cX7_champion 68 (.if_icmp .le 9) 3 71 := ⟨by decide +kernel, rfl⟩
theorem dX7_champion_71 : DD cX7_champion 71 (.iload 4) 2 73 := ⟨by decide +kernel, rfl⟩
theorem dX7_champion_73 : DD cX7_champion 73 (.istore_n 2) 1 74 := ⟨by decide +kernel, rfl⟩
theorem dX7_champion_74 : DD cX7_champion 74 (.iload 5) 2 76 := ⟨by decide +kernel, rfl⟩
theorem dX7_champion_76 : DD cX7_champion 76 (.istore_n 3) 1 77 := ⟨by decide +kernel, rfl⟩
theorem dX7_champion_77 : DD cX7_champion 77 (.iinc 4 1) 3 80 := ⟨by decide +kernel, rfl⟩
theorem dX7_champion_80 : DD cX7_champion 80 (.goto (-39)) 3 83 := ⟨by decide +kernel, rfl⟩
theorem dX7_champion_83 : DD cX7_champion 83 (.iload_n 2) 1 84 := ⟨by decide +kernel, rfl⟩
theorem dX7_champion_84 : DD cX7_champion 84 (.ireturn) 1 85 := ⟨by decide +kernel, rfl⟩
theorem dX7_feed_0 : DD cX7_feed 0 (.iload_n 2) 1 1 := ⟨by decide +kernel, rfl⟩
theorem dX7_feed_1 : DD cX7_feed 1 (.iconst 1) 1 2 := ⟨by decide +kernel, rfl⟩
theorem dX7_feed_2 : DD cX7_feed 2 (.iconst 4) 1 3 := ⟨by decide +kernel, rfl⟩
theorem dX7_feed_3 : DD cX7_feed 3 (.invokestatic 68) 3 6 := ⟨by decide +kernel, rfl⟩
theorem dX7_feed_6 : DD cX7_feed 6 (.ifCond .ne 10) 3 9 := ⟨by decide +kernel, rfl⟩
theorem dX7_feed_9 : DD cX7_feed 9 (.aload_n 0) 1 10 := ⟨by decide +kernel, rfl⟩
theorem dX7_feed_10 : DD cX7_feed 10 (.ldc 72) 2 12 := ⟨by decide +kernel, rfl⟩
theorem dX7_feed_12 : DD cX7_feed 12 (.invokevirtual 73) 3 15 := ⟨by decide +kernel, rfl⟩
theorem dX7_feed_15 : DD cX7_feed 15 (.ireturn) 1 16 := ⟨by decide +kernel, rfl⟩
theorem dX7_feed_16 : DD cX7_feed 16 (.aload_n 0) 1 17 := ⟨by decide +kernel, rfl⟩
theorem dX7_feed_17 : DD cX7_feed 17 (.getfield 50) 3 20 := ⟨by decide +kernel, rfl⟩
theorem dX7_feed_20 : DD cX7_feed 20 (.getfield 235) 3 23 := ⟨by decide +kernel, rfl⟩
theorem dX7_feed_23 : DD cX7_feed 23 (.iload_n 2) 1 24 := ⟨by decide +kernel, rfl⟩
theorem dX7_feed_24 : DD cX7_feed 24 (.iadd) 1 25 := ⟨by decide +kernel, rfl⟩
theorem dX7_feed_25 : DD cX7_feed 25 (.bipush 100) 2 27 := ⟨by decide +kernel, rfl⟩
theorem dX7_feed_27 : DD cX7_feed 27 (.if_icmp .le 10) 3 30 := ⟨by decide +kernel, rfl⟩
theorem dX7_feed_30 : DD cX7_feed 30 (.aload_n 0) 1 31 := ⟨by decide +kernel, rfl⟩
theorem dX7_feed_31 : DD cX7_feed 31 (.ldc 81) 2 33 := ⟨by decide +kernel, rfl⟩
theorem dX7_feed_33 : DD cX7_feed 33 (.invokevirtual 73) 3 36 := ⟨by decide +kernel, rfl⟩
theorem dX7_feed_36 : DD cX7_feed 36 (.ireturn) 1 37 := ⟨by decide +kernel, rfl⟩
theorem dX7_feed_37 : DD cX7_feed 37 (.iload_n 2) 1 38 := ⟨by decide +kernel, rfl⟩
theorem dX7_feed_38 : DD cX7_feed 38 (.iconst 1) 1 39 := ⟨by decide +kernel, rfl⟩
theorem dX7_feed_39 : DD cX7_feed 39 (.isub) 1 40 := ⟨by decide +kernel, rfl⟩
theorem dX7_feed_40 : DD cX7_feed 40 (.istore_n 3) 1 41 := ⟨by decide +kernel, rfl⟩
theorem dX7_feed_41 : DD cX7_feed 41 (.iload_n 3) 1 42 := ⟨by decide +kernel, rfl⟩
theorem dX7_feed_42 : DD cX7_feed 42 (.ifCond .lt 26) 3 45 := ⟨by decide +kernel, rfl⟩
theorem dX7_feed_45 : DD cX7_feed 45 (.aload_n 0) 1 46 := ⟨by decide +kernel, rfl⟩
theorem dX7_feed_46 : DD cX7_feed 46 (.getfield 50) 3 49 := ⟨by decide +kernel, rfl⟩
theorem dX7_feed_49 : DD cX7_feed 49 (.iload_n 1) 1 50 := ⟨by decide +kernel, rfl⟩
theorem dX7_feed_50 : DD cX7_feed 50 (.bipush 8) 2 52 := ⟨by decide +kernel, rfl⟩
theorem dX7_feed_52 : DD cX7_feed 52 (.iload_n 3) 1 53 := ⟨by decide +kernel, rfl⟩
theorem dX7_feed_53 : DD cX7_feed 53 (.imul) 1 54 := ⟨by decide +kernel, rfl⟩
theorem dX7_feed_54 : DD cX7_feed 54 (.iushr) 1 55 := ⟨by decide +kernel, rfl⟩
theorem dX7_feed_55 : DD cX7_feed 55 (.sipush 255) 3 58 := ⟨by decide +kernel, rfl⟩
theorem dX7_feed_58 : DD cX7_feed 58 (.iand) 1 59 := ⟨by decide +kernel, rfl⟩
theorem dX7_feed_59 : DD cX7_feed 59 (.invokevirtual 238) 3 62 := ⟨by decide +kernel, rfl⟩
theorem dX7_feed_62 : DD cX7_feed 62 (.iinc 3 (-1)) 3 65 := ⟨by decide +kernel, rfl⟩
theorem dX7_feed_65 : DD cX7_feed 65 (.goto (-24)) 3 68 := ⟨by decide +kernel, rfl⟩
theorem dX7_feed_68 : DD cX7_feed 68 (.aload_n 0) 1 69 := ⟨by decide +kernel, rfl⟩
theorem dX7_feed_69 : DD cX7_feed 69 (.getfield 50) 3 72 := ⟨by decide +kernel, rfl⟩
theorem dX7_feed_72 : DD cX7_feed 72 (.getfield 235) 3 75 := ⟨by decide +kernel, rfl⟩
theorem dX7_feed_75 : DD cX7_feed 75 (.ireturn) 1 76 := ⟨by decide +kernel, rfl⟩
theorem dX7_wipe_0 : DD cX7_wipe 0 (.aload_n 0) 1 1 := ⟨by decide +kernel, rfl⟩
theorem dX7_wipe_1 : DD cX7_wipe 1 (.getfield 50) 3 4 := ⟨by decide +kernel, rfl⟩
theorem dX7_wipe_4 : DD cX7_wipe 4 (.getfield 235) 3 7 := ⟨by decide +kernel, rfl⟩
theorem dX7_wipe_7 : DD cX7_wipe 7 (.istore_n 1) 1 8 := ⟨by decide +kernel, rfl⟩
theorem dX7_wipe_8 : DD cX7_wipe 8 (.aload_n 0) 1 9 := ⟨by decide +kernel, rfl⟩
theorem dX7_wipe_9 : DD cX7_wipe 9 (.getfield 50) 3 12 := ⟨by decide +kernel, rfl⟩
theorem dX7_wipe_12 : DD cX7_wipe 12 (.iconst 0) 1 13 := ⟨by decide +kernel, rfl⟩
theorem dX7_wipe_13 : DD cX7_wipe 13 (.putfield 235) 3 16 := ⟨by decide +kernel, rfl⟩
theorem dX7_wipe_16 : DD cX7_wipe 16 (.iload_n 1) 1 17 := ⟨by decide +kernel, rfl⟩
theorem dX7_wipe_17 : DD cX7_wipe 17 (.ireturn) 1 18 := ⟨by decide +kernel, rfl⟩
theorem dX7_way_0 : DD cX7_way 0 (.aload_n 0) 1 1 := ⟨by decide +kernel, rfl⟩
theorem dX7_way_1 : DD cX7_way 1 (.getfield 10) 3 4 := ⟨by decide +kernel, rfl⟩
theorem dX7_way_4 : DD cX7_way 4 (.getfield 242) 3 7 := ⟨by decide +kernel, rfl⟩
theorem dX7_way_7 : DD cX7_way 7 (.bipush 6) 2 9 := ⟨by decide +kernel, rfl⟩
theorem dX7_way_9 : DD cX7_way 9 (.if_icmp .lt 10) 3 12 := ⟨by decide +kernel, rfl⟩
theorem dX7_way_12 : DD cX7_way 12 (.aload_n 0) 1 13 := ⟨by decide +kernel, rfl⟩
theorem dX7_way_13 : DD cX7_way 13 (.ldc 81) 2 15 := ⟨by decide +kernel, rfl⟩
theorem dX7_way_15 : DD cX7_way 15 (.invokevirtual 73) 3 18 := ⟨by decide +kernel, rfl⟩
theorem dX7_way_18 : DD cX7_way 18 (.ireturn) 1 19 := ⟨by decide +kernel, rfl⟩
theorem dX7_way_19 : DD cX7_way 19 (.aload_n 0) 1 20 := ⟨by decide +kernel, rfl⟩
theorem dX7_way_20 : DD cX7_way 20 (.getfield 50) 3 23 := ⟨by decide +kernel, rfl⟩
theorem dX7_way_23 : DD cX7_way 23 (.invokevirtual 245) 3 26 := ⟨by decide +kernel, rfl⟩
theorem dX7_way_26 : DD cX7_way 26 (.astore_n 1) 1 27 := ⟨by decide +kernel, rfl⟩
theorem dX7_way_27 : DD cX7_way 27 (.aload_n 0) 1 28 := ⟨by decide +kernel, rfl⟩
theorem dX7_way_28 : DD cX7_way 28 (.getfield 50) 3 31 := ⟨by decide +kernel, rfl⟩
theorem dX7_way_31 : DD cX7_way 31 (.iconst 0) 1 32 := ⟨by decide +kernel, rfl⟩
theorem dX7_way_32 : DD cX7_way 32 (.putfield 235) 3 35 := ⟨by decide +kernel, rfl⟩
theorem dX7_way_35 : DD cX7_way 35 (.aload_n 1) 1 36 := ⟨by decide +kernel, rfl⟩
theorem dX7_way_36 : DD cX7_way 36 (.ifnonnull 13) 3 39 := ⟨by decide +kernel, rfl⟩
theorem dX7_way_39 : DD cX7_way 39 (.iconst (-1)) 1 40 := ⟨by decide +kernel, rfl⟩
theorem dX7_way_40 : DD cX7_way 40 (.aload_n 0) 1 41 := ⟨by decide +kernel, rfl⟩
theorem dX7_way_41 : DD cX7_way 41 (.getfield 50) 3 44 := ⟨by decide +kernel, rfl⟩
theorem dX7_way_44 : DD cX7_way 44 (.getfield 249) 3 47 := ⟨by decide +kernel, rfl⟩
theorem dX7_way_47 : DD cX7_way 47 (.isub) 1 48 := ⟨by decide +kernel, rfl⟩
theorem dX7_way_48 : DD cX7_way 48 (.ireturn) 1 49 := ⟨by decide +kernel, rfl⟩
theorem dX7_way_49 : DD cX7_way 49 (.aload_n 0) 1 50 := ⟨by decide +kernel, rfl⟩
theorem dX7_way_50 : DD cX7_way 50 (.getfield 10) 3 53 := ⟨by decide +kernel, rfl⟩
theorem dX7_way_53 : DD cX7_way 53 (.getfield 242) 3 56 := ⟨by decide +kernel, rfl⟩
theorem dX7_way_56 : DD cX7_way 56 (.istore_n 2) 1 57 := ⟨by decide +kernel, rfl⟩
theorem dX7_way_57 : DD cX7_way 57 (.aload_n 0) 1 58 := ⟨by decide +kernel, rfl⟩
theorem dX7_way_58 : DD cX7_way 58 (.getfield 10) 3 61 := ⟨by decide +kernel, rfl⟩
theorem dX7_way_61 : DD cX7_way 61 (.getfield 29) 3 64 := ⟨by decide +kernel, rfl⟩
theorem dX7_way_64 : DD cX7_way 64 (.iload_n 2) 1 65 := ⟨by decide +kernel, rfl⟩
theorem dX7_way_65 : DD cX7_way 65 (.aload_n 1) 1 66 := ⟨by decide +kernel, rfl⟩
theorem dX7_way_66 : DD cX7_way 66 (.aastore) 1 67 := ⟨by decide +kernel, rfl⟩
theorem dX7_way_67 : DD cX7_way 67 (.aload_n 0) 1 68 := ⟨by decide +kernel, rfl⟩
theorem dX7_way_68 : DD cX7_way 68 (.getfield 10) 3 71 := ⟨by decide +kernel, rfl⟩
theorem dX7_way_71 : DD cX7_way 71 (.dup) 1 72 := ⟨by decide +kernel, rfl⟩
theorem dX7_way_72 : DD cX7_way 72 (.getfield 242) 3 75 := ⟨by decide +kernel, rfl⟩
theorem dX7_way_75 : DD cX7_way 75 (.iconst 1) 1 76 := ⟨by decide +kernel, rfl⟩
theorem dX7_way_76 : DD cX7_way 76 (.iadd) 1 77 := ⟨by decide +kernel, rfl⟩
theorem dX7_way_77 : DD cX7_way 77 (.putfield 242) 3 80 := ⟨by decide +kernel, rfl⟩
theorem dX7_way_80 : DD cX7_way 80 (.iload_n 2) 1 81 := ⟨by decide +kernel, rfl⟩
theorem dX7_way_81 : DD cX7_way 81 (.ireturn) 1 82 := ⟨by decide +kernel, rfl⟩
theorem dX7_rules_0 : DD cX7_rules 0 (.aload_n 0) 1 1 := ⟨by decide +kernel, rfl⟩
theorem dX7_rules_1 : DD cX7_rules 1 (.getfield 10) 3 4 := ⟨by decide +kernel, rfl⟩
theorem dX7_rules_4 : DD cX7_rules 4 (.iload_n 1) 1 5 := ⟨by decide +kernel, rfl⟩
theorem dX7_rules_5 : DD cX7_rules 5 (.invokevirtual 130) 3 8 := ⟨by decide +kernel, rfl⟩
theorem dX7_rules_8 : DD cX7_rules 8 (.astore_n 2) 1 9 := ⟨by decide +kernel, rfl⟩
theorem dX7_rules_9 : DD cX7_rules 9 (.aload_n 2) 1 10 := ⟨by decide +kernel, rfl⟩
theorem dX7_rules_10 : DD cX7_rules 10 (.ifnonnull 10) 3 13 := ⟨by decide +kernel, rfl⟩
theorem dX7_rules_13 : DD cX7_rules 13 (.aload_n 0) 1 14 := ⟨by decide +kernel, rfl⟩
theorem dX7_rules_14 : DD cX7_rules 14 (.ldc 72) 2 16 := ⟨by decide +kernel, rfl⟩
theorem dX7_rules_16 : DD cX7_rules 16 (.invokevirtual 73) 3 19 := ⟨by decide +kernel, rfl⟩
theorem dX7_rules_19 : DD cX7_rules 19 (.ireturn) 1 20 := ⟨by decide +kernel, rfl⟩
theorem dX7_rules_20 : DD cX7_rules 20 (.aload_n 2) 1 21 := ⟨by decide +kernel, rfl⟩
theorem dX7_rules_21 : DD cX7_rules 21 (.getfield 252) 3 24 := ⟨by decide +kernel, rfl⟩
theorem dX7_rules_24 : DD cX7_rules 24 (.ireturn) 1 25 := ⟨by decide +kernel, rfl⟩
theorem dX7_holds_0 : DD cX7_holds 0 (.aload_n 0) 1 1 := ⟨by decide +kernel, rfl⟩
theorem dX7_holds_1 : DD cX7_holds 1 (.getfield 10) 3 4 := ⟨by decide +kernel, rfl⟩
theorem dX7_holds_4 : DD cX7_holds 4 (.iload_n 1) 1 5 := ⟨by decide +kernel, rfl⟩
theorem dX7_holds_5 : DD cX7_holds 5 (.invokevirtual 130) 3 8 := ⟨by decide +kernel, rfl⟩
theorem dX7_holds_8 : DD cX7_holds 8 (.astore 6) 2 10 := ⟨by decide +kernel, rfl⟩
theorem dX7_holds_10 : DD cX7_holds 10 (.aload 6) 2 12 := ⟨by decide +kernel, rfl⟩
theorem dX7_holds_12 : DD cX7_holds 12 (.ifnull 15) 3 15 := ⟨by decide +kernel, rfl⟩
theorem dX7_holds_15 : DD cX7_holds 15 (.iload_n 2) 1 16 := ⟨by decide +kernel, rfl⟩
theorem dX7_holds_16 : DD cX7_holds 16 (.iload_n 3) 1 17 := ⟨by decide +kernel, rfl⟩
theorem dX7_holds_17 : DD cX7_holds 17 (.iload 4) 2 19 := ⟨by decide +kernel, rfl⟩
theorem dX7_holds_19 : DD cX7_holds 19 (.iload 5) 2 21 := ⟨by decide +kernel, rfl⟩
theorem dX7_holds_21 : DD cX7_holds 21 (.invokestatic 123) 3 24 := ⟨by decide +kernel, rfl⟩
theorem dX7_holds_24 : DD cX7_holds 24 (.ifCond .ne 10) 3 27 := ⟨by decide +kernel, rfl⟩
theorem dX7_holds_27 : DD cX7_holds 27 (.aload_n 0) 1 28 := ⟨by decide +kernel, rfl⟩
theorem dX7_holds_28 : DD cX7_holds 28 (.ldc 72) 2 30 := ⟨by decide +kernel, rfl⟩
theorem dX7_holds_30 : DD cX7_holds 30 (.invokevirtual 73) 3 33 := ⟨by decide +kernel, rfl⟩
theorem dX7_holds_33 : DD cX7_holds 33 (.ireturn) 1 34 := ⟨by decide +kernel, rfl⟩
theorem dX7_holds_34 : DD cX7_holds 34 (.aload 6) 2 36 := ⟨by decide +kernel, rfl⟩
theorem dX7_holds_36 : DD cX7_holds 36 (.iload_n 2) 1 37 := ⟨by decide +kernel, rfl⟩
theorem dX7_holds_37 : DD cX7_holds 37 (.iload_n 3) 1 38 := ⟨by decide +kernel, rfl⟩
theorem dX7_holds_38 : DD cX7_holds 38 (.iload 4) 2 40 := ⟨by decide +kernel, rfl⟩
theorem dX7_holds_40 : DD cX7_holds 40 (.iload 5) 2 42 := ⟨by decide +kernel, rfl⟩
theorem dX7_holds_42 : DD cX7_holds 42 (.invokevirtual 255) 3 45 := ⟨by decide +kernel, rfl⟩
theorem dX7_holds_45 : DD cX7_holds 45 (.istore 7) 2 47 := ⟨by decide +kernel, rfl⟩
theorem dX7_holds_47 : DD cX7_holds 47 (.iload 7) 2 49 := ⟨by decide +kernel, rfl⟩
theorem dX7_holds_49 : DD cX7_holds 49 (.ifCond .ge 12) 3 52 := ⟨by decide +kernel, rfl⟩
theorem dX7_holds_52 : DD cX7_holds 52 (.aload_n 0) 1 53 := ⟨by decide +kernel, rfl⟩
theorem dX7_holds_53 : DD cX7_holds 53 (.ldc 207) 2 55 := ⟨by decide +kernel, rfl⟩
theorem dX7_holds_55 : DD cX7_holds 55 (.invokevirtual 73) 3 58 := ⟨by decide +kernel, rfl⟩
theorem dX7_holds_58 : DD cX7_holds 58 (.goto 5) 3 61 := ⟨by decide +kernel, rfl⟩
theorem dX7_holds_61 : DD cX7_holds 61 (.iload 7) 2 63 := ⟨by decide +kernel, rfl⟩
theorem dX7_holds_63 : DD cX7_holds 63 (.ireturn) 1 64 := ⟨by decide +kernel, rfl⟩
theorem dX7_sheet_0 : DD cX7_sheet 0 (.iload_n 2) 1 1 := ⟨by decide +kernel, rfl⟩
theorem dX7_sheet_1 : DD cX7_sheet 1 (.ifCond .eq 21) 3 4 := ⟨by decide +kernel, rfl⟩
theorem dX7_sheet_4 : DD cX7_sheet 4 (.iload_n 2) 1 5 := ⟨by decide +kernel, rfl⟩
theorem dX7_sheet_5 : DD cX7_sheet 5 (.bipush 8) 2 7 := ⟨by decide +kernel, rfl⟩
theorem dX7_sheet_7 : DD cX7_sheet 7 (.if_icmp .eq 15) 3 10 := ⟨by decide +kernel, rfl⟩
theorem dX7_sheet_10 : DD cX7_sheet 10 (.iload_n 2) 1 11 := ⟨by decide +kernel, rfl⟩
theorem dX7_sheet_11 : DD cX7_sheet 11 (.bipush 16) 2 13 := ⟨by decide +kernel, rfl⟩
theorem dX7_sheet_13 : DD cX7_sheet 13 (.if_icmp .eq 9) 3 16 := ⟨by decide +kernel, rfl⟩
theorem dX7_sheet_16 : DD cX7_sheet 16 (.iload_n 2) 1 17 := ⟨by decide +kernel, rfl⟩
theorem dX7_sheet_17 : DD cX7_sheet 17 (.bipush 64) 2 19 := ⟨by decide +kernel, rfl⟩
theorem dX7_sheet_19 : DD cX7_sheet 19 (.if_icmp .ne 7) 3 22 := ⟨by decide +kernel, rfl⟩
theorem dX7_sheet_22 : DD cX7_sheet 22 (.iconst 1) 1 23 := ⟨by decide +kernel, rfl⟩
theorem dX7_sheet_23 : DD cX7_sheet 23 (.goto 4) 3 26 := ⟨by decide +kernel, rfl⟩
theorem dX7_sheet_26 : DD cX7_sheet 26 (.iconst 0) 1 27 := ⟨by decide +kernel, rfl⟩
theorem dX7_sheet_27 : DD cX7_sheet 27 (.istore 4) 2 29 := ⟨by decide +kernel, rfl⟩
theorem dX7_sheet_29 : DD cX7_sheet 29 (.iload_n 1) 1 30 := ⟨by decide +kernel, rfl⟩
theorem dX7_sheet_30 : DD cX7_sheet 30 (.invokestatic 259) 3 33 := ⟨by decide +kernel, rfl⟩
theorem dX7_sheet_33 : DD cX7_sheet 33 (.ifCond .eq 8) 3 36 := ⟨by decide +kernel, rfl⟩
theorem dX7_sheet_36 : DD cX7_sheet 36 (.iload 4) 2 38 := ⟨by decide +kernel, rfl⟩
theorem dX7_sheet_38 : DD cX7_sheet 38 (.ifCond .ne 10) 3 41 := ⟨by decide +kernel, rfl⟩
theorem dX7_sheet_41 : DD cX7_sheet 41 (.aload_n 0) 1 42 := ⟨by decide +kernel, rfl⟩
theorem dX7_sheet_42 : DD cX7_sheet 42 (.ldc 72) 2 44 := ⟨by decide +kernel, rfl⟩
theorem dX7_sheet_44 : DD cX7_sheet 44 (.invokevirtual 73) 3 47 := ⟨by decide +kernel, rfl⟩
theorem dX7_sheet_47 : DD cX7_sheet 47 (.ireturn) 1 48 := ⟨by decide +kernel, rfl⟩
theorem dX7_sheet_48 : DD cX7_sheet 48 (.iload_n 3) 1 49 := ⟨by decide +kernel, rfl⟩
theorem dX7_sheet_49 : DD cX7_sheet 49 (.ifCond .ge 11) 3 52 := ⟨by decide +kernel, rfl⟩
theorem dX7_sheet_52 : DD cX7_sheet 52 (.aload_n 0) 1 53 := ⟨by decide +kernel, rfl⟩
theorem dX7_sheet_53 : DD cX7_sheet 53 (.ldc_w 262) 3 56 := ⟨by decide +kernel, rfl⟩
theorem dX7_sheet_56 : DD cX7_sheet 56 (.invokevirtual 73) 3 59 := ⟨by decide +kernel, rfl⟩
theorem dX7_sheet_59 : DD cX7_sheet 59 (.ireturn) 1 60 := ⟨by decide +kernel, rfl⟩
theorem dX7_sheet_60 : DD cX7_sheet 60 (.iload_n 3) 1 61 := ⟨by decide +kernel, rfl⟩
theorem dX7_sheet_61 : DD cX7_sheet 61 (.bipush 40) 2 63 := ⟨by decide +kernel, rfl⟩
theorem dX7_sheet_63 : DD cX7_sheet 63 (.if_icmp .le 10) 3 66 := ⟨by decide +kernel, rfl⟩
theorem dX7_sheet_66 : DD cX7_sheet 66 (.aload_n 0) 1 67 := ⟨by decide +kernel, rfl⟩
theorem dX7_sheet_67 : DD cX7_sheet 67 (.ldc 72) 2 69 := ⟨by decide +kernel, rfl⟩
theorem dX7_sheet_69 : DD cX7_sheet 69 (.invokevirtual 73) 3 72 := ⟨by decide +kernel, rfl⟩
theorem dX7_sheet_72 : DD cX7_sheet 72 (.ireturn) 1 73 := ⟨by decide +kernel, rfl⟩
theorem dX7_sheet_73 : DD cX7_sheet 73 (.aload_n 0) 1 74 := ⟨by decide +kernel, rfl⟩
theorem dX7_sheet_74 : DD cX7_sheet 74 (.getfield 56) 3 77 := ⟨by decide +kernel, rfl⟩
theorem dX7_sheet_77 : DD cX7_sheet 77 (.iload_n 1) 1 78 := ⟨by decide +kernel, rfl⟩
theorem dX7_sheet_78 : DD cX7_sheet 78 (.aaload) 1 79 := ⟨by decide +kernel, rfl⟩
theorem dX7_sheet_79 : DD cX7_sheet 79 (.iload_n 2) 1 80 := ⟨by decide +kernel, rfl⟩
theorem dX7_sheet_80 : DD cX7_sheet 80 (.iload_n 2) 1 81 := ⟨by decide +kernel, rfl⟩
theorem dX7_sheet_81 : DD cX7_sheet 81 (.ifCond .ne 7) 3 84 := ⟨by decide +kernel, rfl⟩
theorem dX7_sheet_84 : DD cX7_sheet 84 (.iconst 0) 1 85 := ⟨by decide +kernel, rfl⟩
theorem dX7_sheet_85 : DD cX7_sheet 85 (.goto 4) 3 88 := ⟨by decide +kernel, rfl⟩
theorem dX7_sheet_88 : DD cX7_sheet 88 (.iload_n 3) 1 89 := ⟨by decide +kernel, rfl⟩
theorem dX7_sheet_89 : DD cX7_sheet 89 (.invokevirtual 263) 3 92 := ⟨by decide +kernel, rfl⟩
theorem dX7_sheet_92 : DD cX7_sheet 92 (.aload_n 0) 1 93 := ⟨by decide +kernel, rfl⟩
theorem dX7_sheet_93 : DD cX7_sheet 93 (.getfield 56) 3 96 := ⟨by decide +kernel, rfl⟩
theorem dX7_sheet_96 : DD cX7_sheet 96 (.iload_n 1) 1 97 := ⟨by decide +kernel, rfl⟩
theorem dX7_sheet_97 : DD cX7_sheet 97 (.aaload) 1 98 := ⟨by decide +kernel, rfl⟩
theorem dX7_sheet_98 : DD cX7_sheet 98 (.getfield 264) 3 101 := ⟨by decide +kernel, rfl⟩
theorem dX7_sheet_101 : DD cX7_sheet 101 (.ireturn) 1 102 := ⟨by decide +kernel, rfl⟩
theorem dX7_write_0 : DD cX7_write 0 (.iload_n 1) 1 1 := ⟨by decide +kernel, rfl⟩
theorem dX7_write_1 : DD cX7_write 1 (.invokestatic 259) 3 4 := ⟨by decide +kernel, rfl⟩
theorem dX7_write_4 : DD cX7_write 4 (.ifCond .ne 11) 3 7 := ⟨by decide +kernel, rfl⟩
theorem dX7_write_7 : DD cX7_write 7 (.aload_n 0) 1 8 := ⟨by decide +kernel, rfl⟩
theorem dX7_write_8 : DD cX7_write 8 (.ldc 72) 2 10 := ⟨by decide +kernel, rfl⟩
theorem dX7_write_10 : DD cX7_write 10 (.invokevirtual 73) 3 13 := ⟨by decide +kernel, rfl⟩
theorem dX7_write_13 : DD cX7_write 13 (.i2l) 1 14 := ⟨by decide +kernel, rfl⟩
theorem dX7_write_14 : DD cX7_write 14 (.lreturn) 1 15 := ⟨by decide +kernel, rfl⟩
theorem dX7_write_15 : DD cX7_write 15 (.aload_n 0) 1 16 := ⟨by decide +kernel, rfl⟩
theorem dX7_write_16 : DD cX7_write 16 (.getfield 56) 3 19 := ⟨by decide +kernel, rfl⟩
theorem dX7_write_19 : DD cX7_write 19 (.iload_n 1) 1 20 := ⟨by decide +kernel, rfl⟩
theorem dX7_write_20 : DD cX7_write 20 (.aaload) 1 21 := ⟨by decide +kernel, rfl⟩
theorem dX7_write_21 : DD cX7_write 21 (.invokevirtual 265) 3 24 := ⟨by decide +kernel, rfl⟩
theorem dX7_write_24 : DD cX7_write 24 (.ifCond .eq 12) 3 27 := ⟨by decide +kernel, rfl⟩
theorem dX7_write_27 : DD cX7_write 27 (.aload_n 0) 1 28 := ⟨by decide +kernel, rfl⟩
theorem dX7_write_28 : DD cX7_write 28 (.ldc_w 269) 3 31 := ⟨by decide +kernel, rfl⟩
theorem dX7_write_31 : DD cX7_write 31 (.invokevirtual 73) 3 34 := ⟨by decide +kernel, rfl⟩
theorem dX7_write_34 : DD cX7_write 34 (.i2l) 1 35 := ⟨by decide +kernel, rfl⟩
theorem dX7_write_35 : DD cX7_write 35 (.lreturn) 1 36 := ⟨by decide +kernel, rfl⟩
theorem dX7_write_36 : DD cX7_write 36 (.iload_n 2) 1 37 := ⟨by decide +kernel, rfl⟩
theorem dX7_write_37 : DD cX7_write 37 (.iconst 0) 1 38 := ⟨by decide +kernel, rfl⟩
theorem dX7_write_38 : DD cX7_write 38 (.aload_n 0) 1 39 := ⟨by decide +kernel, rfl⟩
theorem dX7_write_39 : DD cX7_write 39 (.getfield 56) 3 42 := ⟨by decide +kernel, rfl⟩
theorem dX7_write_42 : DD cX7_write 42 (.iload_n 1) 1 43 := ⟨by decide +kernel, rfl⟩
theorem dX7_write_43 : DD cX7_write 43 (.aaload) 1 44 := ⟨by decide +kernel, rfl⟩
theorem dX7_write_44 : DD cX7_write 44 (.getfield 264) 3 47 := ⟨by decide +kernel, rfl⟩
theorem dX7_write_47 : DD cX7_write 47 (.iconst 1) 1 48 := ⟨by decide +kernel, rfl⟩
theorem dX7_write_48 : DD cX7_write 48 (.isub) 1 49 := ⟨by decide +kernel, rfl⟩
theorem dX7_write_49 : DD cX7_write 49 (.invokestatic 68) 3 52 := ⟨by decide +kernel, rfl⟩
theorem dX7_write_52 : DD cX7_write 52 (.ifCond .ne 11) 3 55 := ⟨by decide +kernel, rfl⟩
theorem dX7_write_55 : DD cX7_write 55 (.aload_n 0) 1 56 := ⟨by decide +kernel, rfl⟩
theorem dX7_write_56 : DD cX7_write 56 (.ldc 72) 2 58 := ⟨by decide +kernel, rfl⟩
theorem dX7_write_58 : DD cX7_write 58 (.invokevirtual 73) 3 61 := ⟨by decide +kernel, rfl⟩
theorem dX7_write_61 : DD cX7_write 61 (.i2l) 1 62 := ⟨by decide +kernel, rfl⟩
theorem dX7_write_62 : DD cX7_write 62 (.lreturn) 1 63 := ⟨by decide +kernel, rfl⟩
theorem dX7_write_63 : DD cX7_write 63 (.aload_n 0) 1 64 := ⟨by decide +kernel, rfl⟩
theorem dX7_write_64 : DD cX7_write 64 (.getfield 56) 3 67 := ⟨by decide +kernel, rfl⟩
theorem dX7_write_67 : DD cX7_write 67 (.iload_n 1) 1 68 := ⟨by decide +kernel, rfl⟩
theorem dX7_write_68 : DD cX7_write 68 (.aaload) 1 69 := ⟨by decide +kernel, rfl⟩
theorem dX7_write_69 : DD cX7_write 69 (.getfield 270) 3 72 := ⟨by decide +kernel, rfl⟩
theorem dX7_write_72 : DD cX7_write 72 (.iload_n 2) 1 73 := ⟨by decide +kernel, rfl⟩
theorem dX7_write_73 : DD cX7_write 73 (.laload) 1 74 := ⟨by decide +kernel, rfl⟩
theorem dX7_write_74 : DD cX7_write 74 (.lstore 5) 2 76 := ⟨by decide +kernel, rfl⟩
theorem dX7_write_76 : DD cX7_write 76 (.aload_n 0) 1 77 := ⟨by decide +kernel, rfl⟩
theorem dX7_write_77 : DD cX7_write 77 (.getfield 56) 3 80 := ⟨by decide +kernel, rfl⟩
theorem dX7_write_80 : DD cX7_write 80 (.iload_n 1) 1 81 := ⟨by decide +kernel, rfl⟩
theorem dX7_write_81 : DD cX7_write 81 (.aaload) 1 82 := ⟨by decide +kernel, rfl⟩
theorem dX7_write_82 : DD cX7_write 82 (.iload_n 2) 1 83 := ⟨by decide +kernel, rfl⟩
theorem dX7_write_83 : DD cX7_write 83 (.lload_n 3) 1 84 := ⟨by decide +kernel, rfl⟩
theorem dX7_write_84 : DD cX7_write 84 (.invokevirtual 274) 3 87 := ⟨by decide +kernel, rfl⟩
theorem dX7_write_87 : DD cX7_write 87 (.lload 5) 2 89 := ⟨by decide +kernel, rfl⟩
theorem dX7_write_89 : DD cX7_write 89 (.lreturn) 1 90 := ⟨by decide +kernel, rfl⟩
theorem dX7_copy_0 : DD cX7_copy 0 (.iload_n 1) 1 1 := ⟨by decide +kernel, rfl⟩
theorem dX7_copy_1 : DD cX7_copy 1 (.invokestatic 259) 3 4 := ⟨by decide +kernel, rfl⟩
theorem dX7_copy_4 : DD cX7_copy 4 (.ifCond .eq 10) 3 7 := ⟨by decide +kernel, rfl⟩
theorem dX7_copy_7 : DD cX7_copy 7 (.iload_n 3) 1 8 := ⟨by decide +kernel, rfl⟩
theorem dX7_copy_8 : DD cX7_copy 8 (.invokestatic 259) 3 11 := ⟨by decide +kernel, rfl⟩
theorem dX7_copy_11 : DD cX7_copy 11 (.ifCond .ne 10) 3 14 := ⟨by decide +kernel, rfl⟩
theorem dX7_copy_14 : DD cX7_copy 14 (.aload_n 0) 1 15 := ⟨by decide +kernel, rfl⟩
theorem dX7_copy_15 : DD cX7_copy 15 (.ldc 72) 2 17 := ⟨by decide +kernel, rfl⟩
theorem dX7_copy_17 : DD cX7_copy 17 (.invokevirtual 73) 3 20 := ⟨by decide +kernel, rfl⟩
theorem dX7_copy_20 : DD cX7_copy 20 (.ireturn) 1 21 := ⟨by decide +kernel, rfl⟩
theorem dX7_copy_21 : DD cX7_copy 21 (.aload_n 0) 1 22 := ⟨by decide +kernel, rfl⟩
theorem dX7_copy_22 : DD cX7_copy 22 (.getfield 56) 3 25 := ⟨by decide +kernel, rfl⟩
theorem dX7_copy_25 : DD cX7_copy 25 (.iload_n 1) 1 26 := ⟨by decide +kernel, rfl⟩
theorem dX7_copy_26 : DD cX7_copy 26 (.aaload) 1 27 := ⟨by decide +kernel, rfl⟩
theorem dX7_copy_27 : DD cX7_copy 27 (.invokevirtual 265) 3 30 := ⟨by decide +kernel, rfl⟩
theorem dX7_copy_30 : DD cX7_copy 30 (.ifCond .ne 15) 3 33 := ⟨by decide +kernel, rfl⟩
theorem dX7_copy_33 : DD cX7_copy 33 (.aload_n 0) 1 34 := ⟨by decide +kernel, rfl⟩
theorem dX7_copy_34 : DD cX7_copy 34 (.getfield 56) 3 37 := ⟨by decide +kernel, rfl⟩
theorem dX7_copy_37 : DD cX7_copy 37 (.iload_n 3) 1 38 := ⟨by decide +kernel, rfl⟩
theorem dX7_copy_38 : DD cX7_copy 38 (.aaload) 1 39 := ⟨by decide +kernel, rfl⟩
theorem dX7_copy_39 : DD cX7_copy 39 (.invokevirtual 265) 3 42 := ⟨by decide +kernel, rfl⟩
theorem dX7_copy_42 : DD cX7_copy 42 (.ifCond .eq 11) 3 45 := ⟨by decide +kernel, rfl⟩
theorem dX7_copy_45 : DD cX7_copy 45 (.aload_n 0) 1 46 := ⟨by decide +kernel, rfl⟩
theorem dX7_copy_46 : DD cX7_copy 46 (.ldc_w 269) 3 49 := ⟨by decide +kernel, rfl⟩
theorem dX7_copy_49 : DD cX7_copy 49 (.invokevirtual 73) 3 52 := ⟨by decide +kernel, rfl⟩
theorem dX7_copy_52 : DD cX7_copy 52 (.ireturn) 1 53 := ⟨by decide +kernel, rfl⟩
theorem dX7_copy_53 : DD cX7_copy 53 (.aload_n 0) 1 54 := ⟨by decide +kernel, rfl⟩
theorem dX7_copy_54 : DD cX7_copy 54 (.getfield 56) 3 57 := ⟨by decide +kernel, rfl⟩
theorem dX7_copy_57 : DD cX7_copy 57 (.iload_n 1) 1 58 := ⟨by decide +kernel, rfl⟩
theorem dX7_copy_58 : DD cX7_copy 58 (.aaload) 1 59 := ⟨by decide +kernel, rfl⟩
theorem dX7_copy_59 : DD cX7_copy 59 (.getfield 278) 3 62 := ⟨by decide +kernel, rfl⟩
theorem dX7_copy_62 : DD cX7_copy 62 (.aload_n 0) 1 63 := ⟨by decide +kernel, rfl⟩
theorem dX7_copy_63 : DD cX7_copy 63 (.getfield 56) 3 66 := ⟨by decide +kernel, rfl⟩
theorem dX7_copy_66 : DD cX7_copy 66 (.iload_n 3) 1 67 := ⟨by decide +kernel, rfl⟩
theorem dX7_copy_67 : DD cX7_copy 67 (.aaload) 1 68 := ⟨by decide +kernel, rfl⟩
theorem dX7_copy_68 : DD cX7_copy 68 (.getfield 278) 3 71 := ⟨by decide +kernel, rfl⟩
theorem dX7_copy_71 : DD cX7_copy 71 (.if_icmp .eq 10) 3 74 := ⟨by decide +kernel, rfl⟩
theorem dX7_copy_74 : DD cX7_copy 74 (.aload_n 0) 1 75 := ⟨by decide +kernel, rfl⟩
theorem dX7_copy_75 : DD cX7_copy 75 (.ldc 113) 2 77 := ⟨by decide +kernel, rfl⟩
theorem dX7_copy_77 : DD cX7_copy 77 (.invokevirtual 73) 3 80 := ⟨by decide +kernel, rfl⟩
theorem dX7_copy_80 : DD cX7_copy 80 (.ireturn) 1 81 := ⟨by decide +kernel, rfl⟩
theorem dX7_copy_81 : DD cX7_copy 81 (.aload_n 0) 1 82 := ⟨by decide +kernel, rfl⟩
theorem dX7_copy_82 : DD cX7_copy 82 (.getfield 56) 3 85 := ⟨by decide +kernel, rfl⟩
theorem dX7_copy_85 : DD cX7_copy 85 (.iload_n 1) 1 86 := ⟨by decide +kernel, rfl⟩
theorem dX7_copy_86 : DD cX7_copy 86 (.aaload) 1 87 := ⟨by decide +kernel, rfl⟩
theorem dX7_copy_87 : DD cX7_copy 87 (.iload_n 2) 1 88 := ⟨by decide +kernel, rfl⟩
theorem dX7_copy_88 : DD cX7_copy 88 (.iload 5) 2 90 := ⟨by decide +kernel, rfl⟩
theorem dX7_copy_90 : DD cX7_copy 90 (.invokevirtual 281) 3 93 := ⟨by decide +kernel, rfl⟩
theorem dX7_copy_93 : DD cX7_copy 93 (.ifCond .eq 19) 3 96 := ⟨by decide +kernel, rfl⟩
theorem dX7_copy_96 : DD cX7_copy 96 (.aload_n 0) 1 97 := ⟨by decide +kernel, rfl⟩
theorem dX7_copy_97 : DD cX7_copy 97 (.getfield 56) 3 100 := ⟨by decide +kernel, rfl⟩
theorem dX7_copy_100 : DD cX7_copy 100 (.iload_n 3) 1 101 := ⟨by decide +kernel, rfl⟩
theorem dX7_copy_101 : DD cX7_copy 101 (.aaload) 1 102 := ⟨by decide +kernel, rfl⟩
theorem dX7_copy_102 : DD cX7_copy 102 (.iload 4) 2 104 := ⟨by decide +kernel, rfl⟩
theorem dX7_copy_104 : DD cX7_copy 104 (.iload 5) 2 106 := ⟨by decide +kernel, rfl⟩
theorem dX7_copy_106 : DD cX7_copy 106 (.invokevirtual 281) 3 109 := ⟨by decide +kernel, rfl⟩
theorem dX7_copy_109 : DD cX7_copy 109 (.ifCond .ne 10) 3 112 := ⟨by decide +kernel, rfl⟩
theorem dX7_copy_112 : DD cX7_copy 112 (.aload_n 0) 1 113 := ⟨by decide +kernel, rfl⟩
theorem dX7_copy_113 : DD cX7_copy 113 (.ldc 72) 2 115 := ⟨by decide +kernel, rfl⟩
theorem dX7_copy_115 : DD cX7_copy 115 (.invokevirtual 73) 3 118 := ⟨by decide +kernel, rfl⟩
theorem dX7_copy_118 : DD cX7_copy 118 (.ireturn) 1 119 := ⟨by decide +kernel, rfl⟩
theorem dX7_copy_119 : DD cX7_copy 119 (.aload_n 0) 1 120 := ⟨by decide +kernel, rfl⟩
theorem dX7_copy_120 : DD cX7_copy 120 (.getfield 56) 3 123 := ⟨by decide +kernel, rfl⟩
theorem dX7_copy_123 : DD cX7_copy 123 (.iload_n 1) 1 124 := ⟨by decide +kernel, rfl⟩
theorem dX7_copy_124 : DD cX7_copy 124 (.aaload) 1 125 := ⟨by decide +kernel, rfl⟩
theorem dX7_copy_125 : DD cX7_copy 125 (.getfield 270) 3 128 := ⟨by decide +kernel, rfl⟩
theorem dX7_copy_128 : DD cX7_copy 128 (.iload_n 2) 1 129 := ⟨by decide +kernel, rfl⟩
theorem dX7_copy_129 : DD cX7_copy 129 (.aload_n 0) 1 130 := ⟨by decide +kernel, rfl⟩
theorem dX7_copy_130 : DD cX7_copy 130 (.getfield 56) 3 133 := ⟨by decide +kernel, rfl⟩
theorem dX7_copy_133 : DD cX7_copy 133 (.iload_n 3) 1 134 := ⟨by decide +kernel, rfl⟩
theorem dX7_copy_134 : DD cX7_copy 134 (.aaload) 1 135 := ⟨by decide +kernel, rfl⟩
theorem dX7_copy_135 : DD cX7_copy 135 (.getfield 270) 3 138 := ⟨by decide +kernel, rfl⟩
theorem dX7_copy_138 : DD cX7_copy 138 (.iload 4) 2 140 := ⟨by decide +kernel, rfl⟩
theorem dX7_copy_140 : DD cX7_copy 140 (.iload 5) 2 142 := ⟨by decide +kernel, rfl⟩
theorem dX7_copy_142 : DD cX7_copy 142 (.invokestatic 284) 3 145 := ⟨by decide +kernel, rfl⟩
theorem dX7_copy_145 : DD cX7_copy 145 (.iload 5) 2 147 := ⟨by decide +kernel, rfl⟩
theorem dX7_copy_147 : DD cX7_copy 147 (.ireturn) 1 148 := ⟨by decide +kernel, rfl⟩
theorem dX7_film_0 : DD cX7_film 0 (.aload_n 0) 1 1 := ⟨by decide +kernel, rfl⟩
theorem dX7_film_1 : DD cX7_film 1 (.iload_n 1) 1 2 := ⟨by decide +kernel, rfl⟩
theorem dX7_film_2 : DD cX7_film 2 (.iload_n 2) 1 3 := ⟨by decide +kernel, rfl⟩
theorem dX7_film_3 : DD cX7_film 3 (.iload_n 3) 1 4 := ⟨by decide +kernel, rfl⟩
theorem dX7_film_4 : DD cX7_film 4 (.invokevirtual 290) 3 7 := ⟨by decide +kernel, rfl⟩
theorem dX7_film_7 : DD cX7_film 7 (.istore 4) 2 9 := ⟨by decide +kernel, rfl⟩
theorem dX7_film_9 : DD cX7_film 9 (.iload 4) 2 11 := ⟨by decide +kernel, rfl⟩
theorem dX7_film_11 : DD cX7_film 11 (.ifCond .eq 10) 3 14 := ⟨by decide +kernel, rfl⟩
theorem dX7_film_14 : DD cX7_film 14 (.aload_n 0) 1 15 := ⟨by decide +kernel, rfl⟩
theorem dX7_film_15 : DD cX7_film 15 (.iload 4) 2 17 := ⟨by decide +kernel, rfl⟩
theorem dX7_film_17 : DD cX7_film 17 (.invokevirtual 73) 3 20 := ⟨by decide +kernel, rfl⟩
theorem dX7_film_20 : DD cX7_film 20 (.ireturn) 1 21 := ⟨by decide +kernel, rfl⟩
theorem dX7_film_21 : DD cX7_film 21 (.aload_n 0) 1 22 := ⟨by decide +kernel, rfl⟩
theorem dX7_film_22 : DD cX7_film 22 (.getfield 56) 3 25 := ⟨by decide +kernel, rfl⟩
theorem dX7_film_25 : DD cX7_film 25 (.iload_n 1) 1 26 := ⟨by decide +kernel, rfl⟩
theorem dX7_film_26 : DD cX7_film 26 (.aaload) 1 27 := ⟨by decide +kernel, rfl⟩
theorem dX7_film_27 : DD cX7_film 27 (.astore 5) 2 29 := ⟨by decide +kernel, rfl⟩
theorem dX7_film_29 : DD cX7_film 29 (.iconst 0) 1 30 := ⟨by decide +kernel, rfl⟩
theorem dX7_film_30 : DD cX7_film 30 (.istore 6) 2 32 := ⟨by decide +kernel, rfl⟩
theorem dX7_film_32 : DD cX7_film 32 (.iconst 0) 1 33 := ⟨by decide +kernel, rfl⟩
theorem dX7_film_33 : DD cX7_film 33 (.istore 7) 2 35 := ⟨by decide +kernel, rfl⟩
theorem dX7_film_35 : DD cX7_film 35 (.aload_n 0) 1 36 := ⟨by decide +kernel, rfl⟩
theorem dX7_film_36 : DD cX7_film 36 (.aload_n 0) 1 37 := ⟨by decide +kernel, rfl⟩
theorem dX7_film_37 : DD cX7_film 37 (.getfield 10) 3 40 := ⟨by decide +kernel, rfl⟩
theorem dX7_film_40 : DD cX7_film 40 (.getfield 82) 3 43 := ⟨by decide +kernel, rfl⟩
theorem dX7_film_43 : DD cX7_film 43 (.iload_n 2) 1 44 := ⟨by decide +kernel, rfl⟩
theorem dX7_film_44 : DD cX7_film 44 (.aaload) 1 45 := ⟨by decide +kernel, rfl⟩
theorem dX7_film_45 : DD cX7_film 45 (.aload_n 0) 1 46 := ⟨by decide +kernel, rfl⟩
theorem dX7_film_46 : DD cX7_film 46 (.getfield 10) 3 49 := ⟨by decide +kernel, rfl⟩
theorem dX7_film_49 : DD cX7_film 49 (.getfield 82) 3 52 := ⟨by decide +kernel, rfl⟩
theorem dX7_film_52 : DD cX7_film 52 (.iload_n 3) 1 53 := ⟨by decide +kernel, rfl⟩
theorem dX7_film_53 : DD cX7_film 53 (.aaload) 1 54 := ⟨by decide +kernel, rfl⟩
theorem dX7_film_54 : DD cX7_film 54 (.invokevirtual 200) 3 57 := ⟨by decide +kernel, rfl⟩
theorem dX7_film_57 : DD cX7_film 57 (.iload 6) 2 59 := ⟨by decide +kernel, rfl⟩
theorem dX7_film_59 : DD cX7_film 59 (.aload 5) 2 61 := ⟨by decide +kernel, rfl⟩
theorem dX7_film_61 : DD cX7_film 61 (.getfield 264) 3 64 := ⟨by decide +kernel, rfl⟩
theorem dX7_film_64 : DD cX7_film 64 (.if_icmp .ge 56) 3 67 := ⟨by decide +kernel, rfl⟩
theorem dX7_film_67 : DD cX7_film 67 (.iload 7) 2 69 := ⟨by decide +kernel, rfl⟩
theorem dX7_film_69 : DD cX7_film 69 (.ifCond .ne 51) 3 72 := ⟨by decide +kernel, rfl⟩
theorem dX7_film_72 : DD cX7_film 72 (.aload_n 0) 1 73 := ⟨by decide +kernel, rfl⟩
theorem dX7_film_73 : DD cX7_film 73 (.getfield 36) 3 76 := ⟨by decide +kernel, rfl⟩
theorem dX7_film_76 : DD cX7_film 76 (.aload_n 0) 1 77 := ⟨by decide +kernel, rfl⟩
theorem dX7_film_77 : DD cX7_film 77 (.getfield 10) 3 80 := ⟨by decide +kernel, rfl⟩
theorem dX7_film_80 : DD cX7_film 80 (.getfield 82) 3 83 := ⟨by decide +kernel, rfl⟩
theorem dX7_film_83 : DD cX7_film 83 (.iload_n 2) 1 84 := ⟨by decide +kernel, rfl⟩
theorem dX7_film_84 : DD cX7_film 84 (.aaload) 1 85 := ⟨by decide +kernel, rfl⟩
theorem dX7_film_85 : DD cX7_film 85 (.aload_n 0) 1 86 := ⟨by decide +kernel, rfl⟩
theorem dX7_film_86 : DD cX7_film 86 (.getfield 10) 3 89 := ⟨by decide +kernel, rfl⟩
theorem dX7_film_89 : DD cX7_film 89 (.getfield 82) 3 92 := ⟨by decide +kernel, rfl⟩
theorem dX7_film_92 : DD cX7_film 92 (.iload_n 3) 1 93 := ⟨by decide +kernel, rfl⟩
theorem dX7_film_93 : DD cX7_film 93 (.aaload) 1 94 := ⟨by decide +kernel, rfl⟩
theorem dX7_film_94 : DD cX7_film 94 (.invokevirtual 214) 3 97 := ⟨by decide +kernel, rfl⟩
theorem dX7_film_97 : DD cX7_film 97 (.istore 7) 2 99 := ⟨by decide +kernel, rfl⟩
theorem dX7_film_99 : DD cX7_film 99 (.aload 5) 2 101 := ⟨by decide +kernel, rfl⟩
theorem dX7_film_101 : DD cX7_film 101 (.iload 6) 2 103 := ⟨by decide +kernel, rfl⟩
theorem dX7_film_103 : DD cX7_film 103 (.aload_n 0) 1 104 := ⟨by decide +kernel, rfl⟩
theorem dX7_film_104 : DD cX7_film 104 (.getfield 36) 3 107 := ⟨by decide +kernel, rfl⟩
theorem dX7_film_107 : DD cX7_film 107 (.getfield 191) 3 110 := ⟨by decide +kernel, rfl⟩
theorem dX7_film_110 : DD cX7_film 110 (.i2l) 1 111 := ⟨by decide +kernel, rfl⟩
theorem dX7_film_111 : DD cX7_film 111 (.invokevirtual 274) 3 114 := ⟨by decide +kernel, rfl⟩
theorem dX7_film_114 : DD cX7_film 114 (.iinc 6 1) 3 117 := ⟨by decide +kernel, rfl⟩
theorem dX7_film_117 : DD cX7_film 117 (.goto (-60)) 3 120 := ⟨by decide +kernel, rfl⟩
theorem dX7_film_120 : DD cX7_film 120 (.iload 6) 2 122 := ⟨by decide +kernel, rfl⟩
theorem dX7_film_122 : DD cX7_film 122 (.ireturn) 1 123 := ⟨by decide +kernel, rfl⟩
theorem dX7_read_0 : DD cX7_read 0 (.aload_n 0) 1 1 := ⟨by decide +kernel, rfl⟩
theorem dX7_read_1 : DD cX7_read 1 (.iload_n 1) 1 2 := ⟨by decide +kernel, rfl⟩
theorem dX7_read_2 : DD cX7_read 2 (.iload_n 2) 1 3 := ⟨by decide +kernel, rfl⟩
theorem dX7_read_3 : DD cX7_read 3 (.iload_n 3) 1 4 := ⟨by decide +kernel, rfl⟩
theorem dX7_read_4 : DD cX7_read 4 (.invokevirtual 290) 3 7 := ⟨by decide +kernel, rfl⟩
theorem dX7_read_7 : DD cX7_read 7 (.istore 4) 2 9 := ⟨by decide +kernel, rfl⟩
theorem dX7_read_9 : DD cX7_read 9 (.iload 4) 2 11 := ⟨by decide +kernel, rfl⟩
theorem dX7_read_11 : DD cX7_read 11 (.ifCond .eq 10) 3 14 := ⟨by decide +kernel, rfl⟩
theorem dX7_read_14 : DD cX7_read 14 (.aload_n 0) 1 15 := ⟨by decide +kernel, rfl⟩
theorem dX7_read_15 : DD cX7_read 15 (.iload 4) 2 17 := ⟨by decide +kernel, rfl⟩
theorem dX7_read_17 : DD cX7_read 17 (.invokevirtual 73) 3 20 := ⟨by decide +kernel, rfl⟩
theorem dX7_read_20 : DD cX7_read 20 (.ireturn) 1 21 := ⟨by decide +kernel, rfl⟩
theorem dX7_read_21 : DD cX7_read 21 (.aload_n 0) 1 22 := ⟨by decide +kernel, rfl⟩
theorem dX7_read_22 : DD cX7_read 22 (.getfield 56) 3 25 := ⟨by decide +kernel, rfl⟩
theorem dX7_read_25 : DD cX7_read 25 (.iload_n 1) 1 26 := ⟨by decide +kernel, rfl⟩
theorem dX7_read_26 : DD cX7_read 26 (.aaload) 1 27 := ⟨by decide +kernel, rfl⟩
theorem dX7_read_27 : DD cX7_read 27 (.astore 5) 2 29 := ⟨by decide +kernel, rfl⟩
theorem dX7_read_29 : DD cX7_read 29 (.iconst 0) 1 30 := ⟨by decide +kernel, rfl⟩
theorem dX7_read_30 : DD cX7_read 30 (.istore 6) 2 32 := ⟨by decide +kernel, rfl⟩
theorem dX7_read_32 : DD cX7_read 32 (.aload_n 0) 1 33 := ⟨by decide +kernel, rfl⟩
theorem dX7_read_33 : DD cX7_read 33 (.aload_n 0) 1 34 := ⟨by decide +kernel, rfl⟩
theorem dX7_read_34 : DD cX7_read 34 (.getfield 10) 3 37 := ⟨by decide +kernel, rfl⟩
theorem dX7_read_37 : DD cX7_read 37 (.getfield 82) 3 40 := ⟨by decide +kernel, rfl⟩
theorem dX7_read_40 : DD cX7_read 40 (.iload_n 2) 1 41 := ⟨by decide +kernel, rfl⟩
theorem dX7_read_41 : DD cX7_read 41 (.aaload) 1 42 := ⟨by decide +kernel, rfl⟩
theorem dX7_read_42 : DD cX7_read 42 (.aload_n 0) 1 43 := ⟨by decide +kernel, rfl⟩
theorem dX7_read_43 : DD cX7_read 43 (.getfield 10) 3 46 := ⟨by decide +kernel, rfl⟩
theorem dX7_read_46 : DD cX7_read 46 (.getfield 82) 3 49 := ⟨by decide +kernel, rfl⟩
theorem dX7_read_49 : DD cX7_read 49 (.iload_n 3) 1 50 := ⟨by decide +kernel, rfl⟩
theorem dX7_read_50 : DD cX7_read 50 (.aaload) 1 51 := ⟨by decide +kernel, rfl⟩
theorem dX7_read_51 : DD cX7_read 51 (.invokevirtual 200) 3 54 := ⟨by decide +kernel, rfl⟩
theorem dX7_read_54 : DD cX7_read 54 (.iconst 0) 1 55 := ⟨by decide +kernel, rfl⟩
theorem dX7_read_55 : DD cX7_read 55 (.istore 7) 2 57 := ⟨by decide +kernel, rfl⟩
theorem dX7_read_57 : DD cX7_read 57 (.iload 7) 2 59 := ⟨by decide +kernel, rfl⟩
theorem dX7_read_59 : DD cX7_read 59 (.aload 5) 2 61 := ⟨by decide +kernel, rfl⟩
theorem dX7_read_61 : DD cX7_read 61 (.getfield 264) 3 64 := ⟨by decide +kernel, rfl⟩
theorem dX7_read_64 : DD cX7_read 64 (.if_icmp .ge 71) 3 67 := ⟨by decide +kernel, rfl⟩
theorem dX7_read_67 : DD cX7_read 67 (.iload 6) 2 69 := ⟨by decide +kernel, rfl⟩
theorem dX7_read_69 : DD cX7_read 69 (.ifCond .eq 8) 3 72 := ⟨by decide +kernel, rfl⟩
theorem dX7_read_72 : DD cX7_read 72 (.iconst 1) 1 73 := ⟨by decide +kernel, rfl⟩
theorem dX7_read_73 : DD cX7_read 73 (.iload 7) 2 75 := ⟨by decide +kernel, rfl⟩
theorem dX7_read_75 : DD cX7_read 75 (.iadd) 1 76 := ⟨by decide +kernel, rfl⟩
theorem dX7_read_76 : DD cX7_read 76 (.ireturn) 1 77 := ⟨by decide +kernel, rfl⟩
theorem dX7_read_77 : DD cX7_read 77 (.aload_n 0) 1 78 := ⟨by decide +kernel, rfl⟩
theorem dX7_read_78 : DD cX7_read 78 (.getfield 36) 3 81 := ⟨by decide +kernel, rfl⟩
theorem dX7_read_81 : DD cX7_read 81 (.aload_n 0) 1 82 := ⟨by decide +kernel, rfl⟩
theorem dX7_read_82 : DD cX7_read 82 (.getfield 10) 3 85 := ⟨by decide +kernel, rfl⟩
theorem dX7_read_85 : DD cX7_read 85 (.getfield 82) 3 88 := ⟨by decide +kernel, rfl⟩
theorem dX7_read_88 : DD cX7_read 88 (.iload_n 2) 1 89 := ⟨by decide +kernel, rfl⟩
theorem dX7_read_89 : DD cX7_read 89 (.aaload) 1 90 := ⟨by decide +kernel, rfl⟩
theorem dX7_read_90 : DD cX7_read 90 (.aload_n 0) 1 91 := ⟨by decide +kernel, rfl⟩
theorem dX7_read_91 : DD cX7_read 91 (.getfield 10) 3 94 := ⟨by decide +kernel, rfl⟩
theorem dX7_read_94 : DD cX7_read 94 (.getfield 82) 3 97 := ⟨by decide +kernel, rfl⟩
theorem dX7_read_97 : DD cX7_read 97 (.iload_n 3) 1 98 := ⟨by decide +kernel, rfl⟩
theorem dX7_read_98 : DD cX7_read 98 (.aaload) 1 99 := ⟨by decide +kernel, rfl⟩
theorem dX7_read_99 : DD cX7_read 99 (.invokevirtual 214) 3 102 := ⟨by decide +kernel, rfl⟩
theorem dX7_read_102 : DD cX7_read 102 (.istore 6) 2 104 := ⟨by decide +kernel, rfl⟩
theorem dX7_read_104 : DD cX7_read 104 (.aload 5) 2 106 := ⟨by decide +kernel, rfl⟩
theorem dX7_read_106 : DD cX7_read 106 (.getfield 270) 3 109 := ⟨by decide +kernel, rfl⟩
theorem dX7_read_109 : DD cX7_read 109 (.iload 7) 2 111 := ⟨by decide +kernel, rfl⟩
theorem dX7_read_111 : DD cX7_read 111 (.laload) 1 112 := ⟨by decide +kernel, rfl⟩
theorem dX7_read_112 : DD cX7_read 112 (.aload_n 0) 1 113 := ⟨by decide +kernel, rfl⟩
theorem dX7_read_113 : DD cX7_read 113 (.getfield 36) 3 116 := ⟨by decide +kernel, rfl⟩
theorem dX7_read_116 : DD cX7_read 116 (.getfield 191) 3 119 := ⟨by decide +kernel, rfl⟩
theorem dX7_read_119 : DD cX7_read 119 (.i2l) 1 120 := ⟨by decide +kernel, rfl⟩
theorem dX7_read_120 : DD cX7_read 120 (.lcmp) 1 121 := ⟨by decide +kernel, rfl⟩
theorem dX7_read_121 : DD cX7_read 121 (.ifCond .eq 8) 3 124 := ⟨by decide +kernel, rfl⟩
theorem dX7_read_124 : DD cX7_read 124 (.iconst 1) 1 125 := ⟨by decide +kernel, rfl⟩
theorem dX7_read_125 : DD cX7_read 125 (.iload 7) 2 127 := ⟨by decide +kernel, rfl⟩
theorem dX7_read_127 : DD cX7_read 127 (.iadd) 1 128 := ⟨by decide +kernel, rfl⟩
theorem dX7_read_128 : DD cX7_read 128 (.ireturn) 1 129 := ⟨by decide +kernel, rfl⟩
theorem dX7_read_129 : DD cX7_read 129 (.iinc 7 1) 3 132 := ⟨by decide +kernel, rfl⟩
theorem dX7_read_132 : DD cX7_read 132 (.goto (-75)) 3 135 := ⟨by decide +kernel, rfl⟩
theorem dX7_read_135 : DD cX7_read 135 (.iconst 0) 1 136 := ⟨by decide +kernel, rfl⟩
theorem dX7_read_136 : DD cX7_read 136 (.ireturn) 1 137 := ⟨by decide +kernel, rfl⟩
theorem dX7_image_0 : DD cX7_image 0 (.aload_n 0) 1 1 := ⟨by decide +kernel, rfl⟩
theorem dX7_image_1 : DD cX7_image 1 (.getfield 16) 3 4 := ⟨by decide +kernel, rfl⟩
theorem dX7_image_4 : DD cX7_image 4 (.aload_n 0) 1 5 := ⟨by decide +kernel, rfl⟩
theorem dX7_image_5 : DD cX7_image 5 (.getfield 10) 3 8 := ⟨by decide +kernel, rfl⟩
theorem dX7_image_8 : DD cX7_image 8 (.invokevirtual 294) 3 11 := ⟨by decide +kernel, rfl⟩
theorem dX7_image_11 : DD cX7_image 11 (.aload_n 0) 1 12 := ⟨by decide +kernel, rfl⟩
theorem dX7_image_12 : DD cX7_image 12 (.iconst 1) 1 13 := ⟨by decide +kernel, rfl⟩
theorem dX7_image_13 : DD cX7_image 13 (.putfield 19) 3 16 := ⟨by decide +kernel, rfl⟩
theorem dX7_image_16 : DD cX7_image 16 (.iconst 1) 1 17 := ⟨by decide +kernel, rfl⟩
theorem dX7_image_17 : DD cX7_image 17 (.ireturn) 1 18 := ⟨by decide +kernel, rfl⟩
theorem dX7_undo_0 : DD cX7_undo 0 (.aload_n 0) 1 1 := ⟨by decide +kernel, rfl⟩
theorem dX7_undo_1 : DD cX7_undo 1 (.getfield 19) 3 4 := ⟨by decide +kernel, rfl⟩
theorem dX7_undo_4 : DD cX7_undo 4 (.ifCond .ne 10) 3 7 := ⟨by decide +kernel, rfl⟩
theorem dX7_undo_7 : DD cX7_undo 7 (.aload_n 0) 1 8 := ⟨by decide +kernel, rfl⟩
theorem dX7_undo_8 : DD cX7_undo 8 (.ldc 207) 2 10 := ⟨by decide +kernel, rfl⟩
theorem dX7_undo_10 : DD cX7_undo 10 (.invokevirtual 73) 3 13 := ⟨by decide +kernel, rfl⟩
theorem dX7_undo_13 : DD cX7_undo 13 (.ireturn) 1 14 := ⟨by decide +kernel, rfl⟩
theorem dX7_undo_14 : DD cX7_undo 14 (.aload_n 0) 1 15 := ⟨by decide +kernel, rfl⟩
theorem dX7_undo_15 : DD cX7_undo 15 (.getfield 10) 3 18 := ⟨by decide +kernel, rfl⟩
theorem dX7_undo_18 : DD cX7_undo 18 (.aload_n 0) 1 19 := ⟨by decide +kernel, rfl⟩
theorem dX7_undo_19 : DD cX7_undo 19 (.getfield 16) 3 22 := ⟨by decide +kernel, rfl⟩
theorem dX7_undo_22 : DD cX7_undo 22 (.invokevirtual 294) 3 25 := ⟨by decide +kernel, rfl⟩
theorem dX7_undo_25 : DD cX7_undo 25 (.aload_n 0) 1 26 := ⟨by decide +kernel, rfl⟩
theorem dX7_undo_26 : DD cX7_undo 26 (.getfield 10) 3 29 := ⟨by decide +kernel, rfl⟩
theorem dX7_undo_29 : DD cX7_undo 29 (.getfield 77) 3 32 := ⟨by decide +kernel, rfl⟩
theorem dX7_undo_32 : DD cX7_undo 32 (.ireturn) 1 33 := ⟨by decide +kernel, rfl⟩
theorem dX7_tear_0 : DD cX7_tear 0 (.aload_n 0) 1 1 := ⟨by decide +kernel, rfl⟩
theorem dX7_tear_1 : DD cX7_tear 1 (.getfield 19) 3 4 := ⟨by decide +kernel, rfl⟩
theorem dX7_tear_4 : DD cX7_tear 4 (.ifCond .eq 7) 3 7 := ⟨by decide +kernel, rfl⟩
theorem dX7_tear_7 : DD cX7_tear 7 (.iconst 1) 1 8 := ⟨by decide +kernel, rfl⟩
theorem dX7_tear_8 : DD cX7_tear 8 (.goto 4) 3 11 := ⟨by decide +kernel, rfl⟩
theorem dX7_tear_11 : DD cX7_tear 11 (.iconst 0) 1 12 := ⟨by decide +kernel, rfl⟩
theorem dX7_tear_12 : DD cX7_tear 12 (.istore_n 1) 1 13 := ⟨by decide +kernel, rfl⟩
theorem dX7_tear_13 : DD cX7_tear 13 (.aload_n 0) 1 14 := ⟨by decide +kernel, rfl⟩
theorem dX7_tear_14 : DD cX7_tear 14 (.iconst 0) 1 15 := ⟨by decide +kernel, rfl⟩
theorem dX7_tear_15 : DD cX7_tear 15 (.putfield 19) 3 18 := ⟨by decide +kernel, rfl⟩
theorem dX7_tear_18 : DD cX7_tear 18 (.iload_n 1) 1 19 := ⟨by decide +kernel, rfl⟩
theorem dX7_tear_19 : DD cX7_tear 19 (.ireturn) 1 20 := ⟨by decide +kernel, rfl⟩
theorem dX7_count_0 : DD cX7_count 0 (.iload_n 1) 1 1 := ⟨by decide +kernel, rfl⟩
theorem dX7_count_1 : DD cX7_count 1 (.tableswitch 98 0 5 #[39, 47, 55, 71, 79, 87]) 39 40 := ⟨by decide +kernel, rfl⟩
theorem dX7_count_40 : DD cX7_count 40 (.aload_n 0) 1 41 := ⟨by decide +kernel, rfl⟩
theorem dX7_count_41 : DD cX7_count 41 (.getfield 10) 3 44 := ⟨by decide +kernel, rfl⟩
theorem dX7_count_44 : DD cX7_count 44 (.getfield 77) 3 47 := ⟨by decide +kernel, rfl⟩
theorem dX7_count_47 : DD cX7_count 47 (.ireturn) 1 48 := ⟨by decide +kernel, rfl⟩
theorem dX7_count_48 : DD cX7_count 48 (.aload_n 0) 1 49 := ⟨by decide +kernel, rfl⟩
theorem dX7_count_49 : DD cX7_count 49 (.getfield 10) 3 52 := ⟨by decide +kernel, rfl⟩
theorem dX7_count_52 : DD cX7_count 52 (.getfield 242) 3 55 := ⟨by decide +kernel, rfl⟩
theorem dX7_count_55 : DD cX7_count 55 (.ireturn) 1 56 := ⟨by decide +kernel, rfl⟩
theorem dX7_count_56 : DD cX7_count 56 (.aload_n 0) 1 57 := ⟨by decide +kernel, rfl⟩
theorem dX7_count_57 : DD cX7_count 57 (.getfield 10) 3 60 := ⟨by decide +kernel, rfl⟩
theorem dX7_count_60 : DD cX7_count 60 (.getfield 141) 3 63 := ⟨by decide +kernel, rfl⟩
theorem dX7_count_63 : DD cX7_count 63 (.ifCond .eq 7) 3 66 := ⟨by decide +kernel, rfl⟩
theorem dX7_count_66 : DD cX7_count 66 (.iconst 1) 1 67 := ⟨by decide +kernel, rfl⟩
theorem dX7_count_67 : DD cX7_count 67 (.goto 4) 3 70 := ⟨by decide +kernel, rfl⟩
theorem dX7_count_70 : DD cX7_count 70 (.iconst 0) 1 71 := ⟨by decide +kernel, rfl⟩
theorem dX7_count_71 : DD cX7_count 71 (.ireturn) 1 72 := ⟨by decide +kernel, rfl⟩
theorem dX7_count_72 : DD cX7_count 72 (.aload_n 0) 1 73 := ⟨by decide +kernel, rfl⟩
theorem dX7_count_73 : DD cX7_count 73 (.getfield 10) 3 76 := ⟨by decide +kernel, rfl⟩
theorem dX7_count_76 : DD cX7_count 76 (.invokevirtual 297) 3 79 := ⟨by decide +kernel, rfl⟩
theorem dX7_count_79 : DD cX7_count 79 (.ireturn) 1 80 := ⟨by decide +kernel, rfl⟩
theorem dX7_count_80 : DD cX7_count 80 (.aload_n 0) 1 81 := ⟨by decide +kernel, rfl⟩
theorem dX7_count_81 : DD cX7_count 81 (.getfield 50) 3 84 := ⟨by decide +kernel, rfl⟩
theorem dX7_count_84 : DD cX7_count 84 (.getfield 235) 3 87 := ⟨by decide +kernel, rfl⟩
theorem dX7_count_87 : DD cX7_count 87 (.ireturn) 1 88 := ⟨by decide +kernel, rfl⟩
theorem dX7_count_88 : DD cX7_count 88 (.aload_n 0) 1 89 := ⟨by decide +kernel, rfl⟩
theorem dX7_count_89 : DD cX7_count 89 (.getfield 10) 3 92 := ⟨by decide +kernel, rfl⟩
theorem dX7_count_92 : DD cX7_count 92 (.getfield 150) 3 95 := ⟨by decide +kernel, rfl⟩
theorem dX7_count_95 : DD cX7_count 95 (.getfield 197) 3 98 := ⟨by decide +kernel, rfl⟩
theorem dX7_count_98 : DD cX7_count 98 (.ireturn) 1 99 := ⟨by decide +kernel, rfl⟩
theorem dX7_count_99 : DD cX7_count 99 (.aload_n 0) 1 100 := ⟨by decide +kernel, rfl⟩
theorem dX7_count_100 : DD cX7_count 100 (.ldc 72) 2 102 := ⟨by decide +kernel, rfl⟩
theorem dX7_count_102 : DD cX7_count 102 (.invokevirtual 73) 3 105 := ⟨by decide +kernel, rfl⟩
theorem dX7_count_105 : DD cX7_count 105 (.ireturn) 1 106 := ⟨by decide +kernel, rfl⟩
theorem dX7_status_0 : DD cX7_status 0 (.iload_n 1) 1 1 := ⟨by decide +kernel, rfl⟩
theorem dX7_status_1 : DD cX7_status 1 (.iconst (-1)) 1 2 := ⟨by decide +kernel, rfl⟩
theorem dX7_status_2 : DD cX7_status 2 (.bipush 6) 2 4 := ⟨by decide +kernel, rfl⟩
theorem dX7_status_4 : DD cX7_status 4 (.invokestatic 68) 3 7 := ⟨by decide +kernel, rfl⟩
theorem dX7_status_7 : DD cX7_status 7 (.ifCond .ne 10) 3 10 := ⟨by decide +kernel, rfl⟩
theorem dX7_status_10 : DD cX7_status 10 (.aload_n 0) 1 11 := ⟨by decide +kernel, rfl⟩
theorem dX7_status_11 : DD cX7_status 11 (.ldc 72) 2 13 := ⟨by decide +kernel, rfl⟩
theorem dX7_status_13 : DD cX7_status 13 (.invokevirtual 73) 3 16 := ⟨by decide +kernel, rfl⟩
theorem dX7_status_16 : DD cX7_status 16 (.ireturn) 1 17 := ⟨by decide +kernel, rfl⟩
theorem dX7_status_17 : DD cX7_status 17 (.iload_n 1) 1 18 := ⟨by decide +kernel, rfl⟩
theorem dX7_status_18 : DD cX7_status 18 (.ifCond .lt 10) 3 21 := ⟨by decide +kernel, rfl⟩
theorem dX7_status_21 : DD cX7_status 21 (.aload_n 0) 1 22 := ⟨by decide +kernel, rfl⟩
theorem dX7_status_22 : DD cX7_status 22 (.getfield 60) 3 25 := ⟨by decide +kernel, rfl⟩
theorem dX7_status_25 : DD cX7_status 25 (.iload_n 1) 1 26 := ⟨by decide +kernel, rfl⟩
theorem dX7_status_26 : DD cX7_status 26 (.iaload) 1 27 := ⟨by decide +kernel, rfl⟩
theorem dX7_status_27 : DD cX7_status 27 (.ireturn) 1 28 := ⟨by decide +kernel, rfl⟩
theorem dX7_status_28 : DD cX7_status 28 (.iconst 0) 1 29 := ⟨by decide +kernel, rfl⟩
theorem dX7_status_29 : DD cX7_status 29 (.istore_n 2) 1 30 := ⟨by decide +kernel, rfl⟩
theorem dX7_status_30 : DD cX7_status 30 (.iconst 0) 1 31 := ⟨by decide +kernel, rfl⟩
theorem dX7_status_31 : DD cX7_status 31 (.istore_n 3) 1 32 := ⟨by decide +kernel, rfl⟩
theorem dX7_status_32 : DD cX7_status 32 (.iload_n 3) 1 33 := ⟨by decide +kernel, rfl⟩
theorem dX7_status_33 : DD cX7_status 33 (.bipush 7) 2 35 := ⟨by decide +kernel, rfl⟩
theorem dX7_status_35 : DD cX7_status 35 (.if_icmp .ge 18) 3 38 := ⟨by decide +kernel, rfl⟩
theorem dX7_status_38 : DD cX7_status 38 (.iload_n 2) 1 39 := ⟨by decide +kernel, rfl⟩
theorem dX7_status_39 : DD cX7_status 39 (.aload_n 0) 1 40 := ⟨by decide +kernel, rfl⟩
theorem dX7_status_40 : DD cX7_status 40 (.getfield 60) 3 43 := ⟨by decide +kernel, rfl⟩
theorem dX7_status_43 : DD cX7_status 43 (.iload_n 3) 1 44 := ⟨by decide +kernel, rfl⟩
theorem dX7_status_44 : DD cX7_status 44 (.iaload) 1 45 := ⟨by decide +kernel, rfl⟩
theorem dX7_status_45 : DD cX7_status 45 (.iadd) 1 46 := ⟨by decide +kernel, rfl⟩
theorem dX7_status_46 : DD cX7_status 46 (.istore_n 2) 1 47 := ⟨by decide +kernel, rfl⟩
theorem dX7_status_47 : DD cX7_status 47 (.iinc 3 1) 3 50 := ⟨by decide +kernel, rfl⟩
theorem dX7_status_50 : DD cX7_status 50 (.goto (-18)) 3 53 := ⟨by decide +kernel, rfl⟩
theorem dX7_status_53 : DD cX7_status 53 (.iload_n 2) 1 54 := ⟨by decide +kernel, rfl⟩
theorem dX7_status_54 : DD cX7_status 54 (.ireturn) 1 55 := ⟨by decide +kernel, rfl⟩
theorem dX7_finding_0 : DD cX7_finding 0 (.ldc 72) 2 2 := ⟨by decide +kernel, rfl⟩
theorem dX7_finding_2 : DD cX7_finding 2 (.iload_n 1) 1 3 := ⟨by decide +kernel, rfl⟩
theorem dX7_finding_3 : DD cX7_finding 3 (.isub) 1 4 := ⟨by decide +kernel, rfl⟩
theorem dX7_finding_4 : DD cX7_finding 4 (.istore_n 2) 1 5 := ⟨by decide +kernel, rfl⟩
theorem dX7_finding_5 : DD cX7_finding 5 (.iload_n 2) 1 6 := ⟨by decide +kernel, rfl⟩
theorem dX7_finding_6 : DD cX7_finding 6 (.iconst 0) 1 7 := ⟨by decide +kernel, rfl⟩
theorem dX7_finding_7 : DD cX7_finding 7 (.bipush 6) 2 9 := ⟨by decide +kernel, rfl⟩
theorem dX7_finding_9 : DD cX7_finding 9 (.invokestatic 68) 3 12 := ⟨by decide +kernel, rfl⟩
theorem dX7_finding_12 : DD cX7_finding 12 (.ifCond .eq 13) 3 15 := ⟨by decide +kernel, rfl⟩
theorem dX7_finding_15 : DD cX7_finding 15 (.aload_n 0) 1 16 := ⟨by decide +kernel, rfl⟩
theorem dX7_finding_16 : DD cX7_finding 16 (.getfield 60) 3 19 := ⟨by decide +kernel, rfl⟩
theorem dX7_finding_19 : DD cX7_finding 19 (.iload_n 2) 1 20 := ⟨by decide +kernel, rfl⟩
theorem dX7_finding_20 : DD cX7_finding 20 (.dup2) 1 21 := ⟨by decide +kernel, rfl⟩
theorem dX7_finding_21 : DD cX7_finding 21 (.iaload) 1 22 := ⟨by decide +kernel, rfl⟩
theorem dX7_finding_22 : DD cX7_finding 22 (.iconst 1) 1 23 := ⟨by decide +kernel, rfl⟩
theorem dX7_finding_23 : DD cX7_finding 23 (.iadd) 1 24 := ⟨by decide +kernel, rfl⟩
theorem dX7_finding_24 : DD cX7_finding 24 (.iastore) 1 25 := ⟨by decide +kernel, rfl⟩
theorem dX7_finding_25 : DD cX7_finding 25 (.iload_n 1) 1 26 := ⟨by decide +kernel, rfl⟩
theorem dX7_finding_26 : DD cX7_finding 26 (.ireturn) 1 27 := ⟨by decide +kernel, rfl⟩
theorem dX7_within_0 : DD cX7_within 0 (.iload_n 0) 1 1 := ⟨by decide +kernel, rfl⟩
theorem dX7_within_1 : DD cX7_within 1 (.iload_n 1) 1 2 := ⟨by decide +kernel, rfl⟩
theorem dX7_within_2 : DD cX7_within 2 (.if_icmp .lt 12) 3 5 := ⟨by decide +kernel, rfl⟩
theorem dX7_within_5 : DD cX7_within 5 (.iload_n 0) 1 6 := ⟨by decide +kernel, rfl⟩
theorem dX7_within_6 : DD cX7_within 6 (.iload_n 2) 1 7 := ⟨by decide +kernel, rfl⟩
theorem dX7_within_7 : DD cX7_within 7 (.if_icmp .gt 7) 3 10 := ⟨by decide +kernel, rfl⟩
theorem dX7_within_10 : DD cX7_within 10 (.iconst 1) 1 11 := ⟨by decide +kernel, rfl⟩
theorem dX7_within_11 : DD cX7_within 11 (.goto 4) 3 14 := ⟨by decide +kernel, rfl⟩
theorem dX7_within_14 : DD cX7_within 14 (.iconst 0) 1 15 := ⟨by decide +kernel, rfl⟩
theorem dX7_within_15 : DD cX7_within 15 (.ireturn) 1 16 := ⟨by decide +kernel, rfl⟩
theorem dX7_isKind_0 : DD cX7_isKind 0 (.iload_n 0) 1 1 := ⟨by decide +kernel, rfl⟩
theorem dX7_isKind_1 : DD cX7_isKind 1 (.iconst 0) 1 2 := ⟨by decide +kernel, rfl⟩
theorem dX7_isKind_2 : DD cX7_isKind 2 (.iconst 5) 1 3 := ⟨by decide +kernel, rfl⟩
theorem dX7_isKind_3 : DD cX7_isKind 3 (.invokestatic 68) 3 6 := ⟨by decide +kernel, rfl⟩
theorem dX7_isKind_6 : DD cX7_isKind 6 (.ireturn) 1 7 := ⟨by decide +kernel, rfl⟩
theorem dX7_isSheet_0 : DD cX7_isSheet 0 (.iload_n 0) 1 1 := ⟨by decide +kernel, rfl⟩
theorem dX7_isSheet_1 : DD cX7_isSheet 1 (.iconst 0) 1 2 := ⟨by decide +kernel, rfl⟩
theorem dX7_isSheet_2 : DD cX7_isSheet 2 (.iconst 3) 1 3 := ⟨by decide +kernel, rfl⟩
theorem dX7_isSheet_3 : DD cX7_isSheet 3 (.invokestatic 68) 3 6 := ⟨by decide +kernel, rfl⟩
theorem dX7_isSheet_6 : DD cX7_isSheet 6 (.ireturn) 1 7 := ⟨by decide +kernel, rfl⟩
theorem dX7_isPerson_0 : DD cX7_isPerson 0 (.iload_n 1) 1 1 := ⟨by decide +kernel, rfl⟩
theorem dX7_isPerson_1 : DD cX7_isPerson 1 (.iconst 0) 1 2 := ⟨by decide +kernel, rfl⟩
theorem dX7_isPerson_2 : DD cX7_isPerson 2 (.aload_n 0) 1 3 := ⟨by decide +kernel, rfl⟩
theorem dX7_isPerson_3 : DD cX7_isPerson 3 (.getfield 10) 3 6 := ⟨by decide +kernel, rfl⟩
theorem dX7_isPerson_6 : DD cX7_isPerson 6 (.getfield 77) 3 9 := ⟨by decide +kernel, rfl⟩
theorem dX7_isPerson_9 : DD cX7_isPerson 9 (.iconst 1) 1 10 := ⟨by decide +kernel, rfl⟩
theorem dX7_isPerson_10 : DD cX7_isPerson 10 (.isub) 1 11 := ⟨by decide +kernel, rfl⟩
theorem dX7_isPerson_11 : DD cX7_isPerson 11 (.invokestatic 68) 3 14 := ⟨by decide +kernel, rfl⟩
theorem dX7_isPerson_14 : DD cX7_isPerson 14 (.ireturn) 1 15 := ⟨by decide +kernel, rfl⟩
theorem dX7_isPair_0 : DD cX7_isPair 0 (.aload_n 0) 1 1 := ⟨by decide +kernel, rfl⟩
theorem dX7_isPair_1 : DD cX7_isPair 1 (.iload_n 1) 1 2 := ⟨by decide +kernel, rfl⟩
theorem dX7_isPair_2 : DD cX7_isPair 2 (.invokevirtual 90) 3 5 := ⟨by decide +kernel, rfl⟩
theorem dX7_isPair_5 : DD cX7_isPair 5 (.ifCond .eq 20) 3 8 := ⟨by decide +kernel, rfl⟩
theorem dX7_isPair_8 : DD cX7_isPair 8 (.aload_n 0) 1 9 := ⟨by decide +kernel, rfl⟩
theorem dX7_isPair_9 : DD cX7_isPair 9 (.iload_n 2) 1 10 := ⟨by decide +kernel, rfl⟩
theorem dX7_isPair_10 : DD cX7_isPair 10 (.invokevirtual 90) 3 13 := ⟨by decide +kernel, rfl⟩
theorem dX7_isPair_13 : DD cX7_isPair 13 (.ifCond .eq 12) 3 16 := ⟨by decide +kernel, rfl⟩
theorem dX7_isPair_16 : DD cX7_isPair 16 (.iload_n 1) 1 17 := ⟨by decide +kernel, rfl⟩
theorem dX7_isPair_17 : DD cX7_isPair 17 (.iload_n 2) 1 18 := ⟨by decide +kernel, rfl⟩
theorem dX7_isPair_18 : DD cX7_isPair 18 (.if_icmp .eq 7) 3 21 := ⟨by decide +kernel, rfl⟩
theorem dX7_isPair_21 : DD cX7_isPair 21 (.iconst 1) 1 22 := ⟨by decide +kernel, rfl⟩
theorem dX7_isPair_22 : DD cX7_isPair 22 (.goto 4) 3 25 := ⟨by decide +kernel, rfl⟩
theorem dX7_isPair_25 : DD cX7_isPair 25 (.iconst 0) 1 26 := ⟨by decide +kernel, rfl⟩
theorem dX7_isPair_26 : DD cX7_isPair 26 (.ireturn) 1 27 := ⟨by decide +kernel, rfl⟩
theorem dX7_isSituation_0 : DD cX7_isSituation 0 (.iload_n 0) 1 1 := ⟨by decide +kernel, rfl⟩
theorem dX7_isSituation_1 : DD cX7_isSituation 1 (.sipush (-9999)) 3 4 := ⟨by decide +kernel, rfl⟩
theorem dX7_isSituation_4 : DD cX7_isSituation 4 (.sipush 9999) 3 7 := ⟨by decide +kernel, rfl⟩
theorem dX7_isSituation_7 : DD cX7_isSituation 7 (.invokestatic 68) 3 10 := ⟨by decide +kernel, rfl⟩
theorem dX7_isSituation_10 : DD cX7_isSituation 10 (.ifCond .eq 42) 3 13 := ⟨by decide +kernel, rfl⟩
theorem dX7_isSituation_13 : DD cX7_isSituation 13 (.iload_n 1) 1 14 := ⟨by decide +kernel, rfl⟩
theorem dX7_isSituation_14 : DD cX7_isSituation 14 (.sipush (-999)) 3 17 := ⟨by decide +kernel, rfl⟩
theorem dX7_isSituation_17 : DD cX7_isSituation 17 (.sipush 999) 3 20 := ⟨by decide +kernel, rfl⟩
theorem dX7_isSituation_20 : DD cX7_isSituation 20 (.invokestatic 68) 3 23 := ⟨by decide +kernel, rfl⟩
theorem dX7_isSituation_23 : DD cX7_isSituation 23 (.ifCond .eq 29) 3 26 := ⟨by decide +kernel, rfl⟩
theorem dX7_isSituation_26 : DD cX7_isSituation 26 (.iload_n 2) 1 27 := ⟨by decide +kernel, rfl⟩
theorem dX7_isSituation_27 : DD cX7_isSituation 27 (.iconst 0) 1 28 := ⟨by decide +kernel, rfl⟩
theorem dX7_isSituation_28 : DD cX7_isSituation 28 (.sipush 999) 3 31 := ⟨by decide +kernel, rfl⟩
theorem dX7_isSituation_31 : DD cX7_isSituation 31 (.invokestatic 68) 3 34 := ⟨by decide +kernel, rfl⟩
theorem dX7_isSituation_34 : DD cX7_isSituation 34 (.ifCond .eq 18) 3 37 := ⟨by decide +kernel, rfl⟩
theorem dX7_isSituation_37 : DD cX7_isSituation 37 (.iload_n 3) 1 38 := ⟨by decide +kernel, rfl⟩
theorem dX7_isSituation_38 : DD cX7_isSituation 38 (.iconst 0) 1 39 := ⟨by decide +kernel, rfl⟩
theorem dX7_isSituation_39 : DD cX7_isSituation 39 (.sipush 999) 3 42 := ⟨by decide +kernel, rfl⟩
theorem dX7_isSituation_42 : DD cX7_isSituation 42 (.invokestatic 68) 3 45 := ⟨by decide +kernel, rfl⟩
theorem dX7_isSituation_45 : DD cX7_isSituation 45 (.ifCond .eq 7) 3 48 := ⟨by decide +kernel, rfl⟩
theorem dX7_isSituation_48 : DD cX7_isSituation 48 (.iconst 1) 1 49 := ⟨by decide +kernel, rfl⟩
theorem dX7_isSituation_49 : DD cX7_isSituation 49 (.goto 4) 3 52 := ⟨by decide +kernel, rfl⟩
theorem dX7_isSituation_52 : DD cX7_isSituation 52 (.iconst 0) 1 53 := ⟨by decide +kernel, rfl⟩
theorem dX7_isSituation_53 : DD cX7_isSituation 53 (.ireturn) 1 54 := ⟨by decide +kernel, rfl⟩
theorem dX7_maySet_0 : DD cX7_maySet 0 (.iload_n 1) 1 1 := ⟨by decide +kernel, rfl⟩
theorem dX7_maySet_1 : DD cX7_maySet 1 (.tableswitch 88 1 6 #[39, 48, 56, 64, 88, 73]) 39 40 := ⟨by decide +kernel, rfl⟩
theorem dX7_maySet_40 : DD cX7_maySet 40 (.iload_n 2) 1 41 := ⟨by decide +kernel, rfl⟩
theorem dX7_maySet_41 : DD cX7_maySet 41 (.iconst 1) 1 42 := ⟨by decide +kernel, rfl⟩
theorem dX7_maySet_42 : DD cX7_maySet 42 (.sipush 299) 3 45 := ⟨by decide +kernel, rfl⟩
theorem dX7_maySet_45 : DD cX7_maySet 45 (.invokestatic 68) 3 48 := ⟨by decide +kernel, rfl⟩
theorem dX7_maySet_48 : DD cX7_maySet 48 (.ireturn) 1 49 := ⟨by decide +kernel, rfl⟩
theorem dX7_maySet_49 : DD cX7_maySet 49 (.iload_n 2) 1 50 := ⟨by decide +kernel, rfl⟩
theorem dX7_maySet_50 : DD cX7_maySet 50 (.iconst 0) 1 51 := ⟨by decide +kernel, rfl⟩
theorem dX7_maySet_51 : DD cX7_maySet 51 (.bipush 9) 2 53 := ⟨by decide +kernel, rfl⟩
theorem dX7_maySet_53 : DD cX7_maySet 53 (.invokestatic 68) 3 56 := ⟨by decide +kernel, rfl⟩
theorem dX7_maySet_56 : DD cX7_maySet 56 (.ireturn) 1 57 := ⟨by decide +kernel, rfl⟩
theorem dX7_maySet_57 : DD cX7_maySet 57 (.iload_n 2) 1 58 := ⟨by decide +kernel, rfl⟩
theorem dX7_maySet_58 : DD cX7_maySet 58 (.iconst 1) 1 59 := ⟨by decide +kernel, rfl⟩
theorem dX7_maySet_59 : DD cX7_maySet 59 (.bipush 99) 2 61 := ⟨by decide +kernel, rfl⟩
theorem dX7_maySet_61 : DD cX7_maySet 61 (.invokestatic 68) 3 64 := ⟨by decide +kernel, rfl⟩
theorem dX7_maySet_64 : DD cX7_maySet 64 (.ireturn) 1 65 := ⟨by decide +kernel, rfl⟩
theorem dX7_maySet_65 : DD cX7_maySet 65 (.iload_n 2) 1 66 := ⟨by decide +kernel, rfl⟩
theorem dX7_maySet_66 : DD cX7_maySet 66 (.iconst 0) 1 67 := ⟨by decide +kernel, rfl⟩
theorem dX7_maySet_67 : DD cX7_maySet 67 (.sipush 999) 3 70 := ⟨by decide +kernel, rfl⟩
theorem dX7_maySet_70 : DD cX7_maySet 70 (.invokestatic 68) 3 73 := ⟨by decide +kernel, rfl⟩
theorem dX7_maySet_73 : DD cX7_maySet 73 (.ireturn) 1 74 := ⟨by decide +kernel, rfl⟩
theorem dX7_maySet_74 : DD cX7_maySet 74 (.iload_n 2) 1 75 := ⟨by decide +kernel, rfl⟩
theorem dX7_maySet_75 : DD cX7_maySet 75 (.iconst (-1)) 1 76 := ⟨by decide +kernel, rfl⟩
theorem dX7_maySet_76 : DD cX7_maySet 76 (.aload_n 0) 1 77 := ⟨by decide +kernel, rfl⟩
theorem dX7_maySet_77 : DD cX7_maySet 77 (.getfield 10) 3 80 := ⟨by decide +kernel, rfl⟩
theorem dX7_maySet_80 : DD cX7_maySet 80 (.getfield 242) 3 83 := ⟨by decide +kernel, rfl⟩
theorem dX7_maySet_83 : DD cX7_maySet 83 (.iconst 1) 1 84 := ⟨by decide +kernel, rfl⟩
theorem dX7_maySet_84 : DD cX7_maySet 84 (.isub) 1 85 := ⟨by decide +kernel, rfl⟩
theorem dX7_maySet_85 : DD cX7_maySet 85 (.invokestatic 68) 3 88 := ⟨by decide +kernel, rfl⟩
theorem dX7_maySet_88 : DD cX7_maySet 88 (.ireturn) 1 89 := ⟨by decide +kernel, rfl⟩
theorem dX7_maySet_89 : DD cX7_maySet 89 (.iconst 0) 1 90 := ⟨by decide +kernel, rfl⟩
theorem dX7_maySet_90 : DD cX7_maySet 90 (.ireturn) 1 91 := ⟨by decide +kernel, rfl⟩
theorem dX7_isUnder_0 : DD cX7_isUnder 0 (.iload_n 0) 1 1 := ⟨by decide +kernel, rfl⟩
theorem dX7_isUnder_1 : DD cX7_isUnder 1 (.istore_n 2) 1 2 := ⟨by decide +kernel, rfl⟩
theorem dX7_isUnder_2 : DD cX7_isUnder 2 (.iconst 0) 1 3 := ⟨by decide +kernel, rfl⟩
theorem dX7_isUnder_3 : DD cX7_isUnder 3 (.istore_n 3) 1 4 := ⟨by decide +kernel, rfl⟩
theorem dX7_isUnder_4 : DD cX7_isUnder 4 (.iload_n 3) 1 5 := ⟨by decide +kernel, rfl⟩
theorem dX7_isUnder_5 : DD cX7_isUnder 5 (.iconst 5) 1 6 := ⟨by decide +kernel, rfl⟩
theorem dX7_isUnder_6 : DD cX7_isUnder 6 (.if_icmp .gt 29) 3 9 := ⟨by decide +kernel, rfl⟩
theorem dX7_isUnder_9 : DD cX7_isUnder 9 (.iload_n 2) 1 10 := ⟨by decide +kernel, rfl⟩
theorem dX7_isUnder_10 : DD cX7_isUnder 10 (.invokestatic 64) 3 13 := ⟨by decide +kernel, rfl⟩
theorem dX7_isUnder_13 : DD cX7_isUnder 13 (.ifCond .eq 22) 3 16 := ⟨by decide +kernel, rfl⟩
theorem dX7_isUnder_16 : DD cX7_isUnder 16 (.iload_n 2) 1 17 := ⟨by decide +kernel, rfl⟩
theorem dX7_isUnder_17 : DD cX7_isUnder 17 (.iload_n 1) 1 18 := ⟨by decide +kernel, rfl⟩
theorem dX7_isUnder_18 : DD cX7_isUnder 18 (.if_icmp .ne 5) 3 21 := ⟨by decide +kernel, rfl⟩
theorem dX7_isUnder_21 : DD cX7_isUnder 21 (.iconst 1) 1 22 := ⟨by decide +kernel, rfl⟩
theorem dX7_isUnder_22 : DD cX7_isUnder 22 (.ireturn) 1 23 := ⟨by decide +kernel, rfl⟩
theorem dX7_isUnder_23 : DD cX7_isUnder 23 (.getstatic 301) 3 26 := ⟨by decide +kernel, rfl⟩
theorem dX7_isUnder_26 : DD cX7_isUnder 26 (.iload_n 2) 1 27 := ⟨by decide +kernel, rfl⟩
theorem dX7_isUnder_27 : DD cX7_isUnder 27 (.iaload) 1 28 := ⟨by decide +kernel, rfl⟩
theorem dX7_isUnder_28 : DD cX7_isUnder 28 (.istore_n 2) 1 29 := ⟨by decide +kernel, rfl⟩
theorem dX7_isUnder_29 : DD cX7_isUnder 29 (.iinc 3 1) 3 32 := ⟨by decide +kernel, rfl⟩
theorem dX7_isUnder_32 : DD cX7_isUnder 32 (.goto (-28)) 3 35 := ⟨by decide +kernel, rfl⟩
theorem dX7_isUnder_35 : DD cX7_isUnder 35 (.iconst 0) 1 36 := ⟨by decide +kernel, rfl⟩
theorem dX7_isUnder_36 : DD cX7_isUnder 36 (.ireturn) 1 37 := ⟨by decide +kernel, rfl⟩
theorem dX7_endBout_0 : DD cX7_endBout 0 (.iload_n 3) 1 1 := ⟨by decide +kernel, rfl⟩
theorem dX7_endBout_1 : DD cX7_endBout 1 (.iconst 1) 1 2 := ⟨by decide +kernel, rfl⟩
theorem dX7_endBout_2 : DD cX7_endBout 2 (.if_icmp .eq 8) 3 5 := ⟨by decide +kernel, rfl⟩
theorem dX7_endBout_5 : DD cX7_endBout 5 (.iload_n 3) 1 6 := ⟨by decide +kernel, rfl⟩
theorem dX7_endBout_6 : DD cX7_endBout 6 (.iconst 3) 1 7 := ⟨by decide +kernel, rfl⟩
theorem dX7_endBout_7 : DD cX7_endBout 7 (.if_icmp .ne 13) 3 10 := ⟨by decide +kernel, rfl⟩
theorem dX7_endBout_10 : DD cX7_endBout 10 (.aload_n 1) 1 11 := ⟨by decide +kernel, rfl⟩
theorem dX7_endBout_11 : DD cX7_endBout 11 (.dup) 1 12 := ⟨by decide +kernel, rfl⟩
theorem dX7_endBout_12 : DD cX7_endBout 12 (.getfield 114) 3 15 := ⟨by decide +kernel, rfl⟩
theorem dX7_endBout_15 : DD cX7_endBout 15 (.iconst 1) 1 16 := ⟨by decide +kernel, rfl⟩
theorem dX7_endBout_16 : DD cX7_endBout 16 (.iadd) 1 17 := ⟨by decide +kernel, rfl⟩
theorem dX7_endBout_17 : DD cX7_endBout 17 (.putfield 114) 3 20 := ⟨by decide +kernel, rfl⟩
theorem dX7_endBout_20 : DD cX7_endBout 20 (.iload_n 3) 1 21 := ⟨by decide +kernel, rfl⟩
theorem dX7_endBout_21 : DD cX7_endBout 21 (.iconst 2) 1 22 := ⟨by decide +kernel, rfl⟩
theorem dX7_endBout_22 : DD cX7_endBout 22 (.if_icmp .eq 8) 3 25 := ⟨by decide +kernel, rfl⟩
theorem dX7_endBout_25 : DD cX7_endBout 25 (.iload_n 3) 1 26 := ⟨by decide +kernel, rfl⟩
theorem dX7_endBout_26 : DD cX7_endBout 26 (.iconst 3) 1 27 := ⟨by decide +kernel, rfl⟩
theorem dX7_endBout_27 : DD cX7_endBout 27 (.if_icmp .ne 13) 3 30 := ⟨by decide +kernel, rfl⟩
theorem dX7_endBout_30 : DD cX7_endBout 30 (.aload_n 2) 1 31 := ⟨by decide +kernel, rfl⟩
theorem dX7_endBout_31 : DD cX7_endBout 31 (.dup) 1 32 := ⟨by decide +kernel, rfl⟩
theorem dX7_endBout_32 : DD cX7_endBout 32 (.getfield 114) 3 35 := ⟨by decide +kernel, rfl⟩
theorem dX7_endBout_35 : DD cX7_endBout 35 (.iconst 1) 1 36 := ⟨by decide +kernel, rfl⟩
theorem dX7_endBout_36 : DD cX7_endBout 36 (.iadd) 1 37 := ⟨by decide +kernel, rfl⟩
theorem dX7_endBout_37 : DD cX7_endBout 37 (.putfield 114) 3 40 := ⟨by decide +kernel, rfl⟩
theorem dX7_endBout_40 : DD cX7_endBout 40 (.aload_n 0) 1 41 := ⟨by decide +kernel, rfl⟩
theorem dX7_endBout_41 : DD cX7_endBout 41 (.getfield 10) 3 44 := ⟨by decide +kernel, rfl⟩
theorem dX7_endBout_44 : DD cX7_endBout 44 (.iconst 0) 1 45 := ⟨by decide +kernel, rfl⟩
theorem dX7_endBout_45 : DD cX7_endBout 45 (.putfield 141) 3 48 := ⟨by decide +kernel, rfl⟩
theorem dX7_endBout_48 : DD cX7_endBout 48 (.aload_n 0) 1 49 := ⟨by decide +kernel, rfl⟩
theorem dX7_endBout_49 : DD cX7_endBout 49 (.getfield 10) 3 52 := ⟨by decide +kernel, rfl⟩
theorem dX7_endBout_52 : DD cX7_endBout 52 (.iload_n 3) 1 53 := ⟨by decide +kernel, rfl⟩
theorem dX7_endBout_53 : DD cX7_endBout 53 (.putfield 194) 3 56 := ⟨by decide +kernel, rfl⟩
theorem dX7_endBout_56 : DD cX7_endBout 56 (.return_) 1 57 := ⟨by decide +kernel, rfl⟩
theorem dX7_startAhead_0 : DD cX7_startAhead 0 (.aload_n 0) 1 1 := ⟨by decide +kernel, rfl⟩
theorem dX7_startAhead_1 : DD cX7_startAhead 1 (.getfield 36) 3 4 := ⟨by decide +kernel, rfl⟩
theorem dX7_startAhead_4 : DD cX7_startAhead 4 (.aload_n 0) 1 5 := ⟨by decide +kernel, rfl⟩
theorem dX7_startAhead_5 : DD cX7_startAhead 5 (.getfield 10) 3 8 := ⟨by decide +kernel, rfl⟩
theorem dX7_startAhead_8 : DD cX7_startAhead 8 (.getfield 150) 3 11 := ⟨by decide +kernel, rfl⟩
theorem dX7_startAhead_11 : DD cX7_startAhead 11 (.getfield 197) 3 14 := ⟨by decide +kernel, rfl⟩
theorem dX7_startAhead_14 : DD cX7_startAhead 14 (.putfield 197) 3 17 := ⟨by decide +kernel, rfl⟩
theorem dX7_startAhead_17 : DD cX7_startAhead 17 (.aload_n 0) 1 18 := ⟨by decide +kernel, rfl⟩
theorem dX7_startAhead_18 : DD cX7_startAhead 18 (.getfield 36) 3 21 := ⟨by decide +kernel, rfl⟩
theorem dX7_startAhead_21 : DD cX7_startAhead 21 (.aload_n 1) 1 22 := ⟨by decide +kernel, rfl⟩
theorem dX7_startAhead_22 : DD cX7_startAhead 22 (.aload_n 2) 1 23 := ⟨by decide +kernel, rfl⟩
theorem dX7_startAhead_23 : DD cX7_startAhead 23 (.invokevirtual 153) 3 26 := ⟨by decide +kernel, rfl⟩
theorem dX7_startAhead_26 : DD cX7_startAhead 26 (.return_) 1 27 := ⟨by decide +kernel, rfl⟩
theorem dX7_beatenBy_0 : DD cX7_beatenBy 0 (.iconst 0) 1 1 := ⟨by decide +kernel, rfl⟩
theorem dX7_beatenBy_1 : DD cX7_beatenBy 1 (.istore_n 3) 1 2 := ⟨by decide +kernel, rfl⟩
theorem dX7_beatenBy_2 : DD cX7_beatenBy 2 (.aload_n 0) 1 3 := ⟨by decide +kernel, rfl⟩
theorem dX7_beatenBy_3 : DD cX7_beatenBy 3 (.getfield 10) 3 6 := ⟨by decide +kernel, rfl⟩
theorem dX7_beatenBy_6 : DD cX7_beatenBy 6 (.getfield 82) 3 9 := ⟨by decide +kernel, rfl⟩
theorem dX7_beatenBy_9 : DD cX7_beatenBy 9 (.iload_n 1) 1 10 := ⟨by decide +kernel, rfl⟩
theorem dX7_beatenBy_10 : DD cX7_beatenBy 10 (.aaload) 1 11 := ⟨by decide +kernel, rfl⟩
theorem dX7_beatenBy_11 : DD cX7_beatenBy 11 (.astore 4) 2 13 := ⟨by decide +kernel, rfl⟩
theorem dX7_beatenBy_13 : DD cX7_beatenBy 13 (.iconst 0) 1 14 := ⟨by decide +kernel, rfl⟩
theorem dX7_beatenBy_14 : DD cX7_beatenBy 14 (.istore 5) 2 16 := ⟨by decide +kernel, rfl⟩
theorem dX7_beatenBy_16 : DD cX7_beatenBy 16 (.iload 5) 2 18 := ⟨by decide +kernel, rfl⟩
theorem dX7_beatenBy_18 : DD cX7_beatenBy 18 (.aload_n 0) 1 19 := ⟨by decide +kernel, rfl⟩
theorem dX7_beatenBy_19 : DD cX7_beatenBy 19 (.getfield 10) 3 22 := ⟨by decide +kernel, rfl⟩
theorem dX7_beatenBy_22 : DD cX7_beatenBy 22 (.getfield 77) 3 25 := ⟨by decide +kernel, rfl⟩
theorem dX7_beatenBy_25 : DD cX7_beatenBy 25 (.if_icmp .ge 78) 3 28 := ⟨by decide +kernel, rfl⟩
theorem dX7_beatenBy_28 : DD cX7_beatenBy 28 (.iload 5) 2 30 := ⟨by decide +kernel, rfl⟩
theorem dX7_beatenBy_30 : DD cX7_beatenBy 30 (.iload_n 1) 1 31 := ⟨by decide +kernel, rfl⟩
theorem dX7_beatenBy_31 : DD cX7_beatenBy 31 (.if_icmp .eq 66) 3 34 := ⟨by decide +kernel, rfl⟩
theorem dX7_beatenBy_34 : DD cX7_beatenBy 34 (.aload_n 0) 1 35 := ⟨by decide +kernel, rfl⟩
theorem dX7_beatenBy_35 : DD cX7_beatenBy 35 (.aload 4) 2 37 := ⟨by decide +kernel, rfl⟩
theorem dX7_beatenBy_37 : DD cX7_beatenBy 37 (.aload_n 0) 1 38 := ⟨by decide +kernel, rfl⟩
theorem dX7_beatenBy_38 : DD cX7_beatenBy 38 (.getfield 10) 3 41 := ⟨by decide +kernel, rfl⟩
theorem dX7_beatenBy_41 : DD cX7_beatenBy 41 (.getfield 82) 3 44 := ⟨by decide +kernel, rfl⟩
theorem dX7_beatenBy_44 : DD cX7_beatenBy 44 (.iload 5) 2 46 := ⟨by decide +kernel, rfl⟩
theorem dX7_beatenBy_46 : DD cX7_beatenBy 46 (.aaload) 1 47 := ⟨by decide +kernel, rfl⟩
theorem dX7_beatenBy_47 : DD cX7_beatenBy 47 (.invokevirtual 200) 3 50 := ⟨by decide +kernel, rfl⟩
theorem dX7_beatenBy_50 : DD cX7_beatenBy 50 (.aload_n 0) 1 51 := ⟨by decide +kernel, rfl⟩
theorem dX7_beatenBy_51 : DD cX7_beatenBy 51 (.getfield 36) 3 54 := ⟨by decide +kernel, rfl⟩
theorem dX7_beatenBy_54 : DD cX7_beatenBy 54 (.aload 4) 2 56 := ⟨by decide +kernel, rfl⟩
theorem dX7_beatenBy_56 : DD cX7_beatenBy 56 (.aload_n 0) 1 57 := ⟨by decide +kernel, rfl⟩
theorem dX7_beatenBy_57 : DD cX7_beatenBy 57 (.getfield 10) 3 60 := ⟨by decide +kernel, rfl⟩
theorem dX7_beatenBy_60 : DD cX7_beatenBy 60 (.getfield 82) 3 63 := ⟨by decide +kernel, rfl⟩
theorem dX7_beatenBy_63 : DD cX7_beatenBy 63 (.iload 5) 2 65 := ⟨by decide +kernel, rfl⟩
theorem dX7_beatenBy_65 : DD cX7_beatenBy 65 (.aaload) 1 66 := ⟨by decide +kernel, rfl⟩
theorem dX7_beatenBy_66 : DD cX7_beatenBy 66 (.iload_n 2) 1 67 := ⟨by decide +kernel, rfl⟩
theorem dX7_beatenBy_67 : DD cX7_beatenBy 67 (.invokevirtual 159) 3 70 := ⟨by decide +kernel, rfl⟩
theorem dX7_beatenBy_70 : DD cX7_beatenBy 70 (.iconst 2) 1 71 := ⟨by decide +kernel, rfl⟩
theorem dX7_beatenBy_71 : DD cX7_beatenBy 71 (.if_icmp .ne 7) 3 74 := ⟨by decide +kernel, rfl⟩
theorem dX7_beatenBy_74 : DD cX7_beatenBy 74 (.iconst 1) 1 75 := ⟨by decide +kernel, rfl⟩
theorem dX7_beatenBy_75 : DD cX7_beatenBy 75 (.goto 4) 3 78 := ⟨by decide +kernel, rfl⟩
theorem dX7_beatenBy_78 : DD cX7_beatenBy 78 (.iconst 0) 1 79 := ⟨by decide +kernel, rfl⟩
theorem dX7_beatenBy_79 : DD cX7_beatenBy 79 (.istore 6) 2 81 := ⟨by decide +kernel, rfl⟩
theorem dX7_beatenBy_81 : DD cX7_beatenBy 81 (.iload_n 3) 1 82 := ⟨by decide +kernel, rfl⟩
theorem dX7_beatenBy_82 : DD cX7_beatenBy 82 (.iload 6) 2 84 := ⟨by decide +kernel, rfl⟩
theorem dX7_beatenBy_84 : DD cX7_beatenBy 84 (.ifCond .eq 10) 3 87 := ⟨by decide +kernel, rfl⟩
theorem dX7_beatenBy_87 : DD cX7_beatenBy 87 (.iconst 1) 1 88 := ⟨by decide +kernel, rfl⟩
theorem dX7_beatenBy_88 : DD cX7_beatenBy 88 (.iload 5) 2 90 := ⟨by decide +kernel, rfl⟩
theorem dX7_beatenBy_90 : DD cX7_beatenBy 90 (.ishl) 1 91 := ⟨by decide +kernel, rfl⟩
theorem dX7_beatenBy_91 : DD cX7_beatenBy 91 (.goto 4) 3 94 := ⟨by decide +kernel, rfl⟩
theorem dX7_beatenBy_94 : DD cX7_beatenBy 94 (.iconst 0) 1 95 := ⟨by decide +kernel, rfl⟩
theorem dX7_beatenBy_95 : DD cX7_beatenBy 95 (.ior) 1 96 := ⟨by decide +kernel, rfl⟩
theorem dX7_beatenBy_96 : DD cX7_beatenBy 96 (.istore_n 3) 1 97 := ⟨by decide +kernel, rfl⟩
theorem dX7_beatenBy_97 : DD cX7_beatenBy 97 (.iinc 5 1) 3 100 := ⟨by decide +kernel, rfl⟩
theorem dX7_beatenBy_100 : DD cX7_beatenBy 100 (.goto (-84)) 3 103 := ⟨by decide +kernel, rfl⟩
theorem dX7_beatenBy_103 : DD cX7_beatenBy 103 (.iload_n 3) 1 104 := ⟨by decide +kernel, rfl⟩
theorem dX7_beatenBy_104 : DD cX7_beatenBy 104 (.ireturn) 1 105 := ⟨by decide +kernel, rfl⟩
theorem dX7_sheetFinding_0 : DD cX7_sheetFinding 0 (.iload_n 1) 1 1 := ⟨by decide +kernel, rfl⟩
theorem dX7_sheetFinding_1 : DD cX7_sheetFinding 1 (.invokestatic 259) 3 4 := ⟨by decide +kernel, rfl⟩
theorem dX7_sheetFinding_4 : DD cX7_sheetFinding 4 (.ifCond .ne 6) 3 7 := ⟨by decide +kernel, rfl⟩
theorem dX7_sheetFinding_7 : DD cX7_sheetFinding 7 (.ldc 72) 2 9 := ⟨by decide +kernel, rfl⟩
theorem dX7_sheetFinding_9 : DD cX7_sheetFinding 9 (.ireturn) 1 10 := ⟨by decide +kernel, rfl⟩
theorem dX7_sheetFinding_10 : DD cX7_sheetFinding 10 (.aload_n 0) 1 11 := ⟨by decide +kernel, rfl⟩
theorem dX7_sheetFinding_11 : DD cX7_sheetFinding 11 (.getfield 56) 3 14 := ⟨by decide +kernel, rfl⟩
theorem dX7_sheetFinding_14 : DD cX7_sheetFinding 14 (.iload_n 1) 1 15 := ⟨by decide +kernel, rfl⟩
theorem dX7_sheetFinding_15 : DD cX7_sheetFinding 15 (.aaload) 1 16 := ⟨by decide +kernel, rfl⟩
theorem dX7_sheetFinding_16 : DD cX7_sheetFinding 16 (.invokevirtual 265) 3 19 := ⟨by decide +kernel, rfl⟩
theorem dX7_sheetFinding_19 : DD cX7_sheetFinding 19 (.ifCond .eq 7) 3 22 := ⟨by decide +kernel, rfl⟩
theorem dX7_sheetFinding_22 : DD cX7_sheetFinding 22 (.ldc_w 269) 3 25 := ⟨by decide +kernel, rfl⟩
theorem dX7_sheetFinding_25 : DD cX7_sheetFinding 25 (.ireturn) 1 26 := ⟨by decide +kernel, rfl⟩
theorem dX7_sheetFinding_26 : DD cX7_sheetFinding 26 (.aload_n 0) 1 27 := ⟨by decide +kernel, rfl⟩
theorem dX7_sheetFinding_27 : DD cX7_sheetFinding 27 (.iload_n 2) 1 28 := ⟨by decide +kernel, rfl⟩
theorem dX7_sheetFinding_28 : DD cX7_sheetFinding 28 (.iload_n 3) 1 29 := ⟨by decide +kernel, rfl⟩
theorem dX7_sheetFinding_29 : DD cX7_sheetFinding 29 (.invokevirtual 138) 3 32 := ⟨by decide +kernel, rfl⟩
theorem dX7_sheetFinding_32 : DD cX7_sheetFinding 32 (.ifCond .eq 7) 3 35 := ⟨by decide +kernel, rfl⟩
theorem dX7_sheetFinding_35 : DD cX7_sheetFinding 35 (.iconst 0) 1 36 := ⟨by decide +kernel, rfl⟩
theorem dX7_sheetFinding_36 : DD cX7_sheetFinding 36 (.goto 5) 3 39 := ⟨by decide +kernel, rfl⟩
theorem dX7_sheetFinding_39 : DD cX7_sheetFinding 39 (.ldc 72) 2 41 := ⟨by decide +kernel, rfl⟩
theorem dX7_sheetFinding_41 : DD cX7_sheetFinding 41 (.ireturn) 1 42 := ⟨by decide +kernel, rfl⟩
theorem dX7_atMost_0 : DD cX7_atMost 0 (.iload_n 0) 1 1 := ⟨by decide +kernel, rfl⟩
theorem dX7_atMost_1 : DD cX7_atMost 1 (.iload_n 1) 1 2 := ⟨by decide +kernel, rfl⟩
theorem dX7_atMost_2 : DD cX7_atMost 2 (.if_icmp .le 5) 3 5 := ⟨by decide +kernel, rfl⟩
theorem dX7_atMost_5 : DD cX7_atMost 5 (.iload_n 1) 1 6 := ⟨by decide +kernel, rfl⟩
theorem dX7_atMost_6 : DD cX7_atMost 6 (.ireturn) 1 7 := ⟨by decide +kernel, rfl⟩
theorem dX7_atMost_7 : DD cX7_atMost 7 (.iload_n 0) 1 8 := ⟨by decide +kernel, rfl⟩
theorem dX7_atMost_8 : DD cX7_atMost 8 (.iload_n 1) 1 9 := ⟨by decide +kernel, rfl⟩
theorem dX7_atMost_9 : DD cX7_atMost 9 (.ineg) 1 10 := ⟨by decide +kernel, rfl⟩
theorem dX7_atMost_10 : DD cX7_atMost 10 (.if_icmp .ge 8) 3 13 := ⟨by decide +kernel, rfl⟩
theorem dX7_atMost_13 : DD cX7_atMost 13 (.iload_n 1) 1 14 := ⟨by decide +kernel, rfl⟩
theorem dX7_atMost_14 : DD cX7_atMost 14 (.ineg) 1 15 := ⟨by decide +kernel, rfl⟩
theorem dX7_atMost_15 : DD cX7_atMost 15 (.goto 4) 3 18 := ⟨by decide +kernel, rfl⟩
theorem dX7_atMost_18 : DD cX7_atMost 18 (.iload_n 0) 1 19 := ⟨by decide +kernel, rfl⟩
theorem dX7_atMost_19 : DD cX7_atMost 19 (.ireturn) 1 20 := ⟨by decide +kernel, rfl⟩
end
section
theorem dX8_init_0 : DD cX8_init 0 (.aload_n 0) 1 1 := ⟨by decide +kernel, rfl⟩
theorem dX8_init_1 : DD cX8_init 1 (.invokespecial 3) 3 4 := ⟨by decide +kernel, rfl⟩
theorem dX8_init_4 : DD cX8_init 4 (.aload_n 0) 1 5 := ⟨by decide +kernel, rfl⟩
theorem dX8_init_5 : DD cX8_init 5 (.sipush 260) 3 8 := ⟨by decide +kernel, rfl⟩
theorem dX8_init_8 : DD cX8_init 8 (.newarray .int) 2 10 := ⟨by decide +kernel, rfl⟩
theorem dX8_init_10 : DD cX8_init 10 (.putfield 9) 3 13 := ⟨by decide +kernel, rfl⟩
theorem dX8_init_13 : DD cX8_init 13 (.aload_n 0) 1 14 := ⟨by decide +kernel, rfl⟩
theorem dX8_init_14 : DD cX8_init 14 (.sipush 260) 3 17 := ⟨by decide +kernel, rfl⟩
theorem dX8_init_17 : DD cX8_init 17 (.newarray .int) 2 19 := ⟨by decide +kernel, rfl⟩
theorem dX8_init_19 : DD cX8_init 19 (.putfield 13) 3 22 := ⟨by decide +kernel, rfl⟩
theorem dX8_init_22 : DD cX8_init 22 (.aload_n 0) 1 23 := ⟨by decide +kernel, rfl⟩
theorem dX8_init_23 : DD cX8_init 23 (.sipush 260) 3 26 := ⟨by decide +kernel, rfl⟩
theorem dX8_init_26 : DD cX8_init 26 (.newarray .int) 2 28 := ⟨by decide +kernel, rfl⟩
theorem dX8_init_28 : DD cX8_init 28 (.putfield 16) 3 31 := ⟨by decide +kernel, rfl⟩
theorem dX8_init_31 : DD cX8_init 31 (.aload_n 0) 1 32 := ⟨by decide +kernel, rfl⟩
theorem dX8_init_32 : DD cX8_init 32 (.bipush 7) 2 34 := ⟨by decide +kernel, rfl⟩
theorem dX8_init_34 : DD cX8_init 34 (.newarray .int) 2 36 := ⟨by decide +kernel, rfl⟩
theorem dX8_init_36 : DD cX8_init 36 (.putfield 19) 3 39 := ⟨by decide +kernel, rfl⟩
theorem dX8_init_39 : DD cX8_init 39 (.aload_n 0) 1 40 := ⟨by decide +kernel, rfl⟩
theorem dX8_init_40 : DD cX8_init 40 (.bipush 100) 2 42 := ⟨by decide +kernel, rfl⟩
theorem dX8_init_42 : DD cX8_init 42 (.newarray .int) 2 44 := ⟨by decide +kernel, rfl⟩
theorem dX8_init_44 : DD cX8_init 44 (.putfield 22) 3 47 := ⟨by decide +kernel, rfl⟩
theorem dX8_init_47 : DD cX8_init 47 (.aload_n 0) 1 48 := ⟨by decide +kernel, rfl⟩
theorem dX8_init_48 : DD cX8_init 48 (.iconst 4) 1 49 := ⟨by decide +kernel, rfl⟩
theorem dX8_init_49 : DD cX8_init 49 (.newarray .int) 2 51 := ⟨by decide +kernel, rfl⟩
theorem dX8_init_51 : DD cX8_init 51 (.putfield 25) 3 54 := ⟨by decide +kernel, rfl⟩
theorem dX8_init_54 : DD cX8_init 54 (.aload_n 0) 1 55 := ⟨by decide +kernel, rfl⟩
theorem dX8_init_55 : DD cX8_init 55 (.iconst 4) 1 56 := ⟨by decide +kernel, rfl⟩
theorem dX8_init_56 : DD cX8_init 56 (.newarray .int) 2 58 := ⟨by decide +kernel, rfl⟩
theorem dX8_init_58 : DD cX8_init 58 (.putfield 28) 3 61 := ⟨by decide +kernel, rfl⟩
theorem dX8_init_61 : DD cX8_init 61 (.aload_n 0) 1 62 := ⟨by decide +kernel, rfl⟩
theorem dX8_init_62 : DD cX8_init 62 (.sipush 160) 3 65 := ⟨by decide +kernel, rfl⟩
theorem dX8_init_65 : DD cX8_init 65 (.newarray .long) 2 67 := ⟨by decide +kernel, rfl⟩
theorem dX8_init_67 : DD cX8_init 67 (.putfield 31) 3 70 := ⟨by decide +kernel, rfl⟩
theorem dX8_init_70 : DD cX8_init 70 (.aload_n 0) 1 71 := ⟨by decide +kernel, rfl⟩
theorem dX8_init_71 : DD cX8_init 71 (.bipush 40) 2 73 := ⟨by decide +kernel, rfl⟩
theorem dX8_init_73 : DD cX8_init 73 (.newarray .long) 2 75 := ⟨by decide +kernel, rfl⟩
theorem dX8_init_75 : DD cX8_init 75 (.putfield 35) 3 78 := ⟨by decide +kernel, rfl⟩
theorem dX8_init_78 : DD cX8_init 78 (.aload_n 0) 1 79 := ⟨by decide +kernel, rfl⟩
theorem dX8_init_79 : DD cX8_init 79 (.getfield 9) 3 82 := ⟨by decide +kernel, rfl⟩
theorem dX8_init_82 : DD cX8_init 82 (.bipush 10) 2 84 := ⟨by decide +kernel, rfl⟩
theorem dX8_init_84 : DD cX8_init 84 (.bipush 15) 2 86 := ⟨by decide +kernel, rfl⟩
theorem dX8_init_86 : DD cX8_init 86 (.iastore) 1 87 := ⟨by decide +kernel, rfl⟩
theorem dX8_init_87 : DD cX8_init 87 (.aload_n 0) 1 88 := ⟨by decide +kernel, rfl⟩
theorem dX8_init_88 : DD cX8_init 88 (.getfield 9) 3 91 := ⟨by decide +kernel, rfl⟩
theorem dX8_init_91 : DD cX8_init 91 (.bipush 11) 2 93 := ⟨by decide +kernel, rfl⟩
theorem dX8_init_93 : DD cX8_init 93 (.iconst 5) 1 94 := ⟨by decide +kernel, rfl⟩
theorem dX8_init_94 : DD cX8_init 94 (.iastore) 1 95 := ⟨by decide +kernel, rfl⟩
theorem dX8_init_95 : DD cX8_init 95 (.aload_n 0) 1 96 := ⟨by decide +kernel, rfl⟩
theorem dX8_init_96 : DD cX8_init 96 (.getfield 9) 3 99 := ⟨by decide +kernel, rfl⟩
theorem dX8_init_99 : DD cX8_init 99 (.bipush 12) 2 101 := ⟨by decide +kernel, rfl⟩
theorem dX8_init_101 : DD cX8_init 101 (.iconst 3) 1 102 := ⟨by decide +kernel, rfl⟩
theorem dX8_init_102 : DD cX8_init 102 (.iastore) 1 103 := ⟨by decide +kernel, rfl⟩
theorem dX8_init_103 : DD cX8_init 103 (.aload_n 0) 1 104 := ⟨by decide +kernel, rfl⟩
theorem dX8_init_104 : DD cX8_init 104 (.getfield 9) 3 107 := ⟨by decide +kernel, rfl⟩
theorem dX8_init_107 : DD cX8_init 107 (.bipush 13) 2 109 := ⟨by decide +kernel, rfl⟩
theorem dX8_init_109 : DD cX8_init 109 (.bipush 60) 2 111 := ⟨by decide +kernel, rfl⟩
theorem dX8_init_111 : DD cX8_init 111 (.iastore) 1 112 := ⟨by decide +kernel, rfl⟩
theorem dX8_init_112 : DD cX8_init 112 (.aload_n 0) 1 113 := ⟨by decide +kernel, rfl⟩
theorem dX8_init_113 : DD cX8_init 113 (.getfield 9) 3 116 := ⟨by decide +kernel, rfl⟩
theorem dX8_init_116 : DD cX8_init 116 (.bipush 8) 2 118 := ⟨by decide +kernel, rfl⟩
theorem dX8_init_118 : DD cX8_init 118 (.iconst 1) 1 119 := ⟨by decide +kernel, rfl⟩
theorem dX8_init_119 : DD cX8_init 119 (.iastore) 1 120 := ⟨by decide +kernel, rfl⟩
theorem dX8_init_120 : DD cX8_init 120 (.return_) 1 121 := ⟨by decide +kernel, rfl⟩
theorem dX8_finds_0 : DD cX8_finds 0 (.aload_n 0) 1 1 := ⟨by decide +kernel, rfl⟩
theorem dX8_finds_1 : DD cX8_finds 1 (.getfield 19) 3 4 := ⟨by decide +kernel, rfl⟩
theorem dX8_finds_4 : DD cX8_finds 4 (.ldc 38) 2 6 := ⟨by decide +kernel, rfl⟩
theorem dX8_finds_6 : DD cX8_finds 6 (.iload_n 1) 1 7 := ⟨by decide +kernel, rfl⟩
theorem dX8_finds_7 : DD cX8_finds 7 (.isub) 1 8 := ⟨by decide +kernel, rfl⟩
theorem dX8_finds_8 : DD cX8_finds 8 (.dup2) 1 9 := ⟨by decide +kernel, rfl⟩
theorem dX8_finds_9 : DD cX8_finds 9 (.iaload) 1 10 := ⟨by decide +kernel, rfl⟩
theorem dX8_finds_10 : DD cX8_finds 10 (.iconst 1) 1 11 := ⟨by decide +kernel, rfl⟩
theorem dX8_finds_11 : DD cX8_finds 11 (.iadd) 1 12 := ⟨by decide +kernel, rfl⟩
theorem dX8_finds_12 : DD cX8_finds 12 (.iastore) 1 13 := ⟨by decide +kernel, rfl⟩
theorem dX8_finds_13 : DD cX8_finds 13 (.iload_n 1) 1 14 := ⟨by decide +kernel, rfl⟩
theorem dX8_finds_14 : DD cX8_finds 14 (.ireturn) 1 15 := ⟨by decide +kernel, rfl⟩
theorem dX8_in_0 : DD cX8_in 0 (.lload_n 0) 1 1 := ⟨by decide +kernel, rfl⟩
theorem dX8_in_1 : DD cX8_in 1 (.lload_n 2) 1 2 := ⟨by decide +kernel, rfl⟩
theorem dX8_in_2 : DD cX8_in 2 (.lcmp) 1 3 := ⟨by decide +kernel, rfl⟩
theorem dX8_in_3 : DD cX8_in 3 (.ifCond .lt 14) 3 6 := ⟨by decide +kernel, rfl⟩
theorem dX8_in_6 : DD cX8_in 6 (.lload_n 0) 1 7 := ⟨by decide +kernel, rfl⟩
theorem dX8_in_7 : DD cX8_in 7 (.lload 4) 2 9 := ⟨by decide +kernel, rfl⟩
theorem dX8_in_9 : DD cX8_in 9 (.lcmp) 1 10 := ⟨by decide +kernel, rfl⟩
theorem dX8_in_10 : DD cX8_in 10 (.ifCond .gt 7) 3 13 := ⟨by decide +kernel, rfl⟩
theorem dX8_in_13 : DD cX8_in 13 (.iconst 1) 1 14 := ⟨by decide +kernel, rfl⟩
theorem dX8_in_14 : DD cX8_in 14 (.goto 4) 3 17 := ⟨by decide +kernel, rfl⟩
theorem dX8_in_17 : DD cX8_in 17 (.iconst 0) 1 18 := ⟨by decide +kernel, rfl⟩
theorem dX8_in_18 : DD cX8_in 18 (.ireturn) 1 19 := ⟨by decide +kernel, rfl⟩
theorem dX8_held_0 : DD cX8_held 0 (.iload_n 0) 1 1 := ⟨by decide +kernel, rfl⟩
theorem dX8_held_1 : DD cX8_held 1 (.iload_n 1) 1 2 := ⟨by decide +kernel, rfl⟩
theorem dX8_held_2 : DD cX8_held 2 (.ineg) 1 3 := ⟨by decide +kernel, rfl⟩
theorem dX8_held_3 : DD cX8_held 3 (.if_icmp .ge 8) 3 6 := ⟨by decide +kernel, rfl⟩
theorem dX8_held_6 : DD cX8_held 6 (.iload_n 1) 1 7 := ⟨by decide +kernel, rfl⟩
theorem dX8_held_7 : DD cX8_held 7 (.ineg) 1 8 := ⟨by decide +kernel, rfl⟩
theorem dX8_held_8 : DD cX8_held 8 (.goto 13) 3 11 := ⟨by decide +kernel, rfl⟩
theorem dX8_held_11 : DD cX8_held 11 (.iload_n 0) 1 12 := ⟨by decide +kernel, rfl⟩
theorem dX8_held_12 : DD cX8_held 12 (.iload_n 1) 1 13 := ⟨by decide +kernel, rfl⟩
theorem dX8_held_13 : DD cX8_held 13 (.if_icmp .le 7) 3 16 := ⟨by decide +kernel, rfl⟩
theorem dX8_held_16 : DD cX8_held 16 (.iload_n 1) 1 17 := ⟨by decide +kernel, rfl⟩
theorem dX8_held_17 : DD cX8_held 17 (.goto 4) 3 20 := ⟨by decide +kernel, rfl⟩
theorem dX8_held_20 : DD cX8_held 20 (.iload_n 0) 1 21 := ⟨by decide +kernel, rfl⟩
theorem dX8_held_21 : DD cX8_held 21 (.ireturn) 1 22 := ⟨by decide +kernel, rfl⟩
theorem dX8_size_0 : DD cX8_size 0 (.iload_n 0) 1 1 := ⟨by decide +kernel, rfl⟩
theorem dX8_size_1 : DD cX8_size 1 (.ifCond .ge 8) 3 4 := ⟨by decide +kernel, rfl⟩
theorem dX8_size_4 : DD cX8_size 4 (.iload_n 0) 1 5 := ⟨by decide +kernel, rfl⟩
theorem dX8_size_5 : DD cX8_size 5 (.ineg) 1 6 := ⟨by decide +kernel, rfl⟩
theorem dX8_size_6 : DD cX8_size 6 (.goto 4) 3 9 := ⟨by decide +kernel, rfl⟩
theorem dX8_size_9 : DD cX8_size 9 (.iload_n 0) 1 10 := ⟨by decide +kernel, rfl⟩
theorem dX8_size_10 : DD cX8_size 10 (.ireturn) 1 11 := ⟨by decide +kernel, rfl⟩
theorem dX8_copies_0 : DD cX8_copies 0 (.iconst 0) 1 1 := ⟨by decide +kernel, rfl⟩
theorem dX8_copies_1 : DD cX8_copies 1 (.istore_n 2) 1 2 := ⟨by decide +kernel, rfl⟩
theorem dX8_copies_2 : DD cX8_copies 2 (.iload_n 2) 1 3 := ⟨by decide +kernel, rfl⟩
theorem dX8_copies_3 : DD cX8_copies 3 (.sipush 260) 3 6 := ⟨by decide +kernel, rfl⟩
theorem dX8_copies_6 : DD cX8_copies 6 (.if_icmp .ge 15) 3 9 := ⟨by decide +kernel, rfl⟩
theorem dX8_copies_9 : DD cX8_copies 9 (.aload_n 1) 1 10 := ⟨by decide +kernel, rfl⟩
theorem dX8_copies_10 : DD cX8_copies 10 (.iload_n 2) 1 11 := ⟨by decide +kernel, rfl⟩
theorem dX8_copies_11 : DD cX8_copies 11 (.aload_n 0) 1 12 := ⟨by decide +kernel, rfl⟩
theorem dX8_copies_12 : DD cX8_copies 12 (.iload_n 2) 1 13 := ⟨by decide +kernel, rfl⟩
theorem dX8_copies_13 : DD cX8_copies 13 (.iaload) 1 14 := ⟨by decide +kernel, rfl⟩
theorem dX8_copies_14 : DD cX8_copies 14 (.iastore) 1 15 := ⟨by decide +kernel, rfl⟩
theorem dX8_copies_15 : DD cX8_copies 15 (.iinc 2 1) 3 18 := ⟨by decide +kernel, rfl⟩
theorem dX8_copies_18 : DD cX8_copies 18 (.goto (-16)) 3 21 := ⟨by decide +kernel, rfl⟩
theorem dX8_copies_21 : DD cX8_copies 21 (.return_) 1 22 := ⟨by decide +kernel, rfl⟩
theorem dX8_isPerson_0 : DD cX8_isPerson 0 (.iload_n 1) 1 1 := ⟨by decide +kernel, rfl⟩
theorem dX8_isPerson_1 : DD cX8_isPerson 1 (.i2l) 1 2 := ⟨by decide +kernel, rfl⟩
theorem dX8_isPerson_2 : DD cX8_isPerson 2 (.lconst 0) 1 3 := ⟨by decide +kernel, rfl⟩
theorem dX8_isPerson_3 : DD cX8_isPerson 3 (.aload_n 0) 1 4 := ⟨by decide +kernel, rfl⟩
theorem dX8_isPerson_4 : DD cX8_isPerson 4 (.getfield 9) 3 7 := ⟨by decide +kernel, rfl⟩
theorem dX8_isPerson_7 : DD cX8_isPerson 7 (.iconst 0) 1 8 := ⟨by decide +kernel, rfl⟩
theorem dX8_isPerson_8 : DD cX8_isPerson 8 (.iaload) 1 9 := ⟨by decide +kernel, rfl⟩
theorem dX8_isPerson_9 : DD cX8_isPerson 9 (.iconst 1) 1 10 := ⟨by decide +kernel, rfl⟩
theorem dX8_isPerson_10 : DD cX8_isPerson 10 (.isub) 1 11 := ⟨by decide +kernel, rfl⟩
theorem dX8_isPerson_11 : DD cX8_isPerson 11 (.i2l) 1 12 := ⟨by decide +kernel, rfl⟩
theorem dX8_isPerson_12 : DD cX8_isPerson 12 (.invokestatic 39) 3 15 := ⟨by decide +kernel, rfl⟩
theorem dX8_isPerson_15 : DD cX8_isPerson 15 (.ireturn) 1 16 := ⟨by decide +kernel, rfl⟩
theorem dX8_areTwo_0 : DD cX8_areTwo 0 (.aload_n 0) 1 1 := ⟨by decide +kernel, rfl⟩
theorem dX8_areTwo_1 : DD cX8_areTwo 1 (.iload_n 1) 1 2 := ⟨by decide +kernel, rfl⟩
theorem dX8_areTwo_2 : DD cX8_areTwo 2 (.invokevirtual 43) 3 5 := ⟨by decide +kernel, rfl⟩
theorem dX8_areTwo_5 : DD cX8_areTwo 5 (.ifCond .eq 20) 3 8 := ⟨by decide +kernel, rfl⟩
theorem dX8_areTwo_8 : DD cX8_areTwo 8 (.aload_n 0) 1 9 := ⟨by decide +kernel, rfl⟩
theorem dX8_areTwo_9 : DD cX8_areTwo 9 (.iload_n 2) 1 10 := ⟨by decide +kernel, rfl⟩
theorem dX8_areTwo_10 : DD cX8_areTwo 10 (.invokevirtual 43) 3 13 := ⟨by decide +kernel, rfl⟩
theorem dX8_areTwo_13 : DD cX8_areTwo 13 (.ifCond .eq 12) 3 16 := ⟨by decide +kernel, rfl⟩
theorem dX8_areTwo_16 : DD cX8_areTwo 16 (.iload_n 1) 1 17 := ⟨by decide +kernel, rfl⟩
theorem dX8_areTwo_17 : DD cX8_areTwo 17 (.iload_n 2) 1 18 := ⟨by decide +kernel, rfl⟩
theorem dX8_areTwo_18 : DD cX8_areTwo 18 (.if_icmp .eq 7) 3 21 := ⟨by decide +kernel, rfl⟩
theorem dX8_areTwo_21 : DD cX8_areTwo 21 (.iconst 1) 1 22 := ⟨by decide +kernel, rfl⟩
theorem dX8_areTwo_22 : DD cX8_areTwo 22 (.goto 4) 3 25 := ⟨by decide +kernel, rfl⟩
theorem dX8_areTwo_25 : DD cX8_areTwo 25 (.iconst 0) 1 26 := ⟨by decide +kernel, rfl⟩
theorem dX8_areTwo_26 : DD cX8_areTwo 26 (.ireturn) 1 27 := ⟨by decide +kernel, rfl⟩
theorem dX8_isOnLog_0 : DD cX8_isOnLog 0 (.aload_n 0) 1 1 := ⟨by decide +kernel, rfl⟩
theorem dX8_isOnLog_1 : DD cX8_isOnLog 1 (.getfield 9) 3 4 := ⟨by decide +kernel, rfl⟩
theorem dX8_isOnLog_4 : DD cX8_isOnLog 4 (.iconst 2) 1 5 := ⟨by decide +kernel, rfl⟩
theorem dX8_isOnLog_5 : DD cX8_isOnLog 5 (.iaload) 1 6 := ⟨by decide +kernel, rfl⟩
theorem dX8_isOnLog_6 : DD cX8_isOnLog 6 (.iconst 1) 1 7 := ⟨by decide +kernel, rfl⟩
theorem dX8_isOnLog_7 : DD cX8_isOnLog 7 (.if_icmp .ne 27) 3 10 := ⟨by decide +kernel, rfl⟩
theorem dX8_isOnLog_10 : DD cX8_isOnLog 10 (.aload_n 0) 1 11 := ⟨by decide +kernel, rfl⟩
theorem dX8_isOnLog_11 : DD cX8_isOnLog 11 (.getfield 9) 3 14 := ⟨by decide +kernel, rfl⟩
theorem dX8_isOnLog_14 : DD cX8_isOnLog 14 (.iconst 3) 1 15 := ⟨by decide +kernel, rfl⟩
theorem dX8_isOnLog_15 : DD cX8_isOnLog 15 (.iaload) 1 16 := ⟨by decide +kernel, rfl⟩
theorem dX8_isOnLog_16 : DD cX8_isOnLog 16 (.iload_n 1) 1 17 := ⟨by decide +kernel, rfl⟩
theorem dX8_isOnLog_17 : DD cX8_isOnLog 17 (.if_icmp .eq 13) 3 20 := ⟨by decide +kernel, rfl⟩
theorem dX8_isOnLog_20 : DD cX8_isOnLog 20 (.aload_n 0) 1 21 := ⟨by decide +kernel, rfl⟩
theorem dX8_isOnLog_21 : DD cX8_isOnLog 21 (.getfield 9) 3 24 := ⟨by decide +kernel, rfl⟩
theorem dX8_isOnLog_24 : DD cX8_isOnLog 24 (.iconst 4) 1 25 := ⟨by decide +kernel, rfl⟩
theorem dX8_isOnLog_25 : DD cX8_isOnLog 25 (.iaload) 1 26 := ⟨by decide +kernel, rfl⟩
theorem dX8_isOnLog_26 : DD cX8_isOnLog 26 (.iload_n 1) 1 27 := ⟨by decide +kernel, rfl⟩
theorem dX8_isOnLog_27 : DD cX8_isOnLog 27 (.if_icmp .ne 7) 3 30 := ⟨by decide +kernel, rfl⟩
theorem dX8_isOnLog_30 : DD cX8_isOnLog 30 (.iconst 1) 1 31 := ⟨by decide +kernel, rfl⟩
theorem dX8_isOnLog_31 : DD cX8_isOnLog 31 (.goto 4) 3 34 := ⟨by decide +kernel, rfl⟩
theorem dX8_isOnLog_34 : DD cX8_isOnLog 34 (.iconst 0) 1 35 := ⟨by decide +kernel, rfl⟩
theorem dX8_isOnLog_35 : DD cX8_isOnLog 35 (.ireturn) 1 36 := ⟨by decide +kernel, rfl⟩
theorem dX8_told_0 : DD cX8_told 0 (.aload_n 0) 1 1 := ⟨by decide +kernel, rfl⟩
theorem dX8_told_1 : DD cX8_told 1 (.bipush 40) 2 3 := ⟨by decide +kernel, rfl⟩
theorem dX8_told_3 : DD cX8_told 3 (.bipush 8) 2 5 := ⟨by decide +kernel, rfl⟩
theorem dX8_told_5 : DD cX8_told 5 (.iload_n 1) 1 6 := ⟨by decide +kernel, rfl⟩
theorem dX8_told_6 : DD cX8_told 6 (.imul) 1 7 := ⟨by decide +kernel, rfl⟩
theorem dX8_told_7 : DD cX8_told 7 (.iadd) 1 8 := ⟨by decide +kernel, rfl⟩
theorem dX8_told_8 : DD cX8_told 8 (.iload_n 2) 1 9 := ⟨by decide +kernel, rfl⟩
theorem dX8_told_9 : DD cX8_told 9 (.iadd) 1 10 := ⟨by decide +kernel, rfl⟩
theorem dX8_told_10 : DD cX8_told 10 (.iaload) 1 11 := ⟨by decide +kernel, rfl⟩
theorem dX8_told_11 : DD cX8_told 11 (.ireturn) 1 12 := ⟨by decide +kernel, rfl⟩
theorem dX8_roller_0 : DD cX8_roller 0 (.iload_n 1) 1 1 := ⟨by decide +kernel, rfl⟩
theorem dX8_roller_1 : DD cX8_roller 1 (.i2l) 1 2 := ⟨by decide +kernel, rfl⟩
theorem dX8_roller_2 : DD cX8_roller 2 (.lconst 0) 1 3 := ⟨by decide +kernel, rfl⟩
theorem dX8_roller_3 : DD cX8_roller 3 (.ldc2_w 47) 3 6 := ⟨by decide +kernel, rfl⟩
theorem dX8_roller_6 : DD cX8_roller 6 (.invokestatic 39) 3 9 := ⟨by decide +kernel, rfl⟩
theorem dX8_roller_9 : DD cX8_roller 9 (.ifCond .eq 15) 3 12 := ⟨by decide +kernel, rfl⟩
theorem dX8_roller_12 : DD cX8_roller 12 (.iload_n 2) 1 13 := ⟨by decide +kernel, rfl⟩
theorem dX8_roller_13 : DD cX8_roller 13 (.i2l) 1 14 := ⟨by decide +kernel, rfl⟩
theorem dX8_roller_14 : DD cX8_roller 14 (.lconst 1) 1 15 := ⟨by decide +kernel, rfl⟩
theorem dX8_roller_15 : DD cX8_roller 15 (.ldc2_w 49) 3 18 := ⟨by decide +kernel, rfl⟩
theorem dX8_roller_18 : DD cX8_roller 18 (.invokestatic 39) 3 21 := ⟨by decide +kernel, rfl⟩
theorem dX8_roller_21 : DD cX8_roller 21 (.ifCond .ne 10) 3 24 := ⟨by decide +kernel, rfl⟩
theorem dX8_roller_24 : DD cX8_roller 24 (.aload_n 0) 1 25 := ⟨by decide +kernel, rfl⟩
theorem dX8_roller_25 : DD cX8_roller 25 (.ldc 38) 2 27 := ⟨by decide +kernel, rfl⟩
theorem dX8_roller_27 : DD cX8_roller 27 (.invokevirtual 51) 3 30 := ⟨by decide +kernel, rfl⟩
theorem dX8_roller_30 : DD cX8_roller 30 (.ireturn) 1 31 := ⟨by decide +kernel, rfl⟩
theorem dX8_roller_31 : DD cX8_roller 31 (.aload_n 0) 1 32 := ⟨by decide +kernel, rfl⟩
theorem dX8_roller_32 : DD cX8_roller 32 (.getfield 9) 3 35 := ⟨by decide +kernel, rfl⟩
theorem dX8_roller_35 : DD cX8_roller 35 (.iconst 0) 1 36 := ⟨by decide +kernel, rfl⟩
theorem dX8_roller_36 : DD cX8_roller 36 (.iaload) 1 37 := ⟨by decide +kernel, rfl⟩
theorem dX8_roller_37 : DD cX8_roller 37 (.bipush 8) 2 39 := ⟨by decide +kernel, rfl⟩
theorem dX8_roller_39 : DD cX8_roller 39 (.if_icmp .ne 10) 3 42 := ⟨by decide +kernel, rfl⟩
theorem dX8_roller_42 : DD cX8_roller 42 (.aload_n 0) 1 43 := ⟨by decide +kernel, rfl⟩
theorem dX8_roller_43 : DD cX8_roller 43 (.ldc 55) 2 45 := ⟨by decide +kernel, rfl⟩
theorem dX8_roller_45 : DD cX8_roller 45 (.invokevirtual 51) 3 48 := ⟨by decide +kernel, rfl⟩
theorem dX8_roller_48 : DD cX8_roller 48 (.ireturn) 1 49 := ⟨by decide +kernel, rfl⟩
theorem dX8_roller_49 : DD cX8_roller 49 (.bipush 40) 2 51 := ⟨by decide +kernel, rfl⟩
theorem dX8_roller_51 : DD cX8_roller 51 (.bipush 8) 2 53 := ⟨by decide +kernel, rfl⟩
theorem dX8_roller_53 : DD cX8_roller 53 (.aload_n 0) 1 54 := ⟨by decide +kernel, rfl⟩
theorem dX8_roller_54 : DD cX8_roller 54 (.getfield 9) 3 57 := ⟨by decide +kernel, rfl⟩
theorem dX8_roller_57 : DD cX8_roller 57 (.iconst 0) 1 58 := ⟨by decide +kernel, rfl⟩
theorem dX8_roller_58 : DD cX8_roller 58 (.iaload) 1 59 := ⟨by decide +kernel, rfl⟩
theorem dX8_roller_59 : DD cX8_roller 59 (.imul) 1 60 := ⟨by decide +kernel, rfl⟩
theorem dX8_roller_60 : DD cX8_roller 60 (.iadd) 1 61 := ⟨by decide +kernel, rfl⟩
theorem dX8_roller_61 : DD cX8_roller 61 (.istore_n 3) 1 62 := ⟨by decide +kernel, rfl⟩
theorem dX8_roller_62 : DD cX8_roller 62 (.aload_n 0) 1 63 := ⟨by decide +kernel, rfl⟩
theorem dX8_roller_63 : DD cX8_roller 63 (.getfield 9) 3 66 := ⟨by decide +kernel, rfl⟩
theorem dX8_roller_66 : DD cX8_roller 66 (.iload_n 3) 1 67 := ⟨by decide +kernel, rfl⟩
theorem dX8_roller_67 : DD cX8_roller 67 (.iconst 0) 1 68 := ⟨by decide +kernel, rfl⟩
theorem dX8_roller_68 : DD cX8_roller 68 (.iadd) 1 69 := ⟨by decide +kernel, rfl⟩
theorem dX8_roller_69 : DD cX8_roller 69 (.iload_n 1) 1 70 := ⟨by decide +kernel, rfl⟩
theorem dX8_roller_70 : DD cX8_roller 70 (.iastore) 1 71 := ⟨by decide +kernel, rfl⟩
theorem dX8_roller_71 : DD cX8_roller 71 (.aload_n 0) 1 72 := ⟨by decide +kernel, rfl⟩
theorem dX8_roller_72 : DD cX8_roller 72 (.getfield 9) 3 75 := ⟨by decide +kernel, rfl⟩
theorem dX8_roller_75 : DD cX8_roller 75 (.iload_n 3) 1 76 := ⟨by decide +kernel, rfl⟩
theorem dX8_roller_76 : DD cX8_roller 76 (.iconst 1) 1 77 := ⟨by decide +kernel, rfl⟩
theorem dX8_roller_77 : DD cX8_roller 77 (.iadd) 1 78 := ⟨by decide +kernel, rfl⟩
theorem dX8_roller_78 : DD cX8_roller 78 (.iload_n 2) 1 79 := ⟨by decide +kernel, rfl⟩
theorem dX8_roller_79 : DD cX8_roller 79 (.iastore) 1 80 := ⟨by decide +kernel, rfl⟩
theorem dX8_roller_80 : DD cX8_roller 80 (.aload_n 0) 1 81 := ⟨by decide +kernel, rfl⟩
theorem dX8_roller_81 : DD cX8_roller 81 (.getfield 9) 3 84 := ⟨by decide +kernel, rfl⟩
theorem dX8_roller_84 : DD cX8_roller 84 (.iload_n 3) 1 85 := ⟨by decide +kernel, rfl⟩
theorem dX8_roller_85 : DD cX8_roller 85 (.iconst 2) 1 86 := ⟨by decide +kernel, rfl⟩
theorem dX8_roller_86 : DD cX8_roller 86 (.iadd) 1 87 := ⟨by decide +kernel, rfl⟩
theorem dX8_roller_87 : DD cX8_roller 87 (.iconst 2) 1 88 := ⟨by decide +kernel, rfl⟩
theorem dX8_roller_88 : DD cX8_roller 88 (.iastore) 1 89 := ⟨by decide +kernel, rfl⟩
theorem dX8_roller_89 : DD cX8_roller 89 (.aload_n 0) 1 90 := ⟨by decide +kernel, rfl⟩
theorem dX8_roller_90 : DD cX8_roller 90 (.getfield 9) 3 93 := ⟨by decide +kernel, rfl⟩
theorem dX8_roller_93 : DD cX8_roller 93 (.iload_n 3) 1 94 := ⟨by decide +kernel, rfl⟩
theorem dX8_roller_94 : DD cX8_roller 94 (.iconst 3) 1 95 := ⟨by decide +kernel, rfl⟩
theorem dX8_roller_95 : DD cX8_roller 95 (.iadd) 1 96 := ⟨by decide +kernel, rfl⟩
theorem dX8_roller_96 : DD cX8_roller 96 (.bipush 20) 2 98 := ⟨by decide +kernel, rfl⟩
theorem dX8_roller_98 : DD cX8_roller 98 (.iastore) 1 99 := ⟨by decide +kernel, rfl⟩
theorem dX8_roller_99 : DD cX8_roller 99 (.aload_n 0) 1 100 := ⟨by decide +kernel, rfl⟩
theorem dX8_roller_100 : DD cX8_roller 100 (.getfield 9) 3 103 := ⟨by decide +kernel, rfl⟩
theorem dX8_roller_103 : DD cX8_roller 103 (.iload_n 3) 1 104 := ⟨by decide +kernel, rfl⟩
theorem dX8_roller_104 : DD cX8_roller 104 (.iconst 4) 1 105 := ⟨by decide +kernel, rfl⟩
theorem dX8_roller_105 : DD cX8_roller 105 (.iadd) 1 106 := ⟨by decide +kernel, rfl⟩
theorem dX8_roller_106 : DD cX8_roller 106 (.sipush 300) 3 109 := ⟨by decide +kernel, rfl⟩
theorem dX8_roller_109 : DD cX8_roller 109 (.iastore) 1 110 := ⟨by decide +kernel, rfl⟩
theorem dX8_roller_110 : DD cX8_roller 110 (.aload_n 0) 1 111 := ⟨by decide +kernel, rfl⟩
theorem dX8_roller_111 : DD cX8_roller 111 (.getfield 9) 3 114 := ⟨by decide +kernel, rfl⟩
theorem dX8_roller_114 : DD cX8_roller 114 (.iload_n 3) 1 115 := ⟨by decide +kernel, rfl⟩
theorem dX8_roller_115 : DD cX8_roller 115 (.iconst 5) 1 116 := ⟨by decide +kernel, rfl⟩
theorem dX8_roller_116 : DD cX8_roller 116 (.iadd) 1 117 := ⟨by decide +kernel, rfl⟩
theorem dX8_roller_117 : DD cX8_roller 117 (.iconst 0) 1 118 := ⟨by decide +kernel, rfl⟩
theorem dX8_roller_118 : DD cX8_roller 118 (.iastore) 1 119 := ⟨by decide +kernel, rfl⟩
theorem dX8_roller_119 : DD cX8_roller 119 (.aload_n 0) 1 120 := ⟨by decide +kernel, rfl⟩
theorem dX8_roller_120 : DD cX8_roller 120 (.getfield 9) 3 123 := ⟨by decide +kernel, rfl⟩
theorem dX8_roller_123 : DD cX8_roller 123 (.iload_n 3) 1 124 := ⟨by decide +kernel, rfl⟩
theorem dX8_roller_124 : DD cX8_roller 124 (.bipush 6) 2 126 := ⟨by decide +kernel, rfl⟩
theorem dX8_roller_126 : DD cX8_roller 126 (.iadd) 1 127 := ⟨by decide +kernel, rfl⟩
theorem dX8_roller_127 : DD cX8_roller 127 (.iconst (-1)) 1 128 := ⟨by decide +kernel, rfl⟩
theorem dX8_roller_128 : DD cX8_roller 128 (.iastore) 1 129 := ⟨by decide +kernel, rfl⟩
theorem dX8_roller_129 : DD cX8_roller 129 (.aload_n 0) 1 130 := ⟨by decide +kernel, rfl⟩
theorem dX8_roller_130 : DD cX8_roller 130 (.getfield 9) 3 133 := ⟨by decide +kernel, rfl⟩
theorem dX8_roller_133 : DD cX8_roller 133 (.iconst 0) 1 134 := ⟨by decide +kernel, rfl⟩
theorem dX8_roller_134 : DD cX8_roller 134 (.dup2) 1 135 := ⟨by decide +kernel, rfl⟩
theorem dX8_roller_135 : DD cX8_roller 135 (.iaload) 1 136 := ⟨by decide +kernel, rfl⟩
theorem dX8_roller_136 : DD cX8_roller 136 (.iconst 1) 1 137 := ⟨by decide +kernel, rfl⟩
theorem dX8_roller_137 : DD cX8_roller 137 (.iadd) 1 138 := ⟨by decide +kernel, rfl⟩
theorem dX8_roller_138 : DD cX8_roller 138 (.iastore) 1 139 := ⟨by decide +kernel, rfl⟩
theorem dX8_roller_139 : DD cX8_roller 139 (.aload_n 0) 1 140 := ⟨by decide +kernel, rfl⟩
theorem dX8_roller_140 : DD cX8_roller 140 (.getfield 9) 3 143 := ⟨by decide +kernel, rfl⟩
theorem dX8_roller_143 : DD cX8_roller 143 (.iconst 0) 1 144 := ⟨by decide +kernel, rfl⟩
theorem dX8_roller_144 : DD cX8_roller 144 (.iaload) 1 145 := ⟨by decide +kernel, rfl⟩
theorem dX8_roller_145 : DD cX8_roller 145 (.iconst 1) 1 146 := ⟨by decide +kernel, rfl⟩
theorem dX8_roller_146 : DD cX8_roller 146 (.isub) 1 147 := ⟨by decide +kernel, rfl⟩
theorem dX8_roller_147 : DD cX8_roller 147 (.ireturn) 1 148 := ⟨by decide +kernel, rfl⟩
theorem dX8_of_0 : DD cX8_of 0 (.aload_n 0) 1 1 := ⟨by decide +kernel, rfl⟩
theorem dX8_of_1 : DD cX8_of 1 (.iload_n 1) 1 2 := ⟨by decide +kernel, rfl⟩
theorem dX8_of_2 : DD cX8_of 2 (.invokevirtual 43) 3 5 := ⟨by decide +kernel, rfl⟩
theorem dX8_of_5 : DD cX8_of 5 (.ifCond .eq 32) 3 8 := ⟨by decide +kernel, rfl⟩
theorem dX8_of_8 : DD cX8_of 8 (.iload_n 2) 1 9 := ⟨by decide +kernel, rfl⟩
theorem dX8_of_9 : DD cX8_of 9 (.i2l) 1 10 := ⟨by decide +kernel, rfl⟩
theorem dX8_of_10 : DD cX8_of 10 (.lconst 0) 1 11 := ⟨by decide +kernel, rfl⟩
theorem dX8_of_11 : DD cX8_of 11 (.ldc2_w 56) 3 14 := ⟨by decide +kernel, rfl⟩
theorem dX8_of_14 : DD cX8_of 14 (.invokestatic 39) 3 17 := ⟨by decide +kernel, rfl⟩
theorem dX8_of_17 : DD cX8_of 17 (.ifCond .eq 20) 3 20 := ⟨by decide +kernel, rfl⟩
theorem dX8_of_20 : DD cX8_of 20 (.aload_n 0) 1 21 := ⟨by decide +kernel, rfl⟩
theorem dX8_of_21 : DD cX8_of 21 (.getfield 9) 3 24 := ⟨by decide +kernel, rfl⟩
theorem dX8_of_24 : DD cX8_of 24 (.bipush 40) 2 26 := ⟨by decide +kernel, rfl⟩
theorem dX8_of_26 : DD cX8_of 26 (.bipush 8) 2 28 := ⟨by decide +kernel, rfl⟩
theorem dX8_of_28 : DD cX8_of 28 (.iload_n 1) 1 29 := ⟨by decide +kernel, rfl⟩
theorem dX8_of_29 : DD cX8_of 29 (.imul) 1 30 := ⟨by decide +kernel, rfl⟩
theorem dX8_of_30 : DD cX8_of 30 (.iadd) 1 31 := ⟨by decide +kernel, rfl⟩
theorem dX8_of_31 : DD cX8_of 31 (.iload_n 2) 1 32 := ⟨by decide +kernel, rfl⟩
theorem dX8_of_32 : DD cX8_of 32 (.iadd) 1 33 := ⟨by decide +kernel, rfl⟩
theorem dX8_of_33 : DD cX8_of 33 (.iaload) 1 34 := ⟨by decide +kernel, rfl⟩
theorem dX8_of_34 : DD cX8_of 34 (.goto 9) 3 37 := ⟨by decide +kernel, rfl⟩
theorem dX8_of_37 : DD cX8_of 37 (.aload_n 0) 1 38 := ⟨by decide +kernel, rfl⟩
theorem dX8_of_38 : DD cX8_of 38 (.ldc 38) 2 40 := ⟨by decide +kernel, rfl⟩
theorem dX8_of_40 : DD cX8_of 40 (.invokevirtual 51) 3 43 := ⟨by decide +kernel, rfl⟩
theorem dX8_of_43 : DD cX8_of 43 (.ireturn) 1 44 := ⟨by decide +kernel, rfl⟩
theorem dX8_mayBe_0 : DD cX8_mayBe 0 (.iload_n 1) 1 1 := ⟨by decide +kernel, rfl⟩
theorem dX8_mayBe_1 : DD cX8_mayBe 1 (.tableswitch 97 1 6 #[39, 49, 59, 69, 97, 79]) 39 40 := ⟨by decide +kernel, rfl⟩
theorem dX8_mayBe_40 : DD cX8_mayBe 40 (.iload_n 2) 1 41 := ⟨by decide +kernel, rfl⟩
theorem dX8_mayBe_41 : DD cX8_mayBe 41 (.i2l) 1 42 := ⟨by decide +kernel, rfl⟩
theorem dX8_mayBe_42 : DD cX8_mayBe 42 (.lconst 1) 1 43 := ⟨by decide +kernel, rfl⟩
theorem dX8_mayBe_43 : DD cX8_mayBe 43 (.ldc2_w 49) 3 46 := ⟨by decide +kernel, rfl⟩
theorem dX8_mayBe_46 : DD cX8_mayBe 46 (.invokestatic 39) 3 49 := ⟨by decide +kernel, rfl⟩
theorem dX8_mayBe_49 : DD cX8_mayBe 49 (.ireturn) 1 50 := ⟨by decide +kernel, rfl⟩
theorem dX8_mayBe_50 : DD cX8_mayBe 50 (.iload_n 2) 1 51 := ⟨by decide +kernel, rfl⟩
theorem dX8_mayBe_51 : DD cX8_mayBe 51 (.i2l) 1 52 := ⟨by decide +kernel, rfl⟩
theorem dX8_mayBe_52 : DD cX8_mayBe 52 (.lconst 0) 1 53 := ⟨by decide +kernel, rfl⟩
theorem dX8_mayBe_53 : DD cX8_mayBe 53 (.ldc2_w 58) 3 56 := ⟨by decide +kernel, rfl⟩
theorem dX8_mayBe_56 : DD cX8_mayBe 56 (.invokestatic 39) 3 59 := ⟨by decide +kernel, rfl⟩
theorem dX8_mayBe_59 : DD cX8_mayBe 59 (.ireturn) 1 60 := ⟨by decide +kernel, rfl⟩
theorem dX8_mayBe_60 : DD cX8_mayBe 60 (.iload_n 2) 1 61 := ⟨by decide +kernel, rfl⟩
theorem dX8_mayBe_61 : DD cX8_mayBe 61 (.i2l) 1 62 := ⟨by decide +kernel, rfl⟩
theorem dX8_mayBe_62 : DD cX8_mayBe 62 (.lconst 1) 1 63 := ⟨by decide +kernel, rfl⟩
theorem dX8_mayBe_63 : DD cX8_mayBe 63 (.ldc2_w 60) 3 66 := ⟨by decide +kernel, rfl⟩
theorem dX8_mayBe_66 : DD cX8_mayBe 66 (.invokestatic 39) 3 69 := ⟨by decide +kernel, rfl⟩
theorem dX8_mayBe_69 : DD cX8_mayBe 69 (.ireturn) 1 70 := ⟨by decide +kernel, rfl⟩
theorem dX8_mayBe_70 : DD cX8_mayBe 70 (.iload_n 2) 1 71 := ⟨by decide +kernel, rfl⟩
theorem dX8_mayBe_71 : DD cX8_mayBe 71 (.i2l) 1 72 := ⟨by decide +kernel, rfl⟩
theorem dX8_mayBe_72 : DD cX8_mayBe 72 (.lconst 0) 1 73 := ⟨by decide +kernel, rfl⟩
theorem dX8_mayBe_73 : DD cX8_mayBe 73 (.ldc2_w 62) 3 76 := ⟨by decide +kernel, rfl⟩
theorem dX8_mayBe_76 : DD cX8_mayBe 76 (.invokestatic 39) 3 79 := ⟨by decide +kernel, rfl⟩
theorem dX8_mayBe_79 : DD cX8_mayBe 79 (.ireturn) 1 80 := ⟨by decide +kernel, rfl⟩
theorem dX8_mayBe_80 : DD cX8_mayBe 80 (.iload_n 2) 1 81 := ⟨by decide +kernel, rfl⟩
theorem dX8_mayBe_81 : DD cX8_mayBe 81 (.i2l) 1 82 := ⟨by decide +kernel, rfl⟩
theorem dX8_mayBe_82 : DD cX8_mayBe 82 (.ldc2_w 64) 3 85 := ⟨by decide +kernel, rfl⟩
theorem dX8_mayBe_85 : DD cX8_mayBe 85 (.aload_n 0) 1 86 := ⟨by decide +kernel, rfl⟩
theorem dX8_mayBe_86 : DD cX8_mayBe 86 (.getfield 9) 3 89 := ⟨by decide +kernel, rfl⟩
theorem dX8_mayBe_89 : DD cX8_mayBe 89 (.iconst 1) 1 90 := ⟨by decide +kernel, rfl⟩
theorem dX8_mayBe_90 : DD cX8_mayBe 90 (.iaload) 1 91 := ⟨by decide +kernel, rfl⟩
theorem dX8_mayBe_91 : DD cX8_mayBe 91 (.iconst 1) 1 92 := ⟨by decide +kernel, rfl⟩
theorem dX8_mayBe_92 : DD cX8_mayBe 92 (.isub) 1 93 := ⟨by decide +kernel, rfl⟩
theorem dX8_mayBe_93 : DD cX8_mayBe 93 (.i2l) 1 94 := ⟨by decide +kernel, rfl⟩
theorem dX8_mayBe_94 : DD cX8_mayBe 94 (.invokestatic 39) 3 97 := ⟨by decide +kernel, rfl⟩
theorem dX8_mayBe_97 : DD cX8_mayBe 97 (.ireturn) 1 98 := ⟨by decide +kernel, rfl⟩
theorem dX8_mayBe_98 : DD cX8_mayBe 98 (.iconst 0) 1 99 := ⟨by decide +kernel, rfl⟩
theorem dX8_mayBe_99 : DD cX8_mayBe 99 (.ireturn) 1 100 := ⟨by decide +kernel, rfl⟩
theorem dX8_set_0 : DD cX8_set 0 (.aload_n 0) 1 1 := ⟨by decide +kernel, rfl⟩
theorem dX8_set_1 : DD cX8_set 1 (.iload_n 1) 1 2 := ⟨by decide +kernel, rfl⟩
theorem dX8_set_2 : DD cX8_set 2 (.invokevirtual 43) 3 5 := ⟨by decide +kernel, rfl⟩
theorem dX8_set_5 : DD cX8_set 5 (.ifCond .eq 12) 3 8 := ⟨by decide +kernel, rfl⟩
theorem dX8_set_8 : DD cX8_set 8 (.aload_n 0) 1 9 := ⟨by decide +kernel, rfl⟩
theorem dX8_set_9 : DD cX8_set 9 (.iload_n 2) 1 10 := ⟨by decide +kernel, rfl⟩
theorem dX8_set_10 : DD cX8_set 10 (.iload_n 3) 1 11 := ⟨by decide +kernel, rfl⟩
theorem dX8_set_11 : DD cX8_set 11 (.invokevirtual 66) 3 14 := ⟨by decide +kernel, rfl⟩
theorem dX8_set_14 : DD cX8_set 14 (.ifCond .ne 10) 3 17 := ⟨by decide +kernel, rfl⟩
theorem dX8_set_17 : DD cX8_set 17 (.aload_n 0) 1 18 := ⟨by decide +kernel, rfl⟩
theorem dX8_set_18 : DD cX8_set 18 (.ldc 38) 2 20 := ⟨by decide +kernel, rfl⟩
theorem dX8_set_20 : DD cX8_set 20 (.invokevirtual 51) 3 23 := ⟨by decide +kernel, rfl⟩
theorem dX8_set_23 : DD cX8_set 23 (.ireturn) 1 24 := ⟨by decide +kernel, rfl⟩
theorem dX8_set_24 : DD cX8_set 24 (.aload_n 0) 1 25 := ⟨by decide +kernel, rfl⟩
theorem dX8_set_25 : DD cX8_set 25 (.iload_n 1) 1 26 := ⟨by decide +kernel, rfl⟩
theorem dX8_set_26 : DD cX8_set 26 (.invokevirtual 70) 3 29 := ⟨by decide +kernel, rfl⟩
theorem dX8_set_29 : DD cX8_set 29 (.ifCond .eq 10) 3 32 := ⟨by decide +kernel, rfl⟩
theorem dX8_set_32 : DD cX8_set 32 (.aload_n 0) 1 33 := ⟨by decide +kernel, rfl⟩
theorem dX8_set_33 : DD cX8_set 33 (.ldc 73) 2 35 := ⟨by decide +kernel, rfl⟩
theorem dX8_set_35 : DD cX8_set 35 (.invokevirtual 51) 3 38 := ⟨by decide +kernel, rfl⟩
theorem dX8_set_38 : DD cX8_set 38 (.ireturn) 1 39 := ⟨by decide +kernel, rfl⟩
theorem dX8_set_39 : DD cX8_set 39 (.aload_n 0) 1 40 := ⟨by decide +kernel, rfl⟩
theorem dX8_set_40 : DD cX8_set 40 (.getfield 9) 3 43 := ⟨by decide +kernel, rfl⟩
theorem dX8_set_43 : DD cX8_set 43 (.bipush 40) 2 45 := ⟨by decide +kernel, rfl⟩
theorem dX8_set_45 : DD cX8_set 45 (.bipush 8) 2 47 := ⟨by decide +kernel, rfl⟩
theorem dX8_set_47 : DD cX8_set 47 (.iload_n 1) 1 48 := ⟨by decide +kernel, rfl⟩
theorem dX8_set_48 : DD cX8_set 48 (.imul) 1 49 := ⟨by decide +kernel, rfl⟩
theorem dX8_set_49 : DD cX8_set 49 (.iadd) 1 50 := ⟨by decide +kernel, rfl⟩
theorem dX8_set_50 : DD cX8_set 50 (.iload_n 2) 1 51 := ⟨by decide +kernel, rfl⟩
theorem dX8_set_51 : DD cX8_set 51 (.iadd) 1 52 := ⟨by decide +kernel, rfl⟩
theorem dX8_set_52 : DD cX8_set 52 (.iaload) 1 53 := ⟨by decide +kernel, rfl⟩
theorem dX8_set_53 : DD cX8_set 53 (.istore 4) 2 55 := ⟨by decide +kernel, rfl⟩
theorem dX8_set_55 : DD cX8_set 55 (.aload_n 0) 1 56 := ⟨by decide +kernel, rfl⟩
theorem dX8_set_56 : DD cX8_set 56 (.getfield 9) 3 59 := ⟨by decide +kernel, rfl⟩
theorem dX8_set_59 : DD cX8_set 59 (.bipush 40) 2 61 := ⟨by decide +kernel, rfl⟩
theorem dX8_set_61 : DD cX8_set 61 (.bipush 8) 2 63 := ⟨by decide +kernel, rfl⟩
theorem dX8_set_63 : DD cX8_set 63 (.iload_n 1) 1 64 := ⟨by decide +kernel, rfl⟩
theorem dX8_set_64 : DD cX8_set 64 (.imul) 1 65 := ⟨by decide +kernel, rfl⟩
theorem dX8_set_65 : DD cX8_set 65 (.iadd) 1 66 := ⟨by decide +kernel, rfl⟩
theorem dX8_set_66 : DD cX8_set 66 (.iload_n 2) 1 67 := ⟨by decide +kernel, rfl⟩
theorem dX8_set_67 : DD cX8_set 67 (.iadd) 1 68 := ⟨by decide +kernel, rfl⟩
theorem dX8_set_68 : DD cX8_set 68 (.iload_n 3) 1 69 := ⟨by decide +kernel, rfl⟩
theorem dX8_set_69 : DD cX8_set 69 (.iastore) 1 70 := ⟨by decide +kernel, rfl⟩
theorem dX8_set_70 : DD cX8_set 70 (.iload 4) 2 72 := ⟨by decide +kernel, rfl⟩
theorem dX8_set_72 : DD cX8_set 72 (.ireturn) 1 73 := ⟨by decide +kernel, rfl⟩
theorem dX8_isOf_0 : DD cX8_isOf 0 (.iload_n 1) 1 1 := ⟨by decide +kernel, rfl⟩
theorem dX8_isOf_1 : DD cX8_isOf 1 (.ifCond .eq 28) 3 4 := ⟨by decide +kernel, rfl⟩
theorem dX8_isOf_4 : DD cX8_isOf 4 (.iload_n 1) 1 5 := ⟨by decide +kernel, rfl⟩
theorem dX8_isOf_5 : DD cX8_isOf 5 (.iload_n 0) 1 6 := ⟨by decide +kernel, rfl⟩
theorem dX8_isOf_6 : DD cX8_isOf 6 (.if_icmp .eq 23) 3 9 := ⟨by decide +kernel, rfl⟩
theorem dX8_isOf_9 : DD cX8_isOf 9 (.iload_n 1) 1 10 := ⟨by decide +kernel, rfl⟩
theorem dX8_isOf_10 : DD cX8_isOf 10 (.iconst 2) 1 11 := ⟨by decide +kernel, rfl⟩
theorem dX8_isOf_11 : DD cX8_isOf 11 (.if_icmp .ne 8) 3 14 := ⟨by decide +kernel, rfl⟩
theorem dX8_isOf_14 : DD cX8_isOf 14 (.iload_n 0) 1 15 := ⟨by decide +kernel, rfl⟩
theorem dX8_isOf_15 : DD cX8_isOf 15 (.iconst 3) 1 16 := ⟨by decide +kernel, rfl⟩
theorem dX8_isOf_16 : DD cX8_isOf 16 (.if_icmp .eq 13) 3 19 := ⟨by decide +kernel, rfl⟩
theorem dX8_isOf_19 : DD cX8_isOf 19 (.iload_n 1) 1 20 := ⟨by decide +kernel, rfl⟩
theorem dX8_isOf_20 : DD cX8_isOf 20 (.iconst 4) 1 21 := ⟨by decide +kernel, rfl⟩
theorem dX8_isOf_21 : DD cX8_isOf 21 (.if_icmp .ne 12) 3 24 := ⟨by decide +kernel, rfl⟩
theorem dX8_isOf_24 : DD cX8_isOf 24 (.iload_n 0) 1 25 := ⟨by decide +kernel, rfl⟩
theorem dX8_isOf_25 : DD cX8_isOf 25 (.iconst 5) 1 26 := ⟨by decide +kernel, rfl⟩
theorem dX8_isOf_26 : DD cX8_isOf 26 (.if_icmp .ne 7) 3 29 := ⟨by decide +kernel, rfl⟩
theorem dX8_isOf_29 : DD cX8_isOf 29 (.iconst 1) 1 30 := ⟨by decide +kernel, rfl⟩
theorem dX8_isOf_30 : DD cX8_isOf 30 (.goto 4) 3 33 := ⟨by decide +kernel, rfl⟩
theorem dX8_isOf_33 : DD cX8_isOf 33 (.iconst 0) 1 34 := ⟨by decide +kernel, rfl⟩
theorem dX8_isOf_34 : DD cX8_isOf 34 (.ireturn) 1 35 := ⟨by decide +kernel, rfl⟩
theorem dX8_as_0 : DD cX8_as 0 (.aload_n 0) 1 1 := ⟨by decide +kernel, rfl⟩
theorem dX8_as_1 : DD cX8_as 1 (.iload_n 1) 1 2 := ⟨by decide +kernel, rfl⟩
theorem dX8_as_2 : DD cX8_as 2 (.invokevirtual 43) 3 5 := ⟨by decide +kernel, rfl⟩
theorem dX8_as_5 : DD cX8_as 5 (.ifCond .eq 15) 3 8 := ⟨by decide +kernel, rfl⟩
theorem dX8_as_8 : DD cX8_as 8 (.iload_n 2) 1 9 := ⟨by decide +kernel, rfl⟩
theorem dX8_as_9 : DD cX8_as 9 (.i2l) 1 10 := ⟨by decide +kernel, rfl⟩
theorem dX8_as_10 : DD cX8_as 10 (.lconst 0) 1 11 := ⟨by decide +kernel, rfl⟩
theorem dX8_as_11 : DD cX8_as 11 (.ldc2_w 47) 3 14 := ⟨by decide +kernel, rfl⟩
theorem dX8_as_14 : DD cX8_as 14 (.invokestatic 39) 3 17 := ⟨by decide +kernel, rfl⟩
theorem dX8_as_17 : DD cX8_as 17 (.ifCond .ne 10) 3 20 := ⟨by decide +kernel, rfl⟩
theorem dX8_as_20 : DD cX8_as 20 (.aload_n 0) 1 21 := ⟨by decide +kernel, rfl⟩
theorem dX8_as_21 : DD cX8_as 21 (.ldc 38) 2 23 := ⟨by decide +kernel, rfl⟩
theorem dX8_as_23 : DD cX8_as 23 (.invokevirtual 51) 3 26 := ⟨by decide +kernel, rfl⟩
theorem dX8_as_26 : DD cX8_as 26 (.ireturn) 1 27 := ⟨by decide +kernel, rfl⟩
theorem dX8_as_27 : DD cX8_as 27 (.aload_n 0) 1 28 := ⟨by decide +kernel, rfl⟩
theorem dX8_as_28 : DD cX8_as 28 (.getfield 9) 3 31 := ⟨by decide +kernel, rfl⟩
theorem dX8_as_31 : DD cX8_as 31 (.iload_n 1) 1 32 := ⟨by decide +kernel, rfl⟩
theorem dX8_as_32 : DD cX8_as 32 (.iconst 0) 1 33 := ⟨by decide +kernel, rfl⟩
theorem dX8_as_33 : DD cX8_as 33 (.invokestatic 74) 3 36 := ⟨by decide +kernel, rfl⟩
theorem dX8_as_36 : DD cX8_as 36 (.iload_n 2) 1 37 := ⟨by decide +kernel, rfl⟩
theorem dX8_as_37 : DD cX8_as 37 (.invokestatic 78) 3 40 := ⟨by decide +kernel, rfl⟩
theorem dX8_as_40 : DD cX8_as 40 (.ifCond .eq 15) 3 43 := ⟨by decide +kernel, rfl⟩
theorem dX8_as_43 : DD cX8_as 43 (.aload_n 0) 1 44 := ⟨by decide +kernel, rfl⟩
theorem dX8_as_44 : DD cX8_as 44 (.getfield 9) 3 47 := ⟨by decide +kernel, rfl⟩
theorem dX8_as_47 : DD cX8_as 47 (.iload_n 1) 1 48 := ⟨by decide +kernel, rfl⟩
theorem dX8_as_48 : DD cX8_as 48 (.iconst 5) 1 49 := ⟨by decide +kernel, rfl⟩
theorem dX8_as_49 : DD cX8_as 49 (.invokestatic 74) 3 52 := ⟨by decide +kernel, rfl⟩
theorem dX8_as_52 : DD cX8_as 52 (.goto 9) 3 55 := ⟨by decide +kernel, rfl⟩
theorem dX8_as_55 : DD cX8_as 55 (.aload_n 0) 1 56 := ⟨by decide +kernel, rfl⟩
theorem dX8_as_56 : DD cX8_as 56 (.ldc 81) 2 58 := ⟨by decide +kernel, rfl⟩
theorem dX8_as_58 : DD cX8_as 58 (.invokevirtual 51) 3 61 := ⟨by decide +kernel, rfl⟩
theorem dX8_as_61 : DD cX8_as 61 (.ireturn) 1 62 := ⟨by decide +kernel, rfl⟩
theorem dX8_log_0 : DD cX8_log 0 (.iload_n 1) 1 1 := ⟨by decide +kernel, rfl⟩
theorem dX8_log_1 : DD cX8_log 1 (.i2l) 1 2 := ⟨by decide +kernel, rfl⟩
theorem dX8_log_2 : DD cX8_log 2 (.lconst 0) 1 3 := ⟨by decide +kernel, rfl⟩
theorem dX8_log_3 : DD cX8_log 3 (.ldc2_w 82) 3 6 := ⟨by decide +kernel, rfl⟩
theorem dX8_log_6 : DD cX8_log 6 (.invokestatic 39) 3 9 := ⟨by decide +kernel, rfl⟩
theorem dX8_log_9 : DD cX8_log 9 (.ifCond .ne 10) 3 12 := ⟨by decide +kernel, rfl⟩
theorem dX8_log_12 : DD cX8_log 12 (.aload_n 0) 1 13 := ⟨by decide +kernel, rfl⟩
theorem dX8_log_13 : DD cX8_log 13 (.ldc 38) 2 15 := ⟨by decide +kernel, rfl⟩
theorem dX8_log_15 : DD cX8_log 15 (.invokevirtual 51) 3 18 := ⟨by decide +kernel, rfl⟩
theorem dX8_log_18 : DD cX8_log 18 (.ireturn) 1 19 := ⟨by decide +kernel, rfl⟩
theorem dX8_log_19 : DD cX8_log 19 (.iload_n 1) 1 20 := ⟨by decide +kernel, rfl⟩
theorem dX8_log_20 : DD cX8_log 20 (.ifCond .ne 7) 3 23 := ⟨by decide +kernel, rfl⟩
theorem dX8_log_23 : DD cX8_log 23 (.iconst 1) 1 24 := ⟨by decide +kernel, rfl⟩
theorem dX8_log_24 : DD cX8_log 24 (.goto 4) 3 27 := ⟨by decide +kernel, rfl⟩
theorem dX8_log_27 : DD cX8_log 27 (.iconst 0) 1 28 := ⟨by decide +kernel, rfl⟩
theorem dX8_log_28 : DD cX8_log 28 (.istore_n 3) 1 29 := ⟨by decide +kernel, rfl⟩
theorem dX8_log_29 : DD cX8_log 29 (.iload_n 1) 1 30 := ⟨by decide +kernel, rfl⟩
theorem dX8_log_30 : DD cX8_log 30 (.ifCond .ne 8) 3 33 := ⟨by decide +kernel, rfl⟩
theorem dX8_log_33 : DD cX8_log 33 (.bipush 99) 2 35 := ⟨by decide +kernel, rfl⟩
theorem dX8_log_35 : DD cX8_log 35 (.goto 26) 3 38 := ⟨by decide +kernel, rfl⟩
theorem dX8_log_38 : DD cX8_log 38 (.iload_n 1) 1 39 := ⟨by decide +kernel, rfl⟩
theorem dX8_log_39 : DD cX8_log 39 (.iconst 3) 1 40 := ⟨by decide +kernel, rfl⟩
theorem dX8_log_40 : DD cX8_log 40 (.if_icmp .ne 9) 3 43 := ⟨by decide +kernel, rfl⟩
theorem dX8_log_43 : DD cX8_log 43 (.sipush 999) 3 46 := ⟨by decide +kernel, rfl⟩
theorem dX8_log_46 : DD cX8_log 46 (.goto 15) 3 49 := ⟨by decide +kernel, rfl⟩
theorem dX8_log_49 : DD cX8_log 49 (.iload_n 1) 1 50 := ⟨by decide +kernel, rfl⟩
theorem dX8_log_50 : DD cX8_log 50 (.iconst 4) 1 51 := ⟨by decide +kernel, rfl⟩
theorem dX8_log_51 : DD cX8_log 51 (.if_icmp .ne 8) 3 54 := ⟨by decide +kernel, rfl⟩
theorem dX8_log_54 : DD cX8_log 54 (.bipush 100) 2 56 := ⟨by decide +kernel, rfl⟩
theorem dX8_log_56 : DD cX8_log 56 (.goto 5) 3 59 := ⟨by decide +kernel, rfl⟩
theorem dX8_log_59 : DD cX8_log 59 (.bipush 50) 2 61 := ⟨by decide +kernel, rfl⟩
theorem dX8_log_61 : DD cX8_log 61 (.istore 4) 2 63 := ⟨by decide +kernel, rfl⟩
theorem dX8_log_63 : DD cX8_log 63 (.iload_n 2) 1 64 := ⟨by decide +kernel, rfl⟩
theorem dX8_log_64 : DD cX8_log 64 (.i2l) 1 65 := ⟨by decide +kernel, rfl⟩
theorem dX8_log_65 : DD cX8_log 65 (.iload_n 3) 1 66 := ⟨by decide +kernel, rfl⟩
theorem dX8_log_66 : DD cX8_log 66 (.i2l) 1 67 := ⟨by decide +kernel, rfl⟩
theorem dX8_log_67 : DD cX8_log 67 (.iload 4) 2 69 := ⟨by decide +kernel, rfl⟩
theorem dX8_log_69 : DD cX8_log 69 (.i2l) 1 70 := ⟨by decide +kernel, rfl⟩
theorem dX8_log_70 : DD cX8_log 70 (.invokestatic 39) 3 73 := ⟨by decide +kernel, rfl⟩
theorem dX8_log_73 : DD cX8_log 73 (.ifCond .ne 10) 3 76 := ⟨by decide +kernel, rfl⟩
theorem dX8_log_76 : DD cX8_log 76 (.aload_n 0) 1 77 := ⟨by decide +kernel, rfl⟩
theorem dX8_log_77 : DD cX8_log 77 (.ldc 38) 2 79 := ⟨by decide +kernel, rfl⟩
theorem dX8_log_79 : DD cX8_log 79 (.invokevirtual 51) 3 82 := ⟨by decide +kernel, rfl⟩
theorem dX8_log_82 : DD cX8_log 82 (.ireturn) 1 83 := ⟨by decide +kernel, rfl⟩
theorem dX8_log_83 : DD cX8_log 83 (.aload_n 0) 1 84 := ⟨by decide +kernel, rfl⟩
theorem dX8_log_84 : DD cX8_log 84 (.getfield 9) 3 87 := ⟨by decide +kernel, rfl⟩
theorem dX8_log_87 : DD cX8_log 87 (.bipush 10) 2 89 := ⟨by decide +kernel, rfl⟩
theorem dX8_log_89 : DD cX8_log 89 (.iload_n 1) 1 90 := ⟨by decide +kernel, rfl⟩
theorem dX8_log_90 : DD cX8_log 90 (.iadd) 1 91 := ⟨by decide +kernel, rfl⟩
theorem dX8_log_91 : DD cX8_log 91 (.iaload) 1 92 := ⟨by decide +kernel, rfl⟩
theorem dX8_log_92 : DD cX8_log 92 (.istore 5) 2 94 := ⟨by decide +kernel, rfl⟩
theorem dX8_log_94 : DD cX8_log 94 (.aload_n 0) 1 95 := ⟨by decide +kernel, rfl⟩
theorem dX8_log_95 : DD cX8_log 95 (.getfield 9) 3 98 := ⟨by decide +kernel, rfl⟩
theorem dX8_log_98 : DD cX8_log 98 (.bipush 10) 2 100 := ⟨by decide +kernel, rfl⟩
theorem dX8_log_100 : DD cX8_log 100 (.iload_n 1) 1 101 := ⟨by decide +kernel, rfl⟩
theorem dX8_log_101 : DD cX8_log 101 (.iadd) 1 102 := ⟨by decide +kernel, rfl⟩
theorem dX8_log_102 : DD cX8_log 102 (.iload_n 2) 1 103 := ⟨by decide +kernel, rfl⟩
theorem dX8_log_103 : DD cX8_log 103 (.iastore) 1 104 := ⟨by decide +kernel, rfl⟩
theorem dX8_log_104 : DD cX8_log 104 (.iload 5) 2 106 := ⟨by decide +kernel, rfl⟩
theorem dX8_log_106 : DD cX8_log 106 (.ireturn) 1 107 := ⟨by decide +kernel, rfl⟩
theorem dX8_ruleOf_0 : DD cX8_ruleOf 0 (.bipush 110) 2 2 := ⟨by decide +kernel, rfl⟩
theorem dX8_ruleOf_2 : DD cX8_ruleOf 2 (.bipush 25) 2 4 := ⟨by decide +kernel, rfl⟩
theorem dX8_ruleOf_4 : DD cX8_ruleOf 4 (.iload_n 1) 1 5 := ⟨by decide +kernel, rfl⟩
theorem dX8_ruleOf_5 : DD cX8_ruleOf 5 (.imul) 1 6 := ⟨by decide +kernel, rfl⟩
theorem dX8_ruleOf_6 : DD cX8_ruleOf 6 (.iadd) 1 7 := ⟨by decide +kernel, rfl⟩
theorem dX8_ruleOf_7 : DD cX8_ruleOf 7 (.istore 6) 2 9 := ⟨by decide +kernel, rfl⟩
theorem dX8_ruleOf_9 : DD cX8_ruleOf 9 (.iconst 0) 1 10 := ⟨by decide +kernel, rfl⟩
theorem dX8_ruleOf_10 : DD cX8_ruleOf 10 (.istore 7) 2 12 := ⟨by decide +kernel, rfl⟩
theorem dX8_ruleOf_12 : DD cX8_ruleOf 12 (.iload 7) 2 14 := ⟨by decide +kernel, rfl⟩
theorem dX8_ruleOf_14 : DD cX8_ruleOf 14 (.aload_n 0) 1 15 := ⟨by decide +kernel, rfl⟩
theorem dX8_ruleOf_15 : DD cX8_ruleOf 15 (.iload 6) 2 17 := ⟨by decide +kernel, rfl⟩
theorem dX8_ruleOf_17 : DD cX8_ruleOf 17 (.iaload) 1 18 := ⟨by decide +kernel, rfl⟩
theorem dX8_ruleOf_18 : DD cX8_ruleOf 18 (.if_icmp .ge 106) 3 21 := ⟨by decide +kernel, rfl⟩
theorem dX8_ruleOf_21 : DD cX8_ruleOf 21 (.iload 6) 2 23 := ⟨by decide +kernel, rfl⟩
theorem dX8_ruleOf_23 : DD cX8_ruleOf 23 (.iconst 1) 1 24 := ⟨by decide +kernel, rfl⟩
theorem dX8_ruleOf_24 : DD cX8_ruleOf 24 (.iadd) 1 25 := ⟨by decide +kernel, rfl⟩
theorem dX8_ruleOf_25 : DD cX8_ruleOf 25 (.iconst 4) 1 26 := ⟨by decide +kernel, rfl⟩
theorem dX8_ruleOf_26 : DD cX8_ruleOf 26 (.iload 7) 2 28 := ⟨by decide +kernel, rfl⟩
theorem dX8_ruleOf_28 : DD cX8_ruleOf 28 (.imul) 1 29 := ⟨by decide +kernel, rfl⟩
theorem dX8_ruleOf_29 : DD cX8_ruleOf 29 (.iadd) 1 30 := ⟨by decide +kernel, rfl⟩
theorem dX8_ruleOf_30 : DD cX8_ruleOf 30 (.istore 8) 2 32 := ⟨by decide +kernel, rfl⟩
theorem dX8_ruleOf_32 : DD cX8_ruleOf 32 (.aload_n 0) 1 33 := ⟨by decide +kernel, rfl⟩
theorem dX8_ruleOf_33 : DD cX8_ruleOf 33 (.iload 8) 2 35 := ⟨by decide +kernel, rfl⟩
theorem dX8_ruleOf_35 : DD cX8_ruleOf 35 (.iaload) 1 36 := ⟨by decide +kernel, rfl⟩
theorem dX8_ruleOf_36 : DD cX8_ruleOf 36 (.ifCond .ne 7) 3 39 := ⟨by decide +kernel, rfl⟩
theorem dX8_ruleOf_39 : DD cX8_ruleOf 39 (.iload_n 2) 1 40 := ⟨by decide +kernel, rfl⟩
theorem dX8_ruleOf_40 : DD cX8_ruleOf 40 (.goto 30) 3 43 := ⟨by decide +kernel, rfl⟩
theorem dX8_ruleOf_43 : DD cX8_ruleOf 43 (.aload_n 0) 1 44 := ⟨by decide +kernel, rfl⟩
theorem dX8_ruleOf_44 : DD cX8_ruleOf 44 (.iload 8) 2 46 := ⟨by decide +kernel, rfl⟩
theorem dX8_ruleOf_46 : DD cX8_ruleOf 46 (.iaload) 1 47 := ⟨by decide +kernel, rfl⟩
theorem dX8_ruleOf_47 : DD cX8_ruleOf 47 (.iconst 1) 1 48 := ⟨by decide +kernel, rfl⟩
theorem dX8_ruleOf_48 : DD cX8_ruleOf 48 (.if_icmp .ne 7) 3 51 := ⟨by decide +kernel, rfl⟩
theorem dX8_ruleOf_51 : DD cX8_ruleOf 51 (.iload_n 3) 1 52 := ⟨by decide +kernel, rfl⟩
theorem dX8_ruleOf_52 : DD cX8_ruleOf 52 (.goto 18) 3 55 := ⟨by decide +kernel, rfl⟩
theorem dX8_ruleOf_55 : DD cX8_ruleOf 55 (.aload_n 0) 1 56 := ⟨by decide +kernel, rfl⟩
theorem dX8_ruleOf_56 : DD cX8_ruleOf 56 (.iload 8) 2 58 := ⟨by decide +kernel, rfl⟩
theorem dX8_ruleOf_58 : DD cX8_ruleOf 58 (.iaload) 1 59 := ⟨by decide +kernel, rfl⟩
theorem dX8_ruleOf_59 : DD cX8_ruleOf 59 (.iconst 2) 1 60 := ⟨by decide +kernel, rfl⟩
theorem dX8_ruleOf_60 : DD cX8_ruleOf 60 (.if_icmp .ne 8) 3 63 := ⟨by decide +kernel, rfl⟩
theorem dX8_ruleOf_63 : DD cX8_ruleOf 63 (.iload 4) 2 65 := ⟨by decide +kernel, rfl⟩
theorem dX8_ruleOf_65 : DD cX8_ruleOf 65 (.goto 5) 3 68 := ⟨by decide +kernel, rfl⟩
theorem dX8_ruleOf_68 : DD cX8_ruleOf 68 (.iload 5) 2 70 := ⟨by decide +kernel, rfl⟩
theorem dX8_ruleOf_70 : DD cX8_ruleOf 70 (.istore 9) 2 72 := ⟨by decide +kernel, rfl⟩
theorem dX8_ruleOf_72 : DD cX8_ruleOf 72 (.aload_n 0) 1 73 := ⟨by decide +kernel, rfl⟩
theorem dX8_ruleOf_73 : DD cX8_ruleOf 73 (.iload 8) 2 75 := ⟨by decide +kernel, rfl⟩
theorem dX8_ruleOf_75 : DD cX8_ruleOf 75 (.iaload) 1 76 := ⟨by decide +kernel, rfl⟩
theorem dX8_ruleOf_76 : DD cX8_ruleOf 76 (.iconst 4) 1 77 := ⟨by decide +kernel, rfl⟩
theorem dX8_ruleOf_77 : DD cX8_ruleOf 77 (.if_icmp .eq 38) 3 80 := ⟨by decide +kernel, rfl⟩
theorem dX8_ruleOf_80 : DD cX8_ruleOf 80 (.aload_n 0) 1 81 := ⟨by decide +kernel, rfl⟩
theorem dX8_ruleOf_81 : DD cX8_ruleOf 81 (.iload 8) 2 83 := ⟨by decide +kernel, rfl⟩
theorem dX8_ruleOf_83 : DD cX8_ruleOf 83 (.iconst 1) 1 84 := ⟨by decide +kernel, rfl⟩
theorem dX8_ruleOf_84 : DD cX8_ruleOf 84 (.iadd) 1 85 := ⟨by decide +kernel, rfl⟩
theorem dX8_ruleOf_85 : DD cX8_ruleOf 85 (.iaload) 1 86 := ⟨by decide +kernel, rfl⟩
theorem dX8_ruleOf_86 : DD cX8_ruleOf 86 (.iconst 1) 1 87 := ⟨by decide +kernel, rfl⟩
theorem dX8_ruleOf_87 : DD cX8_ruleOf 87 (.if_icmp .ne 17) 3 90 := ⟨by decide +kernel, rfl⟩
theorem dX8_ruleOf_90 : DD cX8_ruleOf 90 (.iload 9) 2 92 := ⟨by decide +kernel, rfl⟩
theorem dX8_ruleOf_92 : DD cX8_ruleOf 92 (.aload_n 0) 1 93 := ⟨by decide +kernel, rfl⟩
theorem dX8_ruleOf_93 : DD cX8_ruleOf 93 (.iload 8) 2 95 := ⟨by decide +kernel, rfl⟩
theorem dX8_ruleOf_95 : DD cX8_ruleOf 95 (.iconst 2) 1 96 := ⟨by decide +kernel, rfl⟩
theorem dX8_ruleOf_96 : DD cX8_ruleOf 96 (.iadd) 1 97 := ⟨by decide +kernel, rfl⟩
theorem dX8_ruleOf_97 : DD cX8_ruleOf 97 (.iaload) 1 98 := ⟨by decide +kernel, rfl⟩
theorem dX8_ruleOf_98 : DD cX8_ruleOf 98 (.if_icmp .ge 20) 3 101 := ⟨by decide +kernel, rfl⟩
theorem dX8_ruleOf_101 : DD cX8_ruleOf 101 (.goto 14) 3 104 := ⟨by decide +kernel, rfl⟩
theorem dX8_ruleOf_104 : DD cX8_ruleOf 104 (.iload 9) 2 106 := ⟨by decide +kernel, rfl⟩
theorem dX8_ruleOf_106 : DD cX8_ruleOf 106 (.aload_n 0) 1 107 := ⟨by decide +kernel, rfl⟩
theorem dX8_ruleOf_107 : DD cX8_ruleOf 107 (.iload 8) 2 109 := ⟨by decide +kernel, rfl⟩
theorem dX8_ruleOf_109 : DD cX8_ruleOf 109 (.iconst 2) 1 110 := ⟨by decide +kernel, rfl⟩
theorem dX8_ruleOf_110 : DD cX8_ruleOf 110 (.iadd) 1 111 := ⟨by decide +kernel, rfl⟩
theorem dX8_ruleOf_111 : DD cX8_ruleOf 111 (.iaload) 1 112 := ⟨by decide +kernel, rfl⟩
theorem dX8_ruleOf_112 : DD cX8_ruleOf 112 (.if_icmp .le 6) 3 115 := ⟨by decide +kernel, rfl⟩
theorem dX8_ruleOf_115 : DD cX8_ruleOf 115 (.iload 7) 2 117 := ⟨by decide +kernel, rfl⟩
theorem dX8_ruleOf_117 : DD cX8_ruleOf 117 (.ireturn) 1 118 := ⟨by decide +kernel, rfl⟩
theorem dX8_ruleOf_118 : DD cX8_ruleOf 118 (.iinc 7 1) 3 121 := ⟨by decide +kernel, rfl⟩
theorem dX8_ruleOf_121 : DD cX8_ruleOf 121 (.goto (-109)) 3 124 := ⟨by decide +kernel, rfl⟩
theorem dX8_ruleOf_124 : DD cX8_ruleOf 124 (.iconst (-1)) 1 125 := ⟨by decide +kernel, rfl⟩
theorem dX8_ruleOf_125 : DD cX8_ruleOf 125 (.ireturn) 1 126 := ⟨by decide +kernel, rfl⟩
theorem dX8_pushOf_0 : DD cX8_pushOf 0 (.aload_n 0) 1 1 := ⟨by decide +kernel, rfl⟩
theorem dX8_pushOf_1 : DD cX8_pushOf 1 (.iload_n 1) 1 2 := ⟨by decide +kernel, rfl⟩
theorem dX8_pushOf_2 : DD cX8_pushOf 2 (.iconst 3) 1 3 := ⟨by decide +kernel, rfl⟩
theorem dX8_pushOf_3 : DD cX8_pushOf 3 (.invokestatic 74) 3 6 := ⟨by decide +kernel, rfl⟩
theorem dX8_pushOf_6 : DD cX8_pushOf 6 (.istore 6) 2 8 := ⟨by decide +kernel, rfl⟩
theorem dX8_pushOf_8 : DD cX8_pushOf 8 (.iload_n 2) 1 9 := ⟨by decide +kernel, rfl⟩
theorem dX8_pushOf_9 : DD cX8_pushOf 9 (.iconst 2) 1 10 := ⟨by decide +kernel, rfl⟩
theorem dX8_pushOf_10 : DD cX8_pushOf 10 (.idiv) 1 11 := ⟨by decide +kernel, rfl⟩
theorem dX8_pushOf_11 : DD cX8_pushOf 11 (.ineg) 1 12 := ⟨by decide +kernel, rfl⟩
theorem dX8_pushOf_12 : DD cX8_pushOf 12 (.iload 6) 2 14 := ⟨by decide +kernel, rfl⟩
theorem dX8_pushOf_14 : DD cX8_pushOf 14 (.invokestatic 84) 3 17 := ⟨by decide +kernel, rfl⟩
theorem dX8_pushOf_17 : DD cX8_pushOf 17 (.istore 7) 2 19 := ⟨by decide +kernel, rfl⟩
theorem dX8_pushOf_19 : DD cX8_pushOf 19 (.aload_n 0) 1 20 := ⟨by decide +kernel, rfl⟩
theorem dX8_pushOf_20 : DD cX8_pushOf 20 (.iload_n 1) 1 21 := ⟨by decide +kernel, rfl⟩
theorem dX8_pushOf_21 : DD cX8_pushOf 21 (.iconst 0) 1 22 := ⟨by decide +kernel, rfl⟩
theorem dX8_pushOf_22 : DD cX8_pushOf 22 (.invokestatic 74) 3 25 := ⟨by decide +kernel, rfl⟩
theorem dX8_pushOf_25 : DD cX8_pushOf 25 (.tableswitch 227 1 5 #[35, 48, 51, 205, 68]) 35 60 := ⟨by decide +kernel, rfl⟩
theorem dX8_pushOf_60 : DD cX8_pushOf 60 (.iload 4) 2 62 := ⟨by decide +kernel, rfl⟩
theorem dX8_pushOf_62 : DD cX8_pushOf 62 (.iconst 2) 1 63 := ⟨by decide +kernel, rfl⟩
theorem dX8_pushOf_63 : DD cX8_pushOf 63 (.if_icmp .lt 8) 3 66 := ⟨by decide +kernel, rfl⟩
theorem dX8_pushOf_66 : DD cX8_pushOf 66 (.iload 6) 2 68 := ⟨by decide +kernel, rfl⟩
theorem dX8_pushOf_68 : DD cX8_pushOf 68 (.goto 4) 3 71 := ⟨by decide +kernel, rfl⟩
theorem dX8_pushOf_71 : DD cX8_pushOf 71 (.iconst 0) 1 72 := ⟨by decide +kernel, rfl⟩
theorem dX8_pushOf_72 : DD cX8_pushOf 72 (.ireturn) 1 73 := ⟨by decide +kernel, rfl⟩
theorem dX8_pushOf_73 : DD cX8_pushOf 73 (.iload 7) 2 75 := ⟨by decide +kernel, rfl⟩
theorem dX8_pushOf_75 : DD cX8_pushOf 75 (.ireturn) 1 76 := ⟨by decide +kernel, rfl⟩
theorem dX8_pushOf_76 : DD cX8_pushOf 76 (.iload_n 2) 1 77 := ⟨by decide +kernel, rfl⟩
theorem dX8_pushOf_77 : DD cX8_pushOf 77 (.invokestatic 88) 3 80 := ⟨by decide +kernel, rfl⟩
theorem dX8_pushOf_80 : DD cX8_pushOf 80 (.iconst 5) 1 81 := ⟨by decide +kernel, rfl⟩
theorem dX8_pushOf_81 : DD cX8_pushOf 81 (.if_icmp .lt 8) 3 84 := ⟨by decide +kernel, rfl⟩
theorem dX8_pushOf_84 : DD cX8_pushOf 84 (.iload 7) 2 86 := ⟨by decide +kernel, rfl⟩
theorem dX8_pushOf_86 : DD cX8_pushOf 86 (.goto 6) 3 89 := ⟨by decide +kernel, rfl⟩
theorem dX8_pushOf_89 : DD cX8_pushOf 89 (.iload 6) 2 91 := ⟨by decide +kernel, rfl⟩
theorem dX8_pushOf_91 : DD cX8_pushOf 91 (.ineg) 1 92 := ⟨by decide +kernel, rfl⟩
theorem dX8_pushOf_92 : DD cX8_pushOf 92 (.ireturn) 1 93 := ⟨by decide +kernel, rfl⟩
theorem dX8_pushOf_93 : DD cX8_pushOf 93 (.aload_n 0) 1 94 := ⟨by decide +kernel, rfl⟩
theorem dX8_pushOf_94 : DD cX8_pushOf 94 (.iload_n 1) 1 95 := ⟨by decide +kernel, rfl⟩
theorem dX8_pushOf_95 : DD cX8_pushOf 95 (.bipush 6) 2 97 := ⟨by decide +kernel, rfl⟩
theorem dX8_pushOf_97 : DD cX8_pushOf 97 (.invokestatic 74) 3 100 := ⟨by decide +kernel, rfl⟩
theorem dX8_pushOf_100 : DD cX8_pushOf 100 (.ifCond .lt 108) 3 103 := ⟨by decide +kernel, rfl⟩
theorem dX8_pushOf_103 : DD cX8_pushOf 103 (.aload_n 0) 1 104 := ⟨by decide +kernel, rfl⟩
theorem dX8_pushOf_104 : DD cX8_pushOf 104 (.aload_n 0) 1 105 := ⟨by decide +kernel, rfl⟩
theorem dX8_pushOf_105 : DD cX8_pushOf 105 (.iload_n 1) 1 106 := ⟨by decide +kernel, rfl⟩
theorem dX8_pushOf_106 : DD cX8_pushOf 106 (.bipush 6) 2 108 := ⟨by decide +kernel, rfl⟩
theorem dX8_pushOf_108 : DD cX8_pushOf 108 (.invokestatic 74) 3 111 := ⟨by decide +kernel, rfl⟩
theorem dX8_pushOf_111 : DD cX8_pushOf 111 (.iload_n 2) 1 112 := ⟨by decide +kernel, rfl⟩
theorem dX8_pushOf_112 : DD cX8_pushOf 112 (.iload_n 3) 1 113 := ⟨by decide +kernel, rfl⟩
theorem dX8_pushOf_113 : DD cX8_pushOf 113 (.iload 4) 2 115 := ⟨by decide +kernel, rfl⟩
theorem dX8_pushOf_115 : DD cX8_pushOf 115 (.iload 5) 2 117 := ⟨by decide +kernel, rfl⟩
theorem dX8_pushOf_117 : DD cX8_pushOf 117 (.invokestatic 91) 3 120 := ⟨by decide +kernel, rfl⟩
theorem dX8_pushOf_120 : DD cX8_pushOf 120 (.istore 8) 2 122 := ⟨by decide +kernel, rfl⟩
theorem dX8_pushOf_122 : DD cX8_pushOf 122 (.iload 8) 2 124 := ⟨by decide +kernel, rfl⟩
theorem dX8_pushOf_124 : DD cX8_pushOf 124 (.ifCond .ge 7) 3 127 := ⟨by decide +kernel, rfl⟩
theorem dX8_pushOf_127 : DD cX8_pushOf 127 (.iconst 3) 1 128 := ⟨by decide +kernel, rfl⟩
theorem dX8_pushOf_128 : DD cX8_pushOf 128 (.goto 25) 3 131 := ⟨by decide +kernel, rfl⟩
theorem dX8_pushOf_131 : DD cX8_pushOf 131 (.aload_n 0) 1 132 := ⟨by decide +kernel, rfl⟩
theorem dX8_pushOf_132 : DD cX8_pushOf 132 (.bipush 110) 2 134 := ⟨by decide +kernel, rfl⟩
theorem dX8_pushOf_134 : DD cX8_pushOf 134 (.bipush 25) 2 136 := ⟨by decide +kernel, rfl⟩
theorem dX8_pushOf_136 : DD cX8_pushOf 136 (.aload_n 0) 1 137 := ⟨by decide +kernel, rfl⟩
theorem dX8_pushOf_137 : DD cX8_pushOf 137 (.iload_n 1) 1 138 := ⟨by decide +kernel, rfl⟩
theorem dX8_pushOf_138 : DD cX8_pushOf 138 (.bipush 6) 2 140 := ⟨by decide +kernel, rfl⟩
theorem dX8_pushOf_140 : DD cX8_pushOf 140 (.invokestatic 74) 3 143 := ⟨by decide +kernel, rfl⟩
theorem dX8_pushOf_143 : DD cX8_pushOf 143 (.imul) 1 144 := ⟨by decide +kernel, rfl⟩
theorem dX8_pushOf_144 : DD cX8_pushOf 144 (.iadd) 1 145 := ⟨by decide +kernel, rfl⟩
theorem dX8_pushOf_145 : DD cX8_pushOf 145 (.iconst 4) 1 146 := ⟨by decide +kernel, rfl⟩
theorem dX8_pushOf_146 : DD cX8_pushOf 146 (.iadd) 1 147 := ⟨by decide +kernel, rfl⟩
theorem dX8_pushOf_147 : DD cX8_pushOf 147 (.iconst 4) 1 148 := ⟨by decide +kernel, rfl⟩
theorem dX8_pushOf_148 : DD cX8_pushOf 148 (.iload 8) 2 150 := ⟨by decide +kernel, rfl⟩
theorem dX8_pushOf_150 : DD cX8_pushOf 150 (.imul) 1 151 := ⟨by decide +kernel, rfl⟩
theorem dX8_pushOf_151 : DD cX8_pushOf 151 (.iadd) 1 152 := ⟨by decide +kernel, rfl⟩
theorem dX8_pushOf_152 : DD cX8_pushOf 152 (.iaload) 1 153 := ⟨by decide +kernel, rfl⟩
theorem dX8_pushOf_153 : DD cX8_pushOf 153 (.istore 9) 2 155 := ⟨by decide +kernel, rfl⟩
theorem dX8_pushOf_155 : DD cX8_pushOf 155 (.iload 9) 2 157 := ⟨by decide +kernel, rfl⟩
theorem dX8_pushOf_157 : DD cX8_pushOf 157 (.ifCond .ne 8) 3 160 := ⟨by decide +kernel, rfl⟩
theorem dX8_pushOf_160 : DD cX8_pushOf 160 (.iload 6) 2 162 := ⟨by decide +kernel, rfl⟩
theorem dX8_pushOf_162 : DD cX8_pushOf 162 (.goto 45) 3 165 := ⟨by decide +kernel, rfl⟩
theorem dX8_pushOf_165 : DD cX8_pushOf 165 (.iload 9) 2 167 := ⟨by decide +kernel, rfl⟩
theorem dX8_pushOf_167 : DD cX8_pushOf 167 (.iconst 1) 1 168 := ⟨by decide +kernel, rfl⟩
theorem dX8_pushOf_168 : DD cX8_pushOf 168 (.if_icmp .ne 8) 3 171 := ⟨by decide +kernel, rfl⟩
theorem dX8_pushOf_171 : DD cX8_pushOf 171 (.iload 7) 2 173 := ⟨by decide +kernel, rfl⟩
theorem dX8_pushOf_173 : DD cX8_pushOf 173 (.goto 34) 3 176 := ⟨by decide +kernel, rfl⟩
theorem dX8_pushOf_176 : DD cX8_pushOf 176 (.iload 9) 2 178 := ⟨by decide +kernel, rfl⟩
theorem dX8_pushOf_178 : DD cX8_pushOf 178 (.iconst 2) 1 179 := ⟨by decide +kernel, rfl⟩
theorem dX8_pushOf_179 : DD cX8_pushOf 179 (.if_icmp .ne 9) 3 182 := ⟨by decide +kernel, rfl⟩
theorem dX8_pushOf_182 : DD cX8_pushOf 182 (.iload 6) 2 184 := ⟨by decide +kernel, rfl⟩
theorem dX8_pushOf_184 : DD cX8_pushOf 184 (.ineg) 1 185 := ⟨by decide +kernel, rfl⟩
theorem dX8_pushOf_185 : DD cX8_pushOf 185 (.goto 22) 3 188 := ⟨by decide +kernel, rfl⟩
theorem dX8_pushOf_188 : DD cX8_pushOf 188 (.iload 9) 2 190 := ⟨by decide +kernel, rfl⟩
theorem dX8_pushOf_190 : DD cX8_pushOf 190 (.iconst 4) 1 191 := ⟨by decide +kernel, rfl⟩
theorem dX8_pushOf_191 : DD cX8_pushOf 191 (.if_icmp .ne 15) 3 194 := ⟨by decide +kernel, rfl⟩
theorem dX8_pushOf_194 : DD cX8_pushOf 194 (.iload_n 3) 1 195 := ⟨by decide +kernel, rfl⟩
theorem dX8_pushOf_195 : DD cX8_pushOf 195 (.iconst 2) 1 196 := ⟨by decide +kernel, rfl⟩
theorem dX8_pushOf_196 : DD cX8_pushOf 196 (.idiv) 1 197 := ⟨by decide +kernel, rfl⟩
theorem dX8_pushOf_197 : DD cX8_pushOf 197 (.ineg) 1 198 := ⟨by decide +kernel, rfl⟩
theorem dX8_pushOf_198 : DD cX8_pushOf 198 (.iload 6) 2 200 := ⟨by decide +kernel, rfl⟩
theorem dX8_pushOf_200 : DD cX8_pushOf 200 (.invokestatic 84) 3 203 := ⟨by decide +kernel, rfl⟩
theorem dX8_pushOf_203 : DD cX8_pushOf 203 (.goto 4) 3 206 := ⟨by decide +kernel, rfl⟩
theorem dX8_pushOf_206 : DD cX8_pushOf 206 (.iconst 0) 1 207 := ⟨by decide +kernel, rfl⟩
theorem dX8_pushOf_207 : DD cX8_pushOf 207 (.ireturn) 1 208 := ⟨by decide +kernel, rfl⟩
theorem dX8_pushOf_208 : DD cX8_pushOf 208 (.iload 5) 2 210 := ⟨by decide +kernel, rfl⟩
theorem dX8_pushOf_210 : DD cX8_pushOf 210 (.bipush 19) 2 212 := ⟨by decide +kernel, rfl⟩
theorem dX8_pushOf_212 : DD cX8_pushOf 212 (.if_icmp .le 16) 3 215 := ⟨by decide +kernel, rfl⟩
theorem dX8_pushOf_215 : DD cX8_pushOf 215 (.iload 4) 2 217 := ⟨by decide +kernel, rfl⟩
theorem dX8_pushOf_217 : DD cX8_pushOf 217 (.iconst 1) 1 218 := ⟨by decide +kernel, rfl⟩
theorem dX8_pushOf_218 : DD cX8_pushOf 218 (.if_icmp .lt 10) 3 221 := ⟨by decide +kernel, rfl⟩
theorem dX8_pushOf_221 : DD cX8_pushOf 221 (.iload 6) 2 223 := ⟨by decide +kernel, rfl⟩
theorem dX8_pushOf_223 : DD cX8_pushOf 223 (.iconst 3) 1 224 := ⟨by decide +kernel, rfl⟩
theorem dX8_pushOf_224 : DD cX8_pushOf 224 (.idiv) 1 225 := ⟨by decide +kernel, rfl⟩
theorem dX8_pushOf_225 : DD cX8_pushOf 225 (.goto 4) 3 228 := ⟨by decide +kernel, rfl⟩
theorem dX8_pushOf_228 : DD cX8_pushOf 228 (.iconst 0) 1 229 := ⟨by decide +kernel, rfl⟩
theorem dX8_pushOf_229 : DD cX8_pushOf 229 (.ireturn) 1 230 := ⟨by decide +kernel, rfl⟩
theorem dX8_pushOf_230 : DD cX8_pushOf 230 (.iload 5) 2 232 := ⟨by decide +kernel, rfl⟩
theorem dX8_pushOf_232 : DD cX8_pushOf 232 (.bipush 19) 2 234 := ⟨by decide +kernel, rfl⟩
theorem dX8_pushOf_234 : DD cX8_pushOf 234 (.if_icmp .le 16) 3 237 := ⟨by decide +kernel, rfl⟩
theorem dX8_pushOf_237 : DD cX8_pushOf 237 (.iload 4) 2 239 := ⟨by decide +kernel, rfl⟩
theorem dX8_pushOf_239 : DD cX8_pushOf 239 (.iconst 1) 1 240 := ⟨by decide +kernel, rfl⟩
theorem dX8_pushOf_240 : DD cX8_pushOf 240 (.if_icmp .lt 10) 3 243 := ⟨by decide +kernel, rfl⟩
theorem dX8_pushOf_243 : DD cX8_pushOf 243 (.iload 6) 2 245 := ⟨by decide +kernel, rfl⟩
theorem dX8_pushOf_245 : DD cX8_pushOf 245 (.iconst 3) 1 246 := ⟨by decide +kernel, rfl⟩
theorem dX8_pushOf_246 : DD cX8_pushOf 246 (.idiv) 1 247 := ⟨by decide +kernel, rfl⟩
theorem dX8_pushOf_247 : DD cX8_pushOf 247 (.goto 4) 3 250 := ⟨by decide +kernel, rfl⟩
theorem dX8_pushOf_250 : DD cX8_pushOf 250 (.iconst 0) 1 251 := ⟨by decide +kernel, rfl⟩
theorem dX8_pushOf_251 : DD cX8_pushOf 251 (.ireturn) 1 252 := ⟨by decide +kernel, rfl⟩
theorem dX8_pushOf_252 : DD cX8_pushOf 252 (.iconst 0) 1 253 := ⟨by decide +kernel, rfl⟩
theorem dX8_pushOf_253 : DD cX8_pushOf 253 (.ireturn) 1 254 := ⟨by decide +kernel, rfl⟩
theorem dX8_push_0 : DD cX8_push 0 (.aload_n 0) 1 1 := ⟨by decide +kernel, rfl⟩
theorem dX8_push_1 : DD cX8_push 1 (.iload_n 1) 1 2 := ⟨by decide +kernel, rfl⟩
theorem dX8_push_2 : DD cX8_push 2 (.invokevirtual 43) 3 5 := ⟨by decide +kernel, rfl⟩
theorem dX8_push_5 : DD cX8_push 5 (.ifCond .eq 57) 3 8 := ⟨by decide +kernel, rfl⟩
theorem dX8_push_8 : DD cX8_push 8 (.iload_n 2) 1 9 := ⟨by decide +kernel, rfl⟩
theorem dX8_push_9 : DD cX8_push 9 (.i2l) 1 10 := ⟨by decide +kernel, rfl⟩
theorem dX8_push_10 : DD cX8_push 10 (.ldc2_w 95) 3 13 := ⟨by decide +kernel, rfl⟩
theorem dX8_push_13 : DD cX8_push 13 (.ldc2_w 97) 3 16 := ⟨by decide +kernel, rfl⟩
theorem dX8_push_16 : DD cX8_push 16 (.invokestatic 39) 3 19 := ⟨by decide +kernel, rfl⟩
theorem dX8_push_19 : DD cX8_push 19 (.ifCond .eq 43) 3 22 := ⟨by decide +kernel, rfl⟩
theorem dX8_push_22 : DD cX8_push 22 (.iload_n 3) 1 23 := ⟨by decide +kernel, rfl⟩
theorem dX8_push_23 : DD cX8_push 23 (.i2l) 1 24 := ⟨by decide +kernel, rfl⟩
theorem dX8_push_24 : DD cX8_push 24 (.ldc2_w 99) 3 27 := ⟨by decide +kernel, rfl⟩
theorem dX8_push_27 : DD cX8_push 27 (.ldc2_w 62) 3 30 := ⟨by decide +kernel, rfl⟩
theorem dX8_push_30 : DD cX8_push 30 (.invokestatic 39) 3 33 := ⟨by decide +kernel, rfl⟩
theorem dX8_push_33 : DD cX8_push 33 (.ifCond .eq 29) 3 36 := ⟨by decide +kernel, rfl⟩
theorem dX8_push_36 : DD cX8_push 36 (.iload 4) 2 38 := ⟨by decide +kernel, rfl⟩
theorem dX8_push_38 : DD cX8_push 38 (.i2l) 1 39 := ⟨by decide +kernel, rfl⟩
theorem dX8_push_39 : DD cX8_push 39 (.lconst 0) 1 40 := ⟨by decide +kernel, rfl⟩
theorem dX8_push_40 : DD cX8_push 40 (.ldc2_w 62) 3 43 := ⟨by decide +kernel, rfl⟩
theorem dX8_push_43 : DD cX8_push 43 (.invokestatic 39) 3 46 := ⟨by decide +kernel, rfl⟩
theorem dX8_push_46 : DD cX8_push 46 (.ifCond .eq 16) 3 49 := ⟨by decide +kernel, rfl⟩
theorem dX8_push_49 : DD cX8_push 49 (.iload 5) 2 51 := ⟨by decide +kernel, rfl⟩
theorem dX8_push_51 : DD cX8_push 51 (.i2l) 1 52 := ⟨by decide +kernel, rfl⟩
theorem dX8_push_52 : DD cX8_push 52 (.lconst 0) 1 53 := ⟨by decide +kernel, rfl⟩
theorem dX8_push_53 : DD cX8_push 53 (.ldc2_w 62) 3 56 := ⟨by decide +kernel, rfl⟩
theorem dX8_push_56 : DD cX8_push 56 (.invokestatic 39) 3 59 := ⟨by decide +kernel, rfl⟩
theorem dX8_push_59 : DD cX8_push 59 (.ifCond .ne 10) 3 62 := ⟨by decide +kernel, rfl⟩
theorem dX8_push_62 : DD cX8_push 62 (.aload_n 0) 1 63 := ⟨by decide +kernel, rfl⟩
theorem dX8_push_63 : DD cX8_push 63 (.ldc 38) 2 65 := ⟨by decide +kernel, rfl⟩
theorem dX8_push_65 : DD cX8_push 65 (.invokevirtual 51) 3 68 := ⟨by decide +kernel, rfl⟩
theorem dX8_push_68 : DD cX8_push 68 (.ireturn) 1 69 := ⟨by decide +kernel, rfl⟩
theorem dX8_push_69 : DD cX8_push 69 (.aload_n 0) 1 70 := ⟨by decide +kernel, rfl⟩
theorem dX8_push_70 : DD cX8_push 70 (.getfield 9) 3 73 := ⟨by decide +kernel, rfl⟩
theorem dX8_push_73 : DD cX8_push 73 (.iload_n 1) 1 74 := ⟨by decide +kernel, rfl⟩
theorem dX8_push_74 : DD cX8_push 74 (.iload_n 2) 1 75 := ⟨by decide +kernel, rfl⟩
theorem dX8_push_75 : DD cX8_push 75 (.iload_n 3) 1 76 := ⟨by decide +kernel, rfl⟩
theorem dX8_push_76 : DD cX8_push 76 (.iload 4) 2 78 := ⟨by decide +kernel, rfl⟩
theorem dX8_push_78 : DD cX8_push 78 (.iload 5) 2 80 := ⟨by decide +kernel, rfl⟩
theorem dX8_push_80 : DD cX8_push 80 (.invokestatic 101) 3 83 := ⟨by decide +kernel, rfl⟩
theorem dX8_push_83 : DD cX8_push 83 (.ireturn) 1 84 := ⟨by decide +kernel, rfl⟩
theorem dX8_sees_0 : DD cX8_sees 0 (.aload_n 0) 1 1 := ⟨by decide +kernel, rfl⟩
theorem dX8_sees_1 : DD cX8_sees 1 (.bipush 6) 2 3 := ⟨by decide +kernel, rfl⟩
theorem dX8_sees_3 : DD cX8_sees 3 (.iaload) 1 4 := ⟨by decide +kernel, rfl⟩
theorem dX8_sees_4 : DD cX8_sees 4 (.aload_n 0) 1 5 := ⟨by decide +kernel, rfl⟩
theorem dX8_sees_5 : DD cX8_sees 5 (.aload_n 0) 1 6 := ⟨by decide +kernel, rfl⟩
theorem dX8_sees_6 : DD cX8_sees 6 (.iconst 3) 1 7 := ⟨by decide +kernel, rfl⟩
theorem dX8_sees_7 : DD cX8_sees 7 (.iload_n 1) 1 8 := ⟨by decide +kernel, rfl⟩
theorem dX8_sees_8 : DD cX8_sees 8 (.iadd) 1 9 := ⟨by decide +kernel, rfl⟩
theorem dX8_sees_9 : DD cX8_sees 9 (.iaload) 1 10 := ⟨by decide +kernel, rfl⟩
theorem dX8_sees_10 : DD cX8_sees 10 (.iconst 2) 1 11 := ⟨by decide +kernel, rfl⟩
theorem dX8_sees_11 : DD cX8_sees 11 (.invokestatic 74) 3 14 := ⟨by decide +kernel, rfl⟩
theorem dX8_sees_14 : DD cX8_sees 14 (.isub) 1 15 := ⟨by decide +kernel, rfl⟩
theorem dX8_sees_15 : DD cX8_sees 15 (.istore_n 2) 1 16 := ⟨by decide +kernel, rfl⟩
theorem dX8_sees_16 : DD cX8_sees 16 (.iload_n 2) 1 17 := ⟨by decide +kernel, rfl⟩
theorem dX8_sees_17 : DD cX8_sees 17 (.ifCond .ge 7) 3 20 := ⟨by decide +kernel, rfl⟩
theorem dX8_sees_20 : DD cX8_sees 20 (.iconst 0) 1 21 := ⟨by decide +kernel, rfl⟩
theorem dX8_sees_21 : DD cX8_sees 21 (.goto 26) 3 24 := ⟨by decide +kernel, rfl⟩
theorem dX8_sees_24 : DD cX8_sees 24 (.iload_n 2) 1 25 := ⟨by decide +kernel, rfl⟩
theorem dX8_sees_25 : DD cX8_sees 25 (.aload_n 0) 1 26 := ⟨by decide +kernel, rfl⟩
theorem dX8_sees_26 : DD cX8_sees 26 (.bipush 6) 2 28 := ⟨by decide +kernel, rfl⟩
theorem dX8_sees_28 : DD cX8_sees 28 (.iaload) 1 29 := ⟨by decide +kernel, rfl⟩
theorem dX8_sees_29 : DD cX8_sees 29 (.if_icmp .ne 9) 3 32 := ⟨by decide +kernel, rfl⟩
theorem dX8_sees_32 : DD cX8_sees 32 (.aload_n 0) 1 33 := ⟨by decide +kernel, rfl⟩
theorem dX8_sees_33 : DD cX8_sees 33 (.iconst 5) 1 34 := ⟨by decide +kernel, rfl⟩
theorem dX8_sees_34 : DD cX8_sees 34 (.iaload) 1 35 := ⟨by decide +kernel, rfl⟩
theorem dX8_sees_35 : DD cX8_sees 35 (.goto 12) 3 38 := ⟨by decide +kernel, rfl⟩
theorem dX8_sees_38 : DD cX8_sees 38 (.aload_n 0) 1 39 := ⟨by decide +kernel, rfl⟩
theorem dX8_sees_39 : DD cX8_sees 39 (.bipush 24) 2 41 := ⟨by decide +kernel, rfl⟩
theorem dX8_sees_41 : DD cX8_sees 41 (.iload_n 2) 1 42 := ⟨by decide +kernel, rfl⟩
theorem dX8_sees_42 : DD cX8_sees 42 (.bipush 10) 2 44 := ⟨by decide +kernel, rfl⟩
theorem dX8_sees_44 : DD cX8_sees 44 (.irem) 1 45 := ⟨by decide +kernel, rfl⟩
theorem dX8_sees_45 : DD cX8_sees 45 (.iadd) 1 46 := ⟨by decide +kernel, rfl⟩
theorem dX8_sees_46 : DD cX8_sees 46 (.iaload) 1 47 := ⟨by decide +kernel, rfl⟩
theorem dX8_sees_47 : DD cX8_sees 47 (.ireturn) 1 48 := ⟨by decide +kernel, rfl⟩
theorem dX8_costOf_0 : DD cX8_costOf 0 (.iload_n 0) 1 1 := ⟨by decide +kernel, rfl⟩
theorem dX8_costOf_1 : DD cX8_costOf 1 (.ifCond .ne 7) 3 4 := ⟨by decide +kernel, rfl⟩
theorem dX8_costOf_4 : DD cX8_costOf 4 (.iconst 0) 1 5 := ⟨by decide +kernel, rfl⟩
theorem dX8_costOf_5 : DD cX8_costOf 5 (.goto 12) 3 8 := ⟨by decide +kernel, rfl⟩
theorem dX8_costOf_8 : DD cX8_costOf 8 (.iload_n 0) 1 9 := ⟨by decide +kernel, rfl⟩
theorem dX8_costOf_9 : DD cX8_costOf 9 (.invokestatic 88) 3 12 := ⟨by decide +kernel, rfl⟩
theorem dX8_costOf_12 : DD cX8_costOf 12 (.bipush 10) 2 14 := ⟨by decide +kernel, rfl⟩
theorem dX8_costOf_14 : DD cX8_costOf 14 (.idiv) 1 15 := ⟨by decide +kernel, rfl⟩
theorem dX8_costOf_15 : DD cX8_costOf 15 (.iconst 1) 1 16 := ⟨by decide +kernel, rfl⟩
theorem dX8_costOf_16 : DD cX8_costOf 16 (.iadd) 1 17 := ⟨by decide +kernel, rfl⟩
theorem dX8_costOf_17 : DD cX8_costOf 17 (.ireturn) 1 18 := ⟨by decide +kernel, rfl⟩
theorem dX8_pushes_0 : DD cX8_pushes 0 (.aload_n 0) 1 1 := ⟨by decide +kernel, rfl⟩
theorem dX8_pushes_1 : DD cX8_pushes 1 (.aload_n 0) 1 2 := ⟨by decide +kernel, rfl⟩
theorem dX8_pushes_2 : DD cX8_pushes 2 (.iconst 3) 1 3 := ⟨by decide +kernel, rfl⟩
theorem dX8_pushes_3 : DD cX8_pushes 3 (.iload_n 1) 1 4 := ⟨by decide +kernel, rfl⟩
theorem dX8_pushes_4 : DD cX8_pushes 4 (.iadd) 1 5 := ⟨by decide +kernel, rfl⟩
theorem dX8_pushes_5 : DD cX8_pushes 5 (.iaload) 1 6 := ⟨by decide +kernel, rfl⟩
theorem dX8_pushes_6 : DD cX8_pushes 6 (.aload_n 0) 1 7 := ⟨by decide +kernel, rfl⟩
theorem dX8_pushes_7 : DD cX8_pushes 7 (.iload_n 1) 1 8 := ⟨by decide +kernel, rfl⟩
theorem dX8_pushes_8 : DD cX8_pushes 8 (.invokestatic 104) 3 11 := ⟨by decide +kernel, rfl⟩
theorem dX8_pushes_11 : DD cX8_pushes 11 (.aload_n 0) 1 12 := ⟨by decide +kernel, rfl⟩
theorem dX8_pushes_12 : DD cX8_pushes 12 (.bipush 18) 2 14 := ⟨by decide +kernel, rfl⟩
theorem dX8_pushes_14 : DD cX8_pushes 14 (.iload_n 1) 1 15 := ⟨by decide +kernel, rfl⟩
theorem dX8_pushes_15 : DD cX8_pushes 15 (.iadd) 1 16 := ⟨by decide +kernel, rfl⟩
theorem dX8_pushes_16 : DD cX8_pushes 16 (.iaload) 1 17 := ⟨by decide +kernel, rfl⟩
theorem dX8_pushes_17 : DD cX8_pushes 17 (.aload_n 0) 1 18 := ⟨by decide +kernel, rfl⟩
theorem dX8_pushes_18 : DD cX8_pushes 18 (.bipush 20) 2 20 := ⟨by decide +kernel, rfl⟩
theorem dX8_pushes_20 : DD cX8_pushes 20 (.iload_n 1) 1 21 := ⟨by decide +kernel, rfl⟩
theorem dX8_pushes_21 : DD cX8_pushes 21 (.iadd) 1 22 := ⟨by decide +kernel, rfl⟩
theorem dX8_pushes_22 : DD cX8_pushes 22 (.iaload) 1 23 := ⟨by decide +kernel, rfl⟩
theorem dX8_pushes_23 : DD cX8_pushes 23 (.aload_n 0) 1 24 := ⟨by decide +kernel, rfl⟩
theorem dX8_pushes_24 : DD cX8_pushes 24 (.bipush 6) 2 26 := ⟨by decide +kernel, rfl⟩
theorem dX8_pushes_26 : DD cX8_pushes 26 (.iaload) 1 27 := ⟨by decide +kernel, rfl⟩
theorem dX8_pushes_27 : DD cX8_pushes 27 (.invokestatic 101) 3 30 := ⟨by decide +kernel, rfl⟩
theorem dX8_pushes_30 : DD cX8_pushes 30 (.istore_n 2) 1 31 := ⟨by decide +kernel, rfl⟩
theorem dX8_pushes_31 : DD cX8_pushes 31 (.aload_n 0) 1 32 := ⟨by decide +kernel, rfl⟩
theorem dX8_pushes_32 : DD cX8_pushes 32 (.bipush 20) 2 34 := ⟨by decide +kernel, rfl⟩
theorem dX8_pushes_34 : DD cX8_pushes 34 (.iload_n 1) 1 35 := ⟨by decide +kernel, rfl⟩
theorem dX8_pushes_35 : DD cX8_pushes 35 (.iadd) 1 36 := ⟨by decide +kernel, rfl⟩
theorem dX8_pushes_36 : DD cX8_pushes 36 (.iaload) 1 37 := ⟨by decide +kernel, rfl⟩
theorem dX8_pushes_37 : DD cX8_pushes 37 (.iload_n 2) 1 38 := ⟨by decide +kernel, rfl⟩
theorem dX8_pushes_38 : DD cX8_pushes 38 (.invokestatic 108) 3 41 := ⟨by decide +kernel, rfl⟩
theorem dX8_pushes_41 : DD cX8_pushes 41 (.if_icmp .ge 7) 3 44 := ⟨by decide +kernel, rfl⟩
theorem dX8_pushes_44 : DD cX8_pushes 44 (.iconst 0) 1 45 := ⟨by decide +kernel, rfl⟩
theorem dX8_pushes_45 : DD cX8_pushes 45 (.goto 4) 3 48 := ⟨by decide +kernel, rfl⟩
theorem dX8_pushes_48 : DD cX8_pushes 48 (.iload_n 2) 1 49 := ⟨by decide +kernel, rfl⟩
theorem dX8_pushes_49 : DD cX8_pushes 49 (.ireturn) 1 50 := ⟨by decide +kernel, rfl⟩
theorem dX8_slips_0 : DD cX8_slips 0 (.aload_n 0) 1 1 := ⟨by decide +kernel, rfl⟩
theorem dX8_slips_1 : DD cX8_slips 1 (.bipush 8) 2 3 := ⟨by decide +kernel, rfl⟩
theorem dX8_slips_3 : DD cX8_slips 3 (.aload_n 0) 1 4 := ⟨by decide +kernel, rfl⟩
theorem dX8_slips_4 : DD cX8_slips 4 (.bipush 8) 2 6 := ⟨by decide +kernel, rfl⟩
theorem dX8_slips_6 : DD cX8_slips 6 (.iaload) 1 7 := ⟨by decide +kernel, rfl⟩
theorem dX8_slips_7 : DD cX8_slips 7 (.ldc 111) 2 9 := ⟨by decide +kernel, rfl⟩
theorem dX8_slips_9 : DD cX8_slips 9 (.imul) 1 10 := ⟨by decide +kernel, rfl⟩
theorem dX8_slips_10 : DD cX8_slips 10 (.sipush 12345) 3 13 := ⟨by decide +kernel, rfl⟩
theorem dX8_slips_13 : DD cX8_slips 13 (.iadd) 1 14 := ⟨by decide +kernel, rfl⟩
theorem dX8_slips_14 : DD cX8_slips 14 (.iastore) 1 15 := ⟨by decide +kernel, rfl⟩
theorem dX8_slips_15 : DD cX8_slips 15 (.aload_n 0) 1 16 := ⟨by decide +kernel, rfl⟩
theorem dX8_slips_16 : DD cX8_slips 16 (.bipush 8) 2 18 := ⟨by decide +kernel, rfl⟩
theorem dX8_slips_18 : DD cX8_slips 18 (.iaload) 1 19 := ⟨by decide +kernel, rfl⟩
theorem dX8_slips_19 : DD cX8_slips 19 (.bipush 8) 2 21 := ⟨by decide +kernel, rfl⟩
theorem dX8_slips_21 : DD cX8_slips 21 (.iushr) 1 22 := ⟨by decide +kernel, rfl⟩
theorem dX8_slips_22 : DD cX8_slips 22 (.bipush 100) 2 24 := ⟨by decide +kernel, rfl⟩
theorem dX8_slips_24 : DD cX8_slips 24 (.irem) 1 25 := ⟨by decide +kernel, rfl⟩
theorem dX8_slips_25 : DD cX8_slips 25 (.aload_n 0) 1 26 := ⟨by decide +kernel, rfl⟩
theorem dX8_slips_26 : DD cX8_slips 26 (.bipush 14) 2 28 := ⟨by decide +kernel, rfl⟩
theorem dX8_slips_28 : DD cX8_slips 28 (.iaload) 1 29 := ⟨by decide +kernel, rfl⟩
theorem dX8_slips_29 : DD cX8_slips 29 (.if_icmp .ge 7) 3 32 := ⟨by decide +kernel, rfl⟩
theorem dX8_slips_32 : DD cX8_slips 32 (.iconst 1) 1 33 := ⟨by decide +kernel, rfl⟩
theorem dX8_slips_33 : DD cX8_slips 33 (.goto 4) 3 36 := ⟨by decide +kernel, rfl⟩
theorem dX8_slips_36 : DD cX8_slips 36 (.iconst 0) 1 37 := ⟨by decide +kernel, rfl⟩
theorem dX8_slips_37 : DD cX8_slips 37 (.ireturn) 1 38 := ⟨by decide +kernel, rfl⟩
theorem dX8_steps_0 : DD cX8_steps 0 (.aload_n 0) 1 1 := ⟨by decide +kernel, rfl⟩
theorem dX8_steps_1 : DD cX8_steps 1 (.invokestatic 112) 3 4 := ⟨by decide +kernel, rfl⟩
theorem dX8_steps_4 : DD cX8_steps 4 (.ifCond .ne 33) 3 7 := ⟨by decide +kernel, rfl⟩
theorem dX8_steps_7 : DD cX8_steps 7 (.aload_n 0) 1 8 := ⟨by decide +kernel, rfl⟩
theorem dX8_steps_8 : DD cX8_steps 8 (.bipush 16) 2 10 := ⟨by decide +kernel, rfl⟩
theorem dX8_steps_10 : DD cX8_steps 10 (.iload_n 1) 1 11 := ⟨by decide +kernel, rfl⟩
theorem dX8_steps_11 : DD cX8_steps 11 (.iadd) 1 12 := ⟨by decide +kernel, rfl⟩
theorem dX8_steps_12 : DD cX8_steps 12 (.dup2) 1 13 := ⟨by decide +kernel, rfl⟩
theorem dX8_steps_13 : DD cX8_steps 13 (.iaload) 1 14 := ⟨by decide +kernel, rfl⟩
theorem dX8_steps_14 : DD cX8_steps 14 (.iload_n 2) 1 15 := ⟨by decide +kernel, rfl⟩
theorem dX8_steps_15 : DD cX8_steps 15 (.aload_n 0) 1 16 := ⟨by decide +kernel, rfl⟩
theorem dX8_steps_16 : DD cX8_steps 16 (.bipush 16) 2 18 := ⟨by decide +kernel, rfl⟩
theorem dX8_steps_18 : DD cX8_steps 18 (.iload_n 1) 1 19 := ⟨by decide +kernel, rfl⟩
theorem dX8_steps_19 : DD cX8_steps 19 (.iadd) 1 20 := ⟨by decide +kernel, rfl⟩
theorem dX8_steps_20 : DD cX8_steps 20 (.iaload) 1 21 := ⟨by decide +kernel, rfl⟩
theorem dX8_steps_21 : DD cX8_steps 21 (.isub) 1 22 := ⟨by decide +kernel, rfl⟩
theorem dX8_steps_22 : DD cX8_steps 22 (.aload_n 0) 1 23 := ⟨by decide +kernel, rfl⟩
theorem dX8_steps_23 : DD cX8_steps 23 (.aload_n 0) 1 24 := ⟨by decide +kernel, rfl⟩
theorem dX8_steps_24 : DD cX8_steps 24 (.iconst 3) 1 25 := ⟨by decide +kernel, rfl⟩
theorem dX8_steps_25 : DD cX8_steps 25 (.iload_n 1) 1 26 := ⟨by decide +kernel, rfl⟩
theorem dX8_steps_26 : DD cX8_steps 26 (.iadd) 1 27 := ⟨by decide +kernel, rfl⟩
theorem dX8_steps_27 : DD cX8_steps 27 (.iaload) 1 28 := ⟨by decide +kernel, rfl⟩
theorem dX8_steps_28 : DD cX8_steps 28 (.iconst 3) 1 29 := ⟨by decide +kernel, rfl⟩
theorem dX8_steps_29 : DD cX8_steps 29 (.invokestatic 74) 3 32 := ⟨by decide +kernel, rfl⟩
theorem dX8_steps_32 : DD cX8_steps 32 (.invokestatic 84) 3 35 := ⟨by decide +kernel, rfl⟩
theorem dX8_steps_35 : DD cX8_steps 35 (.iadd) 1 36 := ⟨by decide +kernel, rfl⟩
theorem dX8_steps_36 : DD cX8_steps 36 (.iastore) 1 37 := ⟨by decide +kernel, rfl⟩
theorem dX8_steps_37 : DD cX8_steps 37 (.return_) 1 38 := ⟨by decide +kernel, rfl⟩
theorem dX8_falls_0 : DD cX8_falls 0 (.aload_n 0) 1 1 := ⟨by decide +kernel, rfl⟩
theorem dX8_falls_1 : DD cX8_falls 1 (.bipush 18) 2 3 := ⟨by decide +kernel, rfl⟩
theorem dX8_falls_3 : DD cX8_falls 3 (.iload_n 1) 1 4 := ⟨by decide +kernel, rfl⟩
theorem dX8_falls_4 : DD cX8_falls 4 (.iadd) 1 5 := ⟨by decide +kernel, rfl⟩
theorem dX8_falls_5 : DD cX8_falls 5 (.dup2) 1 6 := ⟨by decide +kernel, rfl⟩
theorem dX8_falls_6 : DD cX8_falls 6 (.iaload) 1 7 := ⟨by decide +kernel, rfl⟩
theorem dX8_falls_7 : DD cX8_falls 7 (.aload_n 0) 1 8 := ⟨by decide +kernel, rfl⟩
theorem dX8_falls_8 : DD cX8_falls 8 (.iconst 5) 1 9 := ⟨by decide +kernel, rfl⟩
theorem dX8_falls_9 : DD cX8_falls 9 (.iaload) 1 10 := ⟨by decide +kernel, rfl⟩
theorem dX8_falls_10 : DD cX8_falls 10 (.aload_n 0) 1 11 := ⟨by decide +kernel, rfl⟩
theorem dX8_falls_11 : DD cX8_falls 11 (.bipush 16) 2 13 := ⟨by decide +kernel, rfl⟩
theorem dX8_falls_13 : DD cX8_falls 13 (.iload_n 1) 1 14 := ⟨by decide +kernel, rfl⟩
theorem dX8_falls_14 : DD cX8_falls 14 (.iadd) 1 15 := ⟨by decide +kernel, rfl⟩
theorem dX8_falls_15 : DD cX8_falls 15 (.iaload) 1 16 := ⟨by decide +kernel, rfl⟩
theorem dX8_falls_16 : DD cX8_falls 16 (.isub) 1 17 := ⟨by decide +kernel, rfl⟩
theorem dX8_falls_17 : DD cX8_falls 17 (.iconst 4) 1 18 := ⟨by decide +kernel, rfl⟩
theorem dX8_falls_18 : DD cX8_falls 18 (.idiv) 1 19 := ⟨by decide +kernel, rfl⟩
theorem dX8_falls_19 : DD cX8_falls 19 (.iadd) 1 20 := ⟨by decide +kernel, rfl⟩
theorem dX8_falls_20 : DD cX8_falls 20 (.iastore) 1 21 := ⟨by decide +kernel, rfl⟩
theorem dX8_falls_21 : DD cX8_falls 21 (.aload_n 0) 1 22 := ⟨by decide +kernel, rfl⟩
theorem dX8_falls_22 : DD cX8_falls 22 (.bipush 18) 2 24 := ⟨by decide +kernel, rfl⟩
theorem dX8_falls_24 : DD cX8_falls 24 (.iload_n 1) 1 25 := ⟨by decide +kernel, rfl⟩
theorem dX8_falls_25 : DD cX8_falls 25 (.iadd) 1 26 := ⟨by decide +kernel, rfl⟩
theorem dX8_falls_26 : DD cX8_falls 26 (.dup2) 1 27 := ⟨by decide +kernel, rfl⟩
theorem dX8_falls_27 : DD cX8_falls 27 (.iaload) 1 28 := ⟨by decide +kernel, rfl⟩
theorem dX8_falls_28 : DD cX8_falls 28 (.aload_n 0) 1 29 := ⟨by decide +kernel, rfl⟩
theorem dX8_falls_29 : DD cX8_falls 29 (.bipush 18) 2 31 := ⟨by decide +kernel, rfl⟩
theorem dX8_falls_31 : DD cX8_falls 31 (.iload_n 1) 1 32 := ⟨by decide +kernel, rfl⟩
theorem dX8_falls_32 : DD cX8_falls 32 (.iadd) 1 33 := ⟨by decide +kernel, rfl⟩
theorem dX8_falls_33 : DD cX8_falls 33 (.iaload) 1 34 := ⟨by decide +kernel, rfl⟩
theorem dX8_falls_34 : DD cX8_falls 34 (.bipush 8) 2 36 := ⟨by decide +kernel, rfl⟩
theorem dX8_falls_36 : DD cX8_falls 36 (.idiv) 1 37 := ⟨by decide +kernel, rfl⟩
theorem dX8_falls_37 : DD cX8_falls 37 (.isub) 1 38 := ⟨by decide +kernel, rfl⟩
theorem dX8_falls_38 : DD cX8_falls 38 (.iastore) 1 39 := ⟨by decide +kernel, rfl⟩
theorem dX8_falls_39 : DD cX8_falls 39 (.aload_n 0) 1 40 := ⟨by decide +kernel, rfl⟩
theorem dX8_falls_40 : DD cX8_falls 40 (.bipush 18) 2 42 := ⟨by decide +kernel, rfl⟩
theorem dX8_falls_42 : DD cX8_falls 42 (.iload_n 1) 1 43 := ⟨by decide +kernel, rfl⟩
theorem dX8_falls_43 : DD cX8_falls 43 (.iadd) 1 44 := ⟨by decide +kernel, rfl⟩
theorem dX8_falls_44 : DD cX8_falls 44 (.iaload) 1 45 := ⟨by decide +kernel, rfl⟩
theorem dX8_falls_45 : DD cX8_falls 45 (.invokestatic 88) 3 48 := ⟨by decide +kernel, rfl⟩
theorem dX8_falls_48 : DD cX8_falls 48 (.aload_n 0) 1 49 := ⟨by decide +kernel, rfl⟩
theorem dX8_falls_49 : DD cX8_falls 49 (.bipush 13) 2 51 := ⟨by decide +kernel, rfl⟩
theorem dX8_falls_51 : DD cX8_falls 51 (.iaload) 1 52 := ⟨by decide +kernel, rfl⟩
theorem dX8_falls_52 : DD cX8_falls 52 (.if_icmp .le 7) 3 55 := ⟨by decide +kernel, rfl⟩
theorem dX8_falls_55 : DD cX8_falls 55 (.iconst 1) 1 56 := ⟨by decide +kernel, rfl⟩
theorem dX8_falls_56 : DD cX8_falls 56 (.goto 4) 3 59 := ⟨by decide +kernel, rfl⟩
theorem dX8_falls_59 : DD cX8_falls 59 (.iconst 0) 1 60 := ⟨by decide +kernel, rfl⟩
theorem dX8_falls_60 : DD cX8_falls 60 (.ireturn) 1 61 := ⟨by decide +kernel, rfl⟩
theorem dX8_goesBy_0 : DD cX8_goesBy 0 (.aload_n 0) 1 1 := ⟨by decide +kernel, rfl⟩
theorem dX8_goesBy_1 : DD cX8_goesBy 1 (.iconst 0) 1 2 := ⟨by decide +kernel, rfl⟩
theorem dX8_goesBy_2 : DD cX8_goesBy 2 (.invokestatic 104) 3 5 := ⟨by decide +kernel, rfl⟩
theorem dX8_goesBy_5 : DD cX8_goesBy 5 (.istore_n 1) 1 6 := ⟨by decide +kernel, rfl⟩
theorem dX8_goesBy_6 : DD cX8_goesBy 6 (.aload_n 0) 1 7 := ⟨by decide +kernel, rfl⟩
theorem dX8_goesBy_7 : DD cX8_goesBy 7 (.iconst 1) 1 8 := ⟨by decide +kernel, rfl⟩
theorem dX8_goesBy_8 : DD cX8_goesBy 8 (.invokestatic 104) 3 11 := ⟨by decide +kernel, rfl⟩
theorem dX8_goesBy_11 : DD cX8_goesBy 11 (.istore_n 2) 1 12 := ⟨by decide +kernel, rfl⟩
theorem dX8_goesBy_12 : DD cX8_goesBy 12 (.aload_n 0) 1 13 := ⟨by decide +kernel, rfl⟩
theorem dX8_goesBy_13 : DD cX8_goesBy 13 (.iconst 0) 1 14 := ⟨by decide +kernel, rfl⟩
theorem dX8_goesBy_14 : DD cX8_goesBy 14 (.invokestatic 116) 3 17 := ⟨by decide +kernel, rfl⟩
theorem dX8_goesBy_17 : DD cX8_goesBy 17 (.istore_n 3) 1 18 := ⟨by decide +kernel, rfl⟩
theorem dX8_goesBy_18 : DD cX8_goesBy 18 (.aload_n 0) 1 19 := ⟨by decide +kernel, rfl⟩
theorem dX8_goesBy_19 : DD cX8_goesBy 19 (.iconst 1) 1 20 := ⟨by decide +kernel, rfl⟩
theorem dX8_goesBy_20 : DD cX8_goesBy 20 (.invokestatic 116) 3 23 := ⟨by decide +kernel, rfl⟩
theorem dX8_goesBy_23 : DD cX8_goesBy 23 (.istore 4) 2 25 := ⟨by decide +kernel, rfl⟩
theorem dX8_goesBy_25 : DD cX8_goesBy 25 (.aload_n 0) 1 26 := ⟨by decide +kernel, rfl⟩
theorem dX8_goesBy_26 : DD cX8_goesBy 26 (.bipush 20) 2 28 := ⟨by decide +kernel, rfl⟩
theorem dX8_goesBy_28 : DD cX8_goesBy 28 (.dup2) 1 29 := ⟨by decide +kernel, rfl⟩
theorem dX8_goesBy_29 : DD cX8_goesBy 29 (.iaload) 1 30 := ⟨by decide +kernel, rfl⟩
theorem dX8_goesBy_30 : DD cX8_goesBy 30 (.iload_n 3) 1 31 := ⟨by decide +kernel, rfl⟩
theorem dX8_goesBy_31 : DD cX8_goesBy 31 (.invokestatic 108) 3 34 := ⟨by decide +kernel, rfl⟩
theorem dX8_goesBy_34 : DD cX8_goesBy 34 (.isub) 1 35 := ⟨by decide +kernel, rfl⟩
theorem dX8_goesBy_35 : DD cX8_goesBy 35 (.iastore) 1 36 := ⟨by decide +kernel, rfl⟩
theorem dX8_goesBy_36 : DD cX8_goesBy 36 (.aload_n 0) 1 37 := ⟨by decide +kernel, rfl⟩
theorem dX8_goesBy_37 : DD cX8_goesBy 37 (.bipush 21) 2 39 := ⟨by decide +kernel, rfl⟩
theorem dX8_goesBy_39 : DD cX8_goesBy 39 (.dup2) 1 40 := ⟨by decide +kernel, rfl⟩
theorem dX8_goesBy_40 : DD cX8_goesBy 40 (.iaload) 1 41 := ⟨by decide +kernel, rfl⟩
theorem dX8_goesBy_41 : DD cX8_goesBy 41 (.iload 4) 2 43 := ⟨by decide +kernel, rfl⟩
theorem dX8_goesBy_43 : DD cX8_goesBy 43 (.invokestatic 108) 3 46 := ⟨by decide +kernel, rfl⟩
theorem dX8_goesBy_46 : DD cX8_goesBy 46 (.isub) 1 47 := ⟨by decide +kernel, rfl⟩
theorem dX8_goesBy_47 : DD cX8_goesBy 47 (.iastore) 1 48 := ⟨by decide +kernel, rfl⟩
theorem dX8_goesBy_48 : DD cX8_goesBy 48 (.aload_n 0) 1 49 := ⟨by decide +kernel, rfl⟩
theorem dX8_goesBy_49 : DD cX8_goesBy 49 (.aload_n 0) 1 50 := ⟨by decide +kernel, rfl⟩
theorem dX8_goesBy_50 : DD cX8_goesBy 50 (.iconst 3) 1 51 := ⟨by decide +kernel, rfl⟩
theorem dX8_goesBy_51 : DD cX8_goesBy 51 (.iaload) 1 52 := ⟨by decide +kernel, rfl⟩
theorem dX8_goesBy_52 : DD cX8_goesBy 52 (.iconst 1) 1 53 := ⟨by decide +kernel, rfl⟩
theorem dX8_goesBy_53 : DD cX8_goesBy 53 (.invokestatic 74) 3 56 := ⟨by decide +kernel, rfl⟩
theorem dX8_goesBy_56 : DD cX8_goesBy 56 (.istore 5) 2 58 := ⟨by decide +kernel, rfl⟩
theorem dX8_goesBy_58 : DD cX8_goesBy 58 (.aload_n 0) 1 59 := ⟨by decide +kernel, rfl⟩
theorem dX8_goesBy_59 : DD cX8_goesBy 59 (.aload_n 0) 1 60 := ⟨by decide +kernel, rfl⟩
theorem dX8_goesBy_60 : DD cX8_goesBy 60 (.iconst 4) 1 61 := ⟨by decide +kernel, rfl⟩
theorem dX8_goesBy_61 : DD cX8_goesBy 61 (.iaload) 1 62 := ⟨by decide +kernel, rfl⟩
theorem dX8_goesBy_62 : DD cX8_goesBy 62 (.iconst 1) 1 63 := ⟨by decide +kernel, rfl⟩
theorem dX8_goesBy_63 : DD cX8_goesBy 63 (.invokestatic 74) 3 66 := ⟨by decide +kernel, rfl⟩
theorem dX8_goesBy_66 : DD cX8_goesBy 66 (.istore 6) 2 68 := ⟨by decide +kernel, rfl⟩
theorem dX8_goesBy_68 : DD cX8_goesBy 68 (.aload_n 0) 1 69 := ⟨by decide +kernel, rfl⟩
theorem dX8_goesBy_69 : DD cX8_goesBy 69 (.bipush 24) 2 71 := ⟨by decide +kernel, rfl⟩
theorem dX8_goesBy_71 : DD cX8_goesBy 71 (.aload_n 0) 1 72 := ⟨by decide +kernel, rfl⟩
theorem dX8_goesBy_72 : DD cX8_goesBy 72 (.bipush 6) 2 74 := ⟨by decide +kernel, rfl⟩
theorem dX8_goesBy_74 : DD cX8_goesBy 74 (.iaload) 1 75 := ⟨by decide +kernel, rfl⟩
theorem dX8_goesBy_75 : DD cX8_goesBy 75 (.bipush 10) 2 77 := ⟨by decide +kernel, rfl⟩
theorem dX8_goesBy_77 : DD cX8_goesBy 77 (.irem) 1 78 := ⟨by decide +kernel, rfl⟩
theorem dX8_goesBy_78 : DD cX8_goesBy 78 (.iadd) 1 79 := ⟨by decide +kernel, rfl⟩
theorem dX8_goesBy_79 : DD cX8_goesBy 79 (.aload_n 0) 1 80 := ⟨by decide +kernel, rfl⟩
theorem dX8_goesBy_80 : DD cX8_goesBy 80 (.iconst 5) 1 81 := ⟨by decide +kernel, rfl⟩
theorem dX8_goesBy_81 : DD cX8_goesBy 81 (.iaload) 1 82 := ⟨by decide +kernel, rfl⟩
theorem dX8_goesBy_82 : DD cX8_goesBy 82 (.iastore) 1 83 := ⟨by decide +kernel, rfl⟩
theorem dX8_goesBy_83 : DD cX8_goesBy 83 (.aload_n 0) 1 84 := ⟨by decide +kernel, rfl⟩
theorem dX8_goesBy_84 : DD cX8_goesBy 84 (.iconst 5) 1 85 := ⟨by decide +kernel, rfl⟩
theorem dX8_goesBy_85 : DD cX8_goesBy 85 (.dup2) 1 86 := ⟨by decide +kernel, rfl⟩
theorem dX8_goesBy_86 : DD cX8_goesBy 86 (.iaload) 1 87 := ⟨by decide +kernel, rfl⟩
theorem dX8_goesBy_87 : DD cX8_goesBy 87 (.iload_n 3) 1 88 := ⟨by decide +kernel, rfl⟩
theorem dX8_goesBy_88 : DD cX8_goesBy 88 (.iload 5) 2 90 := ⟨by decide +kernel, rfl⟩
theorem dX8_goesBy_90 : DD cX8_goesBy 90 (.imul) 1 91 := ⟨by decide +kernel, rfl⟩
theorem dX8_goesBy_91 : DD cX8_goesBy 91 (.iload 4) 2 93 := ⟨by decide +kernel, rfl⟩
theorem dX8_goesBy_93 : DD cX8_goesBy 93 (.iload 6) 2 95 := ⟨by decide +kernel, rfl⟩
theorem dX8_goesBy_95 : DD cX8_goesBy 95 (.imul) 1 96 := ⟨by decide +kernel, rfl⟩
theorem dX8_goesBy_96 : DD cX8_goesBy 96 (.iadd) 1 97 := ⟨by decide +kernel, rfl⟩
theorem dX8_goesBy_97 : DD cX8_goesBy 97 (.aload_n 0) 1 98 := ⟨by decide +kernel, rfl⟩
theorem dX8_goesBy_98 : DD cX8_goesBy 98 (.bipush 10) 2 100 := ⟨by decide +kernel, rfl⟩
theorem dX8_goesBy_100 : DD cX8_goesBy 100 (.iaload) 1 101 := ⟨by decide +kernel, rfl⟩
theorem dX8_goesBy_101 : DD cX8_goesBy 101 (.aload_n 0) 1 102 := ⟨by decide +kernel, rfl⟩
theorem dX8_goesBy_102 : DD cX8_goesBy 102 (.bipush 10) 2 104 := ⟨by decide +kernel, rfl⟩
theorem dX8_goesBy_104 : DD cX8_goesBy 104 (.iaload) 1 105 := ⟨by decide +kernel, rfl⟩
theorem dX8_goesBy_105 : DD cX8_goesBy 105 (.imul) 1 106 := ⟨by decide +kernel, rfl⟩
theorem dX8_goesBy_106 : DD cX8_goesBy 106 (.iload 5) 2 108 := ⟨by decide +kernel, rfl⟩
theorem dX8_goesBy_108 : DD cX8_goesBy 108 (.iadd) 1 109 := ⟨by decide +kernel, rfl⟩
theorem dX8_goesBy_109 : DD cX8_goesBy 109 (.iload 6) 2 111 := ⟨by decide +kernel, rfl⟩
theorem dX8_goesBy_111 : DD cX8_goesBy 111 (.iadd) 1 112 := ⟨by decide +kernel, rfl⟩
theorem dX8_goesBy_112 : DD cX8_goesBy 112 (.idiv) 1 113 := ⟨by decide +kernel, rfl⟩
theorem dX8_goesBy_113 : DD cX8_goesBy 113 (.iadd) 1 114 := ⟨by decide +kernel, rfl⟩
theorem dX8_goesBy_114 : DD cX8_goesBy 114 (.iastore) 1 115 := ⟨by decide +kernel, rfl⟩
theorem dX8_goesBy_115 : DD cX8_goesBy 115 (.aload_n 0) 1 116 := ⟨by decide +kernel, rfl⟩
theorem dX8_goesBy_116 : DD cX8_goesBy 116 (.iconst 5) 1 117 := ⟨by decide +kernel, rfl⟩
theorem dX8_goesBy_117 : DD cX8_goesBy 117 (.dup2) 1 118 := ⟨by decide +kernel, rfl⟩
theorem dX8_goesBy_118 : DD cX8_goesBy 118 (.iaload) 1 119 := ⟨by decide +kernel, rfl⟩
theorem dX8_goesBy_119 : DD cX8_goesBy 119 (.aload_n 0) 1 120 := ⟨by decide +kernel, rfl⟩
theorem dX8_goesBy_120 : DD cX8_goesBy 120 (.iconst 5) 1 121 := ⟨by decide +kernel, rfl⟩
theorem dX8_goesBy_121 : DD cX8_goesBy 121 (.iaload) 1 122 := ⟨by decide +kernel, rfl⟩
theorem dX8_goesBy_122 : DD cX8_goesBy 122 (.aload_n 0) 1 123 := ⟨by decide +kernel, rfl⟩
theorem dX8_goesBy_123 : DD cX8_goesBy 123 (.bipush 11) 2 125 := ⟨by decide +kernel, rfl⟩
theorem dX8_goesBy_125 : DD cX8_goesBy 125 (.iaload) 1 126 := ⟨by decide +kernel, rfl⟩
theorem dX8_goesBy_126 : DD cX8_goesBy 126 (.aload_n 0) 1 127 := ⟨by decide +kernel, rfl⟩
theorem dX8_goesBy_127 : DD cX8_goesBy 127 (.bipush 12) 2 129 := ⟨by decide +kernel, rfl⟩
theorem dX8_goesBy_129 : DD cX8_goesBy 129 (.iaload) 1 130 := ⟨by decide +kernel, rfl⟩
theorem dX8_goesBy_130 : DD cX8_goesBy 130 (.iadd) 1 131 := ⟨by decide +kernel, rfl⟩
theorem dX8_goesBy_131 : DD cX8_goesBy 131 (.imul) 1 132 := ⟨by decide +kernel, rfl⟩
theorem dX8_goesBy_132 : DD cX8_goesBy 132 (.bipush 100) 2 134 := ⟨by decide +kernel, rfl⟩
theorem dX8_goesBy_134 : DD cX8_goesBy 134 (.idiv) 1 135 := ⟨by decide +kernel, rfl⟩
theorem dX8_goesBy_135 : DD cX8_goesBy 135 (.isub) 1 136 := ⟨by decide +kernel, rfl⟩
theorem dX8_goesBy_136 : DD cX8_goesBy 136 (.iastore) 1 137 := ⟨by decide +kernel, rfl⟩
theorem dX8_goesBy_137 : DD cX8_goesBy 137 (.aload_n 0) 1 138 := ⟨by decide +kernel, rfl⟩
theorem dX8_goesBy_138 : DD cX8_goesBy 138 (.iconst 0) 1 139 := ⟨by decide +kernel, rfl⟩
theorem dX8_goesBy_139 : DD cX8_goesBy 139 (.iload_n 1) 1 140 := ⟨by decide +kernel, rfl⟩
theorem dX8_goesBy_140 : DD cX8_goesBy 140 (.invokestatic 119) 3 143 := ⟨by decide +kernel, rfl⟩
theorem dX8_goesBy_143 : DD cX8_goesBy 143 (.aload_n 0) 1 144 := ⟨by decide +kernel, rfl⟩
theorem dX8_goesBy_144 : DD cX8_goesBy 144 (.iconst 1) 1 145 := ⟨by decide +kernel, rfl⟩
theorem dX8_goesBy_145 : DD cX8_goesBy 145 (.iload_n 2) 1 146 := ⟨by decide +kernel, rfl⟩
theorem dX8_goesBy_146 : DD cX8_goesBy 146 (.invokestatic 119) 3 149 := ⟨by decide +kernel, rfl⟩
theorem dX8_goesBy_149 : DD cX8_goesBy 149 (.aload_n 0) 1 150 := ⟨by decide +kernel, rfl⟩
theorem dX8_goesBy_150 : DD cX8_goesBy 150 (.iconst 0) 1 151 := ⟨by decide +kernel, rfl⟩
theorem dX8_goesBy_151 : DD cX8_goesBy 151 (.invokestatic 123) 3 154 := ⟨by decide +kernel, rfl⟩
theorem dX8_goesBy_154 : DD cX8_goesBy 154 (.ifCond .eq 7) 3 157 := ⟨by decide +kernel, rfl⟩
theorem dX8_goesBy_157 : DD cX8_goesBy 157 (.iconst 1) 1 158 := ⟨by decide +kernel, rfl⟩
theorem dX8_goesBy_158 : DD cX8_goesBy 158 (.goto 4) 3 161 := ⟨by decide +kernel, rfl⟩
theorem dX8_goesBy_161 : DD cX8_goesBy 161 (.iconst 0) 1 162 := ⟨by decide +kernel, rfl⟩
theorem dX8_goesBy_162 : DD cX8_goesBy 162 (.istore 7) 2 164 := ⟨by decide +kernel, rfl⟩
theorem dX8_goesBy_164 : DD cX8_goesBy 164 (.iload 7) 2 166 := ⟨by decide +kernel, rfl⟩
theorem dX8_goesBy_166 : DD cX8_goesBy 166 (.aload_n 0) 1 167 := ⟨by decide +kernel, rfl⟩
theorem dX8_goesBy_167 : DD cX8_goesBy 167 (.iconst 1) 1 168 := ⟨by decide +kernel, rfl⟩
theorem dX8_goesBy_168 : DD cX8_goesBy 168 (.invokestatic 123) 3 171 := ⟨by decide +kernel, rfl⟩
theorem dX8_goesBy_171 : DD cX8_goesBy 171 (.ifCond .eq 7) 3 174 := ⟨by decide +kernel, rfl⟩
theorem dX8_goesBy_174 : DD cX8_goesBy 174 (.iconst 2) 1 175 := ⟨by decide +kernel, rfl⟩
theorem dX8_goesBy_175 : DD cX8_goesBy 175 (.goto 4) 3 178 := ⟨by decide +kernel, rfl⟩
theorem dX8_goesBy_178 : DD cX8_goesBy 178 (.iconst 0) 1 179 := ⟨by decide +kernel, rfl⟩
theorem dX8_goesBy_179 : DD cX8_goesBy 179 (.iadd) 1 180 := ⟨by decide +kernel, rfl⟩
theorem dX8_goesBy_180 : DD cX8_goesBy 180 (.istore 7) 2 182 := ⟨by decide +kernel, rfl⟩
theorem dX8_goesBy_182 : DD cX8_goesBy 182 (.aload_n 0) 1 183 := ⟨by decide +kernel, rfl⟩
theorem dX8_goesBy_183 : DD cX8_goesBy 183 (.bipush 6) 2 185 := ⟨by decide +kernel, rfl⟩
theorem dX8_goesBy_185 : DD cX8_goesBy 185 (.dup2) 1 186 := ⟨by decide +kernel, rfl⟩
theorem dX8_goesBy_186 : DD cX8_goesBy 186 (.iaload) 1 187 := ⟨by decide +kernel, rfl⟩
theorem dX8_goesBy_187 : DD cX8_goesBy 187 (.iconst 1) 1 188 := ⟨by decide +kernel, rfl⟩
theorem dX8_goesBy_188 : DD cX8_goesBy 188 (.iadd) 1 189 := ⟨by decide +kernel, rfl⟩
theorem dX8_goesBy_189 : DD cX8_goesBy 189 (.iastore) 1 190 := ⟨by decide +kernel, rfl⟩
theorem dX8_goesBy_190 : DD cX8_goesBy 190 (.iload 7) 2 192 := ⟨by decide +kernel, rfl⟩
theorem dX8_goesBy_192 : DD cX8_goesBy 192 (.ireturn) 1 193 := ⟨by decide +kernel, rfl⟩
theorem dX8_getsOn_0 : DD cX8_getsOn 0 (.aload_n 0) 1 1 := ⟨by decide +kernel, rfl⟩
theorem dX8_getsOn_1 : DD cX8_getsOn 1 (.iconst 2) 1 2 := ⟨by decide +kernel, rfl⟩
theorem dX8_getsOn_2 : DD cX8_getsOn 2 (.iconst 1) 1 3 := ⟨by decide +kernel, rfl⟩
theorem dX8_getsOn_3 : DD cX8_getsOn 3 (.iastore) 1 4 := ⟨by decide +kernel, rfl⟩
theorem dX8_getsOn_4 : DD cX8_getsOn 4 (.aload_n 0) 1 5 := ⟨by decide +kernel, rfl⟩
theorem dX8_getsOn_5 : DD cX8_getsOn 5 (.iconst 3) 1 6 := ⟨by decide +kernel, rfl⟩
theorem dX8_getsOn_6 : DD cX8_getsOn 6 (.iload_n 1) 1 7 := ⟨by decide +kernel, rfl⟩
theorem dX8_getsOn_7 : DD cX8_getsOn 7 (.iastore) 1 8 := ⟨by decide +kernel, rfl⟩
theorem dX8_getsOn_8 : DD cX8_getsOn 8 (.aload_n 0) 1 9 := ⟨by decide +kernel, rfl⟩
theorem dX8_getsOn_9 : DD cX8_getsOn 9 (.iconst 4) 1 10 := ⟨by decide +kernel, rfl⟩
theorem dX8_getsOn_10 : DD cX8_getsOn 10 (.iload_n 2) 1 11 := ⟨by decide +kernel, rfl⟩
theorem dX8_getsOn_11 : DD cX8_getsOn 11 (.iastore) 1 12 := ⟨by decide +kernel, rfl⟩
theorem dX8_getsOn_12 : DD cX8_getsOn 12 (.aload_n 0) 1 13 := ⟨by decide +kernel, rfl⟩
theorem dX8_getsOn_13 : DD cX8_getsOn 13 (.iconst 5) 1 14 := ⟨by decide +kernel, rfl⟩
theorem dX8_getsOn_14 : DD cX8_getsOn 14 (.iconst 0) 1 15 := ⟨by decide +kernel, rfl⟩
theorem dX8_getsOn_15 : DD cX8_getsOn 15 (.iastore) 1 16 := ⟨by decide +kernel, rfl⟩
theorem dX8_getsOn_16 : DD cX8_getsOn 16 (.aload_n 0) 1 17 := ⟨by decide +kernel, rfl⟩
theorem dX8_getsOn_17 : DD cX8_getsOn 17 (.bipush 6) 2 19 := ⟨by decide +kernel, rfl⟩
theorem dX8_getsOn_19 : DD cX8_getsOn 19 (.iconst 0) 1 20 := ⟨by decide +kernel, rfl⟩
theorem dX8_getsOn_20 : DD cX8_getsOn 20 (.iastore) 1 21 := ⟨by decide +kernel, rfl⟩
theorem dX8_getsOn_21 : DD cX8_getsOn 21 (.iconst 0) 1 22 := ⟨by decide +kernel, rfl⟩
theorem dX8_getsOn_22 : DD cX8_getsOn 22 (.istore_n 3) 1 23 := ⟨by decide +kernel, rfl⟩
theorem dX8_getsOn_23 : DD cX8_getsOn 23 (.iload_n 3) 1 24 := ⟨by decide +kernel, rfl⟩
theorem dX8_getsOn_24 : DD cX8_getsOn 24 (.iconst 2) 1 25 := ⟨by decide +kernel, rfl⟩
theorem dX8_getsOn_25 : DD cX8_getsOn 25 (.if_icmp .ge 39) 3 28 := ⟨by decide +kernel, rfl⟩
theorem dX8_getsOn_28 : DD cX8_getsOn 28 (.aload_n 0) 1 29 := ⟨by decide +kernel, rfl⟩
theorem dX8_getsOn_29 : DD cX8_getsOn 29 (.bipush 16) 2 31 := ⟨by decide +kernel, rfl⟩
theorem dX8_getsOn_31 : DD cX8_getsOn 31 (.iload_n 3) 1 32 := ⟨by decide +kernel, rfl⟩
theorem dX8_getsOn_32 : DD cX8_getsOn 32 (.iadd) 1 33 := ⟨by decide +kernel, rfl⟩
theorem dX8_getsOn_33 : DD cX8_getsOn 33 (.iconst 0) 1 34 := ⟨by decide +kernel, rfl⟩
theorem dX8_getsOn_34 : DD cX8_getsOn 34 (.iastore) 1 35 := ⟨by decide +kernel, rfl⟩
theorem dX8_getsOn_35 : DD cX8_getsOn 35 (.aload_n 0) 1 36 := ⟨by decide +kernel, rfl⟩
theorem dX8_getsOn_36 : DD cX8_getsOn 36 (.bipush 18) 2 38 := ⟨by decide +kernel, rfl⟩
theorem dX8_getsOn_38 : DD cX8_getsOn 38 (.iload_n 3) 1 39 := ⟨by decide +kernel, rfl⟩
theorem dX8_getsOn_39 : DD cX8_getsOn 39 (.iadd) 1 40 := ⟨by decide +kernel, rfl⟩
theorem dX8_getsOn_40 : DD cX8_getsOn 40 (.iconst 0) 1 41 := ⟨by decide +kernel, rfl⟩
theorem dX8_getsOn_41 : DD cX8_getsOn 41 (.iastore) 1 42 := ⟨by decide +kernel, rfl⟩
theorem dX8_getsOn_42 : DD cX8_getsOn 42 (.aload_n 0) 1 43 := ⟨by decide +kernel, rfl⟩
theorem dX8_getsOn_43 : DD cX8_getsOn 43 (.bipush 20) 2 45 := ⟨by decide +kernel, rfl⟩
theorem dX8_getsOn_45 : DD cX8_getsOn 45 (.iload_n 3) 1 46 := ⟨by decide +kernel, rfl⟩
theorem dX8_getsOn_46 : DD cX8_getsOn 46 (.iadd) 1 47 := ⟨by decide +kernel, rfl⟩
theorem dX8_getsOn_47 : DD cX8_getsOn 47 (.aload_n 0) 1 48 := ⟨by decide +kernel, rfl⟩
theorem dX8_getsOn_48 : DD cX8_getsOn 48 (.aload_n 0) 1 49 := ⟨by decide +kernel, rfl⟩
theorem dX8_getsOn_49 : DD cX8_getsOn 49 (.iconst 3) 1 50 := ⟨by decide +kernel, rfl⟩
theorem dX8_getsOn_50 : DD cX8_getsOn 50 (.iload_n 3) 1 51 := ⟨by decide +kernel, rfl⟩
theorem dX8_getsOn_51 : DD cX8_getsOn 51 (.iadd) 1 52 := ⟨by decide +kernel, rfl⟩
theorem dX8_getsOn_52 : DD cX8_getsOn 52 (.iaload) 1 53 := ⟨by decide +kernel, rfl⟩
theorem dX8_getsOn_53 : DD cX8_getsOn 53 (.iconst 4) 1 54 := ⟨by decide +kernel, rfl⟩
theorem dX8_getsOn_54 : DD cX8_getsOn 54 (.invokestatic 74) 3 57 := ⟨by decide +kernel, rfl⟩
theorem dX8_getsOn_57 : DD cX8_getsOn 57 (.iastore) 1 58 := ⟨by decide +kernel, rfl⟩
theorem dX8_getsOn_58 : DD cX8_getsOn 58 (.iinc 3 1) 3 61 := ⟨by decide +kernel, rfl⟩
theorem dX8_getsOn_61 : DD cX8_getsOn 61 (.goto (-38)) 3 64 := ⟨by decide +kernel, rfl⟩
theorem dX8_getsOn_64 : DD cX8_getsOn 64 (.return_) 1 65 := ⟨by decide +kernel, rfl⟩
theorem dX8_mount_0 : DD cX8_mount 0 (.aload_n 0) 1 1 := ⟨by decide +kernel, rfl⟩
theorem dX8_mount_1 : DD cX8_mount 1 (.iload_n 1) 1 2 := ⟨by decide +kernel, rfl⟩
theorem dX8_mount_2 : DD cX8_mount 2 (.iload_n 2) 1 3 := ⟨by decide +kernel, rfl⟩
theorem dX8_mount_3 : DD cX8_mount 3 (.invokevirtual 127) 3 6 := ⟨by decide +kernel, rfl⟩
theorem dX8_mount_6 : DD cX8_mount 6 (.ifCond .ne 10) 3 9 := ⟨by decide +kernel, rfl⟩
theorem dX8_mount_9 : DD cX8_mount 9 (.aload_n 0) 1 10 := ⟨by decide +kernel, rfl⟩
theorem dX8_mount_10 : DD cX8_mount 10 (.ldc 38) 2 12 := ⟨by decide +kernel, rfl⟩
theorem dX8_mount_12 : DD cX8_mount 12 (.invokevirtual 51) 3 15 := ⟨by decide +kernel, rfl⟩
theorem dX8_mount_15 : DD cX8_mount 15 (.ireturn) 1 16 := ⟨by decide +kernel, rfl⟩
theorem dX8_mount_16 : DD cX8_mount 16 (.aload_n 0) 1 17 := ⟨by decide +kernel, rfl⟩
theorem dX8_mount_17 : DD cX8_mount 17 (.getfield 9) 3 20 := ⟨by decide +kernel, rfl⟩
theorem dX8_mount_20 : DD cX8_mount 20 (.iconst 2) 1 21 := ⟨by decide +kernel, rfl⟩
theorem dX8_mount_21 : DD cX8_mount 21 (.iaload) 1 22 := ⟨by decide +kernel, rfl⟩
theorem dX8_mount_22 : DD cX8_mount 22 (.iconst 1) 1 23 := ⟨by decide +kernel, rfl⟩
theorem dX8_mount_23 : DD cX8_mount 23 (.if_icmp .ne 10) 3 26 := ⟨by decide +kernel, rfl⟩
theorem dX8_mount_26 : DD cX8_mount 26 (.aload_n 0) 1 27 := ⟨by decide +kernel, rfl⟩
theorem dX8_mount_27 : DD cX8_mount 27 (.ldc 73) 2 29 := ⟨by decide +kernel, rfl⟩
theorem dX8_mount_29 : DD cX8_mount 29 (.invokevirtual 51) 3 32 := ⟨by decide +kernel, rfl⟩
theorem dX8_mount_32 : DD cX8_mount 32 (.ireturn) 1 33 := ⟨by decide +kernel, rfl⟩
theorem dX8_mount_33 : DD cX8_mount 33 (.aload_n 0) 1 34 := ⟨by decide +kernel, rfl⟩
theorem dX8_mount_34 : DD cX8_mount 34 (.getfield 9) 3 37 := ⟨by decide +kernel, rfl⟩
theorem dX8_mount_37 : DD cX8_mount 37 (.iload_n 1) 1 38 := ⟨by decide +kernel, rfl⟩
theorem dX8_mount_38 : DD cX8_mount 38 (.iload_n 2) 1 39 := ⟨by decide +kernel, rfl⟩
theorem dX8_mount_39 : DD cX8_mount 39 (.invokestatic 130) 3 42 := ⟨by decide +kernel, rfl⟩
theorem dX8_mount_42 : DD cX8_mount 42 (.iconst 1) 1 43 := ⟨by decide +kernel, rfl⟩
theorem dX8_mount_43 : DD cX8_mount 43 (.ireturn) 1 44 := ⟨by decide +kernel, rfl⟩
theorem dX8_off_0 : DD cX8_off 0 (.aload_n 0) 1 1 := ⟨by decide +kernel, rfl⟩
theorem dX8_off_1 : DD cX8_off 1 (.getfield 9) 3 4 := ⟨by decide +kernel, rfl⟩
theorem dX8_off_4 : DD cX8_off 4 (.iconst 2) 1 5 := ⟨by decide +kernel, rfl⟩
theorem dX8_off_5 : DD cX8_off 5 (.iaload) 1 6 := ⟨by decide +kernel, rfl⟩
theorem dX8_off_6 : DD cX8_off 6 (.ifCond .ne 10) 3 9 := ⟨by decide +kernel, rfl⟩
theorem dX8_off_9 : DD cX8_off 9 (.aload_n 0) 1 10 := ⟨by decide +kernel, rfl⟩
theorem dX8_off_10 : DD cX8_off 10 (.ldc 73) 2 12 := ⟨by decide +kernel, rfl⟩
theorem dX8_off_12 : DD cX8_off 12 (.invokevirtual 51) 3 15 := ⟨by decide +kernel, rfl⟩
theorem dX8_off_15 : DD cX8_off 15 (.ireturn) 1 16 := ⟨by decide +kernel, rfl⟩
theorem dX8_off_16 : DD cX8_off 16 (.aload_n 0) 1 17 := ⟨by decide +kernel, rfl⟩
theorem dX8_off_17 : DD cX8_off 17 (.getfield 9) 3 20 := ⟨by decide +kernel, rfl⟩
theorem dX8_off_20 : DD cX8_off 20 (.iconst 2) 1 21 := ⟨by decide +kernel, rfl⟩
theorem dX8_off_21 : DD cX8_off 21 (.iconst 0) 1 22 := ⟨by decide +kernel, rfl⟩
theorem dX8_off_22 : DD cX8_off 22 (.iastore) 1 23 := ⟨by decide +kernel, rfl⟩
theorem dX8_off_23 : DD cX8_off 23 (.aload_n 0) 1 24 := ⟨by decide +kernel, rfl⟩
theorem dX8_off_24 : DD cX8_off 24 (.getfield 9) 3 27 := ⟨by decide +kernel, rfl⟩
theorem dX8_off_27 : DD cX8_off 27 (.bipush 6) 2 29 := ⟨by decide +kernel, rfl⟩
theorem dX8_off_29 : DD cX8_off 29 (.iaload) 1 30 := ⟨by decide +kernel, rfl⟩
theorem dX8_off_30 : DD cX8_off 30 (.ireturn) 1 31 := ⟨by decide +kernel, rfl⟩
theorem dX8_bout_0 : DD cX8_bout 0 (.iload_n 1) 1 1 := ⟨by decide +kernel, rfl⟩
theorem dX8_bout_1 : DD cX8_bout 1 (.i2l) 1 2 := ⟨by decide +kernel, rfl⟩
theorem dX8_bout_2 : DD cX8_bout 2 (.lconst 1) 1 3 := ⟨by decide +kernel, rfl⟩
theorem dX8_bout_3 : DD cX8_bout 3 (.ldc2_w 133) 3 6 := ⟨by decide +kernel, rfl⟩
theorem dX8_bout_6 : DD cX8_bout 6 (.invokestatic 39) 3 9 := ⟨by decide +kernel, rfl⟩
theorem dX8_bout_9 : DD cX8_bout 9 (.ifCond .ne 10) 3 12 := ⟨by decide +kernel, rfl⟩
theorem dX8_bout_12 : DD cX8_bout 12 (.aload_n 0) 1 13 := ⟨by decide +kernel, rfl⟩
theorem dX8_bout_13 : DD cX8_bout 13 (.ldc 38) 2 15 := ⟨by decide +kernel, rfl⟩
theorem dX8_bout_15 : DD cX8_bout 15 (.invokevirtual 51) 3 18 := ⟨by decide +kernel, rfl⟩
theorem dX8_bout_18 : DD cX8_bout 18 (.ireturn) 1 19 := ⟨by decide +kernel, rfl⟩
theorem dX8_bout_19 : DD cX8_bout 19 (.aload_n 0) 1 20 := ⟨by decide +kernel, rfl⟩
theorem dX8_bout_20 : DD cX8_bout 20 (.getfield 9) 3 23 := ⟨by decide +kernel, rfl⟩
theorem dX8_bout_23 : DD cX8_bout 23 (.iconst 2) 1 24 := ⟨by decide +kernel, rfl⟩
theorem dX8_bout_24 : DD cX8_bout 24 (.iaload) 1 25 := ⟨by decide +kernel, rfl⟩
theorem dX8_bout_25 : DD cX8_bout 25 (.ifCond .ne 10) 3 28 := ⟨by decide +kernel, rfl⟩
theorem dX8_bout_28 : DD cX8_bout 28 (.aload_n 0) 1 29 := ⟨by decide +kernel, rfl⟩
theorem dX8_bout_29 : DD cX8_bout 29 (.ldc 73) 2 31 := ⟨by decide +kernel, rfl⟩
theorem dX8_bout_31 : DD cX8_bout 31 (.invokevirtual 51) 3 34 := ⟨by decide +kernel, rfl⟩
theorem dX8_bout_34 : DD cX8_bout 34 (.ireturn) 1 35 := ⟨by decide +kernel, rfl⟩
theorem dX8_bout_35 : DD cX8_bout 35 (.iconst 0) 1 36 := ⟨by decide +kernel, rfl⟩
theorem dX8_bout_36 : DD cX8_bout 36 (.istore_n 2) 1 37 := ⟨by decide +kernel, rfl⟩
theorem dX8_bout_37 : DD cX8_bout 37 (.iconst 0) 1 38 := ⟨by decide +kernel, rfl⟩
theorem dX8_bout_38 : DD cX8_bout 38 (.istore_n 3) 1 39 := ⟨by decide +kernel, rfl⟩
theorem dX8_bout_39 : DD cX8_bout 39 (.iload_n 3) 1 40 := ⟨by decide +kernel, rfl⟩
theorem dX8_bout_40 : DD cX8_bout 40 (.iload_n 1) 1 41 := ⟨by decide +kernel, rfl⟩
theorem dX8_bout_41 : DD cX8_bout 41 (.if_icmp .ge 21) 3 44 := ⟨by decide +kernel, rfl⟩
theorem dX8_bout_44 : DD cX8_bout 44 (.iload_n 2) 1 45 := ⟨by decide +kernel, rfl⟩
theorem dX8_bout_45 : DD cX8_bout 45 (.ifCond .ne 17) 3 48 := ⟨by decide +kernel, rfl⟩
theorem dX8_bout_48 : DD cX8_bout 48 (.aload_n 0) 1 49 := ⟨by decide +kernel, rfl⟩
theorem dX8_bout_49 : DD cX8_bout 49 (.getfield 9) 3 52 := ⟨by decide +kernel, rfl⟩
theorem dX8_bout_52 : DD cX8_bout 52 (.invokestatic 135) 3 55 := ⟨by decide +kernel, rfl⟩
theorem dX8_bout_55 : DD cX8_bout 55 (.istore_n 2) 1 56 := ⟨by decide +kernel, rfl⟩
theorem dX8_bout_56 : DD cX8_bout 56 (.iinc 3 1) 3 59 := ⟨by decide +kernel, rfl⟩
theorem dX8_bout_59 : DD cX8_bout 59 (.goto (-20)) 3 62 := ⟨by decide +kernel, rfl⟩
theorem dX8_bout_62 : DD cX8_bout 62 (.iload_n 2) 1 63 := ⟨by decide +kernel, rfl⟩
theorem dX8_bout_63 : DD cX8_bout 63 (.ifCond .le 68) 3 66 := ⟨by decide +kernel, rfl⟩
theorem dX8_bout_66 : DD cX8_bout 66 (.aload_n 0) 1 67 := ⟨by decide +kernel, rfl⟩
theorem dX8_bout_67 : DD cX8_bout 67 (.getfield 9) 3 70 := ⟨by decide +kernel, rfl⟩
theorem dX8_bout_70 : DD cX8_bout 70 (.iconst 2) 1 71 := ⟨by decide +kernel, rfl⟩
theorem dX8_bout_71 : DD cX8_bout 71 (.iconst 0) 1 72 := ⟨by decide +kernel, rfl⟩
theorem dX8_bout_72 : DD cX8_bout 72 (.iastore) 1 73 := ⟨by decide +kernel, rfl⟩
theorem dX8_bout_73 : DD cX8_bout 73 (.aload_n 0) 1 74 := ⟨by decide +kernel, rfl⟩
theorem dX8_bout_74 : DD cX8_bout 74 (.getfield 9) 3 77 := ⟨by decide +kernel, rfl⟩
theorem dX8_bout_77 : DD cX8_bout 77 (.bipush 7) 2 79 := ⟨by decide +kernel, rfl⟩
theorem dX8_bout_79 : DD cX8_bout 79 (.iload_n 2) 1 80 := ⟨by decide +kernel, rfl⟩
theorem dX8_bout_80 : DD cX8_bout 80 (.iastore) 1 81 := ⟨by decide +kernel, rfl⟩
theorem dX8_bout_81 : DD cX8_bout 81 (.aload_n 0) 1 82 := ⟨by decide +kernel, rfl⟩
theorem dX8_bout_82 : DD cX8_bout 82 (.getfield 9) 3 85 := ⟨by decide +kernel, rfl⟩
theorem dX8_bout_85 : DD cX8_bout 85 (.bipush 40) 2 87 := ⟨by decide +kernel, rfl⟩
theorem dX8_bout_87 : DD cX8_bout 87 (.bipush 8) 2 89 := ⟨by decide +kernel, rfl⟩
theorem dX8_bout_89 : DD cX8_bout 89 (.aload_n 0) 1 90 := ⟨by decide +kernel, rfl⟩
theorem dX8_bout_90 : DD cX8_bout 90 (.getfield 9) 3 93 := ⟨by decide +kernel, rfl⟩
theorem dX8_bout_93 : DD cX8_bout 93 (.iconst 3) 1 94 := ⟨by decide +kernel, rfl⟩
theorem dX8_bout_94 : DD cX8_bout 94 (.iaload) 1 95 := ⟨by decide +kernel, rfl⟩
theorem dX8_bout_95 : DD cX8_bout 95 (.imul) 1 96 := ⟨by decide +kernel, rfl⟩
theorem dX8_bout_96 : DD cX8_bout 96 (.iadd) 1 97 := ⟨by decide +kernel, rfl⟩
theorem dX8_bout_97 : DD cX8_bout 97 (.iconst 5) 1 98 := ⟨by decide +kernel, rfl⟩
theorem dX8_bout_98 : DD cX8_bout 98 (.iadd) 1 99 := ⟨by decide +kernel, rfl⟩
theorem dX8_bout_99 : DD cX8_bout 99 (.dup2) 1 100 := ⟨by decide +kernel, rfl⟩
theorem dX8_bout_100 : DD cX8_bout 100 (.iaload) 1 101 := ⟨by decide +kernel, rfl⟩
theorem dX8_bout_101 : DD cX8_bout 101 (.iload_n 2) 1 102 := ⟨by decide +kernel, rfl⟩
theorem dX8_bout_102 : DD cX8_bout 102 (.iconst 1) 1 103 := ⟨by decide +kernel, rfl⟩
theorem dX8_bout_103 : DD cX8_bout 103 (.iand) 1 104 := ⟨by decide +kernel, rfl⟩
theorem dX8_bout_104 : DD cX8_bout 104 (.iadd) 1 105 := ⟨by decide +kernel, rfl⟩
theorem dX8_bout_105 : DD cX8_bout 105 (.iastore) 1 106 := ⟨by decide +kernel, rfl⟩
theorem dX8_bout_106 : DD cX8_bout 106 (.aload_n 0) 1 107 := ⟨by decide +kernel, rfl⟩
theorem dX8_bout_107 : DD cX8_bout 107 (.getfield 9) 3 110 := ⟨by decide +kernel, rfl⟩
theorem dX8_bout_110 : DD cX8_bout 110 (.bipush 40) 2 112 := ⟨by decide +kernel, rfl⟩
theorem dX8_bout_112 : DD cX8_bout 112 (.bipush 8) 2 114 := ⟨by decide +kernel, rfl⟩
theorem dX8_bout_114 : DD cX8_bout 114 (.aload_n 0) 1 115 := ⟨by decide +kernel, rfl⟩
theorem dX8_bout_115 : DD cX8_bout 115 (.getfield 9) 3 118 := ⟨by decide +kernel, rfl⟩
theorem dX8_bout_118 : DD cX8_bout 118 (.iconst 4) 1 119 := ⟨by decide +kernel, rfl⟩
theorem dX8_bout_119 : DD cX8_bout 119 (.iaload) 1 120 := ⟨by decide +kernel, rfl⟩
theorem dX8_bout_120 : DD cX8_bout 120 (.imul) 1 121 := ⟨by decide +kernel, rfl⟩
theorem dX8_bout_121 : DD cX8_bout 121 (.iadd) 1 122 := ⟨by decide +kernel, rfl⟩
theorem dX8_bout_122 : DD cX8_bout 122 (.iconst 5) 1 123 := ⟨by decide +kernel, rfl⟩
theorem dX8_bout_123 : DD cX8_bout 123 (.iadd) 1 124 := ⟨by decide +kernel, rfl⟩
theorem dX8_bout_124 : DD cX8_bout 124 (.dup2) 1 125 := ⟨by decide +kernel, rfl⟩
theorem dX8_bout_125 : DD cX8_bout 125 (.iaload) 1 126 := ⟨by decide +kernel, rfl⟩
theorem dX8_bout_126 : DD cX8_bout 126 (.iload_n 2) 1 127 := ⟨by decide +kernel, rfl⟩
theorem dX8_bout_127 : DD cX8_bout 127 (.iconst 1) 1 128 := ⟨by decide +kernel, rfl⟩
theorem dX8_bout_128 : DD cX8_bout 128 (.ishr) 1 129 := ⟨by decide +kernel, rfl⟩
theorem dX8_bout_129 : DD cX8_bout 129 (.iadd) 1 130 := ⟨by decide +kernel, rfl⟩
theorem dX8_bout_130 : DD cX8_bout 130 (.iastore) 1 131 := ⟨by decide +kernel, rfl⟩
theorem dX8_bout_131 : DD cX8_bout 131 (.iload_n 2) 1 132 := ⟨by decide +kernel, rfl⟩
theorem dX8_bout_132 : DD cX8_bout 132 (.ireturn) 1 133 := ⟨by decide +kernel, rfl⟩
theorem dX8_stands_0 : DD cX8_stands 0 (.iload_n 1) 1 1 := ⟨by decide +kernel, rfl⟩
theorem dX8_stands_1 : DD cX8_stands 1 (.i2l) 1 2 := ⟨by decide +kernel, rfl⟩
theorem dX8_stands_2 : DD cX8_stands 2 (.lconst 0) 1 3 := ⟨by decide +kernel, rfl⟩
theorem dX8_stands_3 : DD cX8_stands 3 (.lconst 1) 1 4 := ⟨by decide +kernel, rfl⟩
theorem dX8_stands_4 : DD cX8_stands 4 (.invokestatic 39) 3 7 := ⟨by decide +kernel, rfl⟩
theorem dX8_stands_7 : DD cX8_stands 7 (.ifCond .eq 15) 3 10 := ⟨by decide +kernel, rfl⟩
theorem dX8_stands_10 : DD cX8_stands 10 (.iload_n 2) 1 11 := ⟨by decide +kernel, rfl⟩
theorem dX8_stands_11 : DD cX8_stands 11 (.i2l) 1 12 := ⟨by decide +kernel, rfl⟩
theorem dX8_stands_12 : DD cX8_stands 12 (.lconst 0) 1 13 := ⟨by decide +kernel, rfl⟩
theorem dX8_stands_13 : DD cX8_stands 13 (.ldc2_w 47) 3 16 := ⟨by decide +kernel, rfl⟩
theorem dX8_stands_16 : DD cX8_stands 16 (.invokestatic 39) 3 19 := ⟨by decide +kernel, rfl⟩
theorem dX8_stands_19 : DD cX8_stands 19 (.ifCond .ne 10) 3 22 := ⟨by decide +kernel, rfl⟩
theorem dX8_stands_22 : DD cX8_stands 22 (.aload_n 0) 1 23 := ⟨by decide +kernel, rfl⟩
theorem dX8_stands_23 : DD cX8_stands 23 (.ldc 38) 2 25 := ⟨by decide +kernel, rfl⟩
theorem dX8_stands_25 : DD cX8_stands 25 (.invokevirtual 51) 3 28 := ⟨by decide +kernel, rfl⟩
theorem dX8_stands_28 : DD cX8_stands 28 (.ireturn) 1 29 := ⟨by decide +kernel, rfl⟩
theorem dX8_stands_29 : DD cX8_stands 29 (.aload_n 0) 1 30 := ⟨by decide +kernel, rfl⟩
theorem dX8_stands_30 : DD cX8_stands 30 (.getfield 9) 3 33 := ⟨by decide +kernel, rfl⟩
theorem dX8_stands_33 : DD cX8_stands 33 (.iconst 2) 1 34 := ⟨by decide +kernel, rfl⟩
theorem dX8_stands_34 : DD cX8_stands 34 (.iaload) 1 35 := ⟨by decide +kernel, rfl⟩
theorem dX8_stands_35 : DD cX8_stands 35 (.ifCond .ne 10) 3 38 := ⟨by decide +kernel, rfl⟩
theorem dX8_stands_38 : DD cX8_stands 38 (.aload_n 0) 1 39 := ⟨by decide +kernel, rfl⟩
theorem dX8_stands_39 : DD cX8_stands 39 (.ldc 73) 2 41 := ⟨by decide +kernel, rfl⟩
theorem dX8_stands_41 : DD cX8_stands 41 (.invokevirtual 51) 3 44 := ⟨by decide +kernel, rfl⟩
theorem dX8_stands_44 : DD cX8_stands 44 (.ireturn) 1 45 := ⟨by decide +kernel, rfl⟩
theorem dX8_stands_45 : DD cX8_stands 45 (.iload_n 2) 1 46 := ⟨by decide +kernel, rfl⟩
theorem dX8_stands_46 : DD cX8_stands 46 (.tableswitch 82 0 4 #[34, 43, 53, 63, 73]) 34 80 := ⟨by decide +kernel, rfl⟩
theorem dX8_stands_80 : DD cX8_stands 80 (.aload_n 0) 1 81 := ⟨by decide +kernel, rfl⟩
theorem dX8_stands_81 : DD cX8_stands 81 (.getfield 9) 3 84 := ⟨by decide +kernel, rfl⟩
theorem dX8_stands_84 : DD cX8_stands 84 (.iconst 3) 1 85 := ⟨by decide +kernel, rfl⟩
theorem dX8_stands_85 : DD cX8_stands 85 (.iload_n 1) 1 86 := ⟨by decide +kernel, rfl⟩
theorem dX8_stands_86 : DD cX8_stands 86 (.iadd) 1 87 := ⟨by decide +kernel, rfl⟩
theorem dX8_stands_87 : DD cX8_stands 87 (.iaload) 1 88 := ⟨by decide +kernel, rfl⟩
theorem dX8_stands_88 : DD cX8_stands 88 (.ireturn) 1 89 := ⟨by decide +kernel, rfl⟩
theorem dX8_stands_89 : DD cX8_stands 89 (.aload_n 0) 1 90 := ⟨by decide +kernel, rfl⟩
theorem dX8_stands_90 : DD cX8_stands 90 (.getfield 9) 3 93 := ⟨by decide +kernel, rfl⟩
theorem dX8_stands_93 : DD cX8_stands 93 (.bipush 16) 2 95 := ⟨by decide +kernel, rfl⟩
theorem dX8_stands_95 : DD cX8_stands 95 (.iload_n 1) 1 96 := ⟨by decide +kernel, rfl⟩
theorem dX8_stands_96 : DD cX8_stands 96 (.iadd) 1 97 := ⟨by decide +kernel, rfl⟩
theorem dX8_stands_97 : DD cX8_stands 97 (.iaload) 1 98 := ⟨by decide +kernel, rfl⟩
theorem dX8_stands_98 : DD cX8_stands 98 (.ireturn) 1 99 := ⟨by decide +kernel, rfl⟩
theorem dX8_stands_99 : DD cX8_stands 99 (.aload_n 0) 1 100 := ⟨by decide +kernel, rfl⟩
theorem dX8_stands_100 : DD cX8_stands 100 (.getfield 9) 3 103 := ⟨by decide +kernel, rfl⟩
theorem dX8_stands_103 : DD cX8_stands 103 (.bipush 18) 2 105 := ⟨by decide +kernel, rfl⟩
theorem dX8_stands_105 : DD cX8_stands 105 (.iload_n 1) 1 106 := ⟨by decide +kernel, rfl⟩
theorem dX8_stands_106 : DD cX8_stands 106 (.iadd) 1 107 := ⟨by decide +kernel, rfl⟩
theorem dX8_stands_107 : DD cX8_stands 107 (.iaload) 1 108 := ⟨by decide +kernel, rfl⟩
theorem dX8_stands_108 : DD cX8_stands 108 (.ireturn) 1 109 := ⟨by decide +kernel, rfl⟩
theorem dX8_stands_109 : DD cX8_stands 109 (.aload_n 0) 1 110 := ⟨by decide +kernel, rfl⟩
theorem dX8_stands_110 : DD cX8_stands 110 (.getfield 9) 3 113 := ⟨by decide +kernel, rfl⟩
theorem dX8_stands_113 : DD cX8_stands 113 (.bipush 20) 2 115 := ⟨by decide +kernel, rfl⟩
theorem dX8_stands_115 : DD cX8_stands 115 (.iload_n 1) 1 116 := ⟨by decide +kernel, rfl⟩
theorem dX8_stands_116 : DD cX8_stands 116 (.iadd) 1 117 := ⟨by decide +kernel, rfl⟩
theorem dX8_stands_117 : DD cX8_stands 117 (.iaload) 1 118 := ⟨by decide +kernel, rfl⟩
theorem dX8_stands_118 : DD cX8_stands 118 (.ireturn) 1 119 := ⟨by decide +kernel, rfl⟩
theorem dX8_stands_119 : DD cX8_stands 119 (.aload_n 0) 1 120 := ⟨by decide +kernel, rfl⟩
theorem dX8_stands_120 : DD cX8_stands 120 (.getfield 9) 3 123 := ⟨by decide +kernel, rfl⟩
theorem dX8_stands_123 : DD cX8_stands 123 (.iload_n 1) 1 124 := ⟨by decide +kernel, rfl⟩
theorem dX8_stands_124 : DD cX8_stands 124 (.invokestatic 104) 3 127 := ⟨by decide +kernel, rfl⟩
theorem dX8_stands_127 : DD cX8_stands 127 (.ireturn) 1 128 := ⟨by decide +kernel, rfl⟩
theorem dX8_stands_128 : DD cX8_stands 128 (.aload_n 0) 1 129 := ⟨by decide +kernel, rfl⟩
theorem dX8_stands_129 : DD cX8_stands 129 (.getfield 9) 3 132 := ⟨by decide +kernel, rfl⟩
theorem dX8_stands_132 : DD cX8_stands 132 (.iload_n 1) 1 133 := ⟨by decide +kernel, rfl⟩
theorem dX8_stands_133 : DD cX8_stands 133 (.invokestatic 116) 3 136 := ⟨by decide +kernel, rfl⟩
theorem dX8_stands_136 : DD cX8_stands 136 (.ireturn) 1 137 := ⟨by decide +kernel, rfl⟩
theorem dX8_now_0 : DD cX8_now 0 (.iload_n 1) 1 1 := ⟨by decide +kernel, rfl⟩
theorem dX8_now_1 : DD cX8_now 1 (.i2l) 1 2 := ⟨by decide +kernel, rfl⟩
theorem dX8_now_2 : DD cX8_now 2 (.lconst 0) 1 3 := ⟨by decide +kernel, rfl⟩
theorem dX8_now_3 : DD cX8_now 3 (.ldc2_w 139) 3 6 := ⟨by decide +kernel, rfl⟩
theorem dX8_now_6 : DD cX8_now 6 (.invokestatic 39) 3 9 := ⟨by decide +kernel, rfl⟩
theorem dX8_now_9 : DD cX8_now 9 (.ifCond .eq 14) 3 12 := ⟨by decide +kernel, rfl⟩
theorem dX8_now_12 : DD cX8_now 12 (.aload_n 0) 1 13 := ⟨by decide +kernel, rfl⟩
theorem dX8_now_13 : DD cX8_now 13 (.getfield 9) 3 16 := ⟨by decide +kernel, rfl⟩
theorem dX8_now_16 : DD cX8_now 16 (.iconst 5) 1 17 := ⟨by decide +kernel, rfl⟩
theorem dX8_now_17 : DD cX8_now 17 (.iload_n 1) 1 18 := ⟨by decide +kernel, rfl⟩
theorem dX8_now_18 : DD cX8_now 18 (.iadd) 1 19 := ⟨by decide +kernel, rfl⟩
theorem dX8_now_19 : DD cX8_now 19 (.iaload) 1 20 := ⟨by decide +kernel, rfl⟩
theorem dX8_now_20 : DD cX8_now 20 (.goto 9) 3 23 := ⟨by decide +kernel, rfl⟩
theorem dX8_now_23 : DD cX8_now 23 (.aload_n 0) 1 24 := ⟨by decide +kernel, rfl⟩
theorem dX8_now_24 : DD cX8_now 24 (.ldc 38) 2 26 := ⟨by decide +kernel, rfl⟩
theorem dX8_now_26 : DD cX8_now 26 (.invokevirtual 51) 3 29 := ⟨by decide +kernel, rfl⟩
theorem dX8_now_29 : DD cX8_now 29 (.ireturn) 1 30 := ⟨by decide +kernel, rfl⟩
theorem dX8_seed_0 : DD cX8_seed 0 (.aload_n 0) 1 1 := ⟨by decide +kernel, rfl⟩
theorem dX8_seed_1 : DD cX8_seed 1 (.getfield 9) 3 4 := ⟨by decide +kernel, rfl⟩
theorem dX8_seed_4 : DD cX8_seed 4 (.bipush 8) 2 6 := ⟨by decide +kernel, rfl⟩
theorem dX8_seed_6 : DD cX8_seed 6 (.iaload) 1 7 := ⟨by decide +kernel, rfl⟩
theorem dX8_seed_7 : DD cX8_seed 7 (.istore_n 2) 1 8 := ⟨by decide +kernel, rfl⟩
theorem dX8_seed_8 : DD cX8_seed 8 (.aload_n 0) 1 9 := ⟨by decide +kernel, rfl⟩
theorem dX8_seed_9 : DD cX8_seed 9 (.getfield 9) 3 12 := ⟨by decide +kernel, rfl⟩
theorem dX8_seed_12 : DD cX8_seed 12 (.bipush 8) 2 14 := ⟨by decide +kernel, rfl⟩
theorem dX8_seed_14 : DD cX8_seed 14 (.iload_n 1) 1 15 := ⟨by decide +kernel, rfl⟩
theorem dX8_seed_15 : DD cX8_seed 15 (.iastore) 1 16 := ⟨by decide +kernel, rfl⟩
theorem dX8_seed_16 : DD cX8_seed 16 (.iload_n 2) 1 17 := ⟨by decide +kernel, rfl⟩
theorem dX8_seed_17 : DD cX8_seed 17 (.ireturn) 1 18 := ⟨by decide +kernel, rfl⟩
theorem dX8_boutAhead_0 : DD cX8_boutAhead 0 (.aload_n 0) 1 1 := ⟨by decide +kernel, rfl⟩
theorem dX8_boutAhead_1 : DD cX8_boutAhead 1 (.getfield 13) 3 4 := ⟨by decide +kernel, rfl⟩
theorem dX8_boutAhead_4 : DD cX8_boutAhead 4 (.iload_n 1) 1 5 := ⟨by decide +kernel, rfl⟩
theorem dX8_boutAhead_5 : DD cX8_boutAhead 5 (.iload_n 2) 1 6 := ⟨by decide +kernel, rfl⟩
theorem dX8_boutAhead_6 : DD cX8_boutAhead 6 (.invokestatic 130) 3 9 := ⟨by decide +kernel, rfl⟩
theorem dX8_boutAhead_9 : DD cX8_boutAhead 9 (.aload_n 0) 1 10 := ⟨by decide +kernel, rfl⟩
theorem dX8_boutAhead_10 : DD cX8_boutAhead 10 (.iconst 0) 1 11 := ⟨by decide +kernel, rfl⟩
theorem dX8_boutAhead_11 : DD cX8_boutAhead 11 (.putfield 141) 3 14 := ⟨by decide +kernel, rfl⟩
theorem dX8_boutAhead_14 : DD cX8_boutAhead 14 (.aload_n 0) 1 15 := ⟨by decide +kernel, rfl⟩
theorem dX8_boutAhead_15 : DD cX8_boutAhead 15 (.iconst 0) 1 16 := ⟨by decide +kernel, rfl⟩
theorem dX8_boutAhead_16 : DD cX8_boutAhead 16 (.putfield 145) 3 19 := ⟨by decide +kernel, rfl⟩
theorem dX8_boutAhead_19 : DD cX8_boutAhead 19 (.iconst 0) 1 20 := ⟨by decide +kernel, rfl⟩
theorem dX8_boutAhead_20 : DD cX8_boutAhead 20 (.istore 4) 2 22 := ⟨by decide +kernel, rfl⟩
theorem dX8_boutAhead_22 : DD cX8_boutAhead 22 (.iconst 1) 1 23 := ⟨by decide +kernel, rfl⟩
theorem dX8_boutAhead_23 : DD cX8_boutAhead 23 (.istore 5) 2 25 := ⟨by decide +kernel, rfl⟩
theorem dX8_boutAhead_25 : DD cX8_boutAhead 25 (.iload 5) 2 27 := ⟨by decide +kernel, rfl⟩
theorem dX8_boutAhead_27 : DD cX8_boutAhead 27 (.iload_n 3) 1 28 := ⟨by decide +kernel, rfl⟩
theorem dX8_boutAhead_28 : DD cX8_boutAhead 28 (.if_icmp .gt 95) 3 31 := ⟨by decide +kernel, rfl⟩
theorem dX8_boutAhead_31 : DD cX8_boutAhead 31 (.iload 4) 2 33 := ⟨by decide +kernel, rfl⟩
theorem dX8_boutAhead_33 : DD cX8_boutAhead 33 (.ifCond .ne 90) 3 36 := ⟨by decide +kernel, rfl⟩
theorem dX8_boutAhead_36 : DD cX8_boutAhead 36 (.aload_n 0) 1 37 := ⟨by decide +kernel, rfl⟩
theorem dX8_boutAhead_37 : DD cX8_boutAhead 37 (.getfield 13) 3 40 := ⟨by decide +kernel, rfl⟩
theorem dX8_boutAhead_40 : DD cX8_boutAhead 40 (.invokestatic 135) 3 43 := ⟨by decide +kernel, rfl⟩
theorem dX8_boutAhead_43 : DD cX8_boutAhead 43 (.istore 4) 2 45 := ⟨by decide +kernel, rfl⟩
theorem dX8_boutAhead_45 : DD cX8_boutAhead 45 (.aload_n 0) 1 46 := ⟨by decide +kernel, rfl⟩
theorem dX8_boutAhead_46 : DD cX8_boutAhead 46 (.getfield 13) 3 49 := ⟨by decide +kernel, rfl⟩
theorem dX8_boutAhead_49 : DD cX8_boutAhead 49 (.bipush 18) 2 51 := ⟨by decide +kernel, rfl⟩
theorem dX8_boutAhead_51 : DD cX8_boutAhead 51 (.iaload) 1 52 := ⟨by decide +kernel, rfl⟩
theorem dX8_boutAhead_52 : DD cX8_boutAhead 52 (.invokestatic 88) 3 55 := ⟨by decide +kernel, rfl⟩
theorem dX8_boutAhead_55 : DD cX8_boutAhead 55 (.istore 6) 2 57 := ⟨by decide +kernel, rfl⟩
theorem dX8_boutAhead_57 : DD cX8_boutAhead 57 (.aload_n 0) 1 58 := ⟨by decide +kernel, rfl⟩
theorem dX8_boutAhead_58 : DD cX8_boutAhead 58 (.iload 5) 2 60 := ⟨by decide +kernel, rfl⟩
theorem dX8_boutAhead_60 : DD cX8_boutAhead 60 (.iload_n 3) 1 61 := ⟨by decide +kernel, rfl⟩
theorem dX8_boutAhead_61 : DD cX8_boutAhead 61 (.iconst 2) 1 62 := ⟨by decide +kernel, rfl⟩
theorem dX8_boutAhead_62 : DD cX8_boutAhead 62 (.idiv) 1 63 := ⟨by decide +kernel, rfl⟩
theorem dX8_boutAhead_63 : DD cX8_boutAhead 63 (.if_icmp .gt 17) 3 66 := ⟨by decide +kernel, rfl⟩
theorem dX8_boutAhead_66 : DD cX8_boutAhead 66 (.iload 6) 2 68 := ⟨by decide +kernel, rfl⟩
theorem dX8_boutAhead_68 : DD cX8_boutAhead 68 (.aload_n 0) 1 69 := ⟨by decide +kernel, rfl⟩
theorem dX8_boutAhead_69 : DD cX8_boutAhead 69 (.getfield 141) 3 72 := ⟨by decide +kernel, rfl⟩
theorem dX8_boutAhead_72 : DD cX8_boutAhead 72 (.if_icmp .le 8) 3 75 := ⟨by decide +kernel, rfl⟩
theorem dX8_boutAhead_75 : DD cX8_boutAhead 75 (.iload 6) 2 77 := ⟨by decide +kernel, rfl⟩
theorem dX8_boutAhead_77 : DD cX8_boutAhead 77 (.goto 7) 3 80 := ⟨by decide +kernel, rfl⟩
theorem dX8_boutAhead_80 : DD cX8_boutAhead 80 (.aload_n 0) 1 81 := ⟨by decide +kernel, rfl⟩
theorem dX8_boutAhead_81 : DD cX8_boutAhead 81 (.getfield 141) 3 84 := ⟨by decide +kernel, rfl⟩
theorem dX8_boutAhead_84 : DD cX8_boutAhead 84 (.putfield 141) 3 87 := ⟨by decide +kernel, rfl⟩
theorem dX8_boutAhead_87 : DD cX8_boutAhead 87 (.aload_n 0) 1 88 := ⟨by decide +kernel, rfl⟩
theorem dX8_boutAhead_88 : DD cX8_boutAhead 88 (.iload 5) 2 90 := ⟨by decide +kernel, rfl⟩
theorem dX8_boutAhead_90 : DD cX8_boutAhead 90 (.iload_n 3) 1 91 := ⟨by decide +kernel, rfl⟩
theorem dX8_boutAhead_91 : DD cX8_boutAhead 91 (.iconst 2) 1 92 := ⟨by decide +kernel, rfl⟩
theorem dX8_boutAhead_92 : DD cX8_boutAhead 92 (.idiv) 1 93 := ⟨by decide +kernel, rfl⟩
theorem dX8_boutAhead_93 : DD cX8_boutAhead 93 (.if_icmp .le 17) 3 96 := ⟨by decide +kernel, rfl⟩
theorem dX8_boutAhead_96 : DD cX8_boutAhead 96 (.iload 6) 2 98 := ⟨by decide +kernel, rfl⟩
theorem dX8_boutAhead_98 : DD cX8_boutAhead 98 (.aload_n 0) 1 99 := ⟨by decide +kernel, rfl⟩
theorem dX8_boutAhead_99 : DD cX8_boutAhead 99 (.getfield 145) 3 102 := ⟨by decide +kernel, rfl⟩
theorem dX8_boutAhead_102 : DD cX8_boutAhead 102 (.if_icmp .le 8) 3 105 := ⟨by decide +kernel, rfl⟩
theorem dX8_boutAhead_105 : DD cX8_boutAhead 105 (.iload 6) 2 107 := ⟨by decide +kernel, rfl⟩
theorem dX8_boutAhead_107 : DD cX8_boutAhead 107 (.goto 7) 3 110 := ⟨by decide +kernel, rfl⟩
theorem dX8_boutAhead_110 : DD cX8_boutAhead 110 (.aload_n 0) 1 111 := ⟨by decide +kernel, rfl⟩
theorem dX8_boutAhead_111 : DD cX8_boutAhead 111 (.getfield 145) 3 114 := ⟨by decide +kernel, rfl⟩
theorem dX8_boutAhead_114 : DD cX8_boutAhead 114 (.putfield 145) 3 117 := ⟨by decide +kernel, rfl⟩
theorem dX8_boutAhead_117 : DD cX8_boutAhead 117 (.iinc 5 1) 3 120 := ⟨by decide +kernel, rfl⟩
theorem dX8_boutAhead_120 : DD cX8_boutAhead 120 (.goto (-95)) 3 123 := ⟨by decide +kernel, rfl⟩
theorem dX8_boutAhead_123 : DD cX8_boutAhead 123 (.iload 4) 2 125 := ⟨by decide +kernel, rfl⟩
theorem dX8_boutAhead_125 : DD cX8_boutAhead 125 (.ireturn) 1 126 := ⟨by decide +kernel, rfl⟩
theorem dX8_ahead_0 : DD cX8_ahead 0 (.aload_n 0) 1 1 := ⟨by decide +kernel, rfl⟩
theorem dX8_ahead_1 : DD cX8_ahead 1 (.iload_n 1) 1 2 := ⟨by decide +kernel, rfl⟩
theorem dX8_ahead_2 : DD cX8_ahead 2 (.iload_n 2) 1 3 := ⟨by decide +kernel, rfl⟩
theorem dX8_ahead_3 : DD cX8_ahead 3 (.invokevirtual 127) 3 6 := ⟨by decide +kernel, rfl⟩
theorem dX8_ahead_6 : DD cX8_ahead 6 (.ifCond .eq 28) 3 9 := ⟨by decide +kernel, rfl⟩
theorem dX8_ahead_9 : DD cX8_ahead 9 (.iload_n 3) 1 10 := ⟨by decide +kernel, rfl⟩
theorem dX8_ahead_10 : DD cX8_ahead 10 (.i2l) 1 11 := ⟨by decide +kernel, rfl⟩
theorem dX8_ahead_11 : DD cX8_ahead 11 (.lconst 1) 1 12 := ⟨by decide +kernel, rfl⟩
theorem dX8_ahead_12 : DD cX8_ahead 12 (.ldc2_w 148) 3 15 := ⟨by decide +kernel, rfl⟩
theorem dX8_ahead_15 : DD cX8_ahead 15 (.invokestatic 39) 3 18 := ⟨by decide +kernel, rfl⟩
theorem dX8_ahead_18 : DD cX8_ahead 18 (.ifCond .eq 16) 3 21 := ⟨by decide +kernel, rfl⟩
theorem dX8_ahead_21 : DD cX8_ahead 21 (.iload 4) 2 23 := ⟨by decide +kernel, rfl⟩
theorem dX8_ahead_23 : DD cX8_ahead 23 (.i2l) 1 24 := ⟨by decide +kernel, rfl⟩
theorem dX8_ahead_24 : DD cX8_ahead 24 (.lconst 0) 1 25 := ⟨by decide +kernel, rfl⟩
theorem dX8_ahead_25 : DD cX8_ahead 25 (.ldc2_w 82) 3 28 := ⟨by decide +kernel, rfl⟩
theorem dX8_ahead_28 : DD cX8_ahead 28 (.invokestatic 39) 3 31 := ⟨by decide +kernel, rfl⟩
theorem dX8_ahead_31 : DD cX8_ahead 31 (.ifCond .ne 10) 3 34 := ⟨by decide +kernel, rfl⟩
theorem dX8_ahead_34 : DD cX8_ahead 34 (.aload_n 0) 1 35 := ⟨by decide +kernel, rfl⟩
theorem dX8_ahead_35 : DD cX8_ahead 35 (.ldc 38) 2 37 := ⟨by decide +kernel, rfl⟩
theorem dX8_ahead_37 : DD cX8_ahead 37 (.invokevirtual 51) 3 40 := ⟨by decide +kernel, rfl⟩
theorem dX8_ahead_40 : DD cX8_ahead 40 (.ireturn) 1 41 := ⟨by decide +kernel, rfl⟩
theorem dX8_ahead_41 : DD cX8_ahead 41 (.aload_n 0) 1 42 := ⟨by decide +kernel, rfl⟩
theorem dX8_ahead_42 : DD cX8_ahead 42 (.getfield 9) 3 45 := ⟨by decide +kernel, rfl⟩
theorem dX8_ahead_45 : DD cX8_ahead 45 (.aload_n 0) 1 46 := ⟨by decide +kernel, rfl⟩
theorem dX8_ahead_46 : DD cX8_ahead 46 (.getfield 13) 3 49 := ⟨by decide +kernel, rfl⟩
theorem dX8_ahead_49 : DD cX8_ahead 49 (.invokestatic 150) 3 52 := ⟨by decide +kernel, rfl⟩
theorem dX8_ahead_52 : DD cX8_ahead 52 (.aload_n 0) 1 53 := ⟨by decide +kernel, rfl⟩
theorem dX8_ahead_53 : DD cX8_ahead 53 (.iload_n 1) 1 54 := ⟨by decide +kernel, rfl⟩
theorem dX8_ahead_54 : DD cX8_ahead 54 (.iload_n 2) 1 55 := ⟨by decide +kernel, rfl⟩
theorem dX8_ahead_55 : DD cX8_ahead 55 (.iload_n 3) 1 56 := ⟨by decide +kernel, rfl⟩
theorem dX8_ahead_56 : DD cX8_ahead 56 (.invokevirtual 154) 3 59 := ⟨by decide +kernel, rfl⟩
theorem dX8_ahead_59 : DD cX8_ahead 59 (.istore 5) 2 61 := ⟨by decide +kernel, rfl⟩
theorem dX8_ahead_61 : DD cX8_ahead 61 (.iload 4) 2 63 := ⟨by decide +kernel, rfl⟩
theorem dX8_ahead_63 : DD cX8_ahead 63 (.ifCond .ne 8) 3 66 := ⟨by decide +kernel, rfl⟩
theorem dX8_ahead_66 : DD cX8_ahead 66 (.iload 5) 2 68 := ⟨by decide +kernel, rfl⟩
theorem dX8_ahead_68 : DD cX8_ahead 68 (.goto 57) 3 71 := ⟨by decide +kernel, rfl⟩
theorem dX8_ahead_71 : DD cX8_ahead 71 (.iload 4) 2 73 := ⟨by decide +kernel, rfl⟩
theorem dX8_ahead_73 : DD cX8_ahead 73 (.iconst 1) 1 74 := ⟨by decide +kernel, rfl⟩
theorem dX8_ahead_74 : DD cX8_ahead 74 (.if_icmp .ne 13) 3 77 := ⟨by decide +kernel, rfl⟩
theorem dX8_ahead_77 : DD cX8_ahead 77 (.aload_n 0) 1 78 := ⟨by decide +kernel, rfl⟩
theorem dX8_ahead_78 : DD cX8_ahead 78 (.getfield 13) 3 81 := ⟨by decide +kernel, rfl⟩
theorem dX8_ahead_81 : DD cX8_ahead 81 (.bipush 6) 2 83 := ⟨by decide +kernel, rfl⟩
theorem dX8_ahead_83 : DD cX8_ahead 83 (.iaload) 1 84 := ⟨by decide +kernel, rfl⟩
theorem dX8_ahead_84 : DD cX8_ahead 84 (.goto 41) 3 87 := ⟨by decide +kernel, rfl⟩
theorem dX8_ahead_87 : DD cX8_ahead 87 (.iload 4) 2 89 := ⟨by decide +kernel, rfl⟩
theorem dX8_ahead_89 : DD cX8_ahead 89 (.iconst 2) 1 90 := ⟨by decide +kernel, rfl⟩
theorem dX8_ahead_90 : DD cX8_ahead 90 (.if_icmp .ne 12) 3 93 := ⟨by decide +kernel, rfl⟩
theorem dX8_ahead_93 : DD cX8_ahead 93 (.aload_n 0) 1 94 := ⟨by decide +kernel, rfl⟩
theorem dX8_ahead_94 : DD cX8_ahead 94 (.getfield 13) 3 97 := ⟨by decide +kernel, rfl⟩
theorem dX8_ahead_97 : DD cX8_ahead 97 (.iconst 5) 1 98 := ⟨by decide +kernel, rfl⟩
theorem dX8_ahead_98 : DD cX8_ahead 98 (.iaload) 1 99 := ⟨by decide +kernel, rfl⟩
theorem dX8_ahead_99 : DD cX8_ahead 99 (.goto 26) 3 102 := ⟨by decide +kernel, rfl⟩
theorem dX8_ahead_102 : DD cX8_ahead 102 (.iload 4) 2 104 := ⟨by decide +kernel, rfl⟩
theorem dX8_ahead_104 : DD cX8_ahead 104 (.iconst 3) 1 105 := ⟨by decide +kernel, rfl⟩
theorem dX8_ahead_105 : DD cX8_ahead 105 (.if_icmp .ne 13) 3 108 := ⟨by decide +kernel, rfl⟩
theorem dX8_ahead_108 : DD cX8_ahead 108 (.aload_n 0) 1 109 := ⟨by decide +kernel, rfl⟩
theorem dX8_ahead_109 : DD cX8_ahead 109 (.getfield 13) 3 112 := ⟨by decide +kernel, rfl⟩
theorem dX8_ahead_112 : DD cX8_ahead 112 (.bipush 18) 2 114 := ⟨by decide +kernel, rfl⟩
theorem dX8_ahead_114 : DD cX8_ahead 114 (.iaload) 1 115 := ⟨by decide +kernel, rfl⟩
theorem dX8_ahead_115 : DD cX8_ahead 115 (.goto 10) 3 118 := ⟨by decide +kernel, rfl⟩
theorem dX8_ahead_118 : DD cX8_ahead 118 (.aload_n 0) 1 119 := ⟨by decide +kernel, rfl⟩
theorem dX8_ahead_119 : DD cX8_ahead 119 (.getfield 13) 3 122 := ⟨by decide +kernel, rfl⟩
theorem dX8_ahead_122 : DD cX8_ahead 122 (.bipush 20) 2 124 := ⟨by decide +kernel, rfl⟩
theorem dX8_ahead_124 : DD cX8_ahead 124 (.iaload) 1 125 := ⟨by decide +kernel, rfl⟩
theorem dX8_ahead_125 : DD cX8_ahead 125 (.ireturn) 1 126 := ⟨by decide +kernel, rfl⟩
theorem dX8_best_0 : DD cX8_best 0 (.aload_n 0) 1 1 := ⟨by decide +kernel, rfl⟩
theorem dX8_best_1 : DD cX8_best 1 (.iload_n 1) 1 2 := ⟨by decide +kernel, rfl⟩
theorem dX8_best_2 : DD cX8_best 2 (.iload_n 2) 1 3 := ⟨by decide +kernel, rfl⟩
theorem dX8_best_3 : DD cX8_best 3 (.invokevirtual 127) 3 6 := ⟨by decide +kernel, rfl⟩
theorem dX8_best_6 : DD cX8_best 6 (.ifCond .eq 15) 3 9 := ⟨by decide +kernel, rfl⟩
theorem dX8_best_9 : DD cX8_best 9 (.iload_n 3) 1 10 := ⟨by decide +kernel, rfl⟩
theorem dX8_best_10 : DD cX8_best 10 (.i2l) 1 11 := ⟨by decide +kernel, rfl⟩
theorem dX8_best_11 : DD cX8_best 11 (.lconst 1) 1 12 := ⟨by decide +kernel, rfl⟩
theorem dX8_best_12 : DD cX8_best 12 (.ldc2_w 148) 3 15 := ⟨by decide +kernel, rfl⟩
theorem dX8_best_15 : DD cX8_best 15 (.invokestatic 39) 3 18 := ⟨by decide +kernel, rfl⟩
theorem dX8_best_18 : DD cX8_best 18 (.ifCond .ne 10) 3 21 := ⟨by decide +kernel, rfl⟩
theorem dX8_best_21 : DD cX8_best 21 (.aload_n 0) 1 22 := ⟨by decide +kernel, rfl⟩
theorem dX8_best_22 : DD cX8_best 22 (.ldc 38) 2 24 := ⟨by decide +kernel, rfl⟩
theorem dX8_best_24 : DD cX8_best 24 (.invokevirtual 51) 3 27 := ⟨by decide +kernel, rfl⟩
theorem dX8_best_27 : DD cX8_best 27 (.ireturn) 1 28 := ⟨by decide +kernel, rfl⟩
theorem dX8_best_28 : DD cX8_best 28 (.iconst (-1)) 1 29 := ⟨by decide +kernel, rfl⟩
theorem dX8_best_29 : DD cX8_best 29 (.istore 4) 2 31 := ⟨by decide +kernel, rfl⟩
theorem dX8_best_31 : DD cX8_best 31 (.iconst 0) 1 32 := ⟨by decide +kernel, rfl⟩
theorem dX8_best_32 : DD cX8_best 32 (.istore 5) 2 34 := ⟨by decide +kernel, rfl⟩
theorem dX8_best_34 : DD cX8_best 34 (.iconst 0) 1 35 := ⟨by decide +kernel, rfl⟩
theorem dX8_best_35 : DD cX8_best 35 (.istore 6) 2 37 := ⟨by decide +kernel, rfl⟩
theorem dX8_best_37 : DD cX8_best 37 (.iload 6) 2 39 := ⟨by decide +kernel, rfl⟩
theorem dX8_best_39 : DD cX8_best 39 (.bipush 6) 2 41 := ⟨by decide +kernel, rfl⟩
theorem dX8_best_41 : DD cX8_best 41 (.if_icmp .ge 89) 3 44 := ⟨by decide +kernel, rfl⟩
theorem dX8_best_44 : DD cX8_best 44 (.aload_n 0) 1 45 := ⟨by decide +kernel, rfl⟩
theorem dX8_best_45 : DD cX8_best 45 (.getfield 9) 3 48 := ⟨by decide +kernel, rfl⟩
theorem dX8_best_48 : DD cX8_best 48 (.aload_n 0) 1 49 := ⟨by decide +kernel, rfl⟩
theorem dX8_best_49 : DD cX8_best 49 (.getfield 13) 3 52 := ⟨by decide +kernel, rfl⟩
theorem dX8_best_52 : DD cX8_best 52 (.invokestatic 150) 3 55 := ⟨by decide +kernel, rfl⟩
theorem dX8_best_55 : DD cX8_best 55 (.aload_n 0) 1 56 := ⟨by decide +kernel, rfl⟩
theorem dX8_best_56 : DD cX8_best 56 (.getfield 13) 3 59 := ⟨by decide +kernel, rfl⟩
theorem dX8_best_59 : DD cX8_best 59 (.bipush 40) 2 61 := ⟨by decide +kernel, rfl⟩
theorem dX8_best_61 : DD cX8_best 61 (.bipush 8) 2 63 := ⟨by decide +kernel, rfl⟩
theorem dX8_best_63 : DD cX8_best 63 (.iload_n 1) 1 64 := ⟨by decide +kernel, rfl⟩
theorem dX8_best_64 : DD cX8_best 64 (.imul) 1 65 := ⟨by decide +kernel, rfl⟩
theorem dX8_best_65 : DD cX8_best 65 (.iadd) 1 66 := ⟨by decide +kernel, rfl⟩
theorem dX8_best_66 : DD cX8_best 66 (.iconst 0) 1 67 := ⟨by decide +kernel, rfl⟩
theorem dX8_best_67 : DD cX8_best 67 (.iadd) 1 68 := ⟨by decide +kernel, rfl⟩
theorem dX8_best_68 : DD cX8_best 68 (.iload 6) 2 70 := ⟨by decide +kernel, rfl⟩
theorem dX8_best_70 : DD cX8_best 70 (.iastore) 1 71 := ⟨by decide +kernel, rfl⟩
theorem dX8_best_71 : DD cX8_best 71 (.aload_n 0) 1 72 := ⟨by decide +kernel, rfl⟩
theorem dX8_best_72 : DD cX8_best 72 (.iload_n 1) 1 73 := ⟨by decide +kernel, rfl⟩
theorem dX8_best_73 : DD cX8_best 73 (.iload_n 2) 1 74 := ⟨by decide +kernel, rfl⟩
theorem dX8_best_74 : DD cX8_best 74 (.iload_n 3) 1 75 := ⟨by decide +kernel, rfl⟩
theorem dX8_best_75 : DD cX8_best 75 (.invokevirtual 154) 3 78 := ⟨by decide +kernel, rfl⟩
theorem dX8_best_78 : DD cX8_best 78 (.iconst 2) 1 79 := ⟨by decide +kernel, rfl⟩
theorem dX8_best_79 : DD cX8_best 79 (.if_icmp .ne 7) 3 82 := ⟨by decide +kernel, rfl⟩
theorem dX8_best_82 : DD cX8_best 82 (.iconst 1) 1 83 := ⟨by decide +kernel, rfl⟩
theorem dX8_best_83 : DD cX8_best 83 (.goto 4) 3 86 := ⟨by decide +kernel, rfl⟩
theorem dX8_best_86 : DD cX8_best 86 (.iconst 0) 1 87 := ⟨by decide +kernel, rfl⟩
theorem dX8_best_87 : DD cX8_best 87 (.istore 7) 2 89 := ⟨by decide +kernel, rfl⟩
theorem dX8_best_89 : DD cX8_best 89 (.iload 7) 2 91 := ⟨by decide +kernel, rfl⟩
theorem dX8_best_91 : DD cX8_best 91 (.ifCond .eq 33) 3 94 := ⟨by decide +kernel, rfl⟩
theorem dX8_best_94 : DD cX8_best 94 (.iload 4) 2 96 := ⟨by decide +kernel, rfl⟩
theorem dX8_best_96 : DD cX8_best 96 (.ifCond .lt 15) 3 99 := ⟨by decide +kernel, rfl⟩
theorem dX8_best_99 : DD cX8_best 99 (.aload_n 0) 1 100 := ⟨by decide +kernel, rfl⟩
theorem dX8_best_100 : DD cX8_best 100 (.getfield 13) 3 103 := ⟨by decide +kernel, rfl⟩
theorem dX8_best_103 : DD cX8_best 103 (.bipush 6) 2 105 := ⟨by decide +kernel, rfl⟩
theorem dX8_best_105 : DD cX8_best 105 (.iaload) 1 106 := ⟨by decide +kernel, rfl⟩
theorem dX8_best_106 : DD cX8_best 106 (.iload 5) 2 108 := ⟨by decide +kernel, rfl⟩
theorem dX8_best_108 : DD cX8_best 108 (.if_icmp .ge 16) 3 111 := ⟨by decide +kernel, rfl⟩
theorem dX8_best_111 : DD cX8_best 111 (.iload 6) 2 113 := ⟨by decide +kernel, rfl⟩
theorem dX8_best_113 : DD cX8_best 113 (.istore 4) 2 115 := ⟨by decide +kernel, rfl⟩
theorem dX8_best_115 : DD cX8_best 115 (.aload_n 0) 1 116 := ⟨by decide +kernel, rfl⟩
theorem dX8_best_116 : DD cX8_best 116 (.getfield 13) 3 119 := ⟨by decide +kernel, rfl⟩
theorem dX8_best_119 : DD cX8_best 119 (.bipush 6) 2 121 := ⟨by decide +kernel, rfl⟩
theorem dX8_best_121 : DD cX8_best 121 (.iaload) 1 122 := ⟨by decide +kernel, rfl⟩
theorem dX8_best_122 : DD cX8_best 122 (.istore 5) 2 124 := ⟨by decide +kernel, rfl⟩
theorem dX8_best_124 : DD cX8_best 124 (.iinc 6 1) 3 127 := ⟨by decide +kernel, rfl⟩
theorem dX8_best_127 : DD cX8_best 127 (.goto (-90)) 3 130 := ⟨by decide +kernel, rfl⟩
theorem dX8_best_130 : DD cX8_best 130 (.iload 4) 2 132 := ⟨by decide +kernel, rfl⟩
theorem dX8_best_132 : DD cX8_best 132 (.ifCond .ge 12) 3 135 := ⟨by decide +kernel, rfl⟩
theorem dX8_best_135 : DD cX8_best 135 (.aload_n 0) 1 136 := ⟨by decide +kernel, rfl⟩
theorem dX8_best_136 : DD cX8_best 136 (.ldc 158) 2 138 := ⟨by decide +kernel, rfl⟩
theorem dX8_best_138 : DD cX8_best 138 (.invokevirtual 51) 3 141 := ⟨by decide +kernel, rfl⟩
theorem dX8_best_141 : DD cX8_best 141 (.goto 5) 3 144 := ⟨by decide +kernel, rfl⟩
theorem dX8_best_144 : DD cX8_best 144 (.iload 4) 2 146 := ⟨by decide +kernel, rfl⟩
theorem dX8_best_146 : DD cX8_best 146 (.ireturn) 1 147 := ⟨by decide +kernel, rfl⟩
theorem dX8_light_0 : DD cX8_light 0 (.aload_n 0) 1 1 := ⟨by decide +kernel, rfl⟩
theorem dX8_light_1 : DD cX8_light 1 (.iload_n 1) 1 2 := ⟨by decide +kernel, rfl⟩
theorem dX8_light_2 : DD cX8_light 2 (.iload_n 2) 1 3 := ⟨by decide +kernel, rfl⟩
theorem dX8_light_3 : DD cX8_light 3 (.invokevirtual 127) 3 6 := ⟨by decide +kernel, rfl⟩
theorem dX8_light_6 : DD cX8_light 6 (.ifCond .eq 15) 3 9 := ⟨by decide +kernel, rfl⟩
theorem dX8_light_9 : DD cX8_light 9 (.iload_n 3) 1 10 := ⟨by decide +kernel, rfl⟩
theorem dX8_light_10 : DD cX8_light 10 (.i2l) 1 11 := ⟨by decide +kernel, rfl⟩
theorem dX8_light_11 : DD cX8_light 11 (.lconst 1) 1 12 := ⟨by decide +kernel, rfl⟩
theorem dX8_light_12 : DD cX8_light 12 (.ldc2_w 159) 3 15 := ⟨by decide +kernel, rfl⟩
theorem dX8_light_15 : DD cX8_light 15 (.invokestatic 39) 3 18 := ⟨by decide +kernel, rfl⟩
theorem dX8_light_18 : DD cX8_light 18 (.ifCond .ne 10) 3 21 := ⟨by decide +kernel, rfl⟩
theorem dX8_light_21 : DD cX8_light 21 (.aload_n 0) 1 22 := ⟨by decide +kernel, rfl⟩
theorem dX8_light_22 : DD cX8_light 22 (.ldc 38) 2 24 := ⟨by decide +kernel, rfl⟩
theorem dX8_light_24 : DD cX8_light 24 (.invokevirtual 51) 3 27 := ⟨by decide +kernel, rfl⟩
theorem dX8_light_27 : DD cX8_light 27 (.ireturn) 1 28 := ⟨by decide +kernel, rfl⟩
theorem dX8_light_28 : DD cX8_light 28 (.iconst 1) 1 29 := ⟨by decide +kernel, rfl⟩
theorem dX8_light_29 : DD cX8_light 29 (.istore 4) 2 31 := ⟨by decide +kernel, rfl⟩
theorem dX8_light_31 : DD cX8_light 31 (.iload 4) 2 33 := ⟨by decide +kernel, rfl⟩
theorem dX8_light_33 : DD cX8_light 33 (.sipush 300) 3 36 := ⟨by decide +kernel, rfl⟩
theorem dX8_light_36 : DD cX8_light 36 (.if_icmp .ge 50) 3 39 := ⟨by decide +kernel, rfl⟩
theorem dX8_light_39 : DD cX8_light 39 (.aload_n 0) 1 40 := ⟨by decide +kernel, rfl⟩
theorem dX8_light_40 : DD cX8_light 40 (.getfield 9) 3 43 := ⟨by decide +kernel, rfl⟩
theorem dX8_light_43 : DD cX8_light 43 (.aload_n 0) 1 44 := ⟨by decide +kernel, rfl⟩
theorem dX8_light_44 : DD cX8_light 44 (.getfield 13) 3 47 := ⟨by decide +kernel, rfl⟩
theorem dX8_light_47 : DD cX8_light 47 (.invokestatic 150) 3 50 := ⟨by decide +kernel, rfl⟩
theorem dX8_light_50 : DD cX8_light 50 (.aload_n 0) 1 51 := ⟨by decide +kernel, rfl⟩
theorem dX8_light_51 : DD cX8_light 51 (.getfield 13) 3 54 := ⟨by decide +kernel, rfl⟩
theorem dX8_light_54 : DD cX8_light 54 (.bipush 40) 2 56 := ⟨by decide +kernel, rfl⟩
theorem dX8_light_56 : DD cX8_light 56 (.bipush 8) 2 58 := ⟨by decide +kernel, rfl⟩
theorem dX8_light_58 : DD cX8_light 58 (.iload_n 1) 1 59 := ⟨by decide +kernel, rfl⟩
theorem dX8_light_59 : DD cX8_light 59 (.imul) 1 60 := ⟨by decide +kernel, rfl⟩
theorem dX8_light_60 : DD cX8_light 60 (.iadd) 1 61 := ⟨by decide +kernel, rfl⟩
theorem dX8_light_61 : DD cX8_light 61 (.iconst 1) 1 62 := ⟨by decide +kernel, rfl⟩
theorem dX8_light_62 : DD cX8_light 62 (.iadd) 1 63 := ⟨by decide +kernel, rfl⟩
theorem dX8_light_63 : DD cX8_light 63 (.iload 4) 2 65 := ⟨by decide +kernel, rfl⟩
theorem dX8_light_65 : DD cX8_light 65 (.iastore) 1 66 := ⟨by decide +kernel, rfl⟩
theorem dX8_light_66 : DD cX8_light 66 (.aload_n 0) 1 67 := ⟨by decide +kernel, rfl⟩
theorem dX8_light_67 : DD cX8_light 67 (.iload_n 1) 1 68 := ⟨by decide +kernel, rfl⟩
theorem dX8_light_68 : DD cX8_light 68 (.iload_n 2) 1 69 := ⟨by decide +kernel, rfl⟩
theorem dX8_light_69 : DD cX8_light 69 (.iload_n 3) 1 70 := ⟨by decide +kernel, rfl⟩
theorem dX8_light_70 : DD cX8_light 70 (.invokevirtual 154) 3 73 := ⟨by decide +kernel, rfl⟩
theorem dX8_light_73 : DD cX8_light 73 (.iconst 2) 1 74 := ⟨by decide +kernel, rfl⟩
theorem dX8_light_74 : DD cX8_light 74 (.if_icmp .ne 6) 3 77 := ⟨by decide +kernel, rfl⟩
theorem dX8_light_77 : DD cX8_light 77 (.iload 4) 2 79 := ⟨by decide +kernel, rfl⟩
theorem dX8_light_79 : DD cX8_light 79 (.ireturn) 1 80 := ⟨by decide +kernel, rfl⟩
theorem dX8_light_80 : DD cX8_light 80 (.iinc 4 1) 3 83 := ⟨by decide +kernel, rfl⟩
theorem dX8_light_83 : DD cX8_light 83 (.goto (-52)) 3 86 := ⟨by decide +kernel, rfl⟩
theorem dX8_light_86 : DD cX8_light 86 (.aload_n 0) 1 87 := ⟨by decide +kernel, rfl⟩
theorem dX8_light_87 : DD cX8_light 87 (.ldc 158) 2 89 := ⟨by decide +kernel, rfl⟩
theorem dX8_light_89 : DD cX8_light 89 (.invokevirtual 51) 3 92 := ⟨by decide +kernel, rfl⟩
end
section
theorem dX8_light_92 : DD cX8_light 92 (.ireturn) 1 93 := ⟨by decide +kernel, rfl⟩
theorem dX8_late_0 : DD cX8_late 0 (.aload_n 0) 1 1 := ⟨by decide +kernel, rfl⟩
theorem dX8_late_1 : DD cX8_late 1 (.iload_n 1) 1 2 := ⟨by decide +kernel, rfl⟩
theorem dX8_late_2 : DD cX8_late 2 (.iload_n 2) 1 3 := ⟨by decide +kernel, rfl⟩
theorem dX8_late_3 : DD cX8_late 3 (.invokevirtual 127) 3 6 := ⟨by decide +kernel, rfl⟩
theorem dX8_late_6 : DD cX8_late 6 (.ifCond .eq 15) 3 9 := ⟨by decide +kernel, rfl⟩
theorem dX8_late_9 : DD cX8_late 9 (.iload_n 3) 1 10 := ⟨by decide +kernel, rfl⟩
theorem dX8_late_10 : DD cX8_late 10 (.i2l) 1 11 := ⟨by decide +kernel, rfl⟩
theorem dX8_late_11 : DD cX8_late 11 (.lconst 1) 1 12 := ⟨by decide +kernel, rfl⟩
theorem dX8_late_12 : DD cX8_late 12 (.ldc2_w 148) 3 15 := ⟨by decide +kernel, rfl⟩
theorem dX8_late_15 : DD cX8_late 15 (.invokestatic 39) 3 18 := ⟨by decide +kernel, rfl⟩
theorem dX8_late_18 : DD cX8_late 18 (.ifCond .ne 10) 3 21 := ⟨by decide +kernel, rfl⟩
theorem dX8_late_21 : DD cX8_late 21 (.aload_n 0) 1 22 := ⟨by decide +kernel, rfl⟩
theorem dX8_late_22 : DD cX8_late 22 (.ldc 38) 2 24 := ⟨by decide +kernel, rfl⟩
theorem dX8_late_24 : DD cX8_late 24 (.invokevirtual 51) 3 27 := ⟨by decide +kernel, rfl⟩
theorem dX8_late_27 : DD cX8_late 27 (.ireturn) 1 28 := ⟨by decide +kernel, rfl⟩
theorem dX8_late_28 : DD cX8_late 28 (.bipush 9) 2 30 := ⟨by decide +kernel, rfl⟩
theorem dX8_late_30 : DD cX8_late 30 (.istore 4) 2 32 := ⟨by decide +kernel, rfl⟩
theorem dX8_late_32 : DD cX8_late 32 (.iload 4) 2 34 := ⟨by decide +kernel, rfl⟩
theorem dX8_late_34 : DD cX8_late 34 (.ifCond .lt 51) 3 37 := ⟨by decide +kernel, rfl⟩
theorem dX8_late_37 : DD cX8_late 37 (.aload_n 0) 1 38 := ⟨by decide +kernel, rfl⟩
theorem dX8_late_38 : DD cX8_late 38 (.getfield 9) 3 41 := ⟨by decide +kernel, rfl⟩
theorem dX8_late_41 : DD cX8_late 41 (.aload_n 0) 1 42 := ⟨by decide +kernel, rfl⟩
theorem dX8_late_42 : DD cX8_late 42 (.getfield 13) 3 45 := ⟨by decide +kernel, rfl⟩
theorem dX8_late_45 : DD cX8_late 45 (.invokestatic 150) 3 48 := ⟨by decide +kernel, rfl⟩
theorem dX8_late_48 : DD cX8_late 48 (.aload_n 0) 1 49 := ⟨by decide +kernel, rfl⟩
theorem dX8_late_49 : DD cX8_late 49 (.getfield 13) 3 52 := ⟨by decide +kernel, rfl⟩
theorem dX8_late_52 : DD cX8_late 52 (.bipush 40) 2 54 := ⟨by decide +kernel, rfl⟩
theorem dX8_late_54 : DD cX8_late 54 (.bipush 8) 2 56 := ⟨by decide +kernel, rfl⟩
theorem dX8_late_56 : DD cX8_late 56 (.iload_n 1) 1 57 := ⟨by decide +kernel, rfl⟩
theorem dX8_late_57 : DD cX8_late 57 (.imul) 1 58 := ⟨by decide +kernel, rfl⟩
theorem dX8_late_58 : DD cX8_late 58 (.iadd) 1 59 := ⟨by decide +kernel, rfl⟩
theorem dX8_late_59 : DD cX8_late 59 (.iconst 2) 1 60 := ⟨by decide +kernel, rfl⟩
theorem dX8_late_60 : DD cX8_late 60 (.iadd) 1 61 := ⟨by decide +kernel, rfl⟩
theorem dX8_late_61 : DD cX8_late 61 (.iload 4) 2 63 := ⟨by decide +kernel, rfl⟩
theorem dX8_late_63 : DD cX8_late 63 (.iastore) 1 64 := ⟨by decide +kernel, rfl⟩
theorem dX8_late_64 : DD cX8_late 64 (.aload_n 0) 1 65 := ⟨by decide +kernel, rfl⟩
theorem dX8_late_65 : DD cX8_late 65 (.iload_n 1) 1 66 := ⟨by decide +kernel, rfl⟩
theorem dX8_late_66 : DD cX8_late 66 (.iload_n 2) 1 67 := ⟨by decide +kernel, rfl⟩
theorem dX8_late_67 : DD cX8_late 67 (.iload_n 3) 1 68 := ⟨by decide +kernel, rfl⟩
theorem dX8_late_68 : DD cX8_late 68 (.invokevirtual 154) 3 71 := ⟨by decide +kernel, rfl⟩
theorem dX8_late_71 : DD cX8_late 71 (.iconst 2) 1 72 := ⟨by decide +kernel, rfl⟩
theorem dX8_late_72 : DD cX8_late 72 (.irem) 1 73 := ⟨by decide +kernel, rfl⟩
theorem dX8_late_73 : DD cX8_late 73 (.ifCond .ne 6) 3 76 := ⟨by decide +kernel, rfl⟩
theorem dX8_late_76 : DD cX8_late 76 (.iload 4) 2 78 := ⟨by decide +kernel, rfl⟩
theorem dX8_late_78 : DD cX8_late 78 (.ireturn) 1 79 := ⟨by decide +kernel, rfl⟩
theorem dX8_late_79 : DD cX8_late 79 (.iinc 4 (-1)) 3 82 := ⟨by decide +kernel, rfl⟩
theorem dX8_late_82 : DD cX8_late 82 (.goto (-50)) 3 85 := ⟨by decide +kernel, rfl⟩
theorem dX8_late_85 : DD cX8_late 85 (.aload_n 0) 1 86 := ⟨by decide +kernel, rfl⟩
theorem dX8_late_86 : DD cX8_late 86 (.ldc 158) 2 88 := ⟨by decide +kernel, rfl⟩
theorem dX8_late_88 : DD cX8_late 88 (.invokevirtual 51) 3 91 := ⟨by decide +kernel, rfl⟩
theorem dX8_late_91 : DD cX8_late 91 (.ireturn) 1 92 := ⟨by decide +kernel, rfl⟩
theorem dX8_swing_0 : DD cX8_swing 0 (.aload_n 0) 1 1 := ⟨by decide +kernel, rfl⟩
theorem dX8_swing_1 : DD cX8_swing 1 (.iload_n 1) 1 2 := ⟨by decide +kernel, rfl⟩
theorem dX8_swing_2 : DD cX8_swing 2 (.iload_n 2) 1 3 := ⟨by decide +kernel, rfl⟩
theorem dX8_swing_3 : DD cX8_swing 3 (.invokevirtual 127) 3 6 := ⟨by decide +kernel, rfl⟩
theorem dX8_swing_6 : DD cX8_swing 6 (.ifCond .eq 30) 3 9 := ⟨by decide +kernel, rfl⟩
theorem dX8_swing_9 : DD cX8_swing 9 (.iload_n 3) 1 10 := ⟨by decide +kernel, rfl⟩
theorem dX8_swing_10 : DD cX8_swing 10 (.i2l) 1 11 := ⟨by decide +kernel, rfl⟩
theorem dX8_swing_11 : DD cX8_swing 11 (.ldc2_w 139) 3 14 := ⟨by decide +kernel, rfl⟩
theorem dX8_swing_14 : DD cX8_swing 14 (.ldc2_w 148) 3 17 := ⟨by decide +kernel, rfl⟩
theorem dX8_swing_17 : DD cX8_swing 17 (.invokestatic 39) 3 20 := ⟨by decide +kernel, rfl⟩
theorem dX8_swing_20 : DD cX8_swing 20 (.ifCond .eq 16) 3 23 := ⟨by decide +kernel, rfl⟩
theorem dX8_swing_23 : DD cX8_swing 23 (.iload 4) 2 25 := ⟨by decide +kernel, rfl⟩
theorem dX8_swing_25 : DD cX8_swing 25 (.i2l) 1 26 := ⟨by decide +kernel, rfl⟩
theorem dX8_swing_26 : DD cX8_swing 26 (.lconst 0) 1 27 := ⟨by decide +kernel, rfl⟩
theorem dX8_swing_27 : DD cX8_swing 27 (.ldc2_w 139) 3 30 := ⟨by decide +kernel, rfl⟩
theorem dX8_swing_30 : DD cX8_swing 30 (.invokestatic 39) 3 33 := ⟨by decide +kernel, rfl⟩
theorem dX8_swing_33 : DD cX8_swing 33 (.ifCond .ne 10) 3 36 := ⟨by decide +kernel, rfl⟩
theorem dX8_swing_36 : DD cX8_swing 36 (.aload_n 0) 1 37 := ⟨by decide +kernel, rfl⟩
theorem dX8_swing_37 : DD cX8_swing 37 (.ldc 38) 2 39 := ⟨by decide +kernel, rfl⟩
theorem dX8_swing_39 : DD cX8_swing 39 (.invokevirtual 51) 3 42 := ⟨by decide +kernel, rfl⟩
theorem dX8_swing_42 : DD cX8_swing 42 (.ireturn) 1 43 := ⟨by decide +kernel, rfl⟩
theorem dX8_swing_43 : DD cX8_swing 43 (.aload_n 0) 1 44 := ⟨by decide +kernel, rfl⟩
theorem dX8_swing_44 : DD cX8_swing 44 (.getfield 9) 3 47 := ⟨by decide +kernel, rfl⟩
theorem dX8_swing_47 : DD cX8_swing 47 (.aload_n 0) 1 48 := ⟨by decide +kernel, rfl⟩
theorem dX8_swing_48 : DD cX8_swing 48 (.getfield 13) 3 51 := ⟨by decide +kernel, rfl⟩
theorem dX8_swing_51 : DD cX8_swing 51 (.invokestatic 150) 3 54 := ⟨by decide +kernel, rfl⟩
theorem dX8_swing_54 : DD cX8_swing 54 (.aload_n 0) 1 55 := ⟨by decide +kernel, rfl⟩
theorem dX8_swing_55 : DD cX8_swing 55 (.iload_n 1) 1 56 := ⟨by decide +kernel, rfl⟩
theorem dX8_swing_56 : DD cX8_swing 56 (.iload_n 2) 1 57 := ⟨by decide +kernel, rfl⟩
theorem dX8_swing_57 : DD cX8_swing 57 (.iload_n 3) 1 58 := ⟨by decide +kernel, rfl⟩
theorem dX8_swing_58 : DD cX8_swing 58 (.invokevirtual 154) 3 61 := ⟨by decide +kernel, rfl⟩
theorem dX8_swing_61 : DD cX8_swing 61 (.istore 5) 2 63 := ⟨by decide +kernel, rfl⟩
theorem dX8_swing_63 : DD cX8_swing 63 (.iload 4) 2 65 := ⟨by decide +kernel, rfl⟩
theorem dX8_swing_65 : DD cX8_swing 65 (.ifCond .ne 10) 3 68 := ⟨by decide +kernel, rfl⟩
theorem dX8_swing_68 : DD cX8_swing 68 (.aload_n 0) 1 69 := ⟨by decide +kernel, rfl⟩
theorem dX8_swing_69 : DD cX8_swing 69 (.getfield 141) 3 72 := ⟨by decide +kernel, rfl⟩
theorem dX8_swing_72 : DD cX8_swing 72 (.goto 32) 3 75 := ⟨by decide +kernel, rfl⟩
theorem dX8_swing_75 : DD cX8_swing 75 (.iload 4) 2 77 := ⟨by decide +kernel, rfl⟩
theorem dX8_swing_77 : DD cX8_swing 77 (.iconst 1) 1 78 := ⟨by decide +kernel, rfl⟩
theorem dX8_swing_78 : DD cX8_swing 78 (.if_icmp .ne 10) 3 81 := ⟨by decide +kernel, rfl⟩
theorem dX8_swing_81 : DD cX8_swing 81 (.aload_n 0) 1 82 := ⟨by decide +kernel, rfl⟩
theorem dX8_swing_82 : DD cX8_swing 82 (.getfield 145) 3 85 := ⟨by decide +kernel, rfl⟩
theorem dX8_swing_85 : DD cX8_swing 85 (.goto 19) 3 88 := ⟨by decide +kernel, rfl⟩
theorem dX8_swing_88 : DD cX8_swing 88 (.aload_n 0) 1 89 := ⟨by decide +kernel, rfl⟩
theorem dX8_swing_89 : DD cX8_swing 89 (.getfield 145) 3 92 := ⟨by decide +kernel, rfl⟩
theorem dX8_swing_92 : DD cX8_swing 92 (.aload_n 0) 1 93 := ⟨by decide +kernel, rfl⟩
theorem dX8_swing_93 : DD cX8_swing 93 (.getfield 141) 3 96 := ⟨by decide +kernel, rfl⟩
theorem dX8_swing_96 : DD cX8_swing 96 (.if_icmp .le 7) 3 99 := ⟨by decide +kernel, rfl⟩
theorem dX8_swing_99 : DD cX8_swing 99 (.iconst 1) 1 100 := ⟨by decide +kernel, rfl⟩
theorem dX8_swing_100 : DD cX8_swing 100 (.goto 4) 3 103 := ⟨by decide +kernel, rfl⟩
theorem dX8_swing_103 : DD cX8_swing 103 (.iconst 0) 1 104 := ⟨by decide +kernel, rfl⟩
theorem dX8_swing_104 : DD cX8_swing 104 (.ireturn) 1 105 := ⟨by decide +kernel, rfl⟩
theorem dX8_beatenBy_0 : DD cX8_beatenBy 0 (.iconst 0) 1 1 := ⟨by decide +kernel, rfl⟩
theorem dX8_beatenBy_1 : DD cX8_beatenBy 1 (.istore_n 3) 1 2 := ⟨by decide +kernel, rfl⟩
theorem dX8_beatenBy_2 : DD cX8_beatenBy 2 (.iconst 0) 1 3 := ⟨by decide +kernel, rfl⟩
theorem dX8_beatenBy_3 : DD cX8_beatenBy 3 (.istore 4) 2 5 := ⟨by decide +kernel, rfl⟩
theorem dX8_beatenBy_5 : DD cX8_beatenBy 5 (.iload 4) 2 7 := ⟨by decide +kernel, rfl⟩
theorem dX8_beatenBy_7 : DD cX8_beatenBy 7 (.aload_n 0) 1 8 := ⟨by decide +kernel, rfl⟩
theorem dX8_beatenBy_8 : DD cX8_beatenBy 8 (.getfield 9) 3 11 := ⟨by decide +kernel, rfl⟩
theorem dX8_beatenBy_11 : DD cX8_beatenBy 11 (.iconst 0) 1 12 := ⟨by decide +kernel, rfl⟩
theorem dX8_beatenBy_12 : DD cX8_beatenBy 12 (.iaload) 1 13 := ⟨by decide +kernel, rfl⟩
theorem dX8_beatenBy_13 : DD cX8_beatenBy 13 (.if_icmp .ge 49) 3 16 := ⟨by decide +kernel, rfl⟩
theorem dX8_beatenBy_16 : DD cX8_beatenBy 16 (.iload 4) 2 18 := ⟨by decide +kernel, rfl⟩
theorem dX8_beatenBy_18 : DD cX8_beatenBy 18 (.iload_n 1) 1 19 := ⟨by decide +kernel, rfl⟩
theorem dX8_beatenBy_19 : DD cX8_beatenBy 19 (.if_icmp .eq 37) 3 22 := ⟨by decide +kernel, rfl⟩
theorem dX8_beatenBy_22 : DD cX8_beatenBy 22 (.aload_n 0) 1 23 := ⟨by decide +kernel, rfl⟩
theorem dX8_beatenBy_23 : DD cX8_beatenBy 23 (.getfield 9) 3 26 := ⟨by decide +kernel, rfl⟩
theorem dX8_beatenBy_26 : DD cX8_beatenBy 26 (.aload_n 0) 1 27 := ⟨by decide +kernel, rfl⟩
theorem dX8_beatenBy_27 : DD cX8_beatenBy 27 (.getfield 13) 3 30 := ⟨by decide +kernel, rfl⟩
theorem dX8_beatenBy_30 : DD cX8_beatenBy 30 (.invokestatic 150) 3 33 := ⟨by decide +kernel, rfl⟩
theorem dX8_beatenBy_33 : DD cX8_beatenBy 33 (.iload_n 3) 1 34 := ⟨by decide +kernel, rfl⟩
theorem dX8_beatenBy_34 : DD cX8_beatenBy 34 (.aload_n 0) 1 35 := ⟨by decide +kernel, rfl⟩
theorem dX8_beatenBy_35 : DD cX8_beatenBy 35 (.iload_n 1) 1 36 := ⟨by decide +kernel, rfl⟩
theorem dX8_beatenBy_36 : DD cX8_beatenBy 36 (.iload 4) 2 38 := ⟨by decide +kernel, rfl⟩
theorem dX8_beatenBy_38 : DD cX8_beatenBy 38 (.iload_n 2) 1 39 := ⟨by decide +kernel, rfl⟩
theorem dX8_beatenBy_39 : DD cX8_beatenBy 39 (.invokevirtual 154) 3 42 := ⟨by decide +kernel, rfl⟩
theorem dX8_beatenBy_42 : DD cX8_beatenBy 42 (.iconst 2) 1 43 := ⟨by decide +kernel, rfl⟩
theorem dX8_beatenBy_43 : DD cX8_beatenBy 43 (.if_icmp .ne 10) 3 46 := ⟨by decide +kernel, rfl⟩
theorem dX8_beatenBy_46 : DD cX8_beatenBy 46 (.iconst 1) 1 47 := ⟨by decide +kernel, rfl⟩
theorem dX8_beatenBy_47 : DD cX8_beatenBy 47 (.iload 4) 2 49 := ⟨by decide +kernel, rfl⟩
theorem dX8_beatenBy_49 : DD cX8_beatenBy 49 (.ishl) 1 50 := ⟨by decide +kernel, rfl⟩
theorem dX8_beatenBy_50 : DD cX8_beatenBy 50 (.goto 4) 3 53 := ⟨by decide +kernel, rfl⟩
theorem dX8_beatenBy_53 : DD cX8_beatenBy 53 (.iconst 0) 1 54 := ⟨by decide +kernel, rfl⟩
theorem dX8_beatenBy_54 : DD cX8_beatenBy 54 (.ior) 1 55 := ⟨by decide +kernel, rfl⟩
theorem dX8_beatenBy_55 : DD cX8_beatenBy 55 (.istore_n 3) 1 56 := ⟨by decide +kernel, rfl⟩
theorem dX8_beatenBy_56 : DD cX8_beatenBy 56 (.iinc 4 1) 3 59 := ⟨by decide +kernel, rfl⟩
theorem dX8_beatenBy_59 : DD cX8_beatenBy 59 (.goto (-54)) 3 62 := ⟨by decide +kernel, rfl⟩
theorem dX8_beatenBy_62 : DD cX8_beatenBy 62 (.iload_n 3) 1 63 := ⟨by decide +kernel, rfl⟩
theorem dX8_beatenBy_63 : DD cX8_beatenBy 63 (.ireturn) 1 64 := ⟨by decide +kernel, rfl⟩
theorem dX8_beats_0 : DD cX8_beats 0 (.aload_n 0) 1 1 := ⟨by decide +kernel, rfl⟩
theorem dX8_beats_1 : DD cX8_beats 1 (.iload_n 1) 1 2 := ⟨by decide +kernel, rfl⟩
theorem dX8_beats_2 : DD cX8_beats 2 (.invokevirtual 43) 3 5 := ⟨by decide +kernel, rfl⟩
theorem dX8_beats_5 : DD cX8_beats 5 (.ifCond .eq 15) 3 8 := ⟨by decide +kernel, rfl⟩
theorem dX8_beats_8 : DD cX8_beats 8 (.iload_n 2) 1 9 := ⟨by decide +kernel, rfl⟩
theorem dX8_beats_9 : DD cX8_beats 9 (.i2l) 1 10 := ⟨by decide +kernel, rfl⟩
theorem dX8_beats_10 : DD cX8_beats 10 (.lconst 1) 1 11 := ⟨by decide +kernel, rfl⟩
theorem dX8_beats_11 : DD cX8_beats 11 (.ldc2_w 159) 3 14 := ⟨by decide +kernel, rfl⟩
theorem dX8_beats_14 : DD cX8_beats 14 (.invokestatic 39) 3 17 := ⟨by decide +kernel, rfl⟩
theorem dX8_beats_17 : DD cX8_beats 17 (.ifCond .ne 10) 3 20 := ⟨by decide +kernel, rfl⟩
theorem dX8_beats_20 : DD cX8_beats 20 (.aload_n 0) 1 21 := ⟨by decide +kernel, rfl⟩
theorem dX8_beats_21 : DD cX8_beats 21 (.ldc 38) 2 23 := ⟨by decide +kernel, rfl⟩
theorem dX8_beats_23 : DD cX8_beats 23 (.invokevirtual 51) 3 26 := ⟨by decide +kernel, rfl⟩
theorem dX8_beats_26 : DD cX8_beats 26 (.ireturn) 1 27 := ⟨by decide +kernel, rfl⟩
theorem dX8_beats_27 : DD cX8_beats 27 (.aload_n 0) 1 28 := ⟨by decide +kernel, rfl⟩
theorem dX8_beats_28 : DD cX8_beats 28 (.iload_n 1) 1 29 := ⟨by decide +kernel, rfl⟩
theorem dX8_beats_29 : DD cX8_beats 29 (.iload_n 2) 1 30 := ⟨by decide +kernel, rfl⟩
theorem dX8_beats_30 : DD cX8_beats 30 (.invokevirtual 161) 3 33 := ⟨by decide +kernel, rfl⟩
theorem dX8_beats_33 : DD cX8_beats 33 (.ireturn) 1 34 := ⟨by decide +kernel, rfl⟩
theorem dX8_five_0 : DD cX8_five 0 (.aload_n 0) 1 1 := ⟨by decide +kernel, rfl⟩
theorem dX8_five_1 : DD cX8_five 1 (.iload_n 1) 1 2 := ⟨by decide +kernel, rfl⟩
theorem dX8_five_2 : DD cX8_five 2 (.iload_n 2) 1 3 := ⟨by decide +kernel, rfl⟩
theorem dX8_five_3 : DD cX8_five 3 (.invokevirtual 127) 3 6 := ⟨by decide +kernel, rfl⟩
theorem dX8_five_6 : DD cX8_five 6 (.ifCond .eq 15) 3 9 := ⟨by decide +kernel, rfl⟩
theorem dX8_five_9 : DD cX8_five 9 (.iload_n 3) 1 10 := ⟨by decide +kernel, rfl⟩
theorem dX8_five_10 : DD cX8_five 10 (.i2l) 1 11 := ⟨by decide +kernel, rfl⟩
theorem dX8_five_11 : DD cX8_five 11 (.lconst 1) 1 12 := ⟨by decide +kernel, rfl⟩
theorem dX8_five_12 : DD cX8_five 12 (.ldc2_w 159) 3 15 := ⟨by decide +kernel, rfl⟩
theorem dX8_five_15 : DD cX8_five 15 (.invokestatic 39) 3 18 := ⟨by decide +kernel, rfl⟩
theorem dX8_five_18 : DD cX8_five 18 (.ifCond .ne 10) 3 21 := ⟨by decide +kernel, rfl⟩
theorem dX8_five_21 : DD cX8_five 21 (.aload_n 0) 1 22 := ⟨by decide +kernel, rfl⟩
theorem dX8_five_22 : DD cX8_five 22 (.ldc 38) 2 24 := ⟨by decide +kernel, rfl⟩
theorem dX8_five_24 : DD cX8_five 24 (.invokevirtual 51) 3 27 := ⟨by decide +kernel, rfl⟩
theorem dX8_five_27 : DD cX8_five 27 (.ireturn) 1 28 := ⟨by decide +kernel, rfl⟩
theorem dX8_five_28 : DD cX8_five 28 (.aload_n 0) 1 29 := ⟨by decide +kernel, rfl⟩
theorem dX8_five_29 : DD cX8_five 29 (.getfield 9) 3 32 := ⟨by decide +kernel, rfl⟩
theorem dX8_five_32 : DD cX8_five 32 (.aload_n 0) 1 33 := ⟨by decide +kernel, rfl⟩
theorem dX8_five_33 : DD cX8_five 33 (.getfield 13) 3 36 := ⟨by decide +kernel, rfl⟩
theorem dX8_five_36 : DD cX8_five 36 (.invokestatic 150) 3 39 := ⟨by decide +kernel, rfl⟩
theorem dX8_five_39 : DD cX8_five 39 (.iconst 0) 1 40 := ⟨by decide +kernel, rfl⟩
theorem dX8_five_40 : DD cX8_five 40 (.istore 4) 2 42 := ⟨by decide +kernel, rfl⟩
theorem dX8_five_42 : DD cX8_five 42 (.iconst 0) 1 43 := ⟨by decide +kernel, rfl⟩
theorem dX8_five_43 : DD cX8_five 43 (.istore 5) 2 45 := ⟨by decide +kernel, rfl⟩
theorem dX8_five_45 : DD cX8_five 45 (.iconst 0) 1 46 := ⟨by decide +kernel, rfl⟩
theorem dX8_five_46 : DD cX8_five 46 (.istore 6) 2 48 := ⟨by decide +kernel, rfl⟩
theorem dX8_five_48 : DD cX8_five 48 (.iload 6) 2 50 := ⟨by decide +kernel, rfl⟩
theorem dX8_five_50 : DD cX8_five 50 (.iconst 5) 1 51 := ⟨by decide +kernel, rfl⟩
theorem dX8_five_51 : DD cX8_five 51 (.if_icmp .ge 48) 3 54 := ⟨by decide +kernel, rfl⟩
theorem dX8_five_54 : DD cX8_five 54 (.iload 4) 2 56 := ⟨by decide +kernel, rfl⟩
theorem dX8_five_56 : DD cX8_five 56 (.iconst 3) 1 57 := ⟨by decide +kernel, rfl⟩
theorem dX8_five_57 : DD cX8_five 57 (.if_icmp .ge 42) 3 60 := ⟨by decide +kernel, rfl⟩
theorem dX8_five_60 : DD cX8_five 60 (.iload 5) 2 62 := ⟨by decide +kernel, rfl⟩
theorem dX8_five_62 : DD cX8_five 62 (.iconst 3) 1 63 := ⟨by decide +kernel, rfl⟩
theorem dX8_five_63 : DD cX8_five 63 (.if_icmp .ge 36) 3 66 := ⟨by decide +kernel, rfl⟩
theorem dX8_five_66 : DD cX8_five 66 (.aload_n 0) 1 67 := ⟨by decide +kernel, rfl⟩
theorem dX8_five_67 : DD cX8_five 67 (.iload_n 1) 1 68 := ⟨by decide +kernel, rfl⟩
theorem dX8_five_68 : DD cX8_five 68 (.iload_n 2) 1 69 := ⟨by decide +kernel, rfl⟩
theorem dX8_five_69 : DD cX8_five 69 (.iload_n 3) 1 70 := ⟨by decide +kernel, rfl⟩
theorem dX8_five_70 : DD cX8_five 70 (.invokevirtual 154) 3 73 := ⟨by decide +kernel, rfl⟩
theorem dX8_five_73 : DD cX8_five 73 (.istore 7) 2 75 := ⟨by decide +kernel, rfl⟩
theorem dX8_five_75 : DD cX8_five 75 (.iload 4) 2 77 := ⟨by decide +kernel, rfl⟩
theorem dX8_five_77 : DD cX8_five 77 (.iload 7) 2 79 := ⟨by decide +kernel, rfl⟩
theorem dX8_five_79 : DD cX8_five 79 (.iconst 1) 1 80 := ⟨by decide +kernel, rfl⟩
theorem dX8_five_80 : DD cX8_five 80 (.ishr) 1 81 := ⟨by decide +kernel, rfl⟩
theorem dX8_five_81 : DD cX8_five 81 (.iadd) 1 82 := ⟨by decide +kernel, rfl⟩
theorem dX8_five_82 : DD cX8_five 82 (.istore 4) 2 84 := ⟨by decide +kernel, rfl⟩
theorem dX8_five_84 : DD cX8_five 84 (.iload 5) 2 86 := ⟨by decide +kernel, rfl⟩
theorem dX8_five_86 : DD cX8_five 86 (.iload 7) 2 88 := ⟨by decide +kernel, rfl⟩
theorem dX8_five_88 : DD cX8_five 88 (.iconst 1) 1 89 := ⟨by decide +kernel, rfl⟩
theorem dX8_five_89 : DD cX8_five 89 (.iand) 1 90 := ⟨by decide +kernel, rfl⟩
theorem dX8_five_90 : DD cX8_five 90 (.iadd) 1 91 := ⟨by decide +kernel, rfl⟩
theorem dX8_five_91 : DD cX8_five 91 (.istore 5) 2 93 := ⟨by decide +kernel, rfl⟩
theorem dX8_five_93 : DD cX8_five 93 (.iinc 6 1) 3 96 := ⟨by decide +kernel, rfl⟩
theorem dX8_five_96 : DD cX8_five 96 (.goto (-48)) 3 99 := ⟨by decide +kernel, rfl⟩
theorem dX8_five_99 : DD cX8_five 99 (.iload 4) 2 101 := ⟨by decide +kernel, rfl⟩
theorem dX8_five_101 : DD cX8_five 101 (.iconst 3) 1 102 := ⟨by decide +kernel, rfl⟩
theorem dX8_five_102 : DD cX8_five 102 (.if_icmp .lt 13) 3 105 := ⟨by decide +kernel, rfl⟩
theorem dX8_five_105 : DD cX8_five 105 (.iload 5) 2 107 := ⟨by decide +kernel, rfl⟩
theorem dX8_five_107 : DD cX8_five 107 (.iconst 3) 1 108 := ⟨by decide +kernel, rfl⟩
theorem dX8_five_108 : DD cX8_five 108 (.if_icmp .ge 7) 3 111 := ⟨by decide +kernel, rfl⟩
theorem dX8_five_111 : DD cX8_five 111 (.iconst 1) 1 112 := ⟨by decide +kernel, rfl⟩
theorem dX8_five_112 : DD cX8_five 112 (.goto 20) 3 115 := ⟨by decide +kernel, rfl⟩
theorem dX8_five_115 : DD cX8_five 115 (.iload 5) 2 117 := ⟨by decide +kernel, rfl⟩
theorem dX8_five_117 : DD cX8_five 117 (.iconst 3) 1 118 := ⟨by decide +kernel, rfl⟩
theorem dX8_five_118 : DD cX8_five 118 (.if_icmp .lt 13) 3 121 := ⟨by decide +kernel, rfl⟩
theorem dX8_five_121 : DD cX8_five 121 (.iload 4) 2 123 := ⟨by decide +kernel, rfl⟩
theorem dX8_five_123 : DD cX8_five 123 (.iconst 3) 1 124 := ⟨by decide +kernel, rfl⟩
theorem dX8_five_124 : DD cX8_five 124 (.if_icmp .ge 7) 3 127 := ⟨by decide +kernel, rfl⟩
theorem dX8_five_127 : DD cX8_five 127 (.iconst 2) 1 128 := ⟨by decide +kernel, rfl⟩
theorem dX8_five_128 : DD cX8_five 128 (.goto 4) 3 131 := ⟨by decide +kernel, rfl⟩
theorem dX8_five_131 : DD cX8_five 131 (.iconst 0) 1 132 := ⟨by decide +kernel, rfl⟩
theorem dX8_five_132 : DD cX8_five 132 (.ireturn) 1 133 := ⟨by decide +kernel, rfl⟩
theorem dX8_champion_0 : DD cX8_champion 0 (.iload_n 1) 1 1 := ⟨by decide +kernel, rfl⟩
theorem dX8_champion_1 : DD cX8_champion 1 (.i2l) 1 2 := ⟨by decide +kernel, rfl⟩
theorem dX8_champion_2 : DD cX8_champion 2 (.lconst 1) 1 3 := ⟨by decide +kernel, rfl⟩
theorem dX8_champion_3 : DD cX8_champion 3 (.ldc2_w 164) 3 6 := ⟨by decide +kernel, rfl⟩
theorem dX8_champion_6 : DD cX8_champion 6 (.invokestatic 39) 3 9 := ⟨by decide +kernel, rfl⟩
theorem dX8_champion_9 : DD cX8_champion 9 (.ifCond .ne 10) 3 12 := ⟨by decide +kernel, rfl⟩
theorem dX8_champion_12 : DD cX8_champion 12 (.aload_n 0) 1 13 := ⟨by decide +kernel, rfl⟩
theorem dX8_champion_13 : DD cX8_champion 13 (.ldc 38) 2 15 := ⟨by decide +kernel, rfl⟩
theorem dX8_champion_15 : DD cX8_champion 15 (.invokevirtual 51) 3 18 := ⟨by decide +kernel, rfl⟩
theorem dX8_champion_18 : DD cX8_champion 18 (.ireturn) 1 19 := ⟨by decide +kernel, rfl⟩
theorem dX8_champion_19 : DD cX8_champion 19 (.iconst (-1)) 1 20 := ⟨by decide +kernel, rfl⟩
theorem dX8_champion_20 : DD cX8_champion 20 (.istore_n 2) 1 21 := ⟨by decide +kernel, rfl⟩
theorem dX8_champion_21 : DD cX8_champion 21 (.iconst (-1)) 1 22 := ⟨by decide +kernel, rfl⟩
theorem dX8_champion_22 : DD cX8_champion 22 (.istore_n 3) 1 23 := ⟨by decide +kernel, rfl⟩
theorem dX8_champion_23 : DD cX8_champion 23 (.iconst 0) 1 24 := ⟨by decide +kernel, rfl⟩
theorem dX8_champion_24 : DD cX8_champion 24 (.istore 4) 2 26 := ⟨by decide +kernel, rfl⟩
theorem dX8_champion_26 : DD cX8_champion 26 (.iload 4) 2 28 := ⟨by decide +kernel, rfl⟩
theorem dX8_champion_28 : DD cX8_champion 28 (.aload_n 0) 1 29 := ⟨by decide +kernel, rfl⟩
theorem dX8_champion_29 : DD cX8_champion 29 (.getfield 9) 3 32 := ⟨by decide +kernel, rfl⟩
theorem dX8_champion_32 : DD cX8_champion 32 (.iconst 0) 1 33 := ⟨by decide +kernel, rfl⟩
theorem dX8_champion_33 : DD cX8_champion 33 (.iaload) 1 34 := ⟨by decide +kernel, rfl⟩
theorem dX8_champion_34 : DD cX8_champion 34 (.if_icmp .ge 70) 3 37 := ⟨by decide +kernel, rfl⟩
theorem dX8_champion_37 : DD cX8_champion 37 (.iconst 0) 1 38 := ⟨by decide +kernel, rfl⟩
theorem dX8_champion_38 : DD cX8_champion 38 (.istore 5) 2 40 := ⟨by decide +kernel, rfl⟩
theorem dX8_champion_40 : DD cX8_champion 40 (.aload_n 0) 1 41 := ⟨by decide +kernel, rfl⟩
theorem dX8_champion_41 : DD cX8_champion 41 (.iload 4) 2 43 := ⟨by decide +kernel, rfl⟩
theorem dX8_champion_43 : DD cX8_champion 43 (.iload_n 1) 1 44 := ⟨by decide +kernel, rfl⟩
theorem dX8_champion_44 : DD cX8_champion 44 (.invokevirtual 161) 3 47 := ⟨by decide +kernel, rfl⟩
theorem dX8_champion_47 : DD cX8_champion 47 (.istore 6) 2 49 := ⟨by decide +kernel, rfl⟩
theorem dX8_champion_49 : DD cX8_champion 49 (.iload 6) 2 51 := ⟨by decide +kernel, rfl⟩
theorem dX8_champion_51 : DD cX8_champion 51 (.ifCond .le 21) 3 54 := ⟨by decide +kernel, rfl⟩
theorem dX8_champion_54 : DD cX8_champion 54 (.iload 5) 2 56 := ⟨by decide +kernel, rfl⟩
theorem dX8_champion_56 : DD cX8_champion 56 (.iload 6) 2 58 := ⟨by decide +kernel, rfl⟩
theorem dX8_champion_58 : DD cX8_champion 58 (.iconst 1) 1 59 := ⟨by decide +kernel, rfl⟩
theorem dX8_champion_59 : DD cX8_champion 59 (.iand) 1 60 := ⟨by decide +kernel, rfl⟩
theorem dX8_champion_60 : DD cX8_champion 60 (.iadd) 1 61 := ⟨by decide +kernel, rfl⟩
theorem dX8_champion_61 : DD cX8_champion 61 (.istore 5) 2 63 := ⟨by decide +kernel, rfl⟩
theorem dX8_champion_63 : DD cX8_champion 63 (.iload 6) 2 65 := ⟨by decide +kernel, rfl⟩
theorem dX8_champion_65 : DD cX8_champion 65 (.iconst 1) 1 66 := ⟨by decide +kernel, rfl⟩
theorem dX8_champion_66 : DD cX8_champion 66 (.ishr) 1 67 := ⟨by decide +kernel, rfl⟩
theorem dX8_champion_67 : DD cX8_champion 67 (.istore 6) 2 69 := ⟨by decide +kernel, rfl⟩
theorem dX8_champion_69 : DD cX8_champion 69 (.goto (-20)) 3 72 := ⟨by decide +kernel, rfl⟩
theorem dX8_champion_72 : DD cX8_champion 72 (.iload 5) 2 74 := ⟨by decide +kernel, rfl⟩
theorem dX8_champion_74 : DD cX8_champion 74 (.iload_n 3) 1 75 := ⟨by decide +kernel, rfl⟩
theorem dX8_champion_75 : DD cX8_champion 75 (.if_icmp .le 8) 3 78 := ⟨by decide +kernel, rfl⟩
theorem dX8_champion_78 : DD cX8_champion 78 (.iload 4) 2 80 := ⟨by decide +kernel, rfl⟩
theorem dX8_champion_80 : DD cX8_champion 80 (.goto 4) 3 83 := ⟨by decide +kernel, rfl⟩
theorem dX8_champion_83 : DD cX8_champion 83 (.iload_n 2) 1 84 := ⟨by decide +kernel, rfl⟩
theorem dX8_champion_84 : DD cX8_champion 84 (.istore_n 2) 1 85 := ⟨by decide +kernel, rfl⟩
theorem dX8_champion_85 : DD cX8_champion 85 (.iload 5) 2 87 := ⟨by decide +kernel, rfl⟩
theorem dX8_champion_87 : DD cX8_champion 87 (.iload_n 3) 1 88 := ⟨by decide +kernel, rfl⟩
theorem dX8_champion_88 : DD cX8_champion 88 (.if_icmp .le 8) 3 91 := ⟨by decide +kernel, rfl⟩
theorem dX8_champion_91 : DD cX8_champion 91 (.iload 5) 2 93 := ⟨by decide +kernel, rfl⟩
theorem dX8_champion_93 : DD cX8_champion 93 (.goto 4) 3 96 := ⟨by decide +kernel, rfl⟩
theorem dX8_champion_96 : DD cX8_champion 96 (.iload_n 3) 1 97 := ⟨by decide +kernel, rfl⟩
theorem dX8_champion_97 : DD cX8_champion 97 (.istore_n 3) 1 98 := ⟨by decide +kernel, rfl⟩
theorem dX8_champion_98 : DD cX8_champion 98 (.iinc 4 1) 3 101 := ⟨by decide +kernel, rfl⟩
theorem dX8_champion_101 : DD cX8_champion 101 (.goto (-75)) 3 104 := ⟨by decide +kernel, rfl⟩
theorem dX8_champion_104 : DD cX8_champion 104 (.iload_n 2) 1 105 := ⟨by decide +kernel, rfl⟩
theorem dX8_champion_105 : DD cX8_champion 105 (.ifCond .ge 12) 3 108 := ⟨by decide +kernel, rfl⟩
theorem dX8_champion_108 : DD cX8_champion 108 (.aload_n 0) 1 109 := ⟨by decide +kernel, rfl⟩
theorem dX8_champion_109 : DD cX8_champion 109 (.ldc 158) 2 111 := ⟨by decide +kernel, rfl⟩
theorem dX8_champion_111 : DD cX8_champion 111 (.invokevirtual 51) 3 114 := ⟨by decide +kernel, rfl⟩
theorem dX8_champion_114 : DD cX8_champion 114 (.goto 4) 3 117 := ⟨by decide +kernel, rfl⟩
theorem dX8_champion_117 : DD cX8_champion 117 (.iload_n 2) 1 118 := ⟨by decide +kernel, rfl⟩
theorem dX8_champion_118 : DD cX8_champion 118 (.ireturn) 1 119 := ⟨by decide +kernel, rfl⟩
theorem dX8_feed_0 : DD cX8_feed 0 (.iload_n 2) 1 1 := ⟨by decide +kernel, rfl⟩
theorem dX8_feed_1 : DD cX8_feed 1 (.i2l) 1 2 := ⟨by decide +kernel, rfl⟩
theorem dX8_feed_2 : DD cX8_feed 2 (.lconst 1) 1 3 := ⟨by decide +kernel, rfl⟩
theorem dX8_feed_3 : DD cX8_feed 3 (.ldc2_w 82) 3 6 := ⟨by decide +kernel, rfl⟩
theorem dX8_feed_6 : DD cX8_feed 6 (.invokestatic 39) 3 9 := ⟨by decide +kernel, rfl⟩
theorem dX8_feed_9 : DD cX8_feed 9 (.ifCond .ne 10) 3 12 := ⟨by decide +kernel, rfl⟩
theorem dX8_feed_12 : DD cX8_feed 12 (.aload_n 0) 1 13 := ⟨by decide +kernel, rfl⟩
theorem dX8_feed_13 : DD cX8_feed 13 (.ldc 38) 2 15 := ⟨by decide +kernel, rfl⟩
theorem dX8_feed_15 : DD cX8_feed 15 (.invokevirtual 51) 3 18 := ⟨by decide +kernel, rfl⟩
theorem dX8_feed_18 : DD cX8_feed 18 (.ireturn) 1 19 := ⟨by decide +kernel, rfl⟩
theorem dX8_feed_19 : DD cX8_feed 19 (.aload_n 0) 1 20 := ⟨by decide +kernel, rfl⟩
theorem dX8_feed_20 : DD cX8_feed 20 (.getfield 166) 3 23 := ⟨by decide +kernel, rfl⟩
theorem dX8_feed_23 : DD cX8_feed 23 (.iload_n 2) 1 24 := ⟨by decide +kernel, rfl⟩
theorem dX8_feed_24 : DD cX8_feed 24 (.iadd) 1 25 := ⟨by decide +kernel, rfl⟩
theorem dX8_feed_25 : DD cX8_feed 25 (.bipush 100) 2 27 := ⟨by decide +kernel, rfl⟩
theorem dX8_feed_27 : DD cX8_feed 27 (.if_icmp .le 10) 3 30 := ⟨by decide +kernel, rfl⟩
theorem dX8_feed_30 : DD cX8_feed 30 (.aload_n 0) 1 31 := ⟨by decide +kernel, rfl⟩
theorem dX8_feed_31 : DD cX8_feed 31 (.ldc 55) 2 33 := ⟨by decide +kernel, rfl⟩
theorem dX8_feed_33 : DD cX8_feed 33 (.invokevirtual 51) 3 36 := ⟨by decide +kernel, rfl⟩
theorem dX8_feed_36 : DD cX8_feed 36 (.ireturn) 1 37 := ⟨by decide +kernel, rfl⟩
theorem dX8_feed_37 : DD cX8_feed 37 (.iload_n 2) 1 38 := ⟨by decide +kernel, rfl⟩
theorem dX8_feed_38 : DD cX8_feed 38 (.iconst 1) 1 39 := ⟨by decide +kernel, rfl⟩
theorem dX8_feed_39 : DD cX8_feed 39 (.isub) 1 40 := ⟨by decide +kernel, rfl⟩
theorem dX8_feed_40 : DD cX8_feed 40 (.istore_n 3) 1 41 := ⟨by decide +kernel, rfl⟩
theorem dX8_feed_41 : DD cX8_feed 41 (.iload_n 3) 1 42 := ⟨by decide +kernel, rfl⟩
theorem dX8_feed_42 : DD cX8_feed 42 (.ifCond .lt 38) 3 45 := ⟨by decide +kernel, rfl⟩
theorem dX8_feed_45 : DD cX8_feed 45 (.aload_n 0) 1 46 := ⟨by decide +kernel, rfl⟩
theorem dX8_feed_46 : DD cX8_feed 46 (.getfield 22) 3 49 := ⟨by decide +kernel, rfl⟩
theorem dX8_feed_49 : DD cX8_feed 49 (.aload_n 0) 1 50 := ⟨by decide +kernel, rfl⟩
theorem dX8_feed_50 : DD cX8_feed 50 (.getfield 166) 3 53 := ⟨by decide +kernel, rfl⟩
theorem dX8_feed_53 : DD cX8_feed 53 (.iload_n 1) 1 54 := ⟨by decide +kernel, rfl⟩
theorem dX8_feed_54 : DD cX8_feed 54 (.bipush 8) 2 56 := ⟨by decide +kernel, rfl⟩
theorem dX8_feed_56 : DD cX8_feed 56 (.iload_n 3) 1 57 := ⟨by decide +kernel, rfl⟩
theorem dX8_feed_57 : DD cX8_feed 57 (.imul) 1 58 := ⟨by decide +kernel, rfl⟩
theorem dX8_feed_58 : DD cX8_feed 58 (.ishr) 1 59 := ⟨by decide +kernel, rfl⟩
theorem dX8_feed_59 : DD cX8_feed 59 (.sipush 255) 3 62 := ⟨by decide +kernel, rfl⟩
theorem dX8_feed_62 : DD cX8_feed 62 (.iand) 1 63 := ⟨by decide +kernel, rfl⟩
theorem dX8_feed_63 : DD cX8_feed 63 (.iastore) 1 64 := ⟨by decide +kernel, rfl⟩
theorem dX8_feed_64 : DD cX8_feed 64 (.aload_n 0) 1 65 := ⟨by decide +kernel, rfl⟩
theorem dX8_feed_65 : DD cX8_feed 65 (.dup) 1 66 := ⟨by decide +kernel, rfl⟩
theorem dX8_feed_66 : DD cX8_feed 66 (.getfield 166) 3 69 := ⟨by decide +kernel, rfl⟩
theorem dX8_feed_69 : DD cX8_feed 69 (.iconst 1) 1 70 := ⟨by decide +kernel, rfl⟩
theorem dX8_feed_70 : DD cX8_feed 70 (.iadd) 1 71 := ⟨by decide +kernel, rfl⟩
theorem dX8_feed_71 : DD cX8_feed 71 (.putfield 166) 3 74 := ⟨by decide +kernel, rfl⟩
theorem dX8_feed_74 : DD cX8_feed 74 (.iinc 3 (-1)) 3 77 := ⟨by decide +kernel, rfl⟩
theorem dX8_feed_77 : DD cX8_feed 77 (.goto (-36)) 3 80 := ⟨by decide +kernel, rfl⟩
theorem dX8_feed_80 : DD cX8_feed 80 (.aload_n 0) 1 81 := ⟨by decide +kernel, rfl⟩
theorem dX8_feed_81 : DD cX8_feed 81 (.getfield 166) 3 84 := ⟨by decide +kernel, rfl⟩
theorem dX8_feed_84 : DD cX8_feed 84 (.ireturn) 1 85 := ⟨by decide +kernel, rfl⟩
theorem dX8_wipe_0 : DD cX8_wipe 0 (.aload_n 0) 1 1 := ⟨by decide +kernel, rfl⟩
theorem dX8_wipe_1 : DD cX8_wipe 1 (.getfield 166) 3 4 := ⟨by decide +kernel, rfl⟩
theorem dX8_wipe_4 : DD cX8_wipe 4 (.istore_n 1) 1 5 := ⟨by decide +kernel, rfl⟩
theorem dX8_wipe_5 : DD cX8_wipe 5 (.aload_n 0) 1 6 := ⟨by decide +kernel, rfl⟩
theorem dX8_wipe_6 : DD cX8_wipe 6 (.iconst 0) 1 7 := ⟨by decide +kernel, rfl⟩
theorem dX8_wipe_7 : DD cX8_wipe 7 (.putfield 166) 3 10 := ⟨by decide +kernel, rfl⟩
theorem dX8_wipe_10 : DD cX8_wipe 10 (.iload_n 1) 1 11 := ⟨by decide +kernel, rfl⟩
theorem dX8_wipe_11 : DD cX8_wipe 11 (.ireturn) 1 12 := ⟨by decide +kernel, rfl⟩
theorem dX8_isLetter_0 : DD cX8_isLetter 0 (.iload_n 0) 1 1 := ⟨by decide +kernel, rfl⟩
theorem dX8_isLetter_1 : DD cX8_isLetter 1 (.bipush 97) 2 3 := ⟨by decide +kernel, rfl⟩
theorem dX8_isLetter_3 : DD cX8_isLetter 3 (.if_icmp .lt 13) 3 6 := ⟨by decide +kernel, rfl⟩
theorem dX8_isLetter_6 : DD cX8_isLetter 6 (.iload_n 0) 1 7 := ⟨by decide +kernel, rfl⟩
theorem dX8_isLetter_7 : DD cX8_isLetter 7 (.bipush 122) 2 9 := ⟨by decide +kernel, rfl⟩
theorem dX8_isLetter_9 : DD cX8_isLetter 9 (.if_icmp .gt 7) 3 12 := ⟨by decide +kernel, rfl⟩
theorem dX8_isLetter_12 : DD cX8_isLetter 12 (.iconst 1) 1 13 := ⟨by decide +kernel, rfl⟩
theorem dX8_isLetter_13 : DD cX8_isLetter 13 (.goto 4) 3 16 := ⟨by decide +kernel, rfl⟩
theorem dX8_isLetter_16 : DD cX8_isLetter 16 (.iconst 0) 1 17 := ⟨by decide +kernel, rfl⟩
theorem dX8_isLetter_17 : DD cX8_isLetter 17 (.ireturn) 1 18 := ⟨by decide +kernel, rfl⟩
theorem dX8_isDigit_0 : DD cX8_isDigit 0 (.iload_n 0) 1 1 := ⟨by decide +kernel, rfl⟩
theorem dX8_isDigit_1 : DD cX8_isDigit 1 (.bipush 48) 2 3 := ⟨by decide +kernel, rfl⟩
theorem dX8_isDigit_3 : DD cX8_isDigit 3 (.if_icmp .lt 13) 3 6 := ⟨by decide +kernel, rfl⟩
theorem dX8_isDigit_6 : DD cX8_isDigit 6 (.iload_n 0) 1 7 := ⟨by decide +kernel, rfl⟩
theorem dX8_isDigit_7 : DD cX8_isDigit 7 (.bipush 57) 2 9 := ⟨by decide +kernel, rfl⟩
theorem dX8_isDigit_9 : DD cX8_isDigit 9 (.if_icmp .gt 7) 3 12 := ⟨by decide +kernel, rfl⟩
theorem dX8_isDigit_12 : DD cX8_isDigit 12 (.iconst 1) 1 13 := ⟨by decide +kernel, rfl⟩
theorem dX8_isDigit_13 : DD cX8_isDigit 13 (.goto 4) 3 16 := ⟨by decide +kernel, rfl⟩
theorem dX8_isDigit_16 : DD cX8_isDigit 16 (.iconst 0) 1 17 := ⟨by decide +kernel, rfl⟩
theorem dX8_isDigit_17 : DD cX8_isDigit 17 (.ireturn) 1 18 := ⟨by decide +kernel, rfl⟩
theorem dX8_look_0 : DD cX8_look 0 (.aload_n 0) 1 1 := ⟨by decide +kernel, rfl⟩
theorem dX8_look_1 : DD cX8_look 1 (.getfield 169) 3 4 := ⟨by decide +kernel, rfl⟩
theorem dX8_look_4 : DD cX8_look 4 (.aload_n 0) 1 5 := ⟨by decide +kernel, rfl⟩
theorem dX8_look_5 : DD cX8_look 5 (.getfield 166) 3 8 := ⟨by decide +kernel, rfl⟩
theorem dX8_look_8 : DD cX8_look 8 (.if_icmp .ge 30) 3 11 := ⟨by decide +kernel, rfl⟩
theorem dX8_look_11 : DD cX8_look 11 (.aload_n 0) 1 12 := ⟨by decide +kernel, rfl⟩
theorem dX8_look_12 : DD cX8_look 12 (.getfield 22) 3 15 := ⟨by decide +kernel, rfl⟩
theorem dX8_look_15 : DD cX8_look 15 (.aload_n 0) 1 16 := ⟨by decide +kernel, rfl⟩
theorem dX8_look_16 : DD cX8_look 16 (.getfield 169) 3 19 := ⟨by decide +kernel, rfl⟩
theorem dX8_look_19 : DD cX8_look 19 (.iaload) 1 20 := ⟨by decide +kernel, rfl⟩
theorem dX8_look_20 : DD cX8_look 20 (.bipush 32) 2 22 := ⟨by decide +kernel, rfl⟩
theorem dX8_look_22 : DD cX8_look 22 (.if_icmp .ne 16) 3 25 := ⟨by decide +kernel, rfl⟩
theorem dX8_look_25 : DD cX8_look 25 (.aload_n 0) 1 26 := ⟨by decide +kernel, rfl⟩
theorem dX8_look_26 : DD cX8_look 26 (.dup) 1 27 := ⟨by decide +kernel, rfl⟩
theorem dX8_look_27 : DD cX8_look 27 (.getfield 169) 3 30 := ⟨by decide +kernel, rfl⟩
theorem dX8_look_30 : DD cX8_look 30 (.iconst 1) 1 31 := ⟨by decide +kernel, rfl⟩
theorem dX8_look_31 : DD cX8_look 31 (.iadd) 1 32 := ⟨by decide +kernel, rfl⟩
theorem dX8_look_32 : DD cX8_look 32 (.putfield 169) 3 35 := ⟨by decide +kernel, rfl⟩
theorem dX8_look_35 : DD cX8_look 35 (.goto (-35)) 3 38 := ⟨by decide +kernel, rfl⟩
theorem dX8_look_38 : DD cX8_look 38 (.aload_n 0) 1 39 := ⟨by decide +kernel, rfl⟩
theorem dX8_look_39 : DD cX8_look 39 (.aload_n 0) 1 40 := ⟨by decide +kernel, rfl⟩
theorem dX8_look_40 : DD cX8_look 40 (.getfield 169) 3 43 := ⟨by decide +kernel, rfl⟩
theorem dX8_look_43 : DD cX8_look 43 (.putfield 172) 3 46 := ⟨by decide +kernel, rfl⟩
theorem dX8_look_46 : DD cX8_look 46 (.aload_n 0) 1 47 := ⟨by decide +kernel, rfl⟩
theorem dX8_look_47 : DD cX8_look 47 (.iconst 0) 1 48 := ⟨by decide +kernel, rfl⟩
theorem dX8_look_48 : DD cX8_look 48 (.putfield 175) 3 51 := ⟨by decide +kernel, rfl⟩
theorem dX8_look_51 : DD cX8_look 51 (.aload_n 0) 1 52 := ⟨by decide +kernel, rfl⟩
theorem dX8_look_52 : DD cX8_look 52 (.iconst 0) 1 53 := ⟨by decide +kernel, rfl⟩
theorem dX8_look_53 : DD cX8_look 53 (.putfield 178) 3 56 := ⟨by decide +kernel, rfl⟩
theorem dX8_look_56 : DD cX8_look 56 (.aload_n 0) 1 57 := ⟨by decide +kernel, rfl⟩
theorem dX8_look_57 : DD cX8_look 57 (.getfield 169) 3 60 := ⟨by decide +kernel, rfl⟩
theorem dX8_look_60 : DD cX8_look 60 (.aload_n 0) 1 61 := ⟨by decide +kernel, rfl⟩
theorem dX8_look_61 : DD cX8_look 61 (.getfield 166) 3 64 := ⟨by decide +kernel, rfl⟩
theorem dX8_look_64 : DD cX8_look 64 (.if_icmp .ne 9) 3 67 := ⟨by decide +kernel, rfl⟩
theorem dX8_look_67 : DD cX8_look 67 (.aload_n 0) 1 68 := ⟨by decide +kernel, rfl⟩
theorem dX8_look_68 : DD cX8_look 68 (.iconst 0) 1 69 := ⟨by decide +kernel, rfl⟩
theorem dX8_look_69 : DD cX8_look 69 (.putfield 181) 3 72 := ⟨by decide +kernel, rfl⟩
theorem dX8_look_72 : DD cX8_look 72 (.return_) 1 73 := ⟨by decide +kernel, rfl⟩
theorem dX8_look_73 : DD cX8_look 73 (.aload_n 0) 1 74 := ⟨by decide +kernel, rfl⟩
theorem dX8_look_74 : DD cX8_look 74 (.getfield 22) 3 77 := ⟨by decide +kernel, rfl⟩
theorem dX8_look_77 : DD cX8_look 77 (.aload_n 0) 1 78 := ⟨by decide +kernel, rfl⟩
theorem dX8_look_78 : DD cX8_look 78 (.getfield 169) 3 81 := ⟨by decide +kernel, rfl⟩
theorem dX8_look_81 : DD cX8_look 81 (.iaload) 1 82 := ⟨by decide +kernel, rfl⟩
theorem dX8_look_82 : DD cX8_look 82 (.istore_n 1) 1 83 := ⟨by decide +kernel, rfl⟩
theorem dX8_look_83 : DD cX8_look 83 (.aload_n 0) 1 84 := ⟨by decide +kernel, rfl⟩
theorem dX8_look_84 : DD cX8_look 84 (.iload_n 1) 1 85 := ⟨by decide +kernel, rfl⟩
theorem dX8_look_85 : DD cX8_look 85 (.invokestatic 184) 3 88 := ⟨by decide +kernel, rfl⟩
theorem dX8_look_88 : DD cX8_look 88 (.ifCond .eq 7) 3 91 := ⟨by decide +kernel, rfl⟩
theorem dX8_look_91 : DD cX8_look 91 (.iconst 1) 1 92 := ⟨by decide +kernel, rfl⟩
theorem dX8_look_92 : DD cX8_look 92 (.goto 49) 3 95 := ⟨by decide +kernel, rfl⟩
theorem dX8_look_95 : DD cX8_look 95 (.iload_n 1) 1 96 := ⟨by decide +kernel, rfl⟩
theorem dX8_look_96 : DD cX8_look 96 (.invokestatic 187) 3 99 := ⟨by decide +kernel, rfl⟩
theorem dX8_look_99 : DD cX8_look 99 (.ifCond .eq 7) 3 102 := ⟨by decide +kernel, rfl⟩
theorem dX8_look_102 : DD cX8_look 102 (.iconst 2) 1 103 := ⟨by decide +kernel, rfl⟩
theorem dX8_look_103 : DD cX8_look 103 (.goto 38) 3 106 := ⟨by decide +kernel, rfl⟩
theorem dX8_look_106 : DD cX8_look 106 (.iload_n 1) 1 107 := ⟨by decide +kernel, rfl⟩
theorem dX8_look_107 : DD cX8_look 107 (.bipush 60) 2 109 := ⟨by decide +kernel, rfl⟩
theorem dX8_look_109 : DD cX8_look 109 (.if_icmp .eq 27) 3 112 := ⟨by decide +kernel, rfl⟩
theorem dX8_look_112 : DD cX8_look 112 (.iload_n 1) 1 113 := ⟨by decide +kernel, rfl⟩
theorem dX8_look_113 : DD cX8_look 113 (.bipush 62) 2 115 := ⟨by decide +kernel, rfl⟩
theorem dX8_look_115 : DD cX8_look 115 (.if_icmp .eq 21) 3 118 := ⟨by decide +kernel, rfl⟩
theorem dX8_look_118 : DD cX8_look 118 (.iload_n 1) 1 119 := ⟨by decide +kernel, rfl⟩
theorem dX8_look_119 : DD cX8_look 119 (.bipush 45) 2 121 := ⟨by decide +kernel, rfl⟩
theorem dX8_look_121 : DD cX8_look 121 (.if_icmp .eq 15) 3 124 := ⟨by decide +kernel, rfl⟩
theorem dX8_look_124 : DD cX8_look 124 (.iload_n 1) 1 125 := ⟨by decide +kernel, rfl⟩
theorem dX8_look_125 : DD cX8_look 125 (.bipush 58) 2 127 := ⟨by decide +kernel, rfl⟩
theorem dX8_look_127 : DD cX8_look 127 (.if_icmp .eq 9) 3 130 := ⟨by decide +kernel, rfl⟩
theorem dX8_look_130 : DD cX8_look 130 (.iload_n 1) 1 131 := ⟨by decide +kernel, rfl⟩
theorem dX8_look_131 : DD cX8_look 131 (.bipush 59) 2 133 := ⟨by decide +kernel, rfl⟩
theorem dX8_look_133 : DD cX8_look 133 (.if_icmp .ne 7) 3 136 := ⟨by decide +kernel, rfl⟩
theorem dX8_look_136 : DD cX8_look 136 (.iconst 3) 1 137 := ⟨by decide +kernel, rfl⟩
theorem dX8_look_137 : DD cX8_look 137 (.goto 4) 3 140 := ⟨by decide +kernel, rfl⟩
theorem dX8_look_140 : DD cX8_look 140 (.iconst 4) 1 141 := ⟨by decide +kernel, rfl⟩
theorem dX8_look_141 : DD cX8_look 141 (.putfield 181) 3 144 := ⟨by decide +kernel, rfl⟩
theorem dX8_look_144 : DD cX8_look 144 (.aload_n 0) 1 145 := ⟨by decide +kernel, rfl⟩
theorem dX8_look_145 : DD cX8_look 145 (.getfield 181) 3 148 := ⟨by decide +kernel, rfl⟩
theorem dX8_look_148 : DD cX8_look 148 (.iconst 2) 1 149 := ⟨by decide +kernel, rfl⟩
theorem dX8_look_149 : DD cX8_look 149 (.if_icmp .le 18) 3 152 := ⟨by decide +kernel, rfl⟩
theorem dX8_look_152 : DD cX8_look 152 (.aload_n 0) 1 153 := ⟨by decide +kernel, rfl⟩
theorem dX8_look_153 : DD cX8_look 153 (.iload_n 1) 1 154 := ⟨by decide +kernel, rfl⟩
theorem dX8_look_154 : DD cX8_look 154 (.putfield 178) 3 157 := ⟨by decide +kernel, rfl⟩
theorem dX8_look_157 : DD cX8_look 157 (.aload_n 0) 1 158 := ⟨by decide +kernel, rfl⟩
theorem dX8_look_158 : DD cX8_look 158 (.dup) 1 159 := ⟨by decide +kernel, rfl⟩
theorem dX8_look_159 : DD cX8_look 159 (.getfield 169) 3 162 := ⟨by decide +kernel, rfl⟩
theorem dX8_look_162 : DD cX8_look 162 (.iconst 1) 1 163 := ⟨by decide +kernel, rfl⟩
theorem dX8_look_163 : DD cX8_look 163 (.iadd) 1 164 := ⟨by decide +kernel, rfl⟩
theorem dX8_look_164 : DD cX8_look 164 (.putfield 169) 3 167 := ⟨by decide +kernel, rfl⟩
theorem dX8_look_167 : DD cX8_look 167 (.aload_n 0) 1 168 := ⟨by decide +kernel, rfl⟩
theorem dX8_look_168 : DD cX8_look 168 (.getfield 181) 3 171 := ⟨by decide +kernel, rfl⟩
theorem dX8_look_171 : DD cX8_look 171 (.iconst 1) 1 172 := ⟨by decide +kernel, rfl⟩
theorem dX8_look_172 : DD cX8_look 172 (.if_icmp .ne 85) 3 175 := ⟨by decide +kernel, rfl⟩
theorem dX8_look_175 : DD cX8_look 175 (.aload_n 0) 1 176 := ⟨by decide +kernel, rfl⟩
theorem dX8_look_176 : DD cX8_look 176 (.getfield 169) 3 179 := ⟨by decide +kernel, rfl⟩
theorem dX8_look_179 : DD cX8_look 179 (.aload_n 0) 1 180 := ⟨by decide +kernel, rfl⟩
theorem dX8_look_180 : DD cX8_look 180 (.getfield 166) 3 183 := ⟨by decide +kernel, rfl⟩
theorem dX8_look_183 : DD cX8_look 183 (.if_icmp .ge 74) 3 186 := ⟨by decide +kernel, rfl⟩
theorem dX8_look_186 : DD cX8_look 186 (.aload_n 0) 1 187 := ⟨by decide +kernel, rfl⟩
theorem dX8_look_187 : DD cX8_look 187 (.getfield 22) 3 190 := ⟨by decide +kernel, rfl⟩
theorem dX8_look_190 : DD cX8_look 190 (.aload_n 0) 1 191 := ⟨by decide +kernel, rfl⟩
theorem dX8_look_191 : DD cX8_look 191 (.getfield 169) 3 194 := ⟨by decide +kernel, rfl⟩
theorem dX8_look_194 : DD cX8_look 194 (.iaload) 1 195 := ⟨by decide +kernel, rfl⟩
theorem dX8_look_195 : DD cX8_look 195 (.invokestatic 184) 3 198 := ⟨by decide +kernel, rfl⟩
theorem dX8_look_198 : DD cX8_look 198 (.ifCond .eq 59) 3 201 := ⟨by decide +kernel, rfl⟩
theorem dX8_look_201 : DD cX8_look 201 (.aload_n 0) 1 202 := ⟨by decide +kernel, rfl⟩
theorem dX8_look_202 : DD cX8_look 202 (.aload_n 0) 1 203 := ⟨by decide +kernel, rfl⟩
theorem dX8_look_203 : DD cX8_look 203 (.getfield 169) 3 206 := ⟨by decide +kernel, rfl⟩
theorem dX8_look_206 : DD cX8_look 206 (.aload_n 0) 1 207 := ⟨by decide +kernel, rfl⟩
theorem dX8_look_207 : DD cX8_look 207 (.getfield 172) 3 210 := ⟨by decide +kernel, rfl⟩
theorem dX8_look_210 : DD cX8_look 210 (.isub) 1 211 := ⟨by decide +kernel, rfl⟩
theorem dX8_look_211 : DD cX8_look 211 (.iconst 5) 1 212 := ⟨by decide +kernel, rfl⟩
theorem dX8_look_212 : DD cX8_look 212 (.if_icmp .ge 28) 3 215 := ⟨by decide +kernel, rfl⟩
theorem dX8_look_215 : DD cX8_look 215 (.bipush 32) 2 217 := ⟨by decide +kernel, rfl⟩
theorem dX8_look_217 : DD cX8_look 217 (.aload_n 0) 1 218 := ⟨by decide +kernel, rfl⟩
theorem dX8_look_218 : DD cX8_look 218 (.getfield 175) 3 221 := ⟨by decide +kernel, rfl⟩
theorem dX8_look_221 : DD cX8_look 221 (.imul) 1 222 := ⟨by decide +kernel, rfl⟩
theorem dX8_look_222 : DD cX8_look 222 (.aload_n 0) 1 223 := ⟨by decide +kernel, rfl⟩
theorem dX8_look_223 : DD cX8_look 223 (.getfield 22) 3 226 := ⟨by decide +kernel, rfl⟩
theorem dX8_look_226 : DD cX8_look 226 (.aload_n 0) 1 227 := ⟨by decide +kernel, rfl⟩
theorem dX8_look_227 : DD cX8_look 227 (.getfield 169) 3 230 := ⟨by decide +kernel, rfl⟩
theorem dX8_look_230 : DD cX8_look 230 (.iaload) 1 231 := ⟨by decide +kernel, rfl⟩
theorem dX8_look_231 : DD cX8_look 231 (.iadd) 1 232 := ⟨by decide +kernel, rfl⟩
theorem dX8_look_232 : DD cX8_look 232 (.bipush 97) 2 234 := ⟨by decide +kernel, rfl⟩
theorem dX8_look_234 : DD cX8_look 234 (.isub) 1 235 := ⟨by decide +kernel, rfl⟩
theorem dX8_look_235 : DD cX8_look 235 (.iconst 1) 1 236 := ⟨by decide +kernel, rfl⟩
theorem dX8_look_236 : DD cX8_look 236 (.iadd) 1 237 := ⟨by decide +kernel, rfl⟩
theorem dX8_look_237 : DD cX8_look 237 (.goto 4) 3 240 := ⟨by decide +kernel, rfl⟩
theorem dX8_look_240 : DD cX8_look 240 (.iconst (-1)) 1 241 := ⟨by decide +kernel, rfl⟩
theorem dX8_look_241 : DD cX8_look 241 (.putfield 175) 3 244 := ⟨by decide +kernel, rfl⟩
theorem dX8_look_244 : DD cX8_look 244 (.aload_n 0) 1 245 := ⟨by decide +kernel, rfl⟩
theorem dX8_look_245 : DD cX8_look 245 (.dup) 1 246 := ⟨by decide +kernel, rfl⟩
theorem dX8_look_246 : DD cX8_look 246 (.getfield 169) 3 249 := ⟨by decide +kernel, rfl⟩
theorem dX8_look_249 : DD cX8_look 249 (.iconst 1) 1 250 := ⟨by decide +kernel, rfl⟩
theorem dX8_look_250 : DD cX8_look 250 (.iadd) 1 251 := ⟨by decide +kernel, rfl⟩
theorem dX8_look_251 : DD cX8_look 251 (.putfield 169) 3 254 := ⟨by decide +kernel, rfl⟩
theorem dX8_look_254 : DD cX8_look 254 (.goto (-87)) 3 257 := ⟨by decide +kernel, rfl⟩
theorem dX8_look_257 : DD cX8_look 257 (.aload_n 0) 1 258 := ⟨by decide +kernel, rfl⟩
theorem dX8_look_258 : DD cX8_look 258 (.getfield 181) 3 261 := ⟨by decide +kernel, rfl⟩
theorem dX8_look_261 : DD cX8_look 261 (.iconst 2) 1 262 := ⟨by decide +kernel, rfl⟩
theorem dX8_look_262 : DD cX8_look 262 (.if_icmp .ne 82) 3 265 := ⟨by decide +kernel, rfl⟩
theorem dX8_look_265 : DD cX8_look 265 (.aload_n 0) 1 266 := ⟨by decide +kernel, rfl⟩
theorem dX8_look_266 : DD cX8_look 266 (.getfield 169) 3 269 := ⟨by decide +kernel, rfl⟩
theorem dX8_look_269 : DD cX8_look 269 (.aload_n 0) 1 270 := ⟨by decide +kernel, rfl⟩
theorem dX8_look_270 : DD cX8_look 270 (.getfield 166) 3 273 := ⟨by decide +kernel, rfl⟩
theorem dX8_look_273 : DD cX8_look 273 (.if_icmp .ge 71) 3 276 := ⟨by decide +kernel, rfl⟩
theorem dX8_look_276 : DD cX8_look 276 (.aload_n 0) 1 277 := ⟨by decide +kernel, rfl⟩
theorem dX8_look_277 : DD cX8_look 277 (.getfield 22) 3 280 := ⟨by decide +kernel, rfl⟩
theorem dX8_look_280 : DD cX8_look 280 (.aload_n 0) 1 281 := ⟨by decide +kernel, rfl⟩
theorem dX8_look_281 : DD cX8_look 281 (.getfield 169) 3 284 := ⟨by decide +kernel, rfl⟩
theorem dX8_look_284 : DD cX8_look 284 (.iaload) 1 285 := ⟨by decide +kernel, rfl⟩
theorem dX8_look_285 : DD cX8_look 285 (.invokestatic 187) 3 288 := ⟨by decide +kernel, rfl⟩
theorem dX8_look_288 : DD cX8_look 288 (.ifCond .eq 56) 3 291 := ⟨by decide +kernel, rfl⟩
theorem dX8_look_291 : DD cX8_look 291 (.aload_n 0) 1 292 := ⟨by decide +kernel, rfl⟩
theorem dX8_look_292 : DD cX8_look 292 (.aload_n 0) 1 293 := ⟨by decide +kernel, rfl⟩
theorem dX8_look_293 : DD cX8_look 293 (.getfield 178) 3 296 := ⟨by decide +kernel, rfl⟩
theorem dX8_look_296 : DD cX8_look 296 (.sipush 999) 3 299 := ⟨by decide +kernel, rfl⟩
theorem dX8_look_299 : DD cX8_look 299 (.if_icmp .le 9) 3 302 := ⟨by decide +kernel, rfl⟩
theorem dX8_look_302 : DD cX8_look 302 (.sipush 1000) 3 305 := ⟨by decide +kernel, rfl⟩
theorem dX8_look_305 : DD cX8_look 305 (.goto 23) 3 308 := ⟨by decide +kernel, rfl⟩
theorem dX8_look_308 : DD cX8_look 308 (.bipush 10) 2 310 := ⟨by decide +kernel, rfl⟩
theorem dX8_look_310 : DD cX8_look 310 (.aload_n 0) 1 311 := ⟨by decide +kernel, rfl⟩
theorem dX8_look_311 : DD cX8_look 311 (.getfield 178) 3 314 := ⟨by decide +kernel, rfl⟩
theorem dX8_look_314 : DD cX8_look 314 (.imul) 1 315 := ⟨by decide +kernel, rfl⟩
theorem dX8_look_315 : DD cX8_look 315 (.aload_n 0) 1 316 := ⟨by decide +kernel, rfl⟩
theorem dX8_look_316 : DD cX8_look 316 (.getfield 22) 3 319 := ⟨by decide +kernel, rfl⟩
theorem dX8_look_319 : DD cX8_look 319 (.aload_n 0) 1 320 := ⟨by decide +kernel, rfl⟩
theorem dX8_look_320 : DD cX8_look 320 (.getfield 169) 3 323 := ⟨by decide +kernel, rfl⟩
theorem dX8_look_323 : DD cX8_look 323 (.iaload) 1 324 := ⟨by decide +kernel, rfl⟩
theorem dX8_look_324 : DD cX8_look 324 (.iadd) 1 325 := ⟨by decide +kernel, rfl⟩
theorem dX8_look_325 : DD cX8_look 325 (.bipush 48) 2 327 := ⟨by decide +kernel, rfl⟩
theorem dX8_look_327 : DD cX8_look 327 (.isub) 1 328 := ⟨by decide +kernel, rfl⟩
theorem dX8_look_328 : DD cX8_look 328 (.putfield 178) 3 331 := ⟨by decide +kernel, rfl⟩
theorem dX8_look_331 : DD cX8_look 331 (.aload_n 0) 1 332 := ⟨by decide +kernel, rfl⟩
theorem dX8_look_332 : DD cX8_look 332 (.dup) 1 333 := ⟨by decide +kernel, rfl⟩
theorem dX8_look_333 : DD cX8_look 333 (.getfield 169) 3 336 := ⟨by decide +kernel, rfl⟩
theorem dX8_look_336 : DD cX8_look 336 (.iconst 1) 1 337 := ⟨by decide +kernel, rfl⟩
theorem dX8_look_337 : DD cX8_look 337 (.iadd) 1 338 := ⟨by decide +kernel, rfl⟩
theorem dX8_look_338 : DD cX8_look 338 (.putfield 169) 3 341 := ⟨by decide +kernel, rfl⟩
theorem dX8_look_341 : DD cX8_look 341 (.goto (-84)) 3 344 := ⟨by decide +kernel, rfl⟩
theorem dX8_look_344 : DD cX8_look 344 (.return_) 1 345 := ⟨by decide +kernel, rfl⟩
theorem dX8_isWord_0 : DD cX8_isWord 0 (.iconst 0) 1 1 := ⟨by decide +kernel, rfl⟩
theorem dX8_isWord_1 : DD cX8_isWord 1 (.istore_n 2) 1 2 := ⟨by decide +kernel, rfl⟩
theorem dX8_isWord_2 : DD cX8_isWord 2 (.iconst 0) 1 3 := ⟨by decide +kernel, rfl⟩
theorem dX8_isWord_3 : DD cX8_isWord 3 (.istore_n 3) 1 4 := ⟨by decide +kernel, rfl⟩
theorem dX8_isWord_4 : DD cX8_isWord 4 (.iload_n 3) 1 5 := ⟨by decide +kernel, rfl⟩
theorem dX8_isWord_5 : DD cX8_isWord 5 (.aload_n 1) 1 6 := ⟨by decide +kernel, rfl⟩
theorem dX8_isWord_6 : DD cX8_isWord 6 (.invokevirtual 190) 3 9 := ⟨by decide +kernel, rfl⟩
theorem dX8_isWord_9 : DD cX8_isWord 9 (.if_icmp .ge 25) 3 12 := ⟨by decide +kernel, rfl⟩
theorem dX8_isWord_12 : DD cX8_isWord 12 (.bipush 32) 2 14 := ⟨by decide +kernel, rfl⟩
theorem dX8_isWord_14 : DD cX8_isWord 14 (.iload_n 2) 1 15 := ⟨by decide +kernel, rfl⟩
theorem dX8_isWord_15 : DD cX8_isWord 15 (.imul) 1 16 := ⟨by decide +kernel, rfl⟩
theorem dX8_isWord_16 : DD cX8_isWord 16 (.aload_n 1) 1 17 := ⟨by decide +kernel, rfl⟩
theorem dX8_isWord_17 : DD cX8_isWord 17 (.iload_n 3) 1 18 := ⟨by decide +kernel, rfl⟩
theorem dX8_isWord_18 : DD cX8_isWord 18 (.invokevirtual 196) 3 21 := ⟨by decide +kernel, rfl⟩
theorem dX8_isWord_21 : DD cX8_isWord 21 (.iadd) 1 22 := ⟨by decide +kernel, rfl⟩
theorem dX8_isWord_22 : DD cX8_isWord 22 (.bipush 97) 2 24 := ⟨by decide +kernel, rfl⟩
theorem dX8_isWord_24 : DD cX8_isWord 24 (.isub) 1 25 := ⟨by decide +kernel, rfl⟩
theorem dX8_isWord_25 : DD cX8_isWord 25 (.iconst 1) 1 26 := ⟨by decide +kernel, rfl⟩
theorem dX8_isWord_26 : DD cX8_isWord 26 (.iadd) 1 27 := ⟨by decide +kernel, rfl⟩
theorem dX8_isWord_27 : DD cX8_isWord 27 (.istore_n 2) 1 28 := ⟨by decide +kernel, rfl⟩
theorem dX8_isWord_28 : DD cX8_isWord 28 (.iinc 3 1) 3 31 := ⟨by decide +kernel, rfl⟩
theorem dX8_isWord_31 : DD cX8_isWord 31 (.goto (-27)) 3 34 := ⟨by decide +kernel, rfl⟩
theorem dX8_isWord_34 : DD cX8_isWord 34 (.aload_n 0) 1 35 := ⟨by decide +kernel, rfl⟩
theorem dX8_isWord_35 : DD cX8_isWord 35 (.getfield 181) 3 38 := ⟨by decide +kernel, rfl⟩
theorem dX8_isWord_38 : DD cX8_isWord 38 (.iconst 1) 1 39 := ⟨by decide +kernel, rfl⟩
theorem dX8_isWord_39 : DD cX8_isWord 39 (.if_icmp .ne 15) 3 42 := ⟨by decide +kernel, rfl⟩
theorem dX8_isWord_42 : DD cX8_isWord 42 (.aload_n 0) 1 43 := ⟨by decide +kernel, rfl⟩
theorem dX8_isWord_43 : DD cX8_isWord 43 (.getfield 175) 3 46 := ⟨by decide +kernel, rfl⟩
theorem dX8_isWord_46 : DD cX8_isWord 46 (.iload_n 2) 1 47 := ⟨by decide +kernel, rfl⟩
theorem dX8_isWord_47 : DD cX8_isWord 47 (.if_icmp .ne 7) 3 50 := ⟨by decide +kernel, rfl⟩
theorem dX8_isWord_50 : DD cX8_isWord 50 (.iconst 1) 1 51 := ⟨by decide +kernel, rfl⟩
theorem dX8_isWord_51 : DD cX8_isWord 51 (.goto 4) 3 54 := ⟨by decide +kernel, rfl⟩
theorem dX8_isWord_54 : DD cX8_isWord 54 (.iconst 0) 1 55 := ⟨by decide +kernel, rfl⟩
theorem dX8_isWord_55 : DD cX8_isWord 55 (.ireturn) 1 56 := ⟨by decide +kernel, rfl⟩
theorem dX8_isSign_0 : DD cX8_isSign 0 (.aload_n 0) 1 1 := ⟨by decide +kernel, rfl⟩
theorem dX8_isSign_1 : DD cX8_isSign 1 (.getfield 181) 3 4 := ⟨by decide +kernel, rfl⟩
theorem dX8_isSign_4 : DD cX8_isSign 4 (.iconst 3) 1 5 := ⟨by decide +kernel, rfl⟩
theorem dX8_isSign_5 : DD cX8_isSign 5 (.if_icmp .ne 15) 3 8 := ⟨by decide +kernel, rfl⟩
theorem dX8_isSign_8 : DD cX8_isSign 8 (.aload_n 0) 1 9 := ⟨by decide +kernel, rfl⟩
theorem dX8_isSign_9 : DD cX8_isSign 9 (.getfield 178) 3 12 := ⟨by decide +kernel, rfl⟩
theorem dX8_isSign_12 : DD cX8_isSign 12 (.iload_n 1) 1 13 := ⟨by decide +kernel, rfl⟩
theorem dX8_isSign_13 : DD cX8_isSign 13 (.if_icmp .ne 7) 3 16 := ⟨by decide +kernel, rfl⟩
theorem dX8_isSign_16 : DD cX8_isSign 16 (.iconst 1) 1 17 := ⟨by decide +kernel, rfl⟩
theorem dX8_isSign_17 : DD cX8_isSign 17 (.goto 4) 3 20 := ⟨by decide +kernel, rfl⟩
theorem dX8_isSign_20 : DD cX8_isSign 20 (.iconst 0) 1 21 := ⟨by decide +kernel, rfl⟩
theorem dX8_isSign_21 : DD cX8_isSign 21 (.ireturn) 1 22 := ⟨by decide +kernel, rfl⟩
theorem dX8_must_0 : DD cX8_must 0 (.aload_n 0) 1 1 := ⟨by decide +kernel, rfl⟩
theorem dX8_must_1 : DD cX8_must 1 (.aload_n 0) 1 2 := ⟨by decide +kernel, rfl⟩
theorem dX8_must_2 : DD cX8_must 2 (.getfield 200) 3 5 := ⟨by decide +kernel, rfl⟩
theorem dX8_must_5 : DD cX8_must 5 (.ifCond .ne 7) 3 8 := ⟨by decide +kernel, rfl⟩
theorem dX8_must_8 : DD cX8_must 8 (.iload_n 1) 1 9 := ⟨by decide +kernel, rfl⟩
theorem dX8_must_9 : DD cX8_must 9 (.ifCond .ne 7) 3 12 := ⟨by decide +kernel, rfl⟩
theorem dX8_must_12 : DD cX8_must 12 (.iconst 1) 1 13 := ⟨by decide +kernel, rfl⟩
theorem dX8_must_13 : DD cX8_must 13 (.goto 4) 3 16 := ⟨by decide +kernel, rfl⟩
theorem dX8_must_16 : DD cX8_must 16 (.iconst 0) 1 17 := ⟨by decide +kernel, rfl⟩
theorem dX8_must_17 : DD cX8_must 17 (.putfield 200) 3 20 := ⟨by decide +kernel, rfl⟩
theorem dX8_must_20 : DD cX8_must 20 (.return_) 1 21 := ⟨by decide +kernel, rfl⟩
theorem dX8_name_0 : DD cX8_name 0 (.aload_n 0) 1 1 := ⟨by decide +kernel, rfl⟩
theorem dX8_name_1 : DD cX8_name 1 (.ldc 204) 2 3 := ⟨by decide +kernel, rfl⟩
theorem dX8_name_3 : DD cX8_name 3 (.invokevirtual 206) 3 6 := ⟨by decide +kernel, rfl⟩
theorem dX8_name_6 : DD cX8_name 6 (.ifCond .eq 7) 3 9 := ⟨by decide +kernel, rfl⟩
theorem dX8_name_9 : DD cX8_name 9 (.iconst 0) 1 10 := ⟨by decide +kernel, rfl⟩
theorem dX8_name_10 : DD cX8_name 10 (.goto 56) 3 13 := ⟨by decide +kernel, rfl⟩
theorem dX8_name_13 : DD cX8_name 13 (.aload_n 0) 1 14 := ⟨by decide +kernel, rfl⟩
theorem dX8_name_14 : DD cX8_name 14 (.ldc 210) 2 16 := ⟨by decide +kernel, rfl⟩
theorem dX8_name_16 : DD cX8_name 16 (.invokevirtual 206) 3 19 := ⟨by decide +kernel, rfl⟩
theorem dX8_name_19 : DD cX8_name 19 (.ifCond .eq 7) 3 22 := ⟨by decide +kernel, rfl⟩
theorem dX8_name_22 : DD cX8_name 22 (.iconst 1) 1 23 := ⟨by decide +kernel, rfl⟩
theorem dX8_name_23 : DD cX8_name 23 (.goto 43) 3 26 := ⟨by decide +kernel, rfl⟩
theorem dX8_name_26 : DD cX8_name 26 (.aload_n 0) 1 27 := ⟨by decide +kernel, rfl⟩
theorem dX8_name_27 : DD cX8_name 27 (.ldc 212) 2 29 := ⟨by decide +kernel, rfl⟩
theorem dX8_name_29 : DD cX8_name 29 (.invokevirtual 206) 3 32 := ⟨by decide +kernel, rfl⟩
theorem dX8_name_32 : DD cX8_name 32 (.ifCond .eq 7) 3 35 := ⟨by decide +kernel, rfl⟩
theorem dX8_name_35 : DD cX8_name 35 (.iconst 2) 1 36 := ⟨by decide +kernel, rfl⟩
theorem dX8_name_36 : DD cX8_name 36 (.goto 30) 3 39 := ⟨by decide +kernel, rfl⟩
theorem dX8_name_39 : DD cX8_name 39 (.aload_n 0) 1 40 := ⟨by decide +kernel, rfl⟩
theorem dX8_name_40 : DD cX8_name 40 (.ldc 214) 2 42 := ⟨by decide +kernel, rfl⟩
theorem dX8_name_42 : DD cX8_name 42 (.invokevirtual 206) 3 45 := ⟨by decide +kernel, rfl⟩
theorem dX8_name_45 : DD cX8_name 45 (.ifCond .eq 7) 3 48 := ⟨by decide +kernel, rfl⟩
theorem dX8_name_48 : DD cX8_name 48 (.iconst 3) 1 49 := ⟨by decide +kernel, rfl⟩
theorem dX8_name_49 : DD cX8_name 49 (.goto 17) 3 52 := ⟨by decide +kernel, rfl⟩
theorem dX8_name_52 : DD cX8_name 52 (.aload_n 0) 1 53 := ⟨by decide +kernel, rfl⟩
theorem dX8_name_53 : DD cX8_name 53 (.ldc 216) 2 55 := ⟨by decide +kernel, rfl⟩
theorem dX8_name_55 : DD cX8_name 55 (.invokevirtual 206) 3 58 := ⟨by decide +kernel, rfl⟩
theorem dX8_name_58 : DD cX8_name 58 (.ifCond .eq 7) 3 61 := ⟨by decide +kernel, rfl⟩
theorem dX8_name_61 : DD cX8_name 61 (.iconst 4) 1 62 := ⟨by decide +kernel, rfl⟩
theorem dX8_name_62 : DD cX8_name 62 (.goto 4) 3 65 := ⟨by decide +kernel, rfl⟩
theorem dX8_name_65 : DD cX8_name 65 (.iconst (-1)) 1 66 := ⟨by decide +kernel, rfl⟩
theorem dX8_name_66 : DD cX8_name 66 (.ireturn) 1 67 := ⟨by decide +kernel, rfl⟩
theorem dX8_deed_0 : DD cX8_deed 0 (.aload_n 0) 1 1 := ⟨by decide +kernel, rfl⟩
theorem dX8_deed_1 : DD cX8_deed 1 (.ldc 218) 2 3 := ⟨by decide +kernel, rfl⟩
theorem dX8_deed_3 : DD cX8_deed 3 (.invokevirtual 206) 3 6 := ⟨by decide +kernel, rfl⟩
theorem dX8_deed_6 : DD cX8_deed 6 (.ifCond .eq 7) 3 9 := ⟨by decide +kernel, rfl⟩
theorem dX8_deed_9 : DD cX8_deed 9 (.iconst 0) 1 10 := ⟨by decide +kernel, rfl⟩
theorem dX8_deed_10 : DD cX8_deed 10 (.goto 56) 3 13 := ⟨by decide +kernel, rfl⟩
theorem dX8_deed_13 : DD cX8_deed 13 (.aload_n 0) 1 14 := ⟨by decide +kernel, rfl⟩
theorem dX8_deed_14 : DD cX8_deed 14 (.ldc 220) 2 16 := ⟨by decide +kernel, rfl⟩
theorem dX8_deed_16 : DD cX8_deed 16 (.invokevirtual 206) 3 19 := ⟨by decide +kernel, rfl⟩
theorem dX8_deed_19 : DD cX8_deed 19 (.ifCond .eq 7) 3 22 := ⟨by decide +kernel, rfl⟩
theorem dX8_deed_22 : DD cX8_deed 22 (.iconst 1) 1 23 := ⟨by decide +kernel, rfl⟩
theorem dX8_deed_23 : DD cX8_deed 23 (.goto 43) 3 26 := ⟨by decide +kernel, rfl⟩
theorem dX8_deed_26 : DD cX8_deed 26 (.aload_n 0) 1 27 := ⟨by decide +kernel, rfl⟩
theorem dX8_deed_27 : DD cX8_deed 27 (.ldc 222) 2 29 := ⟨by decide +kernel, rfl⟩
theorem dX8_deed_29 : DD cX8_deed 29 (.invokevirtual 206) 3 32 := ⟨by decide +kernel, rfl⟩
theorem dX8_deed_32 : DD cX8_deed 32 (.ifCond .eq 7) 3 35 := ⟨by decide +kernel, rfl⟩
theorem dX8_deed_35 : DD cX8_deed 35 (.iconst 2) 1 36 := ⟨by decide +kernel, rfl⟩
theorem dX8_deed_36 : DD cX8_deed 36 (.goto 30) 3 39 := ⟨by decide +kernel, rfl⟩
theorem dX8_deed_39 : DD cX8_deed 39 (.aload_n 0) 1 40 := ⟨by decide +kernel, rfl⟩
theorem dX8_deed_40 : DD cX8_deed 40 (.ldc 224) 2 42 := ⟨by decide +kernel, rfl⟩
theorem dX8_deed_42 : DD cX8_deed 42 (.invokevirtual 206) 3 45 := ⟨by decide +kernel, rfl⟩
theorem dX8_deed_45 : DD cX8_deed 45 (.ifCond .eq 7) 3 48 := ⟨by decide +kernel, rfl⟩
theorem dX8_deed_48 : DD cX8_deed 48 (.iconst 3) 1 49 := ⟨by decide +kernel, rfl⟩
theorem dX8_deed_49 : DD cX8_deed 49 (.goto 17) 3 52 := ⟨by decide +kernel, rfl⟩
theorem dX8_deed_52 : DD cX8_deed 52 (.aload_n 0) 1 53 := ⟨by decide +kernel, rfl⟩
theorem dX8_deed_53 : DD cX8_deed 53 (.ldc 226) 2 55 := ⟨by decide +kernel, rfl⟩
theorem dX8_deed_55 : DD cX8_deed 55 (.invokevirtual 206) 3 58 := ⟨by decide +kernel, rfl⟩
theorem dX8_deed_58 : DD cX8_deed 58 (.ifCond .eq 7) 3 61 := ⟨by decide +kernel, rfl⟩
theorem dX8_deed_61 : DD cX8_deed 61 (.iconst 4) 1 62 := ⟨by decide +kernel, rfl⟩
theorem dX8_deed_62 : DD cX8_deed 62 (.goto 4) 3 65 := ⟨by decide +kernel, rfl⟩
theorem dX8_deed_65 : DD cX8_deed 65 (.iconst (-1)) 1 66 := ⟨by decide +kernel, rfl⟩
theorem dX8_deed_66 : DD cX8_deed 66 (.ireturn) 1 67 := ⟨by decide +kernel, rfl⟩
theorem dX8_compares_0 : DD cX8_compares 0 (.aload_n 0) 1 1 := ⟨by decide +kernel, rfl⟩
theorem dX8_compares_1 : DD cX8_compares 1 (.aload_n 0) 1 2 := ⟨by decide +kernel, rfl⟩
theorem dX8_compares_2 : DD cX8_compares 2 (.bipush 60) 2 4 := ⟨by decide +kernel, rfl⟩
theorem dX8_compares_4 : DD cX8_compares 4 (.invokevirtual 228) 3 7 := ⟨by decide +kernel, rfl⟩
theorem dX8_compares_7 : DD cX8_compares 7 (.ifCond .ne 12) 3 10 := ⟨by decide +kernel, rfl⟩
theorem dX8_compares_10 : DD cX8_compares 10 (.aload_n 0) 1 11 := ⟨by decide +kernel, rfl⟩
theorem dX8_compares_11 : DD cX8_compares 11 (.bipush 62) 2 13 := ⟨by decide +kernel, rfl⟩
theorem dX8_compares_13 : DD cX8_compares 13 (.invokevirtual 228) 3 16 := ⟨by decide +kernel, rfl⟩
theorem dX8_compares_16 : DD cX8_compares 16 (.ifCond .eq 7) 3 19 := ⟨by decide +kernel, rfl⟩
theorem dX8_compares_19 : DD cX8_compares 19 (.iconst 1) 1 20 := ⟨by decide +kernel, rfl⟩
theorem dX8_compares_20 : DD cX8_compares 20 (.goto 4) 3 23 := ⟨by decide +kernel, rfl⟩
theorem dX8_compares_23 : DD cX8_compares 23 (.iconst 0) 1 24 := ⟨by decide +kernel, rfl⟩
theorem dX8_compares_24 : DD cX8_compares 24 (.invokevirtual 231) 3 27 := ⟨by decide +kernel, rfl⟩
theorem dX8_compares_27 : DD cX8_compares 27 (.aload_n 0) 1 28 := ⟨by decide +kernel, rfl⟩
theorem dX8_compares_28 : DD cX8_compares 28 (.getfield 9) 3 31 := ⟨by decide +kernel, rfl⟩
theorem dX8_compares_31 : DD cX8_compares 31 (.iload_n 1) 1 32 := ⟨by decide +kernel, rfl⟩
theorem dX8_compares_32 : DD cX8_compares 32 (.iconst 1) 1 33 := ⟨by decide +kernel, rfl⟩
theorem dX8_compares_33 : DD cX8_compares 33 (.iadd) 1 34 := ⟨by decide +kernel, rfl⟩
theorem dX8_compares_34 : DD cX8_compares 34 (.aload_n 0) 1 35 := ⟨by decide +kernel, rfl⟩
theorem dX8_compares_35 : DD cX8_compares 35 (.bipush 60) 2 37 := ⟨by decide +kernel, rfl⟩
theorem dX8_compares_37 : DD cX8_compares 37 (.invokevirtual 228) 3 40 := ⟨by decide +kernel, rfl⟩
theorem dX8_compares_40 : DD cX8_compares 40 (.ifCond .eq 7) 3 43 := ⟨by decide +kernel, rfl⟩
theorem dX8_compares_43 : DD cX8_compares 43 (.iconst 1) 1 44 := ⟨by decide +kernel, rfl⟩
theorem dX8_compares_44 : DD cX8_compares 44 (.goto 4) 3 47 := ⟨by decide +kernel, rfl⟩
theorem dX8_compares_47 : DD cX8_compares 47 (.iconst 0) 1 48 := ⟨by decide +kernel, rfl⟩
theorem dX8_compares_48 : DD cX8_compares 48 (.iastore) 1 49 := ⟨by decide +kernel, rfl⟩
theorem dX8_compares_49 : DD cX8_compares 49 (.aload_n 0) 1 50 := ⟨by decide +kernel, rfl⟩
theorem dX8_compares_50 : DD cX8_compares 50 (.getfield 200) 3 53 := ⟨by decide +kernel, rfl⟩
theorem dX8_compares_53 : DD cX8_compares 53 (.ifCond .eq 4) 3 56 := ⟨by decide +kernel, rfl⟩
theorem dX8_compares_56 : DD cX8_compares 56 (.return_) 1 57 := ⟨by decide +kernel, rfl⟩
theorem dX8_compares_57 : DD cX8_compares 57 (.aload_n 0) 1 58 := ⟨by decide +kernel, rfl⟩
theorem dX8_compares_58 : DD cX8_compares 58 (.invokevirtual 235) 3 61 := ⟨by decide +kernel, rfl⟩
theorem dX8_compares_61 : DD cX8_compares 61 (.aload_n 0) 1 62 := ⟨by decide +kernel, rfl⟩
theorem dX8_compares_62 : DD cX8_compares 62 (.bipush 45) 2 64 := ⟨by decide +kernel, rfl⟩
theorem dX8_compares_64 : DD cX8_compares 64 (.invokevirtual 228) 3 67 := ⟨by decide +kernel, rfl⟩
theorem dX8_compares_67 : DD cX8_compares 67 (.istore_n 2) 1 68 := ⟨by decide +kernel, rfl⟩
theorem dX8_compares_68 : DD cX8_compares 68 (.iload_n 2) 1 69 := ⟨by decide +kernel, rfl⟩
theorem dX8_compares_69 : DD cX8_compares 69 (.ifCond .eq 7) 3 72 := ⟨by decide +kernel, rfl⟩
theorem dX8_compares_72 : DD cX8_compares 72 (.aload_n 0) 1 73 := ⟨by decide +kernel, rfl⟩
theorem dX8_compares_73 : DD cX8_compares 73 (.invokevirtual 235) 3 76 := ⟨by decide +kernel, rfl⟩
theorem dX8_compares_76 : DD cX8_compares 76 (.aload_n 0) 1 77 := ⟨by decide +kernel, rfl⟩
theorem dX8_compares_77 : DD cX8_compares 77 (.aload_n 0) 1 78 := ⟨by decide +kernel, rfl⟩
theorem dX8_compares_78 : DD cX8_compares 78 (.getfield 181) 3 81 := ⟨by decide +kernel, rfl⟩
theorem dX8_compares_81 : DD cX8_compares 81 (.iconst 2) 1 82 := ⟨by decide +kernel, rfl⟩
theorem dX8_compares_82 : DD cX8_compares 82 (.if_icmp .ne 17) 3 85 := ⟨by decide +kernel, rfl⟩
theorem dX8_compares_85 : DD cX8_compares 85 (.aload_n 0) 1 86 := ⟨by decide +kernel, rfl⟩
theorem dX8_compares_86 : DD cX8_compares 86 (.getfield 178) 3 89 := ⟨by decide +kernel, rfl⟩
theorem dX8_compares_89 : DD cX8_compares 89 (.sipush 999) 3 92 := ⟨by decide +kernel, rfl⟩
theorem dX8_compares_92 : DD cX8_compares 92 (.if_icmp .gt 7) 3 95 := ⟨by decide +kernel, rfl⟩
theorem dX8_compares_95 : DD cX8_compares 95 (.iconst 1) 1 96 := ⟨by decide +kernel, rfl⟩
theorem dX8_compares_96 : DD cX8_compares 96 (.goto 4) 3 99 := ⟨by decide +kernel, rfl⟩
theorem dX8_compares_99 : DD cX8_compares 99 (.iconst 0) 1 100 := ⟨by decide +kernel, rfl⟩
theorem dX8_compares_100 : DD cX8_compares 100 (.invokevirtual 231) 3 103 := ⟨by decide +kernel, rfl⟩
theorem dX8_compares_103 : DD cX8_compares 103 (.aload_n 0) 1 104 := ⟨by decide +kernel, rfl⟩
theorem dX8_compares_104 : DD cX8_compares 104 (.getfield 9) 3 107 := ⟨by decide +kernel, rfl⟩
theorem dX8_compares_107 : DD cX8_compares 107 (.iload_n 1) 1 108 := ⟨by decide +kernel, rfl⟩
theorem dX8_compares_108 : DD cX8_compares 108 (.iconst 2) 1 109 := ⟨by decide +kernel, rfl⟩
theorem dX8_compares_109 : DD cX8_compares 109 (.iadd) 1 110 := ⟨by decide +kernel, rfl⟩
theorem dX8_compares_110 : DD cX8_compares 110 (.iload_n 2) 1 111 := ⟨by decide +kernel, rfl⟩
theorem dX8_compares_111 : DD cX8_compares 111 (.ifCond .eq 11) 3 114 := ⟨by decide +kernel, rfl⟩
theorem dX8_compares_114 : DD cX8_compares 114 (.aload_n 0) 1 115 := ⟨by decide +kernel, rfl⟩
theorem dX8_compares_115 : DD cX8_compares 115 (.getfield 178) 3 118 := ⟨by decide +kernel, rfl⟩
theorem dX8_compares_118 : DD cX8_compares 118 (.ineg) 1 119 := ⟨by decide +kernel, rfl⟩
theorem dX8_compares_119 : DD cX8_compares 119 (.goto 7) 3 122 := ⟨by decide +kernel, rfl⟩
theorem dX8_compares_122 : DD cX8_compares 122 (.aload_n 0) 1 123 := ⟨by decide +kernel, rfl⟩
theorem dX8_compares_123 : DD cX8_compares 123 (.getfield 178) 3 126 := ⟨by decide +kernel, rfl⟩
theorem dX8_compares_126 : DD cX8_compares 126 (.iastore) 1 127 := ⟨by decide +kernel, rfl⟩
theorem dX8_compares_127 : DD cX8_compares 127 (.aload_n 0) 1 128 := ⟨by decide +kernel, rfl⟩
theorem dX8_compares_128 : DD cX8_compares 128 (.getfield 200) 3 131 := ⟨by decide +kernel, rfl⟩
theorem dX8_compares_131 : DD cX8_compares 131 (.ifCond .ne 7) 3 134 := ⟨by decide +kernel, rfl⟩
theorem dX8_compares_134 : DD cX8_compares 134 (.aload_n 0) 1 135 := ⟨by decide +kernel, rfl⟩
theorem dX8_compares_135 : DD cX8_compares 135 (.invokevirtual 235) 3 138 := ⟨by decide +kernel, rfl⟩
theorem dX8_compares_138 : DD cX8_compares 138 (.return_) 1 139 := ⟨by decide +kernel, rfl⟩
theorem dX8_reads_0 : DD cX8_reads 0 (.iload_n 1) 1 1 := ⟨by decide +kernel, rfl⟩
theorem dX8_reads_1 : DD cX8_reads 1 (.iconst 1) 1 2 := ⟨by decide +kernel, rfl⟩
theorem dX8_reads_2 : DD cX8_reads 2 (.iadd) 1 3 := ⟨by decide +kernel, rfl⟩
theorem dX8_reads_3 : DD cX8_reads 3 (.iconst 4) 1 4 := ⟨by decide +kernel, rfl⟩
theorem dX8_reads_4 : DD cX8_reads 4 (.aload_n 0) 1 5 := ⟨by decide +kernel, rfl⟩
theorem dX8_reads_5 : DD cX8_reads 5 (.getfield 9) 3 8 := ⟨by decide +kernel, rfl⟩
theorem dX8_reads_8 : DD cX8_reads 8 (.iload_n 1) 1 9 := ⟨by decide +kernel, rfl⟩
theorem dX8_reads_9 : DD cX8_reads 9 (.iaload) 1 10 := ⟨by decide +kernel, rfl⟩
theorem dX8_reads_10 : DD cX8_reads 10 (.imul) 1 11 := ⟨by decide +kernel, rfl⟩
theorem dX8_reads_11 : DD cX8_reads 11 (.iadd) 1 12 := ⟨by decide +kernel, rfl⟩
theorem dX8_reads_12 : DD cX8_reads 12 (.istore_n 2) 1 13 := ⟨by decide +kernel, rfl⟩
theorem dX8_reads_13 : DD cX8_reads 13 (.aload_n 0) 1 14 := ⟨by decide +kernel, rfl⟩
theorem dX8_reads_14 : DD cX8_reads 14 (.invokevirtual 238) 3 17 := ⟨by decide +kernel, rfl⟩
theorem dX8_reads_17 : DD cX8_reads 17 (.istore_n 3) 1 18 := ⟨by decide +kernel, rfl⟩
theorem dX8_reads_18 : DD cX8_reads 18 (.aload_n 0) 1 19 := ⟨by decide +kernel, rfl⟩
theorem dX8_reads_19 : DD cX8_reads 19 (.iload_n 3) 1 20 := ⟨by decide +kernel, rfl⟩
theorem dX8_reads_20 : DD cX8_reads 20 (.ifCond .lt 18) 3 23 := ⟨by decide +kernel, rfl⟩
theorem dX8_reads_23 : DD cX8_reads 23 (.aload_n 0) 1 24 := ⟨by decide +kernel, rfl⟩
theorem dX8_reads_24 : DD cX8_reads 24 (.getfield 9) 3 27 := ⟨by decide +kernel, rfl⟩
theorem dX8_reads_27 : DD cX8_reads 27 (.iload_n 1) 1 28 := ⟨by decide +kernel, rfl⟩
theorem dX8_reads_28 : DD cX8_reads 28 (.iaload) 1 29 := ⟨by decide +kernel, rfl⟩
theorem dX8_reads_29 : DD cX8_reads 29 (.bipush 6) 2 31 := ⟨by decide +kernel, rfl⟩
theorem dX8_reads_31 : DD cX8_reads 31 (.if_icmp .ge 7) 3 34 := ⟨by decide +kernel, rfl⟩
theorem dX8_reads_34 : DD cX8_reads 34 (.iconst 1) 1 35 := ⟨by decide +kernel, rfl⟩
theorem dX8_reads_35 : DD cX8_reads 35 (.goto 4) 3 38 := ⟨by decide +kernel, rfl⟩
theorem dX8_reads_38 : DD cX8_reads 38 (.iconst 0) 1 39 := ⟨by decide +kernel, rfl⟩
theorem dX8_reads_39 : DD cX8_reads 39 (.invokevirtual 231) 3 42 := ⟨by decide +kernel, rfl⟩
theorem dX8_reads_42 : DD cX8_reads 42 (.aload_n 0) 1 43 := ⟨by decide +kernel, rfl⟩
theorem dX8_reads_43 : DD cX8_reads 43 (.getfield 200) 3 46 := ⟨by decide +kernel, rfl⟩
theorem dX8_reads_46 : DD cX8_reads 46 (.ifCond .eq 4) 3 49 := ⟨by decide +kernel, rfl⟩
theorem dX8_reads_49 : DD cX8_reads 49 (.return_) 1 50 := ⟨by decide +kernel, rfl⟩
theorem dX8_reads_50 : DD cX8_reads 50 (.aload_n 0) 1 51 := ⟨by decide +kernel, rfl⟩
theorem dX8_reads_51 : DD cX8_reads 51 (.getfield 9) 3 54 := ⟨by decide +kernel, rfl⟩
theorem dX8_reads_54 : DD cX8_reads 54 (.iload_n 2) 1 55 := ⟨by decide +kernel, rfl⟩
theorem dX8_reads_55 : DD cX8_reads 55 (.iload_n 3) 1 56 := ⟨by decide +kernel, rfl⟩
theorem dX8_reads_56 : DD cX8_reads 56 (.iastore) 1 57 := ⟨by decide +kernel, rfl⟩
theorem dX8_reads_57 : DD cX8_reads 57 (.aload_n 0) 1 58 := ⟨by decide +kernel, rfl⟩
theorem dX8_reads_58 : DD cX8_reads 58 (.invokevirtual 235) 3 61 := ⟨by decide +kernel, rfl⟩
theorem dX8_reads_61 : DD cX8_reads 61 (.iload_n 3) 1 62 := ⟨by decide +kernel, rfl⟩
theorem dX8_reads_62 : DD cX8_reads 62 (.iconst 4) 1 63 := ⟨by decide +kernel, rfl⟩
theorem dX8_reads_63 : DD cX8_reads 63 (.if_icmp .ge 8) 3 66 := ⟨by decide +kernel, rfl⟩
theorem dX8_reads_66 : DD cX8_reads 66 (.aload_n 0) 1 67 := ⟨by decide +kernel, rfl⟩
theorem dX8_reads_67 : DD cX8_reads 67 (.iload_n 2) 1 68 := ⟨by decide +kernel, rfl⟩
theorem dX8_reads_68 : DD cX8_reads 68 (.invokevirtual 241) 3 71 := ⟨by decide +kernel, rfl⟩
theorem dX8_reads_71 : DD cX8_reads 71 (.aload_n 0) 1 72 := ⟨by decide +kernel, rfl⟩
theorem dX8_reads_72 : DD cX8_reads 72 (.aload_n 0) 1 73 := ⟨by decide +kernel, rfl⟩
theorem dX8_reads_73 : DD cX8_reads 73 (.bipush 58) 2 75 := ⟨by decide +kernel, rfl⟩
theorem dX8_reads_75 : DD cX8_reads 75 (.invokevirtual 228) 3 78 := ⟨by decide +kernel, rfl⟩
theorem dX8_reads_78 : DD cX8_reads 78 (.invokevirtual 231) 3 81 := ⟨by decide +kernel, rfl⟩
theorem dX8_reads_81 : DD cX8_reads 81 (.aload_n 0) 1 82 := ⟨by decide +kernel, rfl⟩
theorem dX8_reads_82 : DD cX8_reads 82 (.getfield 200) 3 85 := ⟨by decide +kernel, rfl⟩
theorem dX8_reads_85 : DD cX8_reads 85 (.ifCond .eq 4) 3 88 := ⟨by decide +kernel, rfl⟩
theorem dX8_reads_88 : DD cX8_reads 88 (.return_) 1 89 := ⟨by decide +kernel, rfl⟩
theorem dX8_reads_89 : DD cX8_reads 89 (.aload_n 0) 1 90 := ⟨by decide +kernel, rfl⟩
theorem dX8_reads_90 : DD cX8_reads 90 (.invokevirtual 235) 3 93 := ⟨by decide +kernel, rfl⟩
theorem dX8_reads_93 : DD cX8_reads 93 (.aload_n 0) 1 94 := ⟨by decide +kernel, rfl⟩
theorem dX8_reads_94 : DD cX8_reads 94 (.getfield 9) 3 97 := ⟨by decide +kernel, rfl⟩
theorem dX8_reads_97 : DD cX8_reads 97 (.iload_n 2) 1 98 := ⟨by decide +kernel, rfl⟩
theorem dX8_reads_98 : DD cX8_reads 98 (.iconst 3) 1 99 := ⟨by decide +kernel, rfl⟩
theorem dX8_reads_99 : DD cX8_reads 99 (.iadd) 1 100 := ⟨by decide +kernel, rfl⟩
theorem dX8_reads_100 : DD cX8_reads 100 (.aload_n 0) 1 101 := ⟨by decide +kernel, rfl⟩
theorem dX8_reads_101 : DD cX8_reads 101 (.invokevirtual 245) 3 104 := ⟨by decide +kernel, rfl⟩
theorem dX8_reads_104 : DD cX8_reads 104 (.iastore) 1 105 := ⟨by decide +kernel, rfl⟩
theorem dX8_reads_105 : DD cX8_reads 105 (.aload_n 0) 1 106 := ⟨by decide +kernel, rfl⟩
theorem dX8_reads_106 : DD cX8_reads 106 (.aload_n 0) 1 107 := ⟨by decide +kernel, rfl⟩
theorem dX8_reads_107 : DD cX8_reads 107 (.getfield 9) 3 110 := ⟨by decide +kernel, rfl⟩
theorem dX8_reads_110 : DD cX8_reads 110 (.iload_n 2) 1 111 := ⟨by decide +kernel, rfl⟩
theorem dX8_reads_111 : DD cX8_reads 111 (.iconst 3) 1 112 := ⟨by decide +kernel, rfl⟩
theorem dX8_reads_112 : DD cX8_reads 112 (.iadd) 1 113 := ⟨by decide +kernel, rfl⟩
theorem dX8_reads_113 : DD cX8_reads 113 (.iaload) 1 114 := ⟨by decide +kernel, rfl⟩
theorem dX8_reads_114 : DD cX8_reads 114 (.ifCond .lt 7) 3 117 := ⟨by decide +kernel, rfl⟩
theorem dX8_reads_117 : DD cX8_reads 117 (.iconst 1) 1 118 := ⟨by decide +kernel, rfl⟩
theorem dX8_reads_118 : DD cX8_reads 118 (.goto 4) 3 121 := ⟨by decide +kernel, rfl⟩
theorem dX8_reads_121 : DD cX8_reads 121 (.iconst 0) 1 122 := ⟨by decide +kernel, rfl⟩
theorem dX8_reads_122 : DD cX8_reads 122 (.invokevirtual 231) 3 125 := ⟨by decide +kernel, rfl⟩
theorem dX8_reads_125 : DD cX8_reads 125 (.aload_n 0) 1 126 := ⟨by decide +kernel, rfl⟩
theorem dX8_reads_126 : DD cX8_reads 126 (.getfield 200) 3 129 := ⟨by decide +kernel, rfl⟩
theorem dX8_reads_129 : DD cX8_reads 129 (.ifCond .eq 4) 3 132 := ⟨by decide +kernel, rfl⟩
theorem dX8_reads_132 : DD cX8_reads 132 (.return_) 1 133 := ⟨by decide +kernel, rfl⟩
theorem dX8_reads_133 : DD cX8_reads 133 (.aload_n 0) 1 134 := ⟨by decide +kernel, rfl⟩
theorem dX8_reads_134 : DD cX8_reads 134 (.getfield 9) 3 137 := ⟨by decide +kernel, rfl⟩
theorem dX8_reads_137 : DD cX8_reads 137 (.iload_n 1) 1 138 := ⟨by decide +kernel, rfl⟩
theorem dX8_reads_138 : DD cX8_reads 138 (.dup2) 1 139 := ⟨by decide +kernel, rfl⟩
theorem dX8_reads_139 : DD cX8_reads 139 (.iaload) 1 140 := ⟨by decide +kernel, rfl⟩
theorem dX8_reads_140 : DD cX8_reads 140 (.iconst 1) 1 141 := ⟨by decide +kernel, rfl⟩
theorem dX8_reads_141 : DD cX8_reads 141 (.iadd) 1 142 := ⟨by decide +kernel, rfl⟩
theorem dX8_reads_142 : DD cX8_reads 142 (.iastore) 1 143 := ⟨by decide +kernel, rfl⟩
theorem dX8_reads_143 : DD cX8_reads 143 (.aload_n 0) 1 144 := ⟨by decide +kernel, rfl⟩
theorem dX8_reads_144 : DD cX8_reads 144 (.invokevirtual 235) 3 147 := ⟨by decide +kernel, rfl⟩
theorem dX8_reads_147 : DD cX8_reads 147 (.return_) 1 148 := ⟨by decide +kernel, rfl⟩
theorem dX8_way_0 : DD cX8_way 0 (.aload_n 0) 1 1 := ⟨by decide +kernel, rfl⟩
theorem dX8_way_1 : DD cX8_way 1 (.getfield 9) 3 4 := ⟨by decide +kernel, rfl⟩
theorem dX8_way_4 : DD cX8_way 4 (.iconst 1) 1 5 := ⟨by decide +kernel, rfl⟩
theorem dX8_way_5 : DD cX8_way 5 (.iaload) 1 6 := ⟨by decide +kernel, rfl⟩
theorem dX8_way_6 : DD cX8_way 6 (.bipush 6) 2 8 := ⟨by decide +kernel, rfl⟩
theorem dX8_way_8 : DD cX8_way 8 (.if_icmp .ne 10) 3 11 := ⟨by decide +kernel, rfl⟩
theorem dX8_way_11 : DD cX8_way 11 (.aload_n 0) 1 12 := ⟨by decide +kernel, rfl⟩
theorem dX8_way_12 : DD cX8_way 12 (.ldc 55) 2 14 := ⟨by decide +kernel, rfl⟩
theorem dX8_way_14 : DD cX8_way 14 (.invokevirtual 51) 3 17 := ⟨by decide +kernel, rfl⟩
theorem dX8_way_17 : DD cX8_way 17 (.ireturn) 1 18 := ⟨by decide +kernel, rfl⟩
theorem dX8_way_18 : DD cX8_way 18 (.bipush 110) 2 20 := ⟨by decide +kernel, rfl⟩
theorem dX8_way_20 : DD cX8_way 20 (.bipush 25) 2 22 := ⟨by decide +kernel, rfl⟩
theorem dX8_way_22 : DD cX8_way 22 (.aload_n 0) 1 23 := ⟨by decide +kernel, rfl⟩
theorem dX8_way_23 : DD cX8_way 23 (.getfield 9) 3 26 := ⟨by decide +kernel, rfl⟩
theorem dX8_way_26 : DD cX8_way 26 (.iconst 1) 1 27 := ⟨by decide +kernel, rfl⟩
theorem dX8_way_27 : DD cX8_way 27 (.iaload) 1 28 := ⟨by decide +kernel, rfl⟩
theorem dX8_way_28 : DD cX8_way 28 (.imul) 1 29 := ⟨by decide +kernel, rfl⟩
theorem dX8_way_29 : DD cX8_way 29 (.iadd) 1 30 := ⟨by decide +kernel, rfl⟩
theorem dX8_way_30 : DD cX8_way 30 (.istore_n 1) 1 31 := ⟨by decide +kernel, rfl⟩
theorem dX8_way_31 : DD cX8_way 31 (.aload_n 0) 1 32 := ⟨by decide +kernel, rfl⟩
theorem dX8_way_32 : DD cX8_way 32 (.getfield 9) 3 35 := ⟨by decide +kernel, rfl⟩
theorem dX8_way_35 : DD cX8_way 35 (.iload_n 1) 1 36 := ⟨by decide +kernel, rfl⟩
theorem dX8_way_36 : DD cX8_way 36 (.iconst 0) 1 37 := ⟨by decide +kernel, rfl⟩
theorem dX8_way_37 : DD cX8_way 37 (.iastore) 1 38 := ⟨by decide +kernel, rfl⟩
theorem dX8_way_38 : DD cX8_way 38 (.aload_n 0) 1 39 := ⟨by decide +kernel, rfl⟩
theorem dX8_way_39 : DD cX8_way 39 (.iconst 0) 1 40 := ⟨by decide +kernel, rfl⟩
theorem dX8_way_40 : DD cX8_way 40 (.putfield 169) 3 43 := ⟨by decide +kernel, rfl⟩
theorem dX8_way_43 : DD cX8_way 43 (.aload_n 0) 1 44 := ⟨by decide +kernel, rfl⟩
theorem dX8_way_44 : DD cX8_way 44 (.iconst 0) 1 45 := ⟨by decide +kernel, rfl⟩
theorem dX8_way_45 : DD cX8_way 45 (.putfield 200) 3 48 := ⟨by decide +kernel, rfl⟩
theorem dX8_way_48 : DD cX8_way 48 (.aload_n 0) 1 49 := ⟨by decide +kernel, rfl⟩
theorem dX8_way_49 : DD cX8_way 49 (.invokevirtual 235) 3 52 := ⟨by decide +kernel, rfl⟩
theorem dX8_way_52 : DD cX8_way 52 (.aload_n 0) 1 53 := ⟨by decide +kernel, rfl⟩
theorem dX8_way_53 : DD cX8_way 53 (.iload_n 1) 1 54 := ⟨by decide +kernel, rfl⟩
theorem dX8_way_54 : DD cX8_way 54 (.invokevirtual 248) 3 57 := ⟨by decide +kernel, rfl⟩
theorem dX8_way_57 : DD cX8_way 57 (.aload_n 0) 1 58 := ⟨by decide +kernel, rfl⟩
theorem dX8_way_58 : DD cX8_way 58 (.getfield 200) 3 61 := ⟨by decide +kernel, rfl⟩
theorem dX8_way_61 : DD cX8_way 61 (.ifCond .ne 39) 3 64 := ⟨by decide +kernel, rfl⟩
theorem dX8_way_64 : DD cX8_way 64 (.aload_n 0) 1 65 := ⟨by decide +kernel, rfl⟩
theorem dX8_way_65 : DD cX8_way 65 (.getfield 181) 3 68 := ⟨by decide +kernel, rfl⟩
theorem dX8_way_68 : DD cX8_way 68 (.ifCond .eq 32) 3 71 := ⟨by decide +kernel, rfl⟩
theorem dX8_way_71 : DD cX8_way 71 (.aload_n 0) 1 72 := ⟨by decide +kernel, rfl⟩
theorem dX8_way_72 : DD cX8_way 72 (.aload_n 0) 1 73 := ⟨by decide +kernel, rfl⟩
theorem dX8_way_73 : DD cX8_way 73 (.bipush 59) 2 75 := ⟨by decide +kernel, rfl⟩
theorem dX8_way_75 : DD cX8_way 75 (.invokevirtual 228) 3 78 := ⟨by decide +kernel, rfl⟩
theorem dX8_way_78 : DD cX8_way 78 (.invokevirtual 231) 3 81 := ⟨by decide +kernel, rfl⟩
theorem dX8_way_81 : DD cX8_way 81 (.aload_n 0) 1 82 := ⟨by decide +kernel, rfl⟩
theorem dX8_way_82 : DD cX8_way 82 (.getfield 200) 3 85 := ⟨by decide +kernel, rfl⟩
theorem dX8_way_85 : DD cX8_way 85 (.ifCond .ne (-28)) 3 88 := ⟨by decide +kernel, rfl⟩
theorem dX8_way_88 : DD cX8_way 88 (.aload_n 0) 1 89 := ⟨by decide +kernel, rfl⟩
theorem dX8_way_89 : DD cX8_way 89 (.invokevirtual 235) 3 92 := ⟨by decide +kernel, rfl⟩
theorem dX8_way_92 : DD cX8_way 92 (.aload_n 0) 1 93 := ⟨by decide +kernel, rfl⟩
theorem dX8_way_93 : DD cX8_way 93 (.iload_n 1) 1 94 := ⟨by decide +kernel, rfl⟩
theorem dX8_way_94 : DD cX8_way 94 (.invokevirtual 248) 3 97 := ⟨by decide +kernel, rfl⟩
theorem dX8_way_97 : DD cX8_way 97 (.goto (-40)) 3 100 := ⟨by decide +kernel, rfl⟩
theorem dX8_way_100 : DD cX8_way 100 (.aload_n 0) 1 101 := ⟨by decide +kernel, rfl⟩
theorem dX8_way_101 : DD cX8_way 101 (.iconst 0) 1 102 := ⟨by decide +kernel, rfl⟩
theorem dX8_way_102 : DD cX8_way 102 (.putfield 166) 3 105 := ⟨by decide +kernel, rfl⟩
theorem dX8_way_105 : DD cX8_way 105 (.aload_n 0) 1 106 := ⟨by decide +kernel, rfl⟩
theorem dX8_way_106 : DD cX8_way 106 (.getfield 200) 3 109 := ⟨by decide +kernel, rfl⟩
theorem dX8_way_109 : DD cX8_way 109 (.ifCond .eq 10) 3 112 := ⟨by decide +kernel, rfl⟩
theorem dX8_way_112 : DD cX8_way 112 (.iconst (-1)) 1 113 := ⟨by decide +kernel, rfl⟩
theorem dX8_way_113 : DD cX8_way 113 (.aload_n 0) 1 114 := ⟨by decide +kernel, rfl⟩
theorem dX8_way_114 : DD cX8_way 114 (.getfield 172) 3 117 := ⟨by decide +kernel, rfl⟩
theorem dX8_way_117 : DD cX8_way 117 (.isub) 1 118 := ⟨by decide +kernel, rfl⟩
theorem dX8_way_118 : DD cX8_way 118 (.ireturn) 1 119 := ⟨by decide +kernel, rfl⟩
theorem dX8_way_119 : DD cX8_way 119 (.aload_n 0) 1 120 := ⟨by decide +kernel, rfl⟩
theorem dX8_way_120 : DD cX8_way 120 (.getfield 9) 3 123 := ⟨by decide +kernel, rfl⟩
theorem dX8_way_123 : DD cX8_way 123 (.iconst 1) 1 124 := ⟨by decide +kernel, rfl⟩
theorem dX8_way_124 : DD cX8_way 124 (.dup2) 1 125 := ⟨by decide +kernel, rfl⟩
theorem dX8_way_125 : DD cX8_way 125 (.iaload) 1 126 := ⟨by decide +kernel, rfl⟩
theorem dX8_way_126 : DD cX8_way 126 (.iconst 1) 1 127 := ⟨by decide +kernel, rfl⟩
theorem dX8_way_127 : DD cX8_way 127 (.iadd) 1 128 := ⟨by decide +kernel, rfl⟩
theorem dX8_way_128 : DD cX8_way 128 (.iastore) 1 129 := ⟨by decide +kernel, rfl⟩
theorem dX8_way_129 : DD cX8_way 129 (.aload_n 0) 1 130 := ⟨by decide +kernel, rfl⟩
theorem dX8_way_130 : DD cX8_way 130 (.getfield 9) 3 133 := ⟨by decide +kernel, rfl⟩
theorem dX8_way_133 : DD cX8_way 133 (.iconst 1) 1 134 := ⟨by decide +kernel, rfl⟩
theorem dX8_way_134 : DD cX8_way 134 (.iaload) 1 135 := ⟨by decide +kernel, rfl⟩
theorem dX8_way_135 : DD cX8_way 135 (.iconst 1) 1 136 := ⟨by decide +kernel, rfl⟩
theorem dX8_way_136 : DD cX8_way 136 (.isub) 1 137 := ⟨by decide +kernel, rfl⟩
theorem dX8_way_137 : DD cX8_way 137 (.ireturn) 1 138 := ⟨by decide +kernel, rfl⟩
theorem dX8_isWay_0 : DD cX8_isWay 0 (.iload_n 1) 1 1 := ⟨by decide +kernel, rfl⟩
theorem dX8_isWay_1 : DD cX8_isWay 1 (.i2l) 1 2 := ⟨by decide +kernel, rfl⟩
theorem dX8_isWay_2 : DD cX8_isWay 2 (.lconst 0) 1 3 := ⟨by decide +kernel, rfl⟩
theorem dX8_isWay_3 : DD cX8_isWay 3 (.aload_n 0) 1 4 := ⟨by decide +kernel, rfl⟩
theorem dX8_isWay_4 : DD cX8_isWay 4 (.getfield 9) 3 7 := ⟨by decide +kernel, rfl⟩
theorem dX8_isWay_7 : DD cX8_isWay 7 (.iconst 1) 1 8 := ⟨by decide +kernel, rfl⟩
theorem dX8_isWay_8 : DD cX8_isWay 8 (.iaload) 1 9 := ⟨by decide +kernel, rfl⟩
theorem dX8_isWay_9 : DD cX8_isWay 9 (.iconst 1) 1 10 := ⟨by decide +kernel, rfl⟩
theorem dX8_isWay_10 : DD cX8_isWay 10 (.isub) 1 11 := ⟨by decide +kernel, rfl⟩
theorem dX8_isWay_11 : DD cX8_isWay 11 (.i2l) 1 12 := ⟨by decide +kernel, rfl⟩
theorem dX8_isWay_12 : DD cX8_isWay 12 (.invokestatic 39) 3 15 := ⟨by decide +kernel, rfl⟩
theorem dX8_isWay_15 : DD cX8_isWay 15 (.ireturn) 1 16 := ⟨by decide +kernel, rfl⟩
theorem dX8_rules_0 : DD cX8_rules 0 (.aload_n 0) 1 1 := ⟨by decide +kernel, rfl⟩
theorem dX8_rules_1 : DD cX8_rules 1 (.iload_n 1) 1 2 := ⟨by decide +kernel, rfl⟩
theorem dX8_rules_2 : DD cX8_rules 2 (.invokevirtual 251) 3 5 := ⟨by decide +kernel, rfl⟩
theorem dX8_rules_5 : DD cX8_rules 5 (.ifCond .eq 18) 3 8 := ⟨by decide +kernel, rfl⟩
theorem dX8_rules_8 : DD cX8_rules 8 (.aload_n 0) 1 9 := ⟨by decide +kernel, rfl⟩
theorem dX8_rules_9 : DD cX8_rules 9 (.getfield 9) 3 12 := ⟨by decide +kernel, rfl⟩
theorem dX8_rules_12 : DD cX8_rules 12 (.bipush 110) 2 14 := ⟨by decide +kernel, rfl⟩
theorem dX8_rules_14 : DD cX8_rules 14 (.bipush 25) 2 16 := ⟨by decide +kernel, rfl⟩
theorem dX8_rules_16 : DD cX8_rules 16 (.iload_n 1) 1 17 := ⟨by decide +kernel, rfl⟩
theorem dX8_rules_17 : DD cX8_rules 17 (.imul) 1 18 := ⟨by decide +kernel, rfl⟩
theorem dX8_rules_18 : DD cX8_rules 18 (.iadd) 1 19 := ⟨by decide +kernel, rfl⟩
theorem dX8_rules_19 : DD cX8_rules 19 (.iaload) 1 20 := ⟨by decide +kernel, rfl⟩
theorem dX8_rules_20 : DD cX8_rules 20 (.goto 9) 3 23 := ⟨by decide +kernel, rfl⟩
theorem dX8_rules_23 : DD cX8_rules 23 (.aload_n 0) 1 24 := ⟨by decide +kernel, rfl⟩
theorem dX8_rules_24 : DD cX8_rules 24 (.ldc 38) 2 26 := ⟨by decide +kernel, rfl⟩
theorem dX8_rules_26 : DD cX8_rules 26 (.invokevirtual 51) 3 29 := ⟨by decide +kernel, rfl⟩
theorem dX8_rules_29 : DD cX8_rules 29 (.ireturn) 1 30 := ⟨by decide +kernel, rfl⟩
theorem dX8_holds_0 : DD cX8_holds 0 (.aload_n 0) 1 1 := ⟨by decide +kernel, rfl⟩
theorem dX8_holds_1 : DD cX8_holds 1 (.iload_n 1) 1 2 := ⟨by decide +kernel, rfl⟩
theorem dX8_holds_2 : DD cX8_holds 2 (.invokevirtual 251) 3 5 := ⟨by decide +kernel, rfl⟩
theorem dX8_holds_5 : DD cX8_holds 5 (.ifCond .eq 57) 3 8 := ⟨by decide +kernel, rfl⟩
theorem dX8_holds_8 : DD cX8_holds 8 (.iload_n 2) 1 9 := ⟨by decide +kernel, rfl⟩
theorem dX8_holds_9 : DD cX8_holds 9 (.i2l) 1 10 := ⟨by decide +kernel, rfl⟩
theorem dX8_holds_10 : DD cX8_holds 10 (.ldc2_w 95) 3 13 := ⟨by decide +kernel, rfl⟩
theorem dX8_holds_13 : DD cX8_holds 13 (.ldc2_w 97) 3 16 := ⟨by decide +kernel, rfl⟩
theorem dX8_holds_16 : DD cX8_holds 16 (.invokestatic 39) 3 19 := ⟨by decide +kernel, rfl⟩
theorem dX8_holds_19 : DD cX8_holds 19 (.ifCond .eq 43) 3 22 := ⟨by decide +kernel, rfl⟩
theorem dX8_holds_22 : DD cX8_holds 22 (.iload_n 3) 1 23 := ⟨by decide +kernel, rfl⟩
theorem dX8_holds_23 : DD cX8_holds 23 (.i2l) 1 24 := ⟨by decide +kernel, rfl⟩
theorem dX8_holds_24 : DD cX8_holds 24 (.ldc2_w 99) 3 27 := ⟨by decide +kernel, rfl⟩
theorem dX8_holds_27 : DD cX8_holds 27 (.ldc2_w 62) 3 30 := ⟨by decide +kernel, rfl⟩
theorem dX8_holds_30 : DD cX8_holds 30 (.invokestatic 39) 3 33 := ⟨by decide +kernel, rfl⟩
theorem dX8_holds_33 : DD cX8_holds 33 (.ifCond .eq 29) 3 36 := ⟨by decide +kernel, rfl⟩
theorem dX8_holds_36 : DD cX8_holds 36 (.iload 4) 2 38 := ⟨by decide +kernel, rfl⟩
theorem dX8_holds_38 : DD cX8_holds 38 (.i2l) 1 39 := ⟨by decide +kernel, rfl⟩
theorem dX8_holds_39 : DD cX8_holds 39 (.lconst 0) 1 40 := ⟨by decide +kernel, rfl⟩
theorem dX8_holds_40 : DD cX8_holds 40 (.ldc2_w 62) 3 43 := ⟨by decide +kernel, rfl⟩
theorem dX8_holds_43 : DD cX8_holds 43 (.invokestatic 39) 3 46 := ⟨by decide +kernel, rfl⟩
theorem dX8_holds_46 : DD cX8_holds 46 (.ifCond .eq 16) 3 49 := ⟨by decide +kernel, rfl⟩
theorem dX8_holds_49 : DD cX8_holds 49 (.iload 5) 2 51 := ⟨by decide +kernel, rfl⟩
theorem dX8_holds_51 : DD cX8_holds 51 (.i2l) 1 52 := ⟨by decide +kernel, rfl⟩
theorem dX8_holds_52 : DD cX8_holds 52 (.lconst 0) 1 53 := ⟨by decide +kernel, rfl⟩
theorem dX8_holds_53 : DD cX8_holds 53 (.ldc2_w 62) 3 56 := ⟨by decide +kernel, rfl⟩
theorem dX8_holds_56 : DD cX8_holds 56 (.invokestatic 39) 3 59 := ⟨by decide +kernel, rfl⟩
theorem dX8_holds_59 : DD cX8_holds 59 (.ifCond .ne 10) 3 62 := ⟨by decide +kernel, rfl⟩
theorem dX8_holds_62 : DD cX8_holds 62 (.aload_n 0) 1 63 := ⟨by decide +kernel, rfl⟩
theorem dX8_holds_63 : DD cX8_holds 63 (.ldc 38) 2 65 := ⟨by decide +kernel, rfl⟩
theorem dX8_holds_65 : DD cX8_holds 65 (.invokevirtual 51) 3 68 := ⟨by decide +kernel, rfl⟩
theorem dX8_holds_68 : DD cX8_holds 68 (.ireturn) 1 69 := ⟨by decide +kernel, rfl⟩
theorem dX8_holds_69 : DD cX8_holds 69 (.aload_n 0) 1 70 := ⟨by decide +kernel, rfl⟩
theorem dX8_holds_70 : DD cX8_holds 70 (.getfield 9) 3 73 := ⟨by decide +kernel, rfl⟩
theorem dX8_holds_73 : DD cX8_holds 73 (.iload_n 1) 1 74 := ⟨by decide +kernel, rfl⟩
theorem dX8_holds_74 : DD cX8_holds 74 (.iload_n 2) 1 75 := ⟨by decide +kernel, rfl⟩
theorem dX8_holds_75 : DD cX8_holds 75 (.iload_n 3) 1 76 := ⟨by decide +kernel, rfl⟩
theorem dX8_holds_76 : DD cX8_holds 76 (.iload 4) 2 78 := ⟨by decide +kernel, rfl⟩
theorem dX8_holds_78 : DD cX8_holds 78 (.iload 5) 2 80 := ⟨by decide +kernel, rfl⟩
theorem dX8_holds_80 : DD cX8_holds 80 (.invokestatic 91) 3 83 := ⟨by decide +kernel, rfl⟩
theorem dX8_holds_83 : DD cX8_holds 83 (.istore 6) 2 85 := ⟨by decide +kernel, rfl⟩
theorem dX8_holds_85 : DD cX8_holds 85 (.iload 6) 2 87 := ⟨by decide +kernel, rfl⟩
theorem dX8_holds_87 : DD cX8_holds 87 (.ifCond .ge 12) 3 90 := ⟨by decide +kernel, rfl⟩
theorem dX8_holds_90 : DD cX8_holds 90 (.aload_n 0) 1 91 := ⟨by decide +kernel, rfl⟩
theorem dX8_holds_91 : DD cX8_holds 91 (.ldc 158) 2 93 := ⟨by decide +kernel, rfl⟩
theorem dX8_holds_93 : DD cX8_holds 93 (.invokevirtual 51) 3 96 := ⟨by decide +kernel, rfl⟩
theorem dX8_holds_96 : DD cX8_holds 96 (.goto 5) 3 99 := ⟨by decide +kernel, rfl⟩
theorem dX8_holds_99 : DD cX8_holds 99 (.iload 6) 2 101 := ⟨by decide +kernel, rfl⟩
theorem dX8_holds_101 : DD cX8_holds 101 (.ireturn) 1 102 := ⟨by decide +kernel, rfl⟩
theorem dX8_isSheet_0 : DD cX8_isSheet 0 (.iload_n 0) 1 1 := ⟨by decide +kernel, rfl⟩
theorem dX8_isSheet_1 : DD cX8_isSheet 1 (.i2l) 1 2 := ⟨by decide +kernel, rfl⟩
theorem dX8_isSheet_2 : DD cX8_isSheet 2 (.lconst 0) 1 3 := ⟨by decide +kernel, rfl⟩
theorem dX8_isSheet_3 : DD cX8_isSheet 3 (.ldc2_w 254) 3 6 := ⟨by decide +kernel, rfl⟩
theorem dX8_isSheet_6 : DD cX8_isSheet 6 (.invokestatic 39) 3 9 := ⟨by decide +kernel, rfl⟩
theorem dX8_isSheet_9 : DD cX8_isSheet 9 (.ireturn) 1 10 := ⟨by decide +kernel, rfl⟩
theorem dX8_lowest_0 : DD cX8_lowest 0 (.iload_n 0) 1 1 := ⟨by decide +kernel, rfl⟩
theorem dX8_lowest_1 : DD cX8_lowest 1 (.bipush 8) 2 3 := ⟨by decide +kernel, rfl⟩
theorem dX8_lowest_3 : DD cX8_lowest 3 (.if_icmp .ne 10) 3 6 := ⟨by decide +kernel, rfl⟩
theorem dX8_lowest_6 : DD cX8_lowest 6 (.lload_n 1) 1 7 := ⟨by decide +kernel, rfl⟩
theorem dX8_lowest_7 : DD cX8_lowest 7 (.l2i) 1 8 := ⟨by decide +kernel, rfl⟩
theorem dX8_lowest_8 : DD cX8_lowest 8 (.i2b) 1 9 := ⟨by decide +kernel, rfl⟩
theorem dX8_lowest_9 : DD cX8_lowest 9 (.i2l) 1 10 := ⟨by decide +kernel, rfl⟩
theorem dX8_lowest_10 : DD cX8_lowest 10 (.goto 17) 3 13 := ⟨by decide +kernel, rfl⟩
theorem dX8_lowest_13 : DD cX8_lowest 13 (.iload_n 0) 1 14 := ⟨by decide +kernel, rfl⟩
theorem dX8_lowest_14 : DD cX8_lowest 14 (.bipush 16) 2 16 := ⟨by decide +kernel, rfl⟩
theorem dX8_lowest_16 : DD cX8_lowest 16 (.if_icmp .ne 10) 3 19 := ⟨by decide +kernel, rfl⟩
theorem dX8_lowest_19 : DD cX8_lowest 19 (.lload_n 1) 1 20 := ⟨by decide +kernel, rfl⟩
theorem dX8_lowest_20 : DD cX8_lowest 20 (.l2i) 1 21 := ⟨by decide +kernel, rfl⟩
theorem dX8_lowest_21 : DD cX8_lowest 21 (.i2s) 1 22 := ⟨by decide +kernel, rfl⟩
theorem dX8_lowest_22 : DD cX8_lowest 22 (.i2l) 1 23 := ⟨by decide +kernel, rfl⟩
theorem dX8_lowest_23 : DD cX8_lowest 23 (.goto 4) 3 26 := ⟨by decide +kernel, rfl⟩
theorem dX8_lowest_26 : DD cX8_lowest 26 (.lload_n 1) 1 27 := ⟨by decide +kernel, rfl⟩
theorem dX8_lowest_27 : DD cX8_lowest 27 (.lreturn) 1 28 := ⟨by decide +kernel, rfl⟩
theorem dX8_sheet_0 : DD cX8_sheet 0 (.iload_n 1) 1 1 := ⟨by decide +kernel, rfl⟩
theorem dX8_sheet_1 : DD cX8_sheet 1 (.invokestatic 256) 3 4 := ⟨by decide +kernel, rfl⟩
theorem dX8_sheet_4 : DD cX8_sheet 4 (.ifCond .eq 25) 3 7 := ⟨by decide +kernel, rfl⟩
theorem dX8_sheet_7 : DD cX8_sheet 7 (.iload_n 2) 1 8 := ⟨by decide +kernel, rfl⟩
theorem dX8_sheet_8 : DD cX8_sheet 8 (.ifCond .eq 28) 3 11 := ⟨by decide +kernel, rfl⟩
theorem dX8_sheet_11 : DD cX8_sheet 11 (.iload_n 2) 1 12 := ⟨by decide +kernel, rfl⟩
theorem dX8_sheet_12 : DD cX8_sheet 12 (.bipush 8) 2 14 := ⟨by decide +kernel, rfl⟩
theorem dX8_sheet_14 : DD cX8_sheet 14 (.if_icmp .eq 22) 3 17 := ⟨by decide +kernel, rfl⟩
theorem dX8_sheet_17 : DD cX8_sheet 17 (.iload_n 2) 1 18 := ⟨by decide +kernel, rfl⟩
theorem dX8_sheet_18 : DD cX8_sheet 18 (.bipush 16) 2 20 := ⟨by decide +kernel, rfl⟩
theorem dX8_sheet_20 : DD cX8_sheet 20 (.if_icmp .eq 16) 3 23 := ⟨by decide +kernel, rfl⟩
theorem dX8_sheet_23 : DD cX8_sheet 23 (.iload_n 2) 1 24 := ⟨by decide +kernel, rfl⟩
theorem dX8_sheet_24 : DD cX8_sheet 24 (.bipush 64) 2 26 := ⟨by decide +kernel, rfl⟩
theorem dX8_sheet_26 : DD cX8_sheet 26 (.if_icmp .eq 10) 3 29 := ⟨by decide +kernel, rfl⟩
theorem dX8_sheet_29 : DD cX8_sheet 29 (.aload_n 0) 1 30 := ⟨by decide +kernel, rfl⟩
theorem dX8_sheet_30 : DD cX8_sheet 30 (.ldc 38) 2 32 := ⟨by decide +kernel, rfl⟩
theorem dX8_sheet_32 : DD cX8_sheet 32 (.invokevirtual 51) 3 35 := ⟨by decide +kernel, rfl⟩
theorem dX8_sheet_35 : DD cX8_sheet 35 (.ireturn) 1 36 := ⟨by decide +kernel, rfl⟩
theorem dX8_sheet_36 : DD cX8_sheet 36 (.iload_n 3) 1 37 := ⟨by decide +kernel, rfl⟩
theorem dX8_sheet_37 : DD cX8_sheet 37 (.ifCond .ge 11) 3 40 := ⟨by decide +kernel, rfl⟩
theorem dX8_sheet_40 : DD cX8_sheet 40 (.aload_n 0) 1 41 := ⟨by decide +kernel, rfl⟩
theorem dX8_sheet_41 : DD cX8_sheet 41 (.ldc_w 259) 3 44 := ⟨by decide +kernel, rfl⟩
theorem dX8_sheet_44 : DD cX8_sheet 44 (.invokevirtual 51) 3 47 := ⟨by decide +kernel, rfl⟩
theorem dX8_sheet_47 : DD cX8_sheet 47 (.ireturn) 1 48 := ⟨by decide +kernel, rfl⟩
theorem dX8_sheet_48 : DD cX8_sheet 48 (.iload_n 3) 1 49 := ⟨by decide +kernel, rfl⟩
theorem dX8_sheet_49 : DD cX8_sheet 49 (.bipush 40) 2 51 := ⟨by decide +kernel, rfl⟩
theorem dX8_sheet_51 : DD cX8_sheet 51 (.if_icmp .le 10) 3 54 := ⟨by decide +kernel, rfl⟩
theorem dX8_sheet_54 : DD cX8_sheet 54 (.aload_n 0) 1 55 := ⟨by decide +kernel, rfl⟩
theorem dX8_sheet_55 : DD cX8_sheet 55 (.ldc 38) 2 57 := ⟨by decide +kernel, rfl⟩
theorem dX8_sheet_57 : DD cX8_sheet 57 (.invokevirtual 51) 3 60 := ⟨by decide +kernel, rfl⟩
theorem dX8_sheet_60 : DD cX8_sheet 60 (.ireturn) 1 61 := ⟨by decide +kernel, rfl⟩
theorem dX8_sheet_61 : DD cX8_sheet 61 (.aload_n 0) 1 62 := ⟨by decide +kernel, rfl⟩
theorem dX8_sheet_62 : DD cX8_sheet 62 (.getfield 25) 3 65 := ⟨by decide +kernel, rfl⟩
theorem dX8_sheet_65 : DD cX8_sheet 65 (.iload_n 1) 1 66 := ⟨by decide +kernel, rfl⟩
theorem dX8_sheet_66 : DD cX8_sheet 66 (.iload_n 2) 1 67 := ⟨by decide +kernel, rfl⟩
theorem dX8_sheet_67 : DD cX8_sheet 67 (.iastore) 1 68 := ⟨by decide +kernel, rfl⟩
theorem dX8_sheet_68 : DD cX8_sheet 68 (.aload_n 0) 1 69 := ⟨by decide +kernel, rfl⟩
theorem dX8_sheet_69 : DD cX8_sheet 69 (.getfield 28) 3 72 := ⟨by decide +kernel, rfl⟩
theorem dX8_sheet_72 : DD cX8_sheet 72 (.iload_n 1) 1 73 := ⟨by decide +kernel, rfl⟩
theorem dX8_sheet_73 : DD cX8_sheet 73 (.iload_n 2) 1 74 := ⟨by decide +kernel, rfl⟩
theorem dX8_sheet_74 : DD cX8_sheet 74 (.ifCond .ne 7) 3 77 := ⟨by decide +kernel, rfl⟩
theorem dX8_sheet_77 : DD cX8_sheet 77 (.iconst 0) 1 78 := ⟨by decide +kernel, rfl⟩
theorem dX8_sheet_78 : DD cX8_sheet 78 (.goto 4) 3 81 := ⟨by decide +kernel, rfl⟩
theorem dX8_sheet_81 : DD cX8_sheet 81 (.iload_n 3) 1 82 := ⟨by decide +kernel, rfl⟩
theorem dX8_sheet_82 : DD cX8_sheet 82 (.iastore) 1 83 := ⟨by decide +kernel, rfl⟩
theorem dX8_sheet_83 : DD cX8_sheet 83 (.iconst 0) 1 84 := ⟨by decide +kernel, rfl⟩
theorem dX8_sheet_84 : DD cX8_sheet 84 (.istore 4) 2 86 := ⟨by decide +kernel, rfl⟩
theorem dX8_sheet_86 : DD cX8_sheet 86 (.iload 4) 2 88 := ⟨by decide +kernel, rfl⟩
theorem dX8_sheet_88 : DD cX8_sheet 88 (.bipush 40) 2 90 := ⟨by decide +kernel, rfl⟩
theorem dX8_sheet_90 : DD cX8_sheet 90 (.if_icmp .ge 22) 3 93 := ⟨by decide +kernel, rfl⟩
theorem dX8_sheet_93 : DD cX8_sheet 93 (.aload_n 0) 1 94 := ⟨by decide +kernel, rfl⟩
theorem dX8_sheet_94 : DD cX8_sheet 94 (.getfield 31) 3 97 := ⟨by decide +kernel, rfl⟩
theorem dX8_sheet_97 : DD cX8_sheet 97 (.bipush 40) 2 99 := ⟨by decide +kernel, rfl⟩
theorem dX8_sheet_99 : DD cX8_sheet 99 (.iload_n 1) 1 100 := ⟨by decide +kernel, rfl⟩
theorem dX8_sheet_100 : DD cX8_sheet 100 (.imul) 1 101 := ⟨by decide +kernel, rfl⟩
theorem dX8_sheet_101 : DD cX8_sheet 101 (.iload 4) 2 103 := ⟨by decide +kernel, rfl⟩
theorem dX8_sheet_103 : DD cX8_sheet 103 (.iadd) 1 104 := ⟨by decide +kernel, rfl⟩
theorem dX8_sheet_104 : DD cX8_sheet 104 (.lconst 0) 1 105 := ⟨by decide +kernel, rfl⟩
theorem dX8_sheet_105 : DD cX8_sheet 105 (.lastore) 1 106 := ⟨by decide +kernel, rfl⟩
theorem dX8_sheet_106 : DD cX8_sheet 106 (.iinc 4 1) 3 109 := ⟨by decide +kernel, rfl⟩
theorem dX8_sheet_109 : DD cX8_sheet 109 (.goto (-23)) 3 112 := ⟨by decide +kernel, rfl⟩
theorem dX8_sheet_112 : DD cX8_sheet 112 (.aload_n 0) 1 113 := ⟨by decide +kernel, rfl⟩
theorem dX8_sheet_113 : DD cX8_sheet 113 (.getfield 28) 3 116 := ⟨by decide +kernel, rfl⟩
theorem dX8_sheet_116 : DD cX8_sheet 116 (.iload_n 1) 1 117 := ⟨by decide +kernel, rfl⟩
theorem dX8_sheet_117 : DD cX8_sheet 117 (.iaload) 1 118 := ⟨by decide +kernel, rfl⟩
theorem dX8_sheet_118 : DD cX8_sheet 118 (.ireturn) 1 119 := ⟨by decide +kernel, rfl⟩
theorem dX8_write_0 : DD cX8_write 0 (.iload_n 1) 1 1 := ⟨by decide +kernel, rfl⟩
theorem dX8_write_1 : DD cX8_write 1 (.invokestatic 256) 3 4 := ⟨by decide +kernel, rfl⟩
theorem dX8_write_4 : DD cX8_write 4 (.ifCond .ne 11) 3 7 := ⟨by decide +kernel, rfl⟩
theorem dX8_write_7 : DD cX8_write 7 (.aload_n 0) 1 8 := ⟨by decide +kernel, rfl⟩
theorem dX8_write_8 : DD cX8_write 8 (.ldc 38) 2 10 := ⟨by decide +kernel, rfl⟩
theorem dX8_write_10 : DD cX8_write 10 (.invokevirtual 51) 3 13 := ⟨by decide +kernel, rfl⟩
theorem dX8_write_13 : DD cX8_write 13 (.i2l) 1 14 := ⟨by decide +kernel, rfl⟩
theorem dX8_write_14 : DD cX8_write 14 (.lreturn) 1 15 := ⟨by decide +kernel, rfl⟩
theorem dX8_write_15 : DD cX8_write 15 (.aload_n 0) 1 16 := ⟨by decide +kernel, rfl⟩
theorem dX8_write_16 : DD cX8_write 16 (.getfield 25) 3 19 := ⟨by decide +kernel, rfl⟩
theorem dX8_write_19 : DD cX8_write 19 (.iload_n 1) 1 20 := ⟨by decide +kernel, rfl⟩
theorem dX8_write_20 : DD cX8_write 20 (.iaload) 1 21 := ⟨by decide +kernel, rfl⟩
theorem dX8_write_21 : DD cX8_write 21 (.ifCond .ne 12) 3 24 := ⟨by decide +kernel, rfl⟩
theorem dX8_write_24 : DD cX8_write 24 (.aload_n 0) 1 25 := ⟨by decide +kernel, rfl⟩
theorem dX8_write_25 : DD cX8_write 25 (.ldc_w 260) 3 28 := ⟨by decide +kernel, rfl⟩
theorem dX8_write_28 : DD cX8_write 28 (.invokevirtual 51) 3 31 := ⟨by decide +kernel, rfl⟩
theorem dX8_write_31 : DD cX8_write 31 (.i2l) 1 32 := ⟨by decide +kernel, rfl⟩
theorem dX8_write_32 : DD cX8_write 32 (.lreturn) 1 33 := ⟨by decide +kernel, rfl⟩
theorem dX8_write_33 : DD cX8_write 33 (.iload_n 2) 1 34 := ⟨by decide +kernel, rfl⟩
theorem dX8_write_34 : DD cX8_write 34 (.i2l) 1 35 := ⟨by decide +kernel, rfl⟩
theorem dX8_write_35 : DD cX8_write 35 (.lconst 0) 1 36 := ⟨by decide +kernel, rfl⟩
theorem dX8_write_36 : DD cX8_write 36 (.aload_n 0) 1 37 := ⟨by decide +kernel, rfl⟩
theorem dX8_write_37 : DD cX8_write 37 (.getfield 28) 3 40 := ⟨by decide +kernel, rfl⟩
theorem dX8_write_40 : DD cX8_write 40 (.iload_n 1) 1 41 := ⟨by decide +kernel, rfl⟩
theorem dX8_write_41 : DD cX8_write 41 (.iaload) 1 42 := ⟨by decide +kernel, rfl⟩
theorem dX8_write_42 : DD cX8_write 42 (.iconst 1) 1 43 := ⟨by decide +kernel, rfl⟩
theorem dX8_write_43 : DD cX8_write 43 (.isub) 1 44 := ⟨by decide +kernel, rfl⟩
theorem dX8_write_44 : DD cX8_write 44 (.i2l) 1 45 := ⟨by decide +kernel, rfl⟩
theorem dX8_write_45 : DD cX8_write 45 (.invokestatic 39) 3 48 := ⟨by decide +kernel, rfl⟩
theorem dX8_write_48 : DD cX8_write 48 (.ifCond .ne 11) 3 51 := ⟨by decide +kernel, rfl⟩
theorem dX8_write_51 : DD cX8_write 51 (.aload_n 0) 1 52 := ⟨by decide +kernel, rfl⟩
theorem dX8_write_52 : DD cX8_write 52 (.ldc 38) 2 54 := ⟨by decide +kernel, rfl⟩
theorem dX8_write_54 : DD cX8_write 54 (.invokevirtual 51) 3 57 := ⟨by decide +kernel, rfl⟩
theorem dX8_write_57 : DD cX8_write 57 (.i2l) 1 58 := ⟨by decide +kernel, rfl⟩
theorem dX8_write_58 : DD cX8_write 58 (.lreturn) 1 59 := ⟨by decide +kernel, rfl⟩
theorem dX8_write_59 : DD cX8_write 59 (.aload_n 0) 1 60 := ⟨by decide +kernel, rfl⟩
theorem dX8_write_60 : DD cX8_write 60 (.getfield 31) 3 63 := ⟨by decide +kernel, rfl⟩
theorem dX8_write_63 : DD cX8_write 63 (.bipush 40) 2 65 := ⟨by decide +kernel, rfl⟩
theorem dX8_write_65 : DD cX8_write 65 (.iload_n 1) 1 66 := ⟨by decide +kernel, rfl⟩
theorem dX8_write_66 : DD cX8_write 66 (.imul) 1 67 := ⟨by decide +kernel, rfl⟩
theorem dX8_write_67 : DD cX8_write 67 (.iload_n 2) 1 68 := ⟨by decide +kernel, rfl⟩
theorem dX8_write_68 : DD cX8_write 68 (.iadd) 1 69 := ⟨by decide +kernel, rfl⟩
theorem dX8_write_69 : DD cX8_write 69 (.laload) 1 70 := ⟨by decide +kernel, rfl⟩
theorem dX8_write_70 : DD cX8_write 70 (.lstore 5) 2 72 := ⟨by decide +kernel, rfl⟩
theorem dX8_write_72 : DD cX8_write 72 (.aload_n 0) 1 73 := ⟨by decide +kernel, rfl⟩
theorem dX8_write_73 : DD cX8_write 73 (.getfield 31) 3 76 := ⟨by decide +kernel, rfl⟩
theorem dX8_write_76 : DD cX8_write 76 (.bipush 40) 2 78 := ⟨by decide +kernel, rfl⟩
theorem dX8_write_78 : DD cX8_write 78 (.iload_n 1) 1 79 := ⟨by decide +kernel, rfl⟩
theorem dX8_write_79 : DD cX8_write 79 (.imul) 1 80 := ⟨by decide +kernel, rfl⟩
theorem dX8_write_80 : DD cX8_write 80 (.iload_n 2) 1 81 := ⟨by decide +kernel, rfl⟩
theorem dX8_write_81 : DD cX8_write 81 (.iadd) 1 82 := ⟨by decide +kernel, rfl⟩
theorem dX8_write_82 : DD cX8_write 82 (.aload_n 0) 1 83 := ⟨by decide +kernel, rfl⟩
theorem dX8_write_83 : DD cX8_write 83 (.getfield 25) 3 86 := ⟨by decide +kernel, rfl⟩
theorem dX8_write_86 : DD cX8_write 86 (.iload_n 1) 1 87 := ⟨by decide +kernel, rfl⟩
theorem dX8_write_87 : DD cX8_write 87 (.iaload) 1 88 := ⟨by decide +kernel, rfl⟩
theorem dX8_write_88 : DD cX8_write 88 (.lload_n 3) 1 89 := ⟨by decide +kernel, rfl⟩
theorem dX8_write_89 : DD cX8_write 89 (.invokestatic 261) 3 92 := ⟨by decide +kernel, rfl⟩
theorem dX8_write_92 : DD cX8_write 92 (.lastore) 1 93 := ⟨by decide +kernel, rfl⟩
theorem dX8_write_93 : DD cX8_write 93 (.lload 5) 2 95 := ⟨by decide +kernel, rfl⟩
theorem dX8_write_95 : DD cX8_write 95 (.lreturn) 1 96 := ⟨by decide +kernel, rfl⟩
theorem dX8_copy_0 : DD cX8_copy 0 (.iload_n 1) 1 1 := ⟨by decide +kernel, rfl⟩
theorem dX8_copy_1 : DD cX8_copy 1 (.invokestatic 256) 3 4 := ⟨by decide +kernel, rfl⟩
theorem dX8_copy_4 : DD cX8_copy 4 (.ifCond .eq 10) 3 7 := ⟨by decide +kernel, rfl⟩
theorem dX8_copy_7 : DD cX8_copy 7 (.iload_n 3) 1 8 := ⟨by decide +kernel, rfl⟩
theorem dX8_copy_8 : DD cX8_copy 8 (.invokestatic 256) 3 11 := ⟨by decide +kernel, rfl⟩
theorem dX8_copy_11 : DD cX8_copy 11 (.ifCond .ne 10) 3 14 := ⟨by decide +kernel, rfl⟩
theorem dX8_copy_14 : DD cX8_copy 14 (.aload_n 0) 1 15 := ⟨by decide +kernel, rfl⟩
theorem dX8_copy_15 : DD cX8_copy 15 (.ldc 38) 2 17 := ⟨by decide +kernel, rfl⟩
theorem dX8_copy_17 : DD cX8_copy 17 (.invokevirtual 51) 3 20 := ⟨by decide +kernel, rfl⟩
theorem dX8_copy_20 : DD cX8_copy 20 (.ireturn) 1 21 := ⟨by decide +kernel, rfl⟩
theorem dX8_copy_21 : DD cX8_copy 21 (.aload_n 0) 1 22 := ⟨by decide +kernel, rfl⟩
theorem dX8_copy_22 : DD cX8_copy 22 (.getfield 25) 3 25 := ⟨by decide +kernel, rfl⟩
theorem dX8_copy_25 : DD cX8_copy 25 (.iload_n 1) 1 26 := ⟨by decide +kernel, rfl⟩
theorem dX8_copy_26 : DD cX8_copy 26 (.iaload) 1 27 := ⟨by decide +kernel, rfl⟩
theorem dX8_copy_27 : DD cX8_copy 27 (.ifCond .eq 12) 3 30 := ⟨by decide +kernel, rfl⟩
theorem dX8_copy_30 : DD cX8_copy 30 (.aload_n 0) 1 31 := ⟨by decide +kernel, rfl⟩
theorem dX8_copy_31 : DD cX8_copy 31 (.getfield 25) 3 34 := ⟨by decide +kernel, rfl⟩
theorem dX8_copy_34 : DD cX8_copy 34 (.iload_n 3) 1 35 := ⟨by decide +kernel, rfl⟩
theorem dX8_copy_35 : DD cX8_copy 35 (.iaload) 1 36 := ⟨by decide +kernel, rfl⟩
theorem dX8_copy_36 : DD cX8_copy 36 (.ifCond .ne 11) 3 39 := ⟨by decide +kernel, rfl⟩
theorem dX8_copy_39 : DD cX8_copy 39 (.aload_n 0) 1 40 := ⟨by decide +kernel, rfl⟩
theorem dX8_copy_40 : DD cX8_copy 40 (.ldc_w 260) 3 43 := ⟨by decide +kernel, rfl⟩
theorem dX8_copy_43 : DD cX8_copy 43 (.invokevirtual 51) 3 46 := ⟨by decide +kernel, rfl⟩
theorem dX8_copy_46 : DD cX8_copy 46 (.ireturn) 1 47 := ⟨by decide +kernel, rfl⟩
theorem dX8_copy_47 : DD cX8_copy 47 (.aload_n 0) 1 48 := ⟨by decide +kernel, rfl⟩
theorem dX8_copy_48 : DD cX8_copy 48 (.getfield 25) 3 51 := ⟨by decide +kernel, rfl⟩
theorem dX8_copy_51 : DD cX8_copy 51 (.iload_n 1) 1 52 := ⟨by decide +kernel, rfl⟩
theorem dX8_copy_52 : DD cX8_copy 52 (.iaload) 1 53 := ⟨by decide +kernel, rfl⟩
theorem dX8_copy_53 : DD cX8_copy 53 (.aload_n 0) 1 54 := ⟨by decide +kernel, rfl⟩
theorem dX8_copy_54 : DD cX8_copy 54 (.getfield 25) 3 57 := ⟨by decide +kernel, rfl⟩
theorem dX8_copy_57 : DD cX8_copy 57 (.iload_n 3) 1 58 := ⟨by decide +kernel, rfl⟩
theorem dX8_copy_58 : DD cX8_copy 58 (.iaload) 1 59 := ⟨by decide +kernel, rfl⟩
theorem dX8_copy_59 : DD cX8_copy 59 (.if_icmp .eq 10) 3 62 := ⟨by decide +kernel, rfl⟩
theorem dX8_copy_62 : DD cX8_copy 62 (.aload_n 0) 1 63 := ⟨by decide +kernel, rfl⟩
theorem dX8_copy_63 : DD cX8_copy 63 (.ldc 81) 2 65 := ⟨by decide +kernel, rfl⟩
theorem dX8_copy_65 : DD cX8_copy 65 (.invokevirtual 51) 3 68 := ⟨by decide +kernel, rfl⟩
theorem dX8_copy_68 : DD cX8_copy 68 (.ireturn) 1 69 := ⟨by decide +kernel, rfl⟩
theorem dX8_copy_69 : DD cX8_copy 69 (.iload 5) 2 71 := ⟨by decide +kernel, rfl⟩
theorem dX8_copy_71 : DD cX8_copy 71 (.ifCond .lt 39) 3 74 := ⟨by decide +kernel, rfl⟩
theorem dX8_copy_74 : DD cX8_copy 74 (.iload_n 2) 1 75 := ⟨by decide +kernel, rfl⟩
theorem dX8_copy_75 : DD cX8_copy 75 (.ifCond .lt 35) 3 78 := ⟨by decide +kernel, rfl⟩
theorem dX8_copy_78 : DD cX8_copy 78 (.iload 4) 2 80 := ⟨by decide +kernel, rfl⟩
theorem dX8_copy_80 : DD cX8_copy 80 (.ifCond .lt 30) 3 83 := ⟨by decide +kernel, rfl⟩
theorem dX8_copy_83 : DD cX8_copy 83 (.iload 5) 2 85 := ⟨by decide +kernel, rfl⟩
theorem dX8_copy_85 : DD cX8_copy 85 (.aload_n 0) 1 86 := ⟨by decide +kernel, rfl⟩
theorem dX8_copy_86 : DD cX8_copy 86 (.getfield 28) 3 89 := ⟨by decide +kernel, rfl⟩
theorem dX8_copy_89 : DD cX8_copy 89 (.iload_n 1) 1 90 := ⟨by decide +kernel, rfl⟩
theorem dX8_copy_90 : DD cX8_copy 90 (.iaload) 1 91 := ⟨by decide +kernel, rfl⟩
theorem dX8_copy_91 : DD cX8_copy 91 (.iload_n 2) 1 92 := ⟨by decide +kernel, rfl⟩
theorem dX8_copy_92 : DD cX8_copy 92 (.isub) 1 93 := ⟨by decide +kernel, rfl⟩
theorem dX8_copy_93 : DD cX8_copy 93 (.if_icmp .gt 17) 3 96 := ⟨by decide +kernel, rfl⟩
theorem dX8_copy_96 : DD cX8_copy 96 (.iload 5) 2 98 := ⟨by decide +kernel, rfl⟩
theorem dX8_copy_98 : DD cX8_copy 98 (.aload_n 0) 1 99 := ⟨by decide +kernel, rfl⟩
theorem dX8_copy_99 : DD cX8_copy 99 (.getfield 28) 3 102 := ⟨by decide +kernel, rfl⟩
theorem dX8_copy_102 : DD cX8_copy 102 (.iload_n 3) 1 103 := ⟨by decide +kernel, rfl⟩
theorem dX8_copy_103 : DD cX8_copy 103 (.iaload) 1 104 := ⟨by decide +kernel, rfl⟩
theorem dX8_copy_104 : DD cX8_copy 104 (.iload 4) 2 106 := ⟨by decide +kernel, rfl⟩
theorem dX8_copy_106 : DD cX8_copy 106 (.isub) 1 107 := ⟨by decide +kernel, rfl⟩
theorem dX8_copy_107 : DD cX8_copy 107 (.if_icmp .le 10) 3 110 := ⟨by decide +kernel, rfl⟩
theorem dX8_copy_110 : DD cX8_copy 110 (.aload_n 0) 1 111 := ⟨by decide +kernel, rfl⟩
theorem dX8_copy_111 : DD cX8_copy 111 (.ldc 38) 2 113 := ⟨by decide +kernel, rfl⟩
theorem dX8_copy_113 : DD cX8_copy 113 (.invokevirtual 51) 3 116 := ⟨by decide +kernel, rfl⟩
theorem dX8_copy_116 : DD cX8_copy 116 (.ireturn) 1 117 := ⟨by decide +kernel, rfl⟩
theorem dX8_copy_117 : DD cX8_copy 117 (.iconst 0) 1 118 := ⟨by decide +kernel, rfl⟩
theorem dX8_copy_118 : DD cX8_copy 118 (.istore 6) 2 120 := ⟨by decide +kernel, rfl⟩
theorem dX8_copy_120 : DD cX8_copy 120 (.iload 6) 2 122 := ⟨by decide +kernel, rfl⟩
theorem dX8_copy_122 : DD cX8_copy 122 (.iload 5) 2 124 := ⟨by decide +kernel, rfl⟩
theorem dX8_copy_124 : DD cX8_copy 124 (.if_icmp .ge 30) 3 127 := ⟨by decide +kernel, rfl⟩
theorem dX8_copy_127 : DD cX8_copy 127 (.aload_n 0) 1 128 := ⟨by decide +kernel, rfl⟩
theorem dX8_copy_128 : DD cX8_copy 128 (.getfield 35) 3 131 := ⟨by decide +kernel, rfl⟩
theorem dX8_copy_131 : DD cX8_copy 131 (.iload 6) 2 133 := ⟨by decide +kernel, rfl⟩
theorem dX8_copy_133 : DD cX8_copy 133 (.aload_n 0) 1 134 := ⟨by decide +kernel, rfl⟩
theorem dX8_copy_134 : DD cX8_copy 134 (.getfield 31) 3 137 := ⟨by decide +kernel, rfl⟩
theorem dX8_copy_137 : DD cX8_copy 137 (.bipush 40) 2 139 := ⟨by decide +kernel, rfl⟩
theorem dX8_copy_139 : DD cX8_copy 139 (.iload_n 1) 1 140 := ⟨by decide +kernel, rfl⟩
theorem dX8_copy_140 : DD cX8_copy 140 (.imul) 1 141 := ⟨by decide +kernel, rfl⟩
theorem dX8_copy_141 : DD cX8_copy 141 (.iload_n 2) 1 142 := ⟨by decide +kernel, rfl⟩
theorem dX8_copy_142 : DD cX8_copy 142 (.iadd) 1 143 := ⟨by decide +kernel, rfl⟩
theorem dX8_copy_143 : DD cX8_copy 143 (.iload 6) 2 145 := ⟨by decide +kernel, rfl⟩
theorem dX8_copy_145 : DD cX8_copy 145 (.iadd) 1 146 := ⟨by decide +kernel, rfl⟩
theorem dX8_copy_146 : DD cX8_copy 146 (.laload) 1 147 := ⟨by decide +kernel, rfl⟩
theorem dX8_copy_147 : DD cX8_copy 147 (.lastore) 1 148 := ⟨by decide +kernel, rfl⟩
theorem dX8_copy_148 : DD cX8_copy 148 (.iinc 6 1) 3 151 := ⟨by decide +kernel, rfl⟩
theorem dX8_copy_151 : DD cX8_copy 151 (.goto (-31)) 3 154 := ⟨by decide +kernel, rfl⟩
theorem dX8_copy_154 : DD cX8_copy 154 (.iconst 0) 1 155 := ⟨by decide +kernel, rfl⟩
theorem dX8_copy_155 : DD cX8_copy 155 (.istore 6) 2 157 := ⟨by decide +kernel, rfl⟩
theorem dX8_copy_157 : DD cX8_copy 157 (.iload 6) 2 159 := ⟨by decide +kernel, rfl⟩
theorem dX8_copy_159 : DD cX8_copy 159 (.iload 5) 2 161 := ⟨by decide +kernel, rfl⟩
theorem dX8_copy_161 : DD cX8_copy 161 (.if_icmp .ge 31) 3 164 := ⟨by decide +kernel, rfl⟩
theorem dX8_copy_164 : DD cX8_copy 164 (.aload_n 0) 1 165 := ⟨by decide +kernel, rfl⟩
theorem dX8_copy_165 : DD cX8_copy 165 (.getfield 31) 3 168 := ⟨by decide +kernel, rfl⟩
theorem dX8_copy_168 : DD cX8_copy 168 (.bipush 40) 2 170 := ⟨by decide +kernel, rfl⟩
theorem dX8_copy_170 : DD cX8_copy 170 (.iload_n 3) 1 171 := ⟨by decide +kernel, rfl⟩
theorem dX8_copy_171 : DD cX8_copy 171 (.imul) 1 172 := ⟨by decide +kernel, rfl⟩
theorem dX8_copy_172 : DD cX8_copy 172 (.iload 4) 2 174 := ⟨by decide +kernel, rfl⟩
theorem dX8_copy_174 : DD cX8_copy 174 (.iadd) 1 175 := ⟨by decide +kernel, rfl⟩
theorem dX8_copy_175 : DD cX8_copy 175 (.iload 6) 2 177 := ⟨by decide +kernel, rfl⟩
theorem dX8_copy_177 : DD cX8_copy 177 (.iadd) 1 178 := ⟨by decide +kernel, rfl⟩
theorem dX8_copy_178 : DD cX8_copy 178 (.aload_n 0) 1 179 := ⟨by decide +kernel, rfl⟩
theorem dX8_copy_179 : DD cX8_copy 179 (.getfield 35) 3 182 := ⟨by decide +kernel, rfl⟩
theorem dX8_copy_182 : DD cX8_copy 182 (.iload 6) 2 184 := ⟨by decide +kernel, rfl⟩
theorem dX8_copy_184 : DD cX8_copy 184 (.laload) 1 185 := ⟨by decide +kernel, rfl⟩
theorem dX8_copy_185 : DD cX8_copy 185 (.lastore) 1 186 := ⟨by decide +kernel, rfl⟩
theorem dX8_copy_186 : DD cX8_copy 186 (.iinc 6 1) 3 189 := ⟨by decide +kernel, rfl⟩
theorem dX8_copy_189 : DD cX8_copy 189 (.goto (-32)) 3 192 := ⟨by decide +kernel, rfl⟩
theorem dX8_copy_192 : DD cX8_copy 192 (.iload 5) 2 194 := ⟨by decide +kernel, rfl⟩
theorem dX8_copy_194 : DD cX8_copy 194 (.ireturn) 1 195 := ⟨by decide +kernel, rfl⟩
theorem dX8_whyNot_0 : DD cX8_whyNot 0 (.iload_n 1) 1 1 := ⟨by decide +kernel, rfl⟩
theorem dX8_whyNot_1 : DD cX8_whyNot 1 (.invokestatic 256) 3 4 := ⟨by decide +kernel, rfl⟩
theorem dX8_whyNot_4 : DD cX8_whyNot 4 (.ifCond .ne 8) 3 7 := ⟨by decide +kernel, rfl⟩
theorem dX8_whyNot_7 : DD cX8_whyNot 7 (.ldc 38) 2 9 := ⟨by decide +kernel, rfl⟩
theorem dX8_whyNot_9 : DD cX8_whyNot 9 (.goto 33) 3 12 := ⟨by decide +kernel, rfl⟩
theorem dX8_whyNot_12 : DD cX8_whyNot 12 (.aload_n 0) 1 13 := ⟨by decide +kernel, rfl⟩
theorem dX8_whyNot_13 : DD cX8_whyNot 13 (.getfield 25) 3 16 := ⟨by decide +kernel, rfl⟩
theorem dX8_whyNot_16 : DD cX8_whyNot 16 (.iload_n 1) 1 17 := ⟨by decide +kernel, rfl⟩
theorem dX8_whyNot_17 : DD cX8_whyNot 17 (.iaload) 1 18 := ⟨by decide +kernel, rfl⟩
theorem dX8_whyNot_18 : DD cX8_whyNot 18 (.ifCond .ne 9) 3 21 := ⟨by decide +kernel, rfl⟩
theorem dX8_whyNot_21 : DD cX8_whyNot 21 (.ldc_w 260) 3 24 := ⟨by decide +kernel, rfl⟩
theorem dX8_whyNot_24 : DD cX8_whyNot 24 (.goto 18) 3 27 := ⟨by decide +kernel, rfl⟩
theorem dX8_whyNot_27 : DD cX8_whyNot 27 (.aload_n 0) 1 28 := ⟨by decide +kernel, rfl⟩
theorem dX8_whyNot_28 : DD cX8_whyNot 28 (.iload_n 2) 1 29 := ⟨by decide +kernel, rfl⟩
theorem dX8_whyNot_29 : DD cX8_whyNot 29 (.iload_n 3) 1 30 := ⟨by decide +kernel, rfl⟩
theorem dX8_whyNot_30 : DD cX8_whyNot 30 (.invokevirtual 127) 3 33 := ⟨by decide +kernel, rfl⟩
theorem dX8_whyNot_33 : DD cX8_whyNot 33 (.ifCond .eq 7) 3 36 := ⟨by decide +kernel, rfl⟩
theorem dX8_whyNot_36 : DD cX8_whyNot 36 (.iconst 0) 1 37 := ⟨by decide +kernel, rfl⟩
theorem dX8_whyNot_37 : DD cX8_whyNot 37 (.goto 5) 3 40 := ⟨by decide +kernel, rfl⟩
theorem dX8_whyNot_40 : DD cX8_whyNot 40 (.ldc 38) 2 42 := ⟨by decide +kernel, rfl⟩
theorem dX8_whyNot_42 : DD cX8_whyNot 42 (.ireturn) 1 43 := ⟨by decide +kernel, rfl⟩
theorem dX8_film_0 : DD cX8_film 0 (.aload_n 0) 1 1 := ⟨by decide +kernel, rfl⟩
theorem dX8_film_1 : DD cX8_film 1 (.iload_n 1) 1 2 := ⟨by decide +kernel, rfl⟩
theorem dX8_film_2 : DD cX8_film 2 (.iload_n 2) 1 3 := ⟨by decide +kernel, rfl⟩
theorem dX8_film_3 : DD cX8_film 3 (.iload_n 3) 1 4 := ⟨by decide +kernel, rfl⟩
theorem dX8_film_4 : DD cX8_film 4 (.invokevirtual 265) 3 7 := ⟨by decide +kernel, rfl⟩
theorem dX8_film_7 : DD cX8_film 7 (.istore 4) 2 9 := ⟨by decide +kernel, rfl⟩
theorem dX8_film_9 : DD cX8_film 9 (.iload 4) 2 11 := ⟨by decide +kernel, rfl⟩
theorem dX8_film_11 : DD cX8_film 11 (.ifCond .eq 10) 3 14 := ⟨by decide +kernel, rfl⟩
theorem dX8_film_14 : DD cX8_film 14 (.aload_n 0) 1 15 := ⟨by decide +kernel, rfl⟩
theorem dX8_film_15 : DD cX8_film 15 (.iload 4) 2 17 := ⟨by decide +kernel, rfl⟩
theorem dX8_film_17 : DD cX8_film 17 (.invokevirtual 51) 3 20 := ⟨by decide +kernel, rfl⟩
theorem dX8_film_20 : DD cX8_film 20 (.ireturn) 1 21 := ⟨by decide +kernel, rfl⟩
theorem dX8_film_21 : DD cX8_film 21 (.aload_n 0) 1 22 := ⟨by decide +kernel, rfl⟩
theorem dX8_film_22 : DD cX8_film 22 (.getfield 9) 3 25 := ⟨by decide +kernel, rfl⟩
theorem dX8_film_25 : DD cX8_film 25 (.aload_n 0) 1 26 := ⟨by decide +kernel, rfl⟩
theorem dX8_film_26 : DD cX8_film 26 (.getfield 13) 3 29 := ⟨by decide +kernel, rfl⟩
theorem dX8_film_29 : DD cX8_film 29 (.invokestatic 150) 3 32 := ⟨by decide +kernel, rfl⟩
theorem dX8_film_32 : DD cX8_film 32 (.aload_n 0) 1 33 := ⟨by decide +kernel, rfl⟩
theorem dX8_film_33 : DD cX8_film 33 (.getfield 13) 3 36 := ⟨by decide +kernel, rfl⟩
theorem dX8_film_36 : DD cX8_film 36 (.iload_n 2) 1 37 := ⟨by decide +kernel, rfl⟩
theorem dX8_film_37 : DD cX8_film 37 (.iload_n 3) 1 38 := ⟨by decide +kernel, rfl⟩
theorem dX8_film_38 : DD cX8_film 38 (.invokestatic 130) 3 41 := ⟨by decide +kernel, rfl⟩
theorem dX8_film_41 : DD cX8_film 41 (.iconst 0) 1 42 := ⟨by decide +kernel, rfl⟩
theorem dX8_film_42 : DD cX8_film 42 (.istore 5) 2 44 := ⟨by decide +kernel, rfl⟩
theorem dX8_film_44 : DD cX8_film 44 (.iconst 0) 1 45 := ⟨by decide +kernel, rfl⟩
theorem dX8_film_45 : DD cX8_film 45 (.istore 6) 2 47 := ⟨by decide +kernel, rfl⟩
theorem dX8_film_47 : DD cX8_film 47 (.iload 6) 2 49 := ⟨by decide +kernel, rfl⟩
theorem dX8_film_49 : DD cX8_film 49 (.aload_n 0) 1 50 := ⟨by decide +kernel, rfl⟩
theorem dX8_film_50 : DD cX8_film 50 (.getfield 28) 3 53 := ⟨by decide +kernel, rfl⟩
theorem dX8_film_53 : DD cX8_film 53 (.iload_n 1) 1 54 := ⟨by decide +kernel, rfl⟩
theorem dX8_film_54 : DD cX8_film 54 (.iaload) 1 55 := ⟨by decide +kernel, rfl⟩
theorem dX8_film_55 : DD cX8_film 55 (.if_icmp .ge 51) 3 58 := ⟨by decide +kernel, rfl⟩
theorem dX8_film_58 : DD cX8_film 58 (.iload 5) 2 60 := ⟨by decide +kernel, rfl⟩
theorem dX8_film_60 : DD cX8_film 60 (.ifCond .ne 46) 3 63 := ⟨by decide +kernel, rfl⟩
theorem dX8_film_63 : DD cX8_film 63 (.aload_n 0) 1 64 := ⟨by decide +kernel, rfl⟩
theorem dX8_film_64 : DD cX8_film 64 (.getfield 13) 3 67 := ⟨by decide +kernel, rfl⟩
theorem dX8_film_67 : DD cX8_film 67 (.invokestatic 135) 3 70 := ⟨by decide +kernel, rfl⟩
theorem dX8_film_70 : DD cX8_film 70 (.istore 5) 2 72 := ⟨by decide +kernel, rfl⟩
theorem dX8_film_72 : DD cX8_film 72 (.aload_n 0) 1 73 := ⟨by decide +kernel, rfl⟩
theorem dX8_film_73 : DD cX8_film 73 (.getfield 31) 3 76 := ⟨by decide +kernel, rfl⟩
theorem dX8_film_76 : DD cX8_film 76 (.bipush 40) 2 78 := ⟨by decide +kernel, rfl⟩
theorem dX8_film_78 : DD cX8_film 78 (.iload_n 1) 1 79 := ⟨by decide +kernel, rfl⟩
theorem dX8_film_79 : DD cX8_film 79 (.imul) 1 80 := ⟨by decide +kernel, rfl⟩
theorem dX8_film_80 : DD cX8_film 80 (.iload 6) 2 82 := ⟨by decide +kernel, rfl⟩
theorem dX8_film_82 : DD cX8_film 82 (.iadd) 1 83 := ⟨by decide +kernel, rfl⟩
theorem dX8_film_83 : DD cX8_film 83 (.aload_n 0) 1 84 := ⟨by decide +kernel, rfl⟩
theorem dX8_film_84 : DD cX8_film 84 (.getfield 25) 3 87 := ⟨by decide +kernel, rfl⟩
theorem dX8_film_87 : DD cX8_film 87 (.iload_n 1) 1 88 := ⟨by decide +kernel, rfl⟩
theorem dX8_film_88 : DD cX8_film 88 (.iaload) 1 89 := ⟨by decide +kernel, rfl⟩
theorem dX8_film_89 : DD cX8_film 89 (.aload_n 0) 1 90 := ⟨by decide +kernel, rfl⟩
theorem dX8_film_90 : DD cX8_film 90 (.getfield 13) 3 93 := ⟨by decide +kernel, rfl⟩
theorem dX8_film_93 : DD cX8_film 93 (.iconst 5) 1 94 := ⟨by decide +kernel, rfl⟩
theorem dX8_film_94 : DD cX8_film 94 (.iaload) 1 95 := ⟨by decide +kernel, rfl⟩
theorem dX8_film_95 : DD cX8_film 95 (.i2l) 1 96 := ⟨by decide +kernel, rfl⟩
theorem dX8_film_96 : DD cX8_film 96 (.invokestatic 261) 3 99 := ⟨by decide +kernel, rfl⟩
theorem dX8_film_99 : DD cX8_film 99 (.lastore) 1 100 := ⟨by decide +kernel, rfl⟩
theorem dX8_film_100 : DD cX8_film 100 (.iinc 6 1) 3 103 := ⟨by decide +kernel, rfl⟩
theorem dX8_film_103 : DD cX8_film 103 (.goto (-56)) 3 106 := ⟨by decide +kernel, rfl⟩
theorem dX8_film_106 : DD cX8_film 106 (.iload 6) 2 108 := ⟨by decide +kernel, rfl⟩
theorem dX8_film_108 : DD cX8_film 108 (.ireturn) 1 109 := ⟨by decide +kernel, rfl⟩
theorem dX8_read_0 : DD cX8_read 0 (.aload_n 0) 1 1 := ⟨by decide +kernel, rfl⟩
theorem dX8_read_1 : DD cX8_read 1 (.iload_n 1) 1 2 := ⟨by decide +kernel, rfl⟩
theorem dX8_read_2 : DD cX8_read 2 (.iload_n 2) 1 3 := ⟨by decide +kernel, rfl⟩
theorem dX8_read_3 : DD cX8_read 3 (.iload_n 3) 1 4 := ⟨by decide +kernel, rfl⟩
theorem dX8_read_4 : DD cX8_read 4 (.invokevirtual 265) 3 7 := ⟨by decide +kernel, rfl⟩
theorem dX8_read_7 : DD cX8_read 7 (.istore 4) 2 9 := ⟨by decide +kernel, rfl⟩
theorem dX8_read_9 : DD cX8_read 9 (.iload 4) 2 11 := ⟨by decide +kernel, rfl⟩
theorem dX8_read_11 : DD cX8_read 11 (.ifCond .eq 10) 3 14 := ⟨by decide +kernel, rfl⟩
theorem dX8_read_14 : DD cX8_read 14 (.aload_n 0) 1 15 := ⟨by decide +kernel, rfl⟩
theorem dX8_read_15 : DD cX8_read 15 (.iload 4) 2 17 := ⟨by decide +kernel, rfl⟩
theorem dX8_read_17 : DD cX8_read 17 (.invokevirtual 51) 3 20 := ⟨by decide +kernel, rfl⟩
theorem dX8_read_20 : DD cX8_read 20 (.ireturn) 1 21 := ⟨by decide +kernel, rfl⟩
theorem dX8_read_21 : DD cX8_read 21 (.aload_n 0) 1 22 := ⟨by decide +kernel, rfl⟩
theorem dX8_read_22 : DD cX8_read 22 (.getfield 9) 3 25 := ⟨by decide +kernel, rfl⟩
theorem dX8_read_25 : DD cX8_read 25 (.aload_n 0) 1 26 := ⟨by decide +kernel, rfl⟩
theorem dX8_read_26 : DD cX8_read 26 (.getfield 13) 3 29 := ⟨by decide +kernel, rfl⟩
theorem dX8_read_29 : DD cX8_read 29 (.invokestatic 150) 3 32 := ⟨by decide +kernel, rfl⟩
theorem dX8_read_32 : DD cX8_read 32 (.aload_n 0) 1 33 := ⟨by decide +kernel, rfl⟩
theorem dX8_read_33 : DD cX8_read 33 (.getfield 13) 3 36 := ⟨by decide +kernel, rfl⟩
theorem dX8_read_36 : DD cX8_read 36 (.iload_n 2) 1 37 := ⟨by decide +kernel, rfl⟩
theorem dX8_read_37 : DD cX8_read 37 (.iload_n 3) 1 38 := ⟨by decide +kernel, rfl⟩
theorem dX8_read_38 : DD cX8_read 38 (.invokestatic 130) 3 41 := ⟨by decide +kernel, rfl⟩
theorem dX8_read_41 : DD cX8_read 41 (.iconst 0) 1 42 := ⟨by decide +kernel, rfl⟩
theorem dX8_read_42 : DD cX8_read 42 (.istore 5) 2 44 := ⟨by decide +kernel, rfl⟩
theorem dX8_read_44 : DD cX8_read 44 (.iconst 0) 1 45 := ⟨by decide +kernel, rfl⟩
theorem dX8_read_45 : DD cX8_read 45 (.istore 6) 2 47 := ⟨by decide +kernel, rfl⟩
theorem dX8_read_47 : DD cX8_read 47 (.iload 6) 2 49 := ⟨by decide +kernel, rfl⟩
theorem dX8_read_49 : DD cX8_read 49 (.aload_n 0) 1 50 := ⟨by decide +kernel, rfl⟩
theorem dX8_read_50 : DD cX8_read 50 (.getfield 28) 3 53 := ⟨by decide +kernel, rfl⟩
theorem dX8_read_53 : DD cX8_read 53 (.iload_n 1) 1 54 := ⟨by decide +kernel, rfl⟩
theorem dX8_read_54 : DD cX8_read 54 (.iaload) 1 55 := ⟨by decide +kernel, rfl⟩
theorem dX8_read_55 : DD cX8_read 55 (.if_icmp .ge 56) 3 58 := ⟨by decide +kernel, rfl⟩
theorem dX8_read_58 : DD cX8_read 58 (.iload 5) 2 60 := ⟨by decide +kernel, rfl⟩
theorem dX8_read_60 : DD cX8_read 60 (.ifCond .eq 8) 3 63 := ⟨by decide +kernel, rfl⟩
theorem dX8_read_63 : DD cX8_read 63 (.iconst 1) 1 64 := ⟨by decide +kernel, rfl⟩
theorem dX8_read_64 : DD cX8_read 64 (.iload 6) 2 66 := ⟨by decide +kernel, rfl⟩
theorem dX8_read_66 : DD cX8_read 66 (.iadd) 1 67 := ⟨by decide +kernel, rfl⟩
theorem dX8_read_67 : DD cX8_read 67 (.ireturn) 1 68 := ⟨by decide +kernel, rfl⟩
theorem dX8_read_68 : DD cX8_read 68 (.aload_n 0) 1 69 := ⟨by decide +kernel, rfl⟩
theorem dX8_read_69 : DD cX8_read 69 (.getfield 13) 3 72 := ⟨by decide +kernel, rfl⟩
theorem dX8_read_72 : DD cX8_read 72 (.invokestatic 135) 3 75 := ⟨by decide +kernel, rfl⟩
theorem dX8_read_75 : DD cX8_read 75 (.istore 5) 2 77 := ⟨by decide +kernel, rfl⟩
theorem dX8_read_77 : DD cX8_read 77 (.aload_n 0) 1 78 := ⟨by decide +kernel, rfl⟩
theorem dX8_read_78 : DD cX8_read 78 (.getfield 31) 3 81 := ⟨by decide +kernel, rfl⟩
theorem dX8_read_81 : DD cX8_read 81 (.bipush 40) 2 83 := ⟨by decide +kernel, rfl⟩
theorem dX8_read_83 : DD cX8_read 83 (.iload_n 1) 1 84 := ⟨by decide +kernel, rfl⟩
theorem dX8_read_84 : DD cX8_read 84 (.imul) 1 85 := ⟨by decide +kernel, rfl⟩
theorem dX8_read_85 : DD cX8_read 85 (.iload 6) 2 87 := ⟨by decide +kernel, rfl⟩
theorem dX8_read_87 : DD cX8_read 87 (.iadd) 1 88 := ⟨by decide +kernel, rfl⟩
theorem dX8_read_88 : DD cX8_read 88 (.laload) 1 89 := ⟨by decide +kernel, rfl⟩
theorem dX8_read_89 : DD cX8_read 89 (.aload_n 0) 1 90 := ⟨by decide +kernel, rfl⟩
theorem dX8_read_90 : DD cX8_read 90 (.getfield 13) 3 93 := ⟨by decide +kernel, rfl⟩
theorem dX8_read_93 : DD cX8_read 93 (.iconst 5) 1 94 := ⟨by decide +kernel, rfl⟩
theorem dX8_read_94 : DD cX8_read 94 (.iaload) 1 95 := ⟨by decide +kernel, rfl⟩
theorem dX8_read_95 : DD cX8_read 95 (.i2l) 1 96 := ⟨by decide +kernel, rfl⟩
theorem dX8_read_96 : DD cX8_read 96 (.lcmp) 1 97 := ⟨by decide +kernel, rfl⟩
theorem dX8_read_97 : DD cX8_read 97 (.ifCond .eq 8) 3 100 := ⟨by decide +kernel, rfl⟩
theorem dX8_read_100 : DD cX8_read 100 (.iconst 1) 1 101 := ⟨by decide +kernel, rfl⟩
theorem dX8_read_101 : DD cX8_read 101 (.iload 6) 2 103 := ⟨by decide +kernel, rfl⟩
theorem dX8_read_103 : DD cX8_read 103 (.iadd) 1 104 := ⟨by decide +kernel, rfl⟩
theorem dX8_read_104 : DD cX8_read 104 (.ireturn) 1 105 := ⟨by decide +kernel, rfl⟩
theorem dX8_read_105 : DD cX8_read 105 (.iinc 6 1) 3 108 := ⟨by decide +kernel, rfl⟩
theorem dX8_read_108 : DD cX8_read 108 (.goto (-61)) 3 111 := ⟨by decide +kernel, rfl⟩
theorem dX8_read_111 : DD cX8_read 111 (.iconst 0) 1 112 := ⟨by decide +kernel, rfl⟩
theorem dX8_read_112 : DD cX8_read 112 (.ireturn) 1 113 := ⟨by decide +kernel, rfl⟩
theorem dX8_image_0 : DD cX8_image 0 (.aload_n 0) 1 1 := ⟨by decide +kernel, rfl⟩
theorem dX8_image_1 : DD cX8_image 1 (.getfield 9) 3 4 := ⟨by decide +kernel, rfl⟩
theorem dX8_image_4 : DD cX8_image 4 (.aload_n 0) 1 5 := ⟨by decide +kernel, rfl⟩
theorem dX8_image_5 : DD cX8_image 5 (.getfield 16) 3 8 := ⟨by decide +kernel, rfl⟩
theorem dX8_image_8 : DD cX8_image 8 (.invokestatic 150) 3 11 := ⟨by decide +kernel, rfl⟩
theorem dX8_image_11 : DD cX8_image 11 (.aload_n 0) 1 12 := ⟨by decide +kernel, rfl⟩
theorem dX8_image_12 : DD cX8_image 12 (.iconst 1) 1 13 := ⟨by decide +kernel, rfl⟩
theorem dX8_image_13 : DD cX8_image 13 (.putfield 268) 3 16 := ⟨by decide +kernel, rfl⟩
theorem dX8_image_16 : DD cX8_image 16 (.iconst 1) 1 17 := ⟨by decide +kernel, rfl⟩
theorem dX8_image_17 : DD cX8_image 17 (.ireturn) 1 18 := ⟨by decide +kernel, rfl⟩
theorem dX8_undo_0 : DD cX8_undo 0 (.aload_n 0) 1 1 := ⟨by decide +kernel, rfl⟩
theorem dX8_undo_1 : DD cX8_undo 1 (.getfield 268) 3 4 := ⟨by decide +kernel, rfl⟩
theorem dX8_undo_4 : DD cX8_undo 4 (.ifCond .ne 10) 3 7 := ⟨by decide +kernel, rfl⟩
theorem dX8_undo_7 : DD cX8_undo 7 (.aload_n 0) 1 8 := ⟨by decide +kernel, rfl⟩
theorem dX8_undo_8 : DD cX8_undo 8 (.ldc 158) 2 10 := ⟨by decide +kernel, rfl⟩
theorem dX8_undo_10 : DD cX8_undo 10 (.invokevirtual 51) 3 13 := ⟨by decide +kernel, rfl⟩
theorem dX8_undo_13 : DD cX8_undo 13 (.ireturn) 1 14 := ⟨by decide +kernel, rfl⟩
theorem dX8_undo_14 : DD cX8_undo 14 (.aload_n 0) 1 15 := ⟨by decide +kernel, rfl⟩
theorem dX8_undo_15 : DD cX8_undo 15 (.getfield 16) 3 18 := ⟨by decide +kernel, rfl⟩
theorem dX8_undo_18 : DD cX8_undo 18 (.aload_n 0) 1 19 := ⟨by decide +kernel, rfl⟩
theorem dX8_undo_19 : DD cX8_undo 19 (.getfield 9) 3 22 := ⟨by decide +kernel, rfl⟩
theorem dX8_undo_22 : DD cX8_undo 22 (.invokestatic 150) 3 25 := ⟨by decide +kernel, rfl⟩
theorem dX8_undo_25 : DD cX8_undo 25 (.aload_n 0) 1 26 := ⟨by decide +kernel, rfl⟩
theorem dX8_undo_26 : DD cX8_undo 26 (.getfield 9) 3 29 := ⟨by decide +kernel, rfl⟩
theorem dX8_undo_29 : DD cX8_undo 29 (.iconst 0) 1 30 := ⟨by decide +kernel, rfl⟩
theorem dX8_undo_30 : DD cX8_undo 30 (.iaload) 1 31 := ⟨by decide +kernel, rfl⟩
theorem dX8_undo_31 : DD cX8_undo 31 (.ireturn) 1 32 := ⟨by decide +kernel, rfl⟩
theorem dX8_tear_0 : DD cX8_tear 0 (.aload_n 0) 1 1 := ⟨by decide +kernel, rfl⟩
theorem dX8_tear_1 : DD cX8_tear 1 (.getfield 268) 3 4 := ⟨by decide +kernel, rfl⟩
theorem dX8_tear_4 : DD cX8_tear 4 (.ifCond .eq 7) 3 7 := ⟨by decide +kernel, rfl⟩
theorem dX8_tear_7 : DD cX8_tear 7 (.iconst 1) 1 8 := ⟨by decide +kernel, rfl⟩
theorem dX8_tear_8 : DD cX8_tear 8 (.goto 4) 3 11 := ⟨by decide +kernel, rfl⟩
theorem dX8_tear_11 : DD cX8_tear 11 (.iconst 0) 1 12 := ⟨by decide +kernel, rfl⟩
theorem dX8_tear_12 : DD cX8_tear 12 (.istore_n 1) 1 13 := ⟨by decide +kernel, rfl⟩
theorem dX8_tear_13 : DD cX8_tear 13 (.aload_n 0) 1 14 := ⟨by decide +kernel, rfl⟩
theorem dX8_tear_14 : DD cX8_tear 14 (.iconst 0) 1 15 := ⟨by decide +kernel, rfl⟩
theorem dX8_tear_15 : DD cX8_tear 15 (.putfield 268) 3 18 := ⟨by decide +kernel, rfl⟩
theorem dX8_tear_18 : DD cX8_tear 18 (.iload_n 1) 1 19 := ⟨by decide +kernel, rfl⟩
theorem dX8_tear_19 : DD cX8_tear 19 (.ireturn) 1 20 := ⟨by decide +kernel, rfl⟩
theorem dX8_allFalls_0 : DD cX8_allFalls 0 (.iconst 0) 1 1 := ⟨by decide +kernel, rfl⟩
theorem dX8_allFalls_1 : DD cX8_allFalls 1 (.istore_n 1) 1 2 := ⟨by decide +kernel, rfl⟩
theorem dX8_allFalls_2 : DD cX8_allFalls 2 (.iconst 0) 1 3 := ⟨by decide +kernel, rfl⟩
theorem dX8_allFalls_3 : DD cX8_allFalls 3 (.istore_n 2) 1 4 := ⟨by decide +kernel, rfl⟩
theorem dX8_allFalls_4 : DD cX8_allFalls 4 (.iload_n 2) 1 5 := ⟨by decide +kernel, rfl⟩
theorem dX8_allFalls_5 : DD cX8_allFalls 5 (.aload_n 0) 1 6 := ⟨by decide +kernel, rfl⟩
theorem dX8_allFalls_6 : DD cX8_allFalls 6 (.getfield 9) 3 9 := ⟨by decide +kernel, rfl⟩
theorem dX8_allFalls_9 : DD cX8_allFalls 9 (.iconst 0) 1 10 := ⟨by decide +kernel, rfl⟩
theorem dX8_allFalls_10 : DD cX8_allFalls 10 (.iaload) 1 11 := ⟨by decide +kernel, rfl⟩
theorem dX8_allFalls_11 : DD cX8_allFalls 11 (.if_icmp .ge 21) 3 14 := ⟨by decide +kernel, rfl⟩
theorem dX8_allFalls_14 : DD cX8_allFalls 14 (.iload_n 1) 1 15 := ⟨by decide +kernel, rfl⟩
theorem dX8_allFalls_15 : DD cX8_allFalls 15 (.aload_n 0) 1 16 := ⟨by decide +kernel, rfl⟩
theorem dX8_allFalls_16 : DD cX8_allFalls 16 (.getfield 9) 3 19 := ⟨by decide +kernel, rfl⟩
theorem dX8_allFalls_19 : DD cX8_allFalls 19 (.iload_n 2) 1 20 := ⟨by decide +kernel, rfl⟩
theorem dX8_allFalls_20 : DD cX8_allFalls 20 (.iconst 5) 1 21 := ⟨by decide +kernel, rfl⟩
theorem dX8_allFalls_21 : DD cX8_allFalls 21 (.invokestatic 74) 3 24 := ⟨by decide +kernel, rfl⟩
theorem dX8_allFalls_24 : DD cX8_allFalls 24 (.iadd) 1 25 := ⟨by decide +kernel, rfl⟩
theorem dX8_allFalls_25 : DD cX8_allFalls 25 (.istore_n 1) 1 26 := ⟨by decide +kernel, rfl⟩
theorem dX8_allFalls_26 : DD cX8_allFalls 26 (.iinc 2 1) 3 29 := ⟨by decide +kernel, rfl⟩
theorem dX8_allFalls_29 : DD cX8_allFalls 29 (.goto (-25)) 3 32 := ⟨by decide +kernel, rfl⟩
theorem dX8_allFalls_32 : DD cX8_allFalls 32 (.iload_n 1) 1 33 := ⟨by decide +kernel, rfl⟩
theorem dX8_allFalls_33 : DD cX8_allFalls 33 (.ireturn) 1 34 := ⟨by decide +kernel, rfl⟩
theorem dX8_count_0 : DD cX8_count 0 (.iload_n 1) 1 1 := ⟨by decide +kernel, rfl⟩
theorem dX8_count_1 : DD cX8_count 1 (.tableswitch 78 0 5 #[39, 46, 53, 60, 65, 70]) 39 40 := ⟨by decide +kernel, rfl⟩
theorem dX8_count_40 : DD cX8_count 40 (.aload_n 0) 1 41 := ⟨by decide +kernel, rfl⟩
theorem dX8_count_41 : DD cX8_count 41 (.getfield 9) 3 44 := ⟨by decide +kernel, rfl⟩
theorem dX8_count_44 : DD cX8_count 44 (.iconst 0) 1 45 := ⟨by decide +kernel, rfl⟩
theorem dX8_count_45 : DD cX8_count 45 (.iaload) 1 46 := ⟨by decide +kernel, rfl⟩
theorem dX8_count_46 : DD cX8_count 46 (.ireturn) 1 47 := ⟨by decide +kernel, rfl⟩
theorem dX8_count_47 : DD cX8_count 47 (.aload_n 0) 1 48 := ⟨by decide +kernel, rfl⟩
theorem dX8_count_48 : DD cX8_count 48 (.getfield 9) 3 51 := ⟨by decide +kernel, rfl⟩
theorem dX8_count_51 : DD cX8_count 51 (.iconst 1) 1 52 := ⟨by decide +kernel, rfl⟩
theorem dX8_count_52 : DD cX8_count 52 (.iaload) 1 53 := ⟨by decide +kernel, rfl⟩
theorem dX8_count_53 : DD cX8_count 53 (.ireturn) 1 54 := ⟨by decide +kernel, rfl⟩
theorem dX8_count_54 : DD cX8_count 54 (.aload_n 0) 1 55 := ⟨by decide +kernel, rfl⟩
theorem dX8_count_55 : DD cX8_count 55 (.getfield 9) 3 58 := ⟨by decide +kernel, rfl⟩
theorem dX8_count_58 : DD cX8_count 58 (.iconst 2) 1 59 := ⟨by decide +kernel, rfl⟩
theorem dX8_count_59 : DD cX8_count 59 (.iaload) 1 60 := ⟨by decide +kernel, rfl⟩
theorem dX8_count_60 : DD cX8_count 60 (.ireturn) 1 61 := ⟨by decide +kernel, rfl⟩
theorem dX8_count_61 : DD cX8_count 61 (.aload_n 0) 1 62 := ⟨by decide +kernel, rfl⟩
theorem dX8_count_62 : DD cX8_count 62 (.invokevirtual 271) 3 65 := ⟨by decide +kernel, rfl⟩
theorem dX8_count_65 : DD cX8_count 65 (.ireturn) 1 66 := ⟨by decide +kernel, rfl⟩
theorem dX8_count_66 : DD cX8_count 66 (.aload_n 0) 1 67 := ⟨by decide +kernel, rfl⟩
theorem dX8_count_67 : DD cX8_count 67 (.getfield 166) 3 70 := ⟨by decide +kernel, rfl⟩
theorem dX8_count_70 : DD cX8_count 70 (.ireturn) 1 71 := ⟨by decide +kernel, rfl⟩
theorem dX8_count_71 : DD cX8_count 71 (.aload_n 0) 1 72 := ⟨by decide +kernel, rfl⟩
theorem dX8_count_72 : DD cX8_count 72 (.getfield 9) 3 75 := ⟨by decide +kernel, rfl⟩
theorem dX8_count_75 : DD cX8_count 75 (.bipush 8) 2 77 := ⟨by decide +kernel, rfl⟩
theorem dX8_count_77 : DD cX8_count 77 (.iaload) 1 78 := ⟨by decide +kernel, rfl⟩
theorem dX8_count_78 : DD cX8_count 78 (.ireturn) 1 79 := ⟨by decide +kernel, rfl⟩
theorem dX8_count_79 : DD cX8_count 79 (.aload_n 0) 1 80 := ⟨by decide +kernel, rfl⟩
theorem dX8_count_80 : DD cX8_count 80 (.ldc 38) 2 82 := ⟨by decide +kernel, rfl⟩
theorem dX8_count_82 : DD cX8_count 82 (.invokevirtual 51) 3 85 := ⟨by decide +kernel, rfl⟩
theorem dX8_count_85 : DD cX8_count 85 (.ireturn) 1 86 := ⟨by decide +kernel, rfl⟩
theorem dX8_status_0 : DD cX8_status 0 (.iload_n 1) 1 1 := ⟨by decide +kernel, rfl⟩
theorem dX8_status_1 : DD cX8_status 1 (.i2l) 1 2 := ⟨by decide +kernel, rfl⟩
theorem dX8_status_2 : DD cX8_status 2 (.ldc2_w 64) 3 5 := ⟨by decide +kernel, rfl⟩
theorem dX8_status_5 : DD cX8_status 5 (.ldc2_w 56) 3 8 := ⟨by decide +kernel, rfl⟩
theorem dX8_status_8 : DD cX8_status 8 (.invokestatic 39) 3 11 := ⟨by decide +kernel, rfl⟩
theorem dX8_status_11 : DD cX8_status 11 (.ifCond .ne 10) 3 14 := ⟨by decide +kernel, rfl⟩
theorem dX8_status_14 : DD cX8_status 14 (.aload_n 0) 1 15 := ⟨by decide +kernel, rfl⟩
theorem dX8_status_15 : DD cX8_status 15 (.ldc 38) 2 17 := ⟨by decide +kernel, rfl⟩
theorem dX8_status_17 : DD cX8_status 17 (.invokevirtual 51) 3 20 := ⟨by decide +kernel, rfl⟩
theorem dX8_status_20 : DD cX8_status 20 (.ireturn) 1 21 := ⟨by decide +kernel, rfl⟩
theorem dX8_status_21 : DD cX8_status 21 (.iconst 0) 1 22 := ⟨by decide +kernel, rfl⟩
theorem dX8_status_22 : DD cX8_status 22 (.istore_n 2) 1 23 := ⟨by decide +kernel, rfl⟩
theorem dX8_status_23 : DD cX8_status 23 (.iconst 0) 1 24 := ⟨by decide +kernel, rfl⟩
theorem dX8_status_24 : DD cX8_status 24 (.istore_n 3) 1 25 := ⟨by decide +kernel, rfl⟩
theorem dX8_status_25 : DD cX8_status 25 (.iload_n 3) 1 26 := ⟨by decide +kernel, rfl⟩
theorem dX8_status_26 : DD cX8_status 26 (.bipush 7) 2 28 := ⟨by decide +kernel, rfl⟩
theorem dX8_status_28 : DD cX8_status 28 (.if_icmp .ge 32) 3 31 := ⟨by decide +kernel, rfl⟩
theorem dX8_status_31 : DD cX8_status 31 (.iload_n 2) 1 32 := ⟨by decide +kernel, rfl⟩
theorem dX8_status_32 : DD cX8_status 32 (.iload_n 1) 1 33 := ⟨by decide +kernel, rfl⟩
theorem dX8_status_33 : DD cX8_status 33 (.iconst (-1)) 1 34 := ⟨by decide +kernel, rfl⟩
theorem dX8_status_34 : DD cX8_status 34 (.if_icmp .eq 8) 3 37 := ⟨by decide +kernel, rfl⟩
theorem dX8_status_37 : DD cX8_status 37 (.iload_n 1) 1 38 := ⟨by decide +kernel, rfl⟩
theorem dX8_status_38 : DD cX8_status 38 (.iload_n 3) 1 39 := ⟨by decide +kernel, rfl⟩
theorem dX8_status_39 : DD cX8_status 39 (.if_icmp .ne 12) 3 42 := ⟨by decide +kernel, rfl⟩
theorem dX8_status_42 : DD cX8_status 42 (.aload_n 0) 1 43 := ⟨by decide +kernel, rfl⟩
theorem dX8_status_43 : DD cX8_status 43 (.getfield 19) 3 46 := ⟨by decide +kernel, rfl⟩
theorem dX8_status_46 : DD cX8_status 46 (.iload_n 3) 1 47 := ⟨by decide +kernel, rfl⟩
theorem dX8_status_47 : DD cX8_status 47 (.iaload) 1 48 := ⟨by decide +kernel, rfl⟩
theorem dX8_status_48 : DD cX8_status 48 (.goto 4) 3 51 := ⟨by decide +kernel, rfl⟩
theorem dX8_status_51 : DD cX8_status 51 (.iconst 0) 1 52 := ⟨by decide +kernel, rfl⟩
theorem dX8_status_52 : DD cX8_status 52 (.iadd) 1 53 := ⟨by decide +kernel, rfl⟩
theorem dX8_status_53 : DD cX8_status 53 (.istore_n 2) 1 54 := ⟨by decide +kernel, rfl⟩
theorem dX8_status_54 : DD cX8_status 54 (.iinc 3 1) 3 57 := ⟨by decide +kernel, rfl⟩
theorem dX8_status_57 : DD cX8_status 57 (.goto (-32)) 3 60 := ⟨by decide +kernel, rfl⟩
theorem dX8_status_60 : DD cX8_status 60 (.iload_n 2) 1 61 := ⟨by decide +kernel, rfl⟩
theorem dX8_status_61 : DD cX8_status 61 (.ireturn) 1 62 := ⟨by decide +kernel, rfl⟩
end
section
theorem dL_law_0 : DD cL_law 0 (.new 7) 3 3 := ⟨by decide +kernel, rfl⟩
theorem dL_law_3 : DD cL_law 3 (.dup) 1 4 := ⟨by decide +kernel, rfl⟩
theorem dL_law_4 : DD cL_law 4 (.invokespecial 9) 3 7 := ⟨by decide +kernel, rfl⟩
theorem dL_law_7 : DD cL_law 7 (.astore_n 1) 1 8 := ⟨by decide +kernel, rfl⟩
theorem dL_law_8 : DD cL_law 8 (.new 10) 3 11 := ⟨by decide +kernel, rfl⟩
theorem dL_law_11 : DD cL_law 11 (.dup) 1 12 := ⟨by decide +kernel, rfl⟩
theorem dL_law_12 : DD cL_law 12 (.invokespecial 12) 3 15 := ⟨by decide +kernel, rfl⟩
theorem dL_law_15 : DD cL_law 15 (.astore_n 2) 1 16 := ⟨by decide +kernel, rfl⟩
theorem dL_law_16 : DD cL_law 16 (.iconst 0) 1 17 := ⟨by decide +kernel, rfl⟩
theorem dL_law_17 : DD cL_law 17 (.istore_n 3) 1 18 := ⟨by decide +kernel, rfl⟩
theorem dL_law_18 : DD cL_law 18 (.iload_n 3) 1 19 := ⟨by decide +kernel, rfl⟩
theorem dL_law_19 : DD cL_law 19 (.aload_n 0) 1 20 := ⟨by decide +kernel, rfl⟩
theorem dL_law_20 : DD cL_law 20 (.arraylength) 1 21 := ⟨by decide +kernel, rfl⟩
theorem dL_law_21 : DD cL_law 21 (.bipush 6) 2 23 := ⟨by decide +kernel, rfl⟩
theorem dL_law_23 : DD cL_law 23 (.isub) 1 24 := ⟨by decide +kernel, rfl⟩
theorem dL_law_24 : DD cL_law 24 (.if_icmp .gt 1386) 3 27 := ⟨by decide +kernel, rfl⟩
theorem dL_law_27 : DD cL_law 27 (.aload_n 0) 1 28 := ⟨by decide +kernel, rfl⟩
theorem dL_law_28 : DD cL_law 28 (.iload_n 3) 1 29 := ⟨by decide +kernel, rfl⟩
theorem dL_law_29 : DD cL_law 29 (.iaload) 1 30 := ⟨by decide +kernel, rfl⟩
theorem dL_law_30 : DD cL_law 30 (.bipush 63) 2 32 := ⟨by decide +kernel, rfl⟩
theorem dL_law_32 : DD cL_law 32 (.iand) 1 33 := ⟨by decide +kernel, rfl⟩
theorem dL_law_33 : DD cL_law 33 (.tableswitch 1371 0 34 #[155, 188, 221, 264, 297, 330, 393, 426, 439, 462, 495, 518, 541, 594, 637, 680, 723, 776, 809, 852, 875, 908, 921, 934, 957, 1020, 1063, 1137, 1200, 1243, 1286, 1299, 1312, 1325, 1348]) 155 188 := ⟨by decide +kernel, rfl⟩
theorem dL_law_188 : DD cL_law 188 (.aload_n 1) 1 189 := ⟨by decide +kernel, rfl⟩
theorem dL_law_189 : DD cL_law 189 (.aload_n 0) 1 190 := ⟨by decide +kernel, rfl⟩
theorem dL_law_190 : DD cL_law 190 (.iload_n 3) 1 191 := ⟨by decide +kernel, rfl⟩
theorem dL_law_191 : DD cL_law 191 (.iconst 1) 1 192 := ⟨by decide +kernel, rfl⟩
theorem dL_law_192 : DD cL_law 192 (.iadd) 1 193 := ⟨by decide +kernel, rfl⟩
theorem dL_law_193 : DD cL_law 193 (.iaload) 1 194 := ⟨by decide +kernel, rfl⟩
theorem dL_law_194 : DD cL_law 194 (.aload_n 0) 1 195 := ⟨by decide +kernel, rfl⟩
theorem dL_law_195 : DD cL_law 195 (.iload_n 3) 1 196 := ⟨by decide +kernel, rfl⟩
theorem dL_law_196 : DD cL_law 196 (.iconst 2) 1 197 := ⟨by decide +kernel, rfl⟩
theorem dL_law_197 : DD cL_law 197 (.iadd) 1 198 := ⟨by decide +kernel, rfl⟩
theorem dL_law_198 : DD cL_law 198 (.iaload) 1 199 := ⟨by decide +kernel, rfl⟩
theorem dL_law_199 : DD cL_law 199 (.invokevirtual 13) 3 202 := ⟨by decide +kernel, rfl⟩
theorem dL_law_202 : DD cL_law 202 (.aload_n 2) 1 203 := ⟨by decide +kernel, rfl⟩
theorem dL_law_203 : DD cL_law 203 (.aload_n 0) 1 204 := ⟨by decide +kernel, rfl⟩
theorem dL_law_204 : DD cL_law 204 (.iload_n 3) 1 205 := ⟨by decide +kernel, rfl⟩
theorem dL_law_205 : DD cL_law 205 (.iconst 1) 1 206 := ⟨by decide +kernel, rfl⟩
theorem dL_law_206 : DD cL_law 206 (.iadd) 1 207 := ⟨by decide +kernel, rfl⟩
theorem dL_law_207 : DD cL_law 207 (.iaload) 1 208 := ⟨by decide +kernel, rfl⟩
theorem dL_law_208 : DD cL_law 208 (.aload_n 0) 1 209 := ⟨by decide +kernel, rfl⟩
theorem dL_law_209 : DD cL_law 209 (.iload_n 3) 1 210 := ⟨by decide +kernel, rfl⟩
theorem dL_law_210 : DD cL_law 210 (.iconst 2) 1 211 := ⟨by decide +kernel, rfl⟩
theorem dL_law_211 : DD cL_law 211 (.iadd) 1 212 := ⟨by decide +kernel, rfl⟩
theorem dL_law_212 : DD cL_law 212 (.iaload) 1 213 := ⟨by decide +kernel, rfl⟩
theorem dL_law_213 : DD cL_law 213 (.invokevirtual 17) 3 216 := ⟨by decide +kernel, rfl⟩
theorem dL_law_216 : DD cL_law 216 (.if_icmp .eq 1188) 3 219 := ⟨by decide +kernel, rfl⟩
theorem dL_law_219 : DD cL_law 219 (.iconst 0) 1 220 := ⟨by decide +kernel, rfl⟩
theorem dL_law_220 : DD cL_law 220 (.ireturn) 1 221 := ⟨by decide +kernel, rfl⟩
theorem dL_law_221 : DD cL_law 221 (.aload_n 1) 1 222 := ⟨by decide +kernel, rfl⟩
theorem dL_law_222 : DD cL_law 222 (.aload_n 0) 1 223 := ⟨by decide +kernel, rfl⟩
theorem dL_law_223 : DD cL_law 223 (.iload_n 3) 1 224 := ⟨by decide +kernel, rfl⟩
theorem dL_law_224 : DD cL_law 224 (.iconst 1) 1 225 := ⟨by decide +kernel, rfl⟩
theorem dL_law_225 : DD cL_law 225 (.iadd) 1 226 := ⟨by decide +kernel, rfl⟩
theorem dL_law_226 : DD cL_law 226 (.iaload) 1 227 := ⟨by decide +kernel, rfl⟩
theorem dL_law_227 : DD cL_law 227 (.aload_n 0) 1 228 := ⟨by decide +kernel, rfl⟩
theorem dL_law_228 : DD cL_law 228 (.iload_n 3) 1 229 := ⟨by decide +kernel, rfl⟩
theorem dL_law_229 : DD cL_law 229 (.iconst 2) 1 230 := ⟨by decide +kernel, rfl⟩
theorem dL_law_230 : DD cL_law 230 (.iadd) 1 231 := ⟨by decide +kernel, rfl⟩
theorem dL_law_231 : DD cL_law 231 (.iaload) 1 232 := ⟨by decide +kernel, rfl⟩
theorem dL_law_232 : DD cL_law 232 (.invokevirtual 18) 3 235 := ⟨by decide +kernel, rfl⟩
theorem dL_law_235 : DD cL_law 235 (.aload_n 2) 1 236 := ⟨by decide +kernel, rfl⟩
theorem dL_law_236 : DD cL_law 236 (.aload_n 0) 1 237 := ⟨by decide +kernel, rfl⟩
theorem dL_law_237 : DD cL_law 237 (.iload_n 3) 1 238 := ⟨by decide +kernel, rfl⟩
theorem dL_law_238 : DD cL_law 238 (.iconst 1) 1 239 := ⟨by decide +kernel, rfl⟩
theorem dL_law_239 : DD cL_law 239 (.iadd) 1 240 := ⟨by decide +kernel, rfl⟩
theorem dL_law_240 : DD cL_law 240 (.iaload) 1 241 := ⟨by decide +kernel, rfl⟩
theorem dL_law_241 : DD cL_law 241 (.aload_n 0) 1 242 := ⟨by decide +kernel, rfl⟩
theorem dL_law_242 : DD cL_law 242 (.iload_n 3) 1 243 := ⟨by decide +kernel, rfl⟩
theorem dL_law_243 : DD cL_law 243 (.iconst 2) 1 244 := ⟨by decide +kernel, rfl⟩
theorem dL_law_244 : DD cL_law 244 (.iadd) 1 245 := ⟨by decide +kernel, rfl⟩
theorem dL_law_245 : DD cL_law 245 (.iaload) 1 246 := ⟨by decide +kernel, rfl⟩
theorem dL_law_246 : DD cL_law 246 (.invokevirtual 21) 3 249 := ⟨by decide +kernel, rfl⟩
theorem dL_law_249 : DD cL_law 249 (.if_icmp .eq 1155) 3 252 := ⟨by decide +kernel, rfl⟩
theorem dL_law_252 : DD cL_law 252 (.iconst 0) 1 253 := ⟨by decide +kernel, rfl⟩
theorem dL_law_253 : DD cL_law 253 (.ireturn) 1 254 := ⟨by decide +kernel, rfl⟩
theorem dL_law_254 : DD cL_law 254 (.aload_n 1) 1 255 := ⟨by decide +kernel, rfl⟩
theorem dL_law_255 : DD cL_law 255 (.aload_n 0) 1 256 := ⟨by decide +kernel, rfl⟩
theorem dL_law_256 : DD cL_law 256 (.iload_n 3) 1 257 := ⟨by decide +kernel, rfl⟩
theorem dL_law_257 : DD cL_law 257 (.iconst 1) 1 258 := ⟨by decide +kernel, rfl⟩
theorem dL_law_258 : DD cL_law 258 (.iadd) 1 259 := ⟨by decide +kernel, rfl⟩
theorem dL_law_259 : DD cL_law 259 (.iaload) 1 260 := ⟨by decide +kernel, rfl⟩
theorem dL_law_260 : DD cL_law 260 (.aload_n 0) 1 261 := ⟨by decide +kernel, rfl⟩
theorem dL_law_261 : DD cL_law 261 (.iload_n 3) 1 262 := ⟨by decide +kernel, rfl⟩
theorem dL_law_262 : DD cL_law 262 (.iconst 2) 1 263 := ⟨by decide +kernel, rfl⟩
theorem dL_law_263 : DD cL_law 263 (.iadd) 1 264 := ⟨by decide +kernel, rfl⟩
theorem dL_law_264 : DD cL_law 264 (.iaload) 1 265 := ⟨by decide +kernel, rfl⟩
theorem dL_law_265 : DD cL_law 265 (.aload_n 0) 1 266 := ⟨by decide +kernel, rfl⟩
theorem dL_law_266 : DD cL_law 266 (.iload_n 3) 1 267 := ⟨by decide +kernel, rfl⟩
theorem dL_law_267 : DD cL_law 267 (.iconst 3) 1 268 := ⟨by decide +kernel, rfl⟩
theorem dL_law_268 : DD cL_law 268 (.iadd) 1 269 := ⟨by decide +kernel, rfl⟩
theorem dL_law_269 : DD cL_law 269 (.iaload) 1 270 := ⟨by decide +kernel, rfl⟩
theorem dL_law_270 : DD cL_law 270 (.invokevirtual 22) 3 273 := ⟨by decide +kernel, rfl⟩
theorem dL_law_273 : DD cL_law 273 (.aload_n 2) 1 274 := ⟨by decide +kernel, rfl⟩
theorem dL_law_274 : DD cL_law 274 (.aload_n 0) 1 275 := ⟨by decide +kernel, rfl⟩
theorem dL_law_275 : DD cL_law 275 (.iload_n 3) 1 276 := ⟨by decide +kernel, rfl⟩
theorem dL_law_276 : DD cL_law 276 (.iconst 1) 1 277 := ⟨by decide +kernel, rfl⟩
theorem dL_law_277 : DD cL_law 277 (.iadd) 1 278 := ⟨by decide +kernel, rfl⟩
theorem dL_law_278 : DD cL_law 278 (.iaload) 1 279 := ⟨by decide +kernel, rfl⟩
theorem dL_law_279 : DD cL_law 279 (.aload_n 0) 1 280 := ⟨by decide +kernel, rfl⟩
theorem dL_law_280 : DD cL_law 280 (.iload_n 3) 1 281 := ⟨by decide +kernel, rfl⟩
theorem dL_law_281 : DD cL_law 281 (.iconst 2) 1 282 := ⟨by decide +kernel, rfl⟩
theorem dL_law_282 : DD cL_law 282 (.iadd) 1 283 := ⟨by decide +kernel, rfl⟩
theorem dL_law_283 : DD cL_law 283 (.iaload) 1 284 := ⟨by decide +kernel, rfl⟩
theorem dL_law_284 : DD cL_law 284 (.aload_n 0) 1 285 := ⟨by decide +kernel, rfl⟩
theorem dL_law_285 : DD cL_law 285 (.iload_n 3) 1 286 := ⟨by decide +kernel, rfl⟩
theorem dL_law_286 : DD cL_law 286 (.iconst 3) 1 287 := ⟨by decide +kernel, rfl⟩
theorem dL_law_287 : DD cL_law 287 (.iadd) 1 288 := ⟨by decide +kernel, rfl⟩
theorem dL_law_288 : DD cL_law 288 (.iaload) 1 289 := ⟨by decide +kernel, rfl⟩
theorem dL_law_289 : DD cL_law 289 (.invokevirtual 26) 3 292 := ⟨by decide +kernel, rfl⟩
theorem dL_law_292 : DD cL_law 292 (.if_icmp .eq 1112) 3 295 := ⟨by decide +kernel, rfl⟩
theorem dL_law_295 : DD cL_law 295 (.iconst 0) 1 296 := ⟨by decide +kernel, rfl⟩
theorem dL_law_296 : DD cL_law 296 (.ireturn) 1 297 := ⟨by decide +kernel, rfl⟩
theorem dL_law_297 : DD cL_law 297 (.aload_n 1) 1 298 := ⟨by decide +kernel, rfl⟩
theorem dL_law_298 : DD cL_law 298 (.aload_n 0) 1 299 := ⟨by decide +kernel, rfl⟩
theorem dL_law_299 : DD cL_law 299 (.iload_n 3) 1 300 := ⟨by decide +kernel, rfl⟩
theorem dL_law_300 : DD cL_law 300 (.iconst 1) 1 301 := ⟨by decide +kernel, rfl⟩
theorem dL_law_301 : DD cL_law 301 (.iadd) 1 302 := ⟨by decide +kernel, rfl⟩
theorem dL_law_302 : DD cL_law 302 (.iaload) 1 303 := ⟨by decide +kernel, rfl⟩
theorem dL_law_303 : DD cL_law 303 (.aload_n 0) 1 304 := ⟨by decide +kernel, rfl⟩
theorem dL_law_304 : DD cL_law 304 (.iload_n 3) 1 305 := ⟨by decide +kernel, rfl⟩
theorem dL_law_305 : DD cL_law 305 (.iconst 2) 1 306 := ⟨by decide +kernel, rfl⟩
theorem dL_law_306 : DD cL_law 306 (.iadd) 1 307 := ⟨by decide +kernel, rfl⟩
theorem dL_law_307 : DD cL_law 307 (.iaload) 1 308 := ⟨by decide +kernel, rfl⟩
theorem dL_law_308 : DD cL_law 308 (.invokevirtual 27) 3 311 := ⟨by decide +kernel, rfl⟩
theorem dL_law_311 : DD cL_law 311 (.aload_n 2) 1 312 := ⟨by decide +kernel, rfl⟩
theorem dL_law_312 : DD cL_law 312 (.aload_n 0) 1 313 := ⟨by decide +kernel, rfl⟩
theorem dL_law_313 : DD cL_law 313 (.iload_n 3) 1 314 := ⟨by decide +kernel, rfl⟩
theorem dL_law_314 : DD cL_law 314 (.iconst 1) 1 315 := ⟨by decide +kernel, rfl⟩
theorem dL_law_315 : DD cL_law 315 (.iadd) 1 316 := ⟨by decide +kernel, rfl⟩
theorem dL_law_316 : DD cL_law 316 (.iaload) 1 317 := ⟨by decide +kernel, rfl⟩
theorem dL_law_317 : DD cL_law 317 (.aload_n 0) 1 318 := ⟨by decide +kernel, rfl⟩
theorem dL_law_318 : DD cL_law 318 (.iload_n 3) 1 319 := ⟨by decide +kernel, rfl⟩
theorem dL_law_319 : DD cL_law 319 (.iconst 2) 1 320 := ⟨by decide +kernel, rfl⟩
theorem dL_law_320 : DD cL_law 320 (.iadd) 1 321 := ⟨by decide +kernel, rfl⟩
theorem dL_law_321 : DD cL_law 321 (.iaload) 1 322 := ⟨by decide +kernel, rfl⟩
theorem dL_law_322 : DD cL_law 322 (.invokevirtual 30) 3 325 := ⟨by decide +kernel, rfl⟩
theorem dL_law_325 : DD cL_law 325 (.if_icmp .eq 1079) 3 328 := ⟨by decide +kernel, rfl⟩
theorem dL_law_328 : DD cL_law 328 (.iconst 0) 1 329 := ⟨by decide +kernel, rfl⟩
theorem dL_law_329 : DD cL_law 329 (.ireturn) 1 330 := ⟨by decide +kernel, rfl⟩
theorem dL_law_330 : DD cL_law 330 (.aload_n 1) 1 331 := ⟨by decide +kernel, rfl⟩
theorem dL_law_331 : DD cL_law 331 (.aload_n 0) 1 332 := ⟨by decide +kernel, rfl⟩
theorem dL_law_332 : DD cL_law 332 (.iload_n 3) 1 333 := ⟨by decide +kernel, rfl⟩
theorem dL_law_333 : DD cL_law 333 (.iconst 1) 1 334 := ⟨by decide +kernel, rfl⟩
theorem dL_law_334 : DD cL_law 334 (.iadd) 1 335 := ⟨by decide +kernel, rfl⟩
theorem dL_law_335 : DD cL_law 335 (.iaload) 1 336 := ⟨by decide +kernel, rfl⟩
theorem dL_law_336 : DD cL_law 336 (.aload_n 0) 1 337 := ⟨by decide +kernel, rfl⟩
theorem dL_law_337 : DD cL_law 337 (.iload_n 3) 1 338 := ⟨by decide +kernel, rfl⟩
theorem dL_law_338 : DD cL_law 338 (.iconst 2) 1 339 := ⟨by decide +kernel, rfl⟩
theorem dL_law_339 : DD cL_law 339 (.iadd) 1 340 := ⟨by decide +kernel, rfl⟩
theorem dL_law_340 : DD cL_law 340 (.iaload) 1 341 := ⟨by decide +kernel, rfl⟩
theorem dL_law_341 : DD cL_law 341 (.invokevirtual 31) 3 344 := ⟨by decide +kernel, rfl⟩
theorem dL_law_344 : DD cL_law 344 (.aload_n 2) 1 345 := ⟨by decide +kernel, rfl⟩
theorem dL_law_345 : DD cL_law 345 (.aload_n 0) 1 346 := ⟨by decide +kernel, rfl⟩
theorem dL_law_346 : DD cL_law 346 (.iload_n 3) 1 347 := ⟨by decide +kernel, rfl⟩
theorem dL_law_347 : DD cL_law 347 (.iconst 1) 1 348 := ⟨by decide +kernel, rfl⟩
theorem dL_law_348 : DD cL_law 348 (.iadd) 1 349 := ⟨by decide +kernel, rfl⟩
theorem dL_law_349 : DD cL_law 349 (.iaload) 1 350 := ⟨by decide +kernel, rfl⟩
theorem dL_law_350 : DD cL_law 350 (.aload_n 0) 1 351 := ⟨by decide +kernel, rfl⟩
theorem dL_law_351 : DD cL_law 351 (.iload_n 3) 1 352 := ⟨by decide +kernel, rfl⟩
theorem dL_law_352 : DD cL_law 352 (.iconst 2) 1 353 := ⟨by decide +kernel, rfl⟩
theorem dL_law_353 : DD cL_law 353 (.iadd) 1 354 := ⟨by decide +kernel, rfl⟩
theorem dL_law_354 : DD cL_law 354 (.iaload) 1 355 := ⟨by decide +kernel, rfl⟩
theorem dL_law_355 : DD cL_law 355 (.invokevirtual 34) 3 358 := ⟨by decide +kernel, rfl⟩
theorem dL_law_358 : DD cL_law 358 (.if_icmp .eq 1046) 3 361 := ⟨by decide +kernel, rfl⟩
theorem dL_law_361 : DD cL_law 361 (.iconst 0) 1 362 := ⟨by decide +kernel, rfl⟩
theorem dL_law_362 : DD cL_law 362 (.ireturn) 1 363 := ⟨by decide +kernel, rfl⟩
theorem dL_law_363 : DD cL_law 363 (.aload_n 1) 1 364 := ⟨by decide +kernel, rfl⟩
theorem dL_law_364 : DD cL_law 364 (.aload_n 0) 1 365 := ⟨by decide +kernel, rfl⟩
theorem dL_law_365 : DD cL_law 365 (.iload_n 3) 1 366 := ⟨by decide +kernel, rfl⟩
theorem dL_law_366 : DD cL_law 366 (.iconst 1) 1 367 := ⟨by decide +kernel, rfl⟩
theorem dL_law_367 : DD cL_law 367 (.iadd) 1 368 := ⟨by decide +kernel, rfl⟩
theorem dL_law_368 : DD cL_law 368 (.iaload) 1 369 := ⟨by decide +kernel, rfl⟩
theorem dL_law_369 : DD cL_law 369 (.aload_n 0) 1 370 := ⟨by decide +kernel, rfl⟩
theorem dL_law_370 : DD cL_law 370 (.iload_n 3) 1 371 := ⟨by decide +kernel, rfl⟩
theorem dL_law_371 : DD cL_law 371 (.iconst 2) 1 372 := ⟨by decide +kernel, rfl⟩
theorem dL_law_372 : DD cL_law 372 (.iadd) 1 373 := ⟨by decide +kernel, rfl⟩
theorem dL_law_373 : DD cL_law 373 (.iaload) 1 374 := ⟨by decide +kernel, rfl⟩
theorem dL_law_374 : DD cL_law 374 (.aload_n 0) 1 375 := ⟨by decide +kernel, rfl⟩
theorem dL_law_375 : DD cL_law 375 (.iload_n 3) 1 376 := ⟨by decide +kernel, rfl⟩
theorem dL_law_376 : DD cL_law 376 (.iconst 3) 1 377 := ⟨by decide +kernel, rfl⟩
theorem dL_law_377 : DD cL_law 377 (.iadd) 1 378 := ⟨by decide +kernel, rfl⟩
theorem dL_law_378 : DD cL_law 378 (.iaload) 1 379 := ⟨by decide +kernel, rfl⟩
theorem dL_law_379 : DD cL_law 379 (.aload_n 0) 1 380 := ⟨by decide +kernel, rfl⟩
theorem dL_law_380 : DD cL_law 380 (.iload_n 3) 1 381 := ⟨by decide +kernel, rfl⟩
theorem dL_law_381 : DD cL_law 381 (.iconst 4) 1 382 := ⟨by decide +kernel, rfl⟩
theorem dL_law_382 : DD cL_law 382 (.iadd) 1 383 := ⟨by decide +kernel, rfl⟩
theorem dL_law_383 : DD cL_law 383 (.iaload) 1 384 := ⟨by decide +kernel, rfl⟩
theorem dL_law_384 : DD cL_law 384 (.aload_n 0) 1 385 := ⟨by decide +kernel, rfl⟩
theorem dL_law_385 : DD cL_law 385 (.iload_n 3) 1 386 := ⟨by decide +kernel, rfl⟩
theorem dL_law_386 : DD cL_law 386 (.iconst 5) 1 387 := ⟨by decide +kernel, rfl⟩
theorem dL_law_387 : DD cL_law 387 (.iadd) 1 388 := ⟨by decide +kernel, rfl⟩
theorem dL_law_388 : DD cL_law 388 (.iaload) 1 389 := ⟨by decide +kernel, rfl⟩
theorem dL_law_389 : DD cL_law 389 (.invokevirtual 35) 3 392 := ⟨by decide +kernel, rfl⟩
theorem dL_law_392 : DD cL_law 392 (.aload_n 2) 1 393 := ⟨by decide +kernel, rfl⟩
theorem dL_law_393 : DD cL_law 393 (.aload_n 0) 1 394 := ⟨by decide +kernel, rfl⟩
theorem dL_law_394 : DD cL_law 394 (.iload_n 3) 1 395 := ⟨by decide +kernel, rfl⟩
theorem dL_law_395 : DD cL_law 395 (.iconst 1) 1 396 := ⟨by decide +kernel, rfl⟩
theorem dL_law_396 : DD cL_law 396 (.iadd) 1 397 := ⟨by decide +kernel, rfl⟩
theorem dL_law_397 : DD cL_law 397 (.iaload) 1 398 := ⟨by decide +kernel, rfl⟩
theorem dL_law_398 : DD cL_law 398 (.aload_n 0) 1 399 := ⟨by decide +kernel, rfl⟩
theorem dL_law_399 : DD cL_law 399 (.iload_n 3) 1 400 := ⟨by decide +kernel, rfl⟩
theorem dL_law_400 : DD cL_law 400 (.iconst 2) 1 401 := ⟨by decide +kernel, rfl⟩
theorem dL_law_401 : DD cL_law 401 (.iadd) 1 402 := ⟨by decide +kernel, rfl⟩
theorem dL_law_402 : DD cL_law 402 (.iaload) 1 403 := ⟨by decide +kernel, rfl⟩
theorem dL_law_403 : DD cL_law 403 (.aload_n 0) 1 404 := ⟨by decide +kernel, rfl⟩
theorem dL_law_404 : DD cL_law 404 (.iload_n 3) 1 405 := ⟨by decide +kernel, rfl⟩
theorem dL_law_405 : DD cL_law 405 (.iconst 3) 1 406 := ⟨by decide +kernel, rfl⟩
theorem dL_law_406 : DD cL_law 406 (.iadd) 1 407 := ⟨by decide +kernel, rfl⟩
theorem dL_law_407 : DD cL_law 407 (.iaload) 1 408 := ⟨by decide +kernel, rfl⟩
theorem dL_law_408 : DD cL_law 408 (.aload_n 0) 1 409 := ⟨by decide +kernel, rfl⟩
theorem dL_law_409 : DD cL_law 409 (.iload_n 3) 1 410 := ⟨by decide +kernel, rfl⟩
theorem dL_law_410 : DD cL_law 410 (.iconst 4) 1 411 := ⟨by decide +kernel, rfl⟩
theorem dL_law_411 : DD cL_law 411 (.iadd) 1 412 := ⟨by decide +kernel, rfl⟩
theorem dL_law_412 : DD cL_law 412 (.iaload) 1 413 := ⟨by decide +kernel, rfl⟩
theorem dL_law_413 : DD cL_law 413 (.aload_n 0) 1 414 := ⟨by decide +kernel, rfl⟩
theorem dL_law_414 : DD cL_law 414 (.iload_n 3) 1 415 := ⟨by decide +kernel, rfl⟩
theorem dL_law_415 : DD cL_law 415 (.iconst 5) 1 416 := ⟨by decide +kernel, rfl⟩
theorem dL_law_416 : DD cL_law 416 (.iadd) 1 417 := ⟨by decide +kernel, rfl⟩
theorem dL_law_417 : DD cL_law 417 (.iaload) 1 418 := ⟨by decide +kernel, rfl⟩
theorem dL_law_418 : DD cL_law 418 (.invokevirtual 39) 3 421 := ⟨by decide +kernel, rfl⟩
theorem dL_law_421 : DD cL_law 421 (.if_icmp .eq 983) 3 424 := ⟨by decide +kernel, rfl⟩
theorem dL_law_424 : DD cL_law 424 (.iconst 0) 1 425 := ⟨by decide +kernel, rfl⟩
theorem dL_law_425 : DD cL_law 425 (.ireturn) 1 426 := ⟨by decide +kernel, rfl⟩
theorem dL_law_426 : DD cL_law 426 (.aload_n 1) 1 427 := ⟨by decide +kernel, rfl⟩
theorem dL_law_427 : DD cL_law 427 (.aload_n 0) 1 428 := ⟨by decide +kernel, rfl⟩
theorem dL_law_428 : DD cL_law 428 (.iload_n 3) 1 429 := ⟨by decide +kernel, rfl⟩
theorem dL_law_429 : DD cL_law 429 (.iconst 1) 1 430 := ⟨by decide +kernel, rfl⟩
theorem dL_law_430 : DD cL_law 430 (.iadd) 1 431 := ⟨by decide +kernel, rfl⟩
theorem dL_law_431 : DD cL_law 431 (.iaload) 1 432 := ⟨by decide +kernel, rfl⟩
theorem dL_law_432 : DD cL_law 432 (.aload_n 0) 1 433 := ⟨by decide +kernel, rfl⟩
theorem dL_law_433 : DD cL_law 433 (.iload_n 3) 1 434 := ⟨by decide +kernel, rfl⟩
theorem dL_law_434 : DD cL_law 434 (.iconst 2) 1 435 := ⟨by decide +kernel, rfl⟩
theorem dL_law_435 : DD cL_law 435 (.iadd) 1 436 := ⟨by decide +kernel, rfl⟩
theorem dL_law_436 : DD cL_law 436 (.iaload) 1 437 := ⟨by decide +kernel, rfl⟩
theorem dL_law_437 : DD cL_law 437 (.invokevirtual 40) 3 440 := ⟨by decide +kernel, rfl⟩
theorem dL_law_440 : DD cL_law 440 (.aload_n 2) 1 441 := ⟨by decide +kernel, rfl⟩
theorem dL_law_441 : DD cL_law 441 (.aload_n 0) 1 442 := ⟨by decide +kernel, rfl⟩
theorem dL_law_442 : DD cL_law 442 (.iload_n 3) 1 443 := ⟨by decide +kernel, rfl⟩
theorem dL_law_443 : DD cL_law 443 (.iconst 1) 1 444 := ⟨by decide +kernel, rfl⟩
theorem dL_law_444 : DD cL_law 444 (.iadd) 1 445 := ⟨by decide +kernel, rfl⟩
theorem dL_law_445 : DD cL_law 445 (.iaload) 1 446 := ⟨by decide +kernel, rfl⟩
theorem dL_law_446 : DD cL_law 446 (.aload_n 0) 1 447 := ⟨by decide +kernel, rfl⟩
theorem dL_law_447 : DD cL_law 447 (.iload_n 3) 1 448 := ⟨by decide +kernel, rfl⟩
theorem dL_law_448 : DD cL_law 448 (.iconst 2) 1 449 := ⟨by decide +kernel, rfl⟩
theorem dL_law_449 : DD cL_law 449 (.iadd) 1 450 := ⟨by decide +kernel, rfl⟩
theorem dL_law_450 : DD cL_law 450 (.iaload) 1 451 := ⟨by decide +kernel, rfl⟩
theorem dL_law_451 : DD cL_law 451 (.invokevirtual 43) 3 454 := ⟨by decide +kernel, rfl⟩
theorem dL_law_454 : DD cL_law 454 (.if_icmp .eq 950) 3 457 := ⟨by decide +kernel, rfl⟩
theorem dL_law_457 : DD cL_law 457 (.iconst 0) 1 458 := ⟨by decide +kernel, rfl⟩
theorem dL_law_458 : DD cL_law 458 (.ireturn) 1 459 := ⟨by decide +kernel, rfl⟩
theorem dL_law_459 : DD cL_law 459 (.aload_n 1) 1 460 := ⟨by decide +kernel, rfl⟩
theorem dL_law_460 : DD cL_law 460 (.invokevirtual 44) 3 463 := ⟨by decide +kernel, rfl⟩
theorem dL_law_463 : DD cL_law 463 (.aload_n 2) 1 464 := ⟨by decide +kernel, rfl⟩
theorem dL_law_464 : DD cL_law 464 (.invokevirtual 48) 3 467 := ⟨by decide +kernel, rfl⟩
theorem dL_law_467 : DD cL_law 467 (.if_icmp .eq 937) 3 470 := ⟨by decide +kernel, rfl⟩
theorem dL_law_470 : DD cL_law 470 (.iconst 0) 1 471 := ⟨by decide +kernel, rfl⟩
theorem dL_law_471 : DD cL_law 471 (.ireturn) 1 472 := ⟨by decide +kernel, rfl⟩
theorem dL_law_472 : DD cL_law 472 (.aload_n 1) 1 473 := ⟨by decide +kernel, rfl⟩
theorem dL_law_473 : DD cL_law 473 (.aload_n 0) 1 474 := ⟨by decide +kernel, rfl⟩
theorem dL_law_474 : DD cL_law 474 (.iload_n 3) 1 475 := ⟨by decide +kernel, rfl⟩
theorem dL_law_475 : DD cL_law 475 (.iconst 1) 1 476 := ⟨by decide +kernel, rfl⟩
theorem dL_law_476 : DD cL_law 476 (.iadd) 1 477 := ⟨by decide +kernel, rfl⟩
theorem dL_law_477 : DD cL_law 477 (.iaload) 1 478 := ⟨by decide +kernel, rfl⟩
theorem dL_law_478 : DD cL_law 478 (.invokevirtual 49) 3 481 := ⟨by decide +kernel, rfl⟩
theorem dL_law_481 : DD cL_law 481 (.aload_n 2) 1 482 := ⟨by decide +kernel, rfl⟩
theorem dL_law_482 : DD cL_law 482 (.aload_n 0) 1 483 := ⟨by decide +kernel, rfl⟩
theorem dL_law_483 : DD cL_law 483 (.iload_n 3) 1 484 := ⟨by decide +kernel, rfl⟩
theorem dL_law_484 : DD cL_law 484 (.iconst 1) 1 485 := ⟨by decide +kernel, rfl⟩
theorem dL_law_485 : DD cL_law 485 (.iadd) 1 486 := ⟨by decide +kernel, rfl⟩
theorem dL_law_486 : DD cL_law 486 (.iaload) 1 487 := ⟨by decide +kernel, rfl⟩
theorem dL_law_487 : DD cL_law 487 (.invokevirtual 53) 3 490 := ⟨by decide +kernel, rfl⟩
theorem dL_law_490 : DD cL_law 490 (.if_icmp .eq 914) 3 493 := ⟨by decide +kernel, rfl⟩
theorem dL_law_493 : DD cL_law 493 (.iconst 0) 1 494 := ⟨by decide +kernel, rfl⟩
theorem dL_law_494 : DD cL_law 494 (.ireturn) 1 495 := ⟨by decide +kernel, rfl⟩
theorem dL_law_495 : DD cL_law 495 (.aload_n 1) 1 496 := ⟨by decide +kernel, rfl⟩
theorem dL_law_496 : DD cL_law 496 (.aload_n 0) 1 497 := ⟨by decide +kernel, rfl⟩
theorem dL_law_497 : DD cL_law 497 (.iload_n 3) 1 498 := ⟨by decide +kernel, rfl⟩
theorem dL_law_498 : DD cL_law 498 (.iconst 1) 1 499 := ⟨by decide +kernel, rfl⟩
theorem dL_law_499 : DD cL_law 499 (.iadd) 1 500 := ⟨by decide +kernel, rfl⟩
theorem dL_law_500 : DD cL_law 500 (.iaload) 1 501 := ⟨by decide +kernel, rfl⟩
theorem dL_law_501 : DD cL_law 501 (.aload_n 0) 1 502 := ⟨by decide +kernel, rfl⟩
theorem dL_law_502 : DD cL_law 502 (.iload_n 3) 1 503 := ⟨by decide +kernel, rfl⟩
theorem dL_law_503 : DD cL_law 503 (.iconst 2) 1 504 := ⟨by decide +kernel, rfl⟩
theorem dL_law_504 : DD cL_law 504 (.iadd) 1 505 := ⟨by decide +kernel, rfl⟩
theorem dL_law_505 : DD cL_law 505 (.iaload) 1 506 := ⟨by decide +kernel, rfl⟩
theorem dL_law_506 : DD cL_law 506 (.invokevirtual 54) 3 509 := ⟨by decide +kernel, rfl⟩
theorem dL_law_509 : DD cL_law 509 (.aload_n 2) 1 510 := ⟨by decide +kernel, rfl⟩
theorem dL_law_510 : DD cL_law 510 (.aload_n 0) 1 511 := ⟨by decide +kernel, rfl⟩
theorem dL_law_511 : DD cL_law 511 (.iload_n 3) 1 512 := ⟨by decide +kernel, rfl⟩
theorem dL_law_512 : DD cL_law 512 (.iconst 1) 1 513 := ⟨by decide +kernel, rfl⟩
theorem dL_law_513 : DD cL_law 513 (.iadd) 1 514 := ⟨by decide +kernel, rfl⟩
theorem dL_law_514 : DD cL_law 514 (.iaload) 1 515 := ⟨by decide +kernel, rfl⟩
theorem dL_law_515 : DD cL_law 515 (.aload_n 0) 1 516 := ⟨by decide +kernel, rfl⟩
theorem dL_law_516 : DD cL_law 516 (.iload_n 3) 1 517 := ⟨by decide +kernel, rfl⟩
theorem dL_law_517 : DD cL_law 517 (.iconst 2) 1 518 := ⟨by decide +kernel, rfl⟩
theorem dL_law_518 : DD cL_law 518 (.iadd) 1 519 := ⟨by decide +kernel, rfl⟩
theorem dL_law_519 : DD cL_law 519 (.iaload) 1 520 := ⟨by decide +kernel, rfl⟩
theorem dL_law_520 : DD cL_law 520 (.invokevirtual 57) 3 523 := ⟨by decide +kernel, rfl⟩
theorem dL_law_523 : DD cL_law 523 (.if_icmp .eq 881) 3 526 := ⟨by decide +kernel, rfl⟩
theorem dL_law_526 : DD cL_law 526 (.iconst 0) 1 527 := ⟨by decide +kernel, rfl⟩
theorem dL_law_527 : DD cL_law 527 (.ireturn) 1 528 := ⟨by decide +kernel, rfl⟩
theorem dL_law_528 : DD cL_law 528 (.aload_n 1) 1 529 := ⟨by decide +kernel, rfl⟩
theorem dL_law_529 : DD cL_law 529 (.aload_n 0) 1 530 := ⟨by decide +kernel, rfl⟩
theorem dL_law_530 : DD cL_law 530 (.iload_n 3) 1 531 := ⟨by decide +kernel, rfl⟩
theorem dL_law_531 : DD cL_law 531 (.iconst 1) 1 532 := ⟨by decide +kernel, rfl⟩
theorem dL_law_532 : DD cL_law 532 (.iadd) 1 533 := ⟨by decide +kernel, rfl⟩
theorem dL_law_533 : DD cL_law 533 (.iaload) 1 534 := ⟨by decide +kernel, rfl⟩
theorem dL_law_534 : DD cL_law 534 (.invokevirtual 58) 3 537 := ⟨by decide +kernel, rfl⟩
theorem dL_law_537 : DD cL_law 537 (.aload_n 2) 1 538 := ⟨by decide +kernel, rfl⟩
theorem dL_law_538 : DD cL_law 538 (.aload_n 0) 1 539 := ⟨by decide +kernel, rfl⟩
theorem dL_law_539 : DD cL_law 539 (.iload_n 3) 1 540 := ⟨by decide +kernel, rfl⟩
theorem dL_law_540 : DD cL_law 540 (.iconst 1) 1 541 := ⟨by decide +kernel, rfl⟩
theorem dL_law_541 : DD cL_law 541 (.iadd) 1 542 := ⟨by decide +kernel, rfl⟩
theorem dL_law_542 : DD cL_law 542 (.iaload) 1 543 := ⟨by decide +kernel, rfl⟩
theorem dL_law_543 : DD cL_law 543 (.invokevirtual 61) 3 546 := ⟨by decide +kernel, rfl⟩
theorem dL_law_546 : DD cL_law 546 (.if_icmp .eq 858) 3 549 := ⟨by decide +kernel, rfl⟩
theorem dL_law_549 : DD cL_law 549 (.iconst 0) 1 550 := ⟨by decide +kernel, rfl⟩
theorem dL_law_550 : DD cL_law 550 (.ireturn) 1 551 := ⟨by decide +kernel, rfl⟩
theorem dL_law_551 : DD cL_law 551 (.aload_n 1) 1 552 := ⟨by decide +kernel, rfl⟩
theorem dL_law_552 : DD cL_law 552 (.aload_n 0) 1 553 := ⟨by decide +kernel, rfl⟩
theorem dL_law_553 : DD cL_law 553 (.iload_n 3) 1 554 := ⟨by decide +kernel, rfl⟩
theorem dL_law_554 : DD cL_law 554 (.iconst 1) 1 555 := ⟨by decide +kernel, rfl⟩
theorem dL_law_555 : DD cL_law 555 (.iadd) 1 556 := ⟨by decide +kernel, rfl⟩
theorem dL_law_556 : DD cL_law 556 (.iaload) 1 557 := ⟨by decide +kernel, rfl⟩
theorem dL_law_557 : DD cL_law 557 (.invokevirtual 62) 3 560 := ⟨by decide +kernel, rfl⟩
theorem dL_law_560 : DD cL_law 560 (.aload_n 2) 1 561 := ⟨by decide +kernel, rfl⟩
theorem dL_law_561 : DD cL_law 561 (.aload_n 0) 1 562 := ⟨by decide +kernel, rfl⟩
theorem dL_law_562 : DD cL_law 562 (.iload_n 3) 1 563 := ⟨by decide +kernel, rfl⟩
theorem dL_law_563 : DD cL_law 563 (.iconst 1) 1 564 := ⟨by decide +kernel, rfl⟩
theorem dL_law_564 : DD cL_law 564 (.iadd) 1 565 := ⟨by decide +kernel, rfl⟩
theorem dL_law_565 : DD cL_law 565 (.iaload) 1 566 := ⟨by decide +kernel, rfl⟩
theorem dL_law_566 : DD cL_law 566 (.invokevirtual 65) 3 569 := ⟨by decide +kernel, rfl⟩
theorem dL_law_569 : DD cL_law 569 (.if_icmp .eq 835) 3 572 := ⟨by decide +kernel, rfl⟩
theorem dL_law_572 : DD cL_law 572 (.iconst 0) 1 573 := ⟨by decide +kernel, rfl⟩
theorem dL_law_573 : DD cL_law 573 (.ireturn) 1 574 := ⟨by decide +kernel, rfl⟩
theorem dL_law_574 : DD cL_law 574 (.aload_n 1) 1 575 := ⟨by decide +kernel, rfl⟩
theorem dL_law_575 : DD cL_law 575 (.aload_n 0) 1 576 := ⟨by decide +kernel, rfl⟩
theorem dL_law_576 : DD cL_law 576 (.iload_n 3) 1 577 := ⟨by decide +kernel, rfl⟩
theorem dL_law_577 : DD cL_law 577 (.iconst 1) 1 578 := ⟨by decide +kernel, rfl⟩
theorem dL_law_578 : DD cL_law 578 (.iadd) 1 579 := ⟨by decide +kernel, rfl⟩
theorem dL_law_579 : DD cL_law 579 (.iaload) 1 580 := ⟨by decide +kernel, rfl⟩
theorem dL_law_580 : DD cL_law 580 (.aload_n 0) 1 581 := ⟨by decide +kernel, rfl⟩
theorem dL_law_581 : DD cL_law 581 (.iload_n 3) 1 582 := ⟨by decide +kernel, rfl⟩
theorem dL_law_582 : DD cL_law 582 (.iconst 2) 1 583 := ⟨by decide +kernel, rfl⟩
theorem dL_law_583 : DD cL_law 583 (.iadd) 1 584 := ⟨by decide +kernel, rfl⟩
theorem dL_law_584 : DD cL_law 584 (.iaload) 1 585 := ⟨by decide +kernel, rfl⟩
theorem dL_law_585 : DD cL_law 585 (.aload_n 0) 1 586 := ⟨by decide +kernel, rfl⟩
theorem dL_law_586 : DD cL_law 586 (.iload_n 3) 1 587 := ⟨by decide +kernel, rfl⟩
theorem dL_law_587 : DD cL_law 587 (.iconst 3) 1 588 := ⟨by decide +kernel, rfl⟩
theorem dL_law_588 : DD cL_law 588 (.iadd) 1 589 := ⟨by decide +kernel, rfl⟩
theorem dL_law_589 : DD cL_law 589 (.iaload) 1 590 := ⟨by decide +kernel, rfl⟩
theorem dL_law_590 : DD cL_law 590 (.aload_n 0) 1 591 := ⟨by decide +kernel, rfl⟩
theorem dL_law_591 : DD cL_law 591 (.iload_n 3) 1 592 := ⟨by decide +kernel, rfl⟩
theorem dL_law_592 : DD cL_law 592 (.iconst 4) 1 593 := ⟨by decide +kernel, rfl⟩
theorem dL_law_593 : DD cL_law 593 (.iadd) 1 594 := ⟨by decide +kernel, rfl⟩
theorem dL_law_594 : DD cL_law 594 (.iaload) 1 595 := ⟨by decide +kernel, rfl⟩
theorem dL_law_595 : DD cL_law 595 (.invokevirtual 66) 3 598 := ⟨by decide +kernel, rfl⟩
theorem dL_law_598 : DD cL_law 598 (.aload_n 2) 1 599 := ⟨by decide +kernel, rfl⟩
theorem dL_law_599 : DD cL_law 599 (.aload_n 0) 1 600 := ⟨by decide +kernel, rfl⟩
theorem dL_law_600 : DD cL_law 600 (.iload_n 3) 1 601 := ⟨by decide +kernel, rfl⟩
theorem dL_law_601 : DD cL_law 601 (.iconst 1) 1 602 := ⟨by decide +kernel, rfl⟩
theorem dL_law_602 : DD cL_law 602 (.iadd) 1 603 := ⟨by decide +kernel, rfl⟩
theorem dL_law_603 : DD cL_law 603 (.iaload) 1 604 := ⟨by decide +kernel, rfl⟩
theorem dL_law_604 : DD cL_law 604 (.aload_n 0) 1 605 := ⟨by decide +kernel, rfl⟩
theorem dL_law_605 : DD cL_law 605 (.iload_n 3) 1 606 := ⟨by decide +kernel, rfl⟩
theorem dL_law_606 : DD cL_law 606 (.iconst 2) 1 607 := ⟨by decide +kernel, rfl⟩
theorem dL_law_607 : DD cL_law 607 (.iadd) 1 608 := ⟨by decide +kernel, rfl⟩
theorem dL_law_608 : DD cL_law 608 (.iaload) 1 609 := ⟨by decide +kernel, rfl⟩
theorem dL_law_609 : DD cL_law 609 (.aload_n 0) 1 610 := ⟨by decide +kernel, rfl⟩
theorem dL_law_610 : DD cL_law 610 (.iload_n 3) 1 611 := ⟨by decide +kernel, rfl⟩
theorem dL_law_611 : DD cL_law 611 (.iconst 3) 1 612 := ⟨by decide +kernel, rfl⟩
theorem dL_law_612 : DD cL_law 612 (.iadd) 1 613 := ⟨by decide +kernel, rfl⟩
theorem dL_law_613 : DD cL_law 613 (.iaload) 1 614 := ⟨by decide +kernel, rfl⟩
theorem dL_law_614 : DD cL_law 614 (.aload_n 0) 1 615 := ⟨by decide +kernel, rfl⟩
theorem dL_law_615 : DD cL_law 615 (.iload_n 3) 1 616 := ⟨by decide +kernel, rfl⟩
theorem dL_law_616 : DD cL_law 616 (.iconst 4) 1 617 := ⟨by decide +kernel, rfl⟩
theorem dL_law_617 : DD cL_law 617 (.iadd) 1 618 := ⟨by decide +kernel, rfl⟩
theorem dL_law_618 : DD cL_law 618 (.iaload) 1 619 := ⟨by decide +kernel, rfl⟩
theorem dL_law_619 : DD cL_law 619 (.invokevirtual 70) 3 622 := ⟨by decide +kernel, rfl⟩
theorem dL_law_622 : DD cL_law 622 (.if_icmp .eq 782) 3 625 := ⟨by decide +kernel, rfl⟩
theorem dL_law_625 : DD cL_law 625 (.iconst 0) 1 626 := ⟨by decide +kernel, rfl⟩
theorem dL_law_626 : DD cL_law 626 (.ireturn) 1 627 := ⟨by decide +kernel, rfl⟩
theorem dL_law_627 : DD cL_law 627 (.aload_n 1) 1 628 := ⟨by decide +kernel, rfl⟩
theorem dL_law_628 : DD cL_law 628 (.aload_n 0) 1 629 := ⟨by decide +kernel, rfl⟩
theorem dL_law_629 : DD cL_law 629 (.iload_n 3) 1 630 := ⟨by decide +kernel, rfl⟩
theorem dL_law_630 : DD cL_law 630 (.iconst 1) 1 631 := ⟨by decide +kernel, rfl⟩
theorem dL_law_631 : DD cL_law 631 (.iadd) 1 632 := ⟨by decide +kernel, rfl⟩
theorem dL_law_632 : DD cL_law 632 (.iaload) 1 633 := ⟨by decide +kernel, rfl⟩
theorem dL_law_633 : DD cL_law 633 (.aload_n 0) 1 634 := ⟨by decide +kernel, rfl⟩
theorem dL_law_634 : DD cL_law 634 (.iload_n 3) 1 635 := ⟨by decide +kernel, rfl⟩
theorem dL_law_635 : DD cL_law 635 (.iconst 2) 1 636 := ⟨by decide +kernel, rfl⟩
theorem dL_law_636 : DD cL_law 636 (.iadd) 1 637 := ⟨by decide +kernel, rfl⟩
theorem dL_law_637 : DD cL_law 637 (.iaload) 1 638 := ⟨by decide +kernel, rfl⟩
theorem dL_law_638 : DD cL_law 638 (.aload_n 0) 1 639 := ⟨by decide +kernel, rfl⟩
theorem dL_law_639 : DD cL_law 639 (.iload_n 3) 1 640 := ⟨by decide +kernel, rfl⟩
theorem dL_law_640 : DD cL_law 640 (.iconst 3) 1 641 := ⟨by decide +kernel, rfl⟩
theorem dL_law_641 : DD cL_law 641 (.iadd) 1 642 := ⟨by decide +kernel, rfl⟩
theorem dL_law_642 : DD cL_law 642 (.iaload) 1 643 := ⟨by decide +kernel, rfl⟩
theorem dL_law_643 : DD cL_law 643 (.invokevirtual 71) 3 646 := ⟨by decide +kernel, rfl⟩
theorem dL_law_646 : DD cL_law 646 (.aload_n 2) 1 647 := ⟨by decide +kernel, rfl⟩
theorem dL_law_647 : DD cL_law 647 (.aload_n 0) 1 648 := ⟨by decide +kernel, rfl⟩
theorem dL_law_648 : DD cL_law 648 (.iload_n 3) 1 649 := ⟨by decide +kernel, rfl⟩
theorem dL_law_649 : DD cL_law 649 (.iconst 1) 1 650 := ⟨by decide +kernel, rfl⟩
theorem dL_law_650 : DD cL_law 650 (.iadd) 1 651 := ⟨by decide +kernel, rfl⟩
theorem dL_law_651 : DD cL_law 651 (.iaload) 1 652 := ⟨by decide +kernel, rfl⟩
theorem dL_law_652 : DD cL_law 652 (.aload_n 0) 1 653 := ⟨by decide +kernel, rfl⟩
theorem dL_law_653 : DD cL_law 653 (.iload_n 3) 1 654 := ⟨by decide +kernel, rfl⟩
theorem dL_law_654 : DD cL_law 654 (.iconst 2) 1 655 := ⟨by decide +kernel, rfl⟩
theorem dL_law_655 : DD cL_law 655 (.iadd) 1 656 := ⟨by decide +kernel, rfl⟩
theorem dL_law_656 : DD cL_law 656 (.iaload) 1 657 := ⟨by decide +kernel, rfl⟩
theorem dL_law_657 : DD cL_law 657 (.aload_n 0) 1 658 := ⟨by decide +kernel, rfl⟩
theorem dL_law_658 : DD cL_law 658 (.iload_n 3) 1 659 := ⟨by decide +kernel, rfl⟩
theorem dL_law_659 : DD cL_law 659 (.iconst 3) 1 660 := ⟨by decide +kernel, rfl⟩
theorem dL_law_660 : DD cL_law 660 (.iadd) 1 661 := ⟨by decide +kernel, rfl⟩
theorem dL_law_661 : DD cL_law 661 (.iaload) 1 662 := ⟨by decide +kernel, rfl⟩
theorem dL_law_662 : DD cL_law 662 (.invokevirtual 74) 3 665 := ⟨by decide +kernel, rfl⟩
theorem dL_law_665 : DD cL_law 665 (.if_icmp .eq 739) 3 668 := ⟨by decide +kernel, rfl⟩
theorem dL_law_668 : DD cL_law 668 (.iconst 0) 1 669 := ⟨by decide +kernel, rfl⟩
theorem dL_law_669 : DD cL_law 669 (.ireturn) 1 670 := ⟨by decide +kernel, rfl⟩
theorem dL_law_670 : DD cL_law 670 (.aload_n 1) 1 671 := ⟨by decide +kernel, rfl⟩
theorem dL_law_671 : DD cL_law 671 (.aload_n 0) 1 672 := ⟨by decide +kernel, rfl⟩
theorem dL_law_672 : DD cL_law 672 (.iload_n 3) 1 673 := ⟨by decide +kernel, rfl⟩
theorem dL_law_673 : DD cL_law 673 (.iconst 1) 1 674 := ⟨by decide +kernel, rfl⟩
theorem dL_law_674 : DD cL_law 674 (.iadd) 1 675 := ⟨by decide +kernel, rfl⟩
theorem dL_law_675 : DD cL_law 675 (.iaload) 1 676 := ⟨by decide +kernel, rfl⟩
theorem dL_law_676 : DD cL_law 676 (.aload_n 0) 1 677 := ⟨by decide +kernel, rfl⟩
theorem dL_law_677 : DD cL_law 677 (.iload_n 3) 1 678 := ⟨by decide +kernel, rfl⟩
theorem dL_law_678 : DD cL_law 678 (.iconst 2) 1 679 := ⟨by decide +kernel, rfl⟩
theorem dL_law_679 : DD cL_law 679 (.iadd) 1 680 := ⟨by decide +kernel, rfl⟩
theorem dL_law_680 : DD cL_law 680 (.iaload) 1 681 := ⟨by decide +kernel, rfl⟩
theorem dL_law_681 : DD cL_law 681 (.aload_n 0) 1 682 := ⟨by decide +kernel, rfl⟩
theorem dL_law_682 : DD cL_law 682 (.iload_n 3) 1 683 := ⟨by decide +kernel, rfl⟩
theorem dL_law_683 : DD cL_law 683 (.iconst 3) 1 684 := ⟨by decide +kernel, rfl⟩
theorem dL_law_684 : DD cL_law 684 (.iadd) 1 685 := ⟨by decide +kernel, rfl⟩
theorem dL_law_685 : DD cL_law 685 (.iaload) 1 686 := ⟨by decide +kernel, rfl⟩
theorem dL_law_686 : DD cL_law 686 (.invokevirtual 75) 3 689 := ⟨by decide +kernel, rfl⟩
theorem dL_law_689 : DD cL_law 689 (.aload_n 2) 1 690 := ⟨by decide +kernel, rfl⟩
theorem dL_law_690 : DD cL_law 690 (.aload_n 0) 1 691 := ⟨by decide +kernel, rfl⟩
theorem dL_law_691 : DD cL_law 691 (.iload_n 3) 1 692 := ⟨by decide +kernel, rfl⟩
theorem dL_law_692 : DD cL_law 692 (.iconst 1) 1 693 := ⟨by decide +kernel, rfl⟩
theorem dL_law_693 : DD cL_law 693 (.iadd) 1 694 := ⟨by decide +kernel, rfl⟩
theorem dL_law_694 : DD cL_law 694 (.iaload) 1 695 := ⟨by decide +kernel, rfl⟩
theorem dL_law_695 : DD cL_law 695 (.aload_n 0) 1 696 := ⟨by decide +kernel, rfl⟩
theorem dL_law_696 : DD cL_law 696 (.iload_n 3) 1 697 := ⟨by decide +kernel, rfl⟩
theorem dL_law_697 : DD cL_law 697 (.iconst 2) 1 698 := ⟨by decide +kernel, rfl⟩
theorem dL_law_698 : DD cL_law 698 (.iadd) 1 699 := ⟨by decide +kernel, rfl⟩
theorem dL_law_699 : DD cL_law 699 (.iaload) 1 700 := ⟨by decide +kernel, rfl⟩
theorem dL_law_700 : DD cL_law 700 (.aload_n 0) 1 701 := ⟨by decide +kernel, rfl⟩
theorem dL_law_701 : DD cL_law 701 (.iload_n 3) 1 702 := ⟨by decide +kernel, rfl⟩
theorem dL_law_702 : DD cL_law 702 (.iconst 3) 1 703 := ⟨by decide +kernel, rfl⟩
theorem dL_law_703 : DD cL_law 703 (.iadd) 1 704 := ⟨by decide +kernel, rfl⟩
theorem dL_law_704 : DD cL_law 704 (.iaload) 1 705 := ⟨by decide +kernel, rfl⟩
theorem dL_law_705 : DD cL_law 705 (.invokevirtual 78) 3 708 := ⟨by decide +kernel, rfl⟩
theorem dL_law_708 : DD cL_law 708 (.if_icmp .eq 696) 3 711 := ⟨by decide +kernel, rfl⟩
theorem dL_law_711 : DD cL_law 711 (.iconst 0) 1 712 := ⟨by decide +kernel, rfl⟩
theorem dL_law_712 : DD cL_law 712 (.ireturn) 1 713 := ⟨by decide +kernel, rfl⟩
theorem dL_law_713 : DD cL_law 713 (.aload_n 1) 1 714 := ⟨by decide +kernel, rfl⟩
theorem dL_law_714 : DD cL_law 714 (.aload_n 0) 1 715 := ⟨by decide +kernel, rfl⟩
theorem dL_law_715 : DD cL_law 715 (.iload_n 3) 1 716 := ⟨by decide +kernel, rfl⟩
theorem dL_law_716 : DD cL_law 716 (.iconst 1) 1 717 := ⟨by decide +kernel, rfl⟩
theorem dL_law_717 : DD cL_law 717 (.iadd) 1 718 := ⟨by decide +kernel, rfl⟩
theorem dL_law_718 : DD cL_law 718 (.iaload) 1 719 := ⟨by decide +kernel, rfl⟩
theorem dL_law_719 : DD cL_law 719 (.aload_n 0) 1 720 := ⟨by decide +kernel, rfl⟩
theorem dL_law_720 : DD cL_law 720 (.iload_n 3) 1 721 := ⟨by decide +kernel, rfl⟩
theorem dL_law_721 : DD cL_law 721 (.iconst 2) 1 722 := ⟨by decide +kernel, rfl⟩
theorem dL_law_722 : DD cL_law 722 (.iadd) 1 723 := ⟨by decide +kernel, rfl⟩
theorem dL_law_723 : DD cL_law 723 (.iaload) 1 724 := ⟨by decide +kernel, rfl⟩
theorem dL_law_724 : DD cL_law 724 (.aload_n 0) 1 725 := ⟨by decide +kernel, rfl⟩
theorem dL_law_725 : DD cL_law 725 (.iload_n 3) 1 726 := ⟨by decide +kernel, rfl⟩
theorem dL_law_726 : DD cL_law 726 (.iconst 3) 1 727 := ⟨by decide +kernel, rfl⟩
theorem dL_law_727 : DD cL_law 727 (.iadd) 1 728 := ⟨by decide +kernel, rfl⟩
theorem dL_law_728 : DD cL_law 728 (.iaload) 1 729 := ⟨by decide +kernel, rfl⟩
theorem dL_law_729 : DD cL_law 729 (.invokevirtual 79) 3 732 := ⟨by decide +kernel, rfl⟩
theorem dL_law_732 : DD cL_law 732 (.aload_n 2) 1 733 := ⟨by decide +kernel, rfl⟩
theorem dL_law_733 : DD cL_law 733 (.aload_n 0) 1 734 := ⟨by decide +kernel, rfl⟩
theorem dL_law_734 : DD cL_law 734 (.iload_n 3) 1 735 := ⟨by decide +kernel, rfl⟩
theorem dL_law_735 : DD cL_law 735 (.iconst 1) 1 736 := ⟨by decide +kernel, rfl⟩
theorem dL_law_736 : DD cL_law 736 (.iadd) 1 737 := ⟨by decide +kernel, rfl⟩
theorem dL_law_737 : DD cL_law 737 (.iaload) 1 738 := ⟨by decide +kernel, rfl⟩
theorem dL_law_738 : DD cL_law 738 (.aload_n 0) 1 739 := ⟨by decide +kernel, rfl⟩
theorem dL_law_739 : DD cL_law 739 (.iload_n 3) 1 740 := ⟨by decide +kernel, rfl⟩
theorem dL_law_740 : DD cL_law 740 (.iconst 2) 1 741 := ⟨by decide +kernel, rfl⟩
theorem dL_law_741 : DD cL_law 741 (.iadd) 1 742 := ⟨by decide +kernel, rfl⟩
theorem dL_law_742 : DD cL_law 742 (.iaload) 1 743 := ⟨by decide +kernel, rfl⟩
theorem dL_law_743 : DD cL_law 743 (.aload_n 0) 1 744 := ⟨by decide +kernel, rfl⟩
theorem dL_law_744 : DD cL_law 744 (.iload_n 3) 1 745 := ⟨by decide +kernel, rfl⟩
theorem dL_law_745 : DD cL_law 745 (.iconst 3) 1 746 := ⟨by decide +kernel, rfl⟩
theorem dL_law_746 : DD cL_law 746 (.iadd) 1 747 := ⟨by decide +kernel, rfl⟩
theorem dL_law_747 : DD cL_law 747 (.iaload) 1 748 := ⟨by decide +kernel, rfl⟩
theorem dL_law_748 : DD cL_law 748 (.invokevirtual 82) 3 751 := ⟨by decide +kernel, rfl⟩
theorem dL_law_751 : DD cL_law 751 (.if_icmp .eq 653) 3 754 := ⟨by decide +kernel, rfl⟩
theorem dL_law_754 : DD cL_law 754 (.iconst 0) 1 755 := ⟨by decide +kernel, rfl⟩
theorem dL_law_755 : DD cL_law 755 (.ireturn) 1 756 := ⟨by decide +kernel, rfl⟩
theorem dL_law_756 : DD cL_law 756 (.aload_n 1) 1 757 := ⟨by decide +kernel, rfl⟩
theorem dL_law_757 : DD cL_law 757 (.aload_n 0) 1 758 := ⟨by decide +kernel, rfl⟩
theorem dL_law_758 : DD cL_law 758 (.iload_n 3) 1 759 := ⟨by decide +kernel, rfl⟩
theorem dL_law_759 : DD cL_law 759 (.iconst 1) 1 760 := ⟨by decide +kernel, rfl⟩
theorem dL_law_760 : DD cL_law 760 (.iadd) 1 761 := ⟨by decide +kernel, rfl⟩
theorem dL_law_761 : DD cL_law 761 (.iaload) 1 762 := ⟨by decide +kernel, rfl⟩
theorem dL_law_762 : DD cL_law 762 (.aload_n 0) 1 763 := ⟨by decide +kernel, rfl⟩
theorem dL_law_763 : DD cL_law 763 (.iload_n 3) 1 764 := ⟨by decide +kernel, rfl⟩
theorem dL_law_764 : DD cL_law 764 (.iconst 2) 1 765 := ⟨by decide +kernel, rfl⟩
theorem dL_law_765 : DD cL_law 765 (.iadd) 1 766 := ⟨by decide +kernel, rfl⟩
theorem dL_law_766 : DD cL_law 766 (.iaload) 1 767 := ⟨by decide +kernel, rfl⟩
theorem dL_law_767 : DD cL_law 767 (.aload_n 0) 1 768 := ⟨by decide +kernel, rfl⟩
theorem dL_law_768 : DD cL_law 768 (.iload_n 3) 1 769 := ⟨by decide +kernel, rfl⟩
theorem dL_law_769 : DD cL_law 769 (.iconst 3) 1 770 := ⟨by decide +kernel, rfl⟩
theorem dL_law_770 : DD cL_law 770 (.iadd) 1 771 := ⟨by decide +kernel, rfl⟩
theorem dL_law_771 : DD cL_law 771 (.iaload) 1 772 := ⟨by decide +kernel, rfl⟩
theorem dL_law_772 : DD cL_law 772 (.aload_n 0) 1 773 := ⟨by decide +kernel, rfl⟩
theorem dL_law_773 : DD cL_law 773 (.iload_n 3) 1 774 := ⟨by decide +kernel, rfl⟩
theorem dL_law_774 : DD cL_law 774 (.iconst 4) 1 775 := ⟨by decide +kernel, rfl⟩
theorem dL_law_775 : DD cL_law 775 (.iadd) 1 776 := ⟨by decide +kernel, rfl⟩
theorem dL_law_776 : DD cL_law 776 (.iaload) 1 777 := ⟨by decide +kernel, rfl⟩
theorem dL_law_777 : DD cL_law 777 (.invokevirtual 83) 3 780 := ⟨by decide +kernel, rfl⟩
theorem dL_law_780 : DD cL_law 780 (.aload_n 2) 1 781 := ⟨by decide +kernel, rfl⟩
theorem dL_law_781 : DD cL_law 781 (.aload_n 0) 1 782 := ⟨by decide +kernel, rfl⟩
theorem dL_law_782 : DD cL_law 782 (.iload_n 3) 1 783 := ⟨by decide +kernel, rfl⟩
theorem dL_law_783 : DD cL_law 783 (.iconst 1) 1 784 := ⟨by decide +kernel, rfl⟩
theorem dL_law_784 : DD cL_law 784 (.iadd) 1 785 := ⟨by decide +kernel, rfl⟩
theorem dL_law_785 : DD cL_law 785 (.iaload) 1 786 := ⟨by decide +kernel, rfl⟩
theorem dL_law_786 : DD cL_law 786 (.aload_n 0) 1 787 := ⟨by decide +kernel, rfl⟩
theorem dL_law_787 : DD cL_law 787 (.iload_n 3) 1 788 := ⟨by decide +kernel, rfl⟩
theorem dL_law_788 : DD cL_law 788 (.iconst 2) 1 789 := ⟨by decide +kernel, rfl⟩
theorem dL_law_789 : DD cL_law 789 (.iadd) 1 790 := ⟨by decide +kernel, rfl⟩
theorem dL_law_790 : DD cL_law 790 (.iaload) 1 791 := ⟨by decide +kernel, rfl⟩
theorem dL_law_791 : DD cL_law 791 (.aload_n 0) 1 792 := ⟨by decide +kernel, rfl⟩
theorem dL_law_792 : DD cL_law 792 (.iload_n 3) 1 793 := ⟨by decide +kernel, rfl⟩
theorem dL_law_793 : DD cL_law 793 (.iconst 3) 1 794 := ⟨by decide +kernel, rfl⟩
theorem dL_law_794 : DD cL_law 794 (.iadd) 1 795 := ⟨by decide +kernel, rfl⟩
theorem dL_law_795 : DD cL_law 795 (.iaload) 1 796 := ⟨by decide +kernel, rfl⟩
theorem dL_law_796 : DD cL_law 796 (.aload_n 0) 1 797 := ⟨by decide +kernel, rfl⟩
theorem dL_law_797 : DD cL_law 797 (.iload_n 3) 1 798 := ⟨by decide +kernel, rfl⟩
theorem dL_law_798 : DD cL_law 798 (.iconst 4) 1 799 := ⟨by decide +kernel, rfl⟩
theorem dL_law_799 : DD cL_law 799 (.iadd) 1 800 := ⟨by decide +kernel, rfl⟩
theorem dL_law_800 : DD cL_law 800 (.iaload) 1 801 := ⟨by decide +kernel, rfl⟩
theorem dL_law_801 : DD cL_law 801 (.invokevirtual 86) 3 804 := ⟨by decide +kernel, rfl⟩
theorem dL_law_804 : DD cL_law 804 (.if_icmp .eq 600) 3 807 := ⟨by decide +kernel, rfl⟩
theorem dL_law_807 : DD cL_law 807 (.iconst 0) 1 808 := ⟨by decide +kernel, rfl⟩
theorem dL_law_808 : DD cL_law 808 (.ireturn) 1 809 := ⟨by decide +kernel, rfl⟩
theorem dL_law_809 : DD cL_law 809 (.aload_n 1) 1 810 := ⟨by decide +kernel, rfl⟩
theorem dL_law_810 : DD cL_law 810 (.aload_n 0) 1 811 := ⟨by decide +kernel, rfl⟩
theorem dL_law_811 : DD cL_law 811 (.iload_n 3) 1 812 := ⟨by decide +kernel, rfl⟩
theorem dL_law_812 : DD cL_law 812 (.iconst 1) 1 813 := ⟨by decide +kernel, rfl⟩
theorem dL_law_813 : DD cL_law 813 (.iadd) 1 814 := ⟨by decide +kernel, rfl⟩
theorem dL_law_814 : DD cL_law 814 (.iaload) 1 815 := ⟨by decide +kernel, rfl⟩
theorem dL_law_815 : DD cL_law 815 (.aload_n 0) 1 816 := ⟨by decide +kernel, rfl⟩
theorem dL_law_816 : DD cL_law 816 (.iload_n 3) 1 817 := ⟨by decide +kernel, rfl⟩
theorem dL_law_817 : DD cL_law 817 (.iconst 2) 1 818 := ⟨by decide +kernel, rfl⟩
theorem dL_law_818 : DD cL_law 818 (.iadd) 1 819 := ⟨by decide +kernel, rfl⟩
theorem dL_law_819 : DD cL_law 819 (.iaload) 1 820 := ⟨by decide +kernel, rfl⟩
theorem dL_law_820 : DD cL_law 820 (.invokevirtual 87) 3 823 := ⟨by decide +kernel, rfl⟩
theorem dL_law_823 : DD cL_law 823 (.aload_n 2) 1 824 := ⟨by decide +kernel, rfl⟩
theorem dL_law_824 : DD cL_law 824 (.aload_n 0) 1 825 := ⟨by decide +kernel, rfl⟩
theorem dL_law_825 : DD cL_law 825 (.iload_n 3) 1 826 := ⟨by decide +kernel, rfl⟩
theorem dL_law_826 : DD cL_law 826 (.iconst 1) 1 827 := ⟨by decide +kernel, rfl⟩
theorem dL_law_827 : DD cL_law 827 (.iadd) 1 828 := ⟨by decide +kernel, rfl⟩
theorem dL_law_828 : DD cL_law 828 (.iaload) 1 829 := ⟨by decide +kernel, rfl⟩
theorem dL_law_829 : DD cL_law 829 (.aload_n 0) 1 830 := ⟨by decide +kernel, rfl⟩
theorem dL_law_830 : DD cL_law 830 (.iload_n 3) 1 831 := ⟨by decide +kernel, rfl⟩
theorem dL_law_831 : DD cL_law 831 (.iconst 2) 1 832 := ⟨by decide +kernel, rfl⟩
theorem dL_law_832 : DD cL_law 832 (.iadd) 1 833 := ⟨by decide +kernel, rfl⟩
theorem dL_law_833 : DD cL_law 833 (.iaload) 1 834 := ⟨by decide +kernel, rfl⟩
theorem dL_law_834 : DD cL_law 834 (.invokevirtual 90) 3 837 := ⟨by decide +kernel, rfl⟩
theorem dL_law_837 : DD cL_law 837 (.if_icmp .eq 567) 3 840 := ⟨by decide +kernel, rfl⟩
theorem dL_law_840 : DD cL_law 840 (.iconst 0) 1 841 := ⟨by decide +kernel, rfl⟩
theorem dL_law_841 : DD cL_law 841 (.ireturn) 1 842 := ⟨by decide +kernel, rfl⟩
theorem dL_law_842 : DD cL_law 842 (.aload_n 1) 1 843 := ⟨by decide +kernel, rfl⟩
theorem dL_law_843 : DD cL_law 843 (.aload_n 0) 1 844 := ⟨by decide +kernel, rfl⟩
theorem dL_law_844 : DD cL_law 844 (.iload_n 3) 1 845 := ⟨by decide +kernel, rfl⟩
theorem dL_law_845 : DD cL_law 845 (.iconst 1) 1 846 := ⟨by decide +kernel, rfl⟩
theorem dL_law_846 : DD cL_law 846 (.iadd) 1 847 := ⟨by decide +kernel, rfl⟩
theorem dL_law_847 : DD cL_law 847 (.iaload) 1 848 := ⟨by decide +kernel, rfl⟩
theorem dL_law_848 : DD cL_law 848 (.aload_n 0) 1 849 := ⟨by decide +kernel, rfl⟩
theorem dL_law_849 : DD cL_law 849 (.iload_n 3) 1 850 := ⟨by decide +kernel, rfl⟩
theorem dL_law_850 : DD cL_law 850 (.iconst 2) 1 851 := ⟨by decide +kernel, rfl⟩
theorem dL_law_851 : DD cL_law 851 (.iadd) 1 852 := ⟨by decide +kernel, rfl⟩
theorem dL_law_852 : DD cL_law 852 (.iaload) 1 853 := ⟨by decide +kernel, rfl⟩
theorem dL_law_853 : DD cL_law 853 (.aload_n 0) 1 854 := ⟨by decide +kernel, rfl⟩
theorem dL_law_854 : DD cL_law 854 (.iload_n 3) 1 855 := ⟨by decide +kernel, rfl⟩
theorem dL_law_855 : DD cL_law 855 (.iconst 3) 1 856 := ⟨by decide +kernel, rfl⟩
theorem dL_law_856 : DD cL_law 856 (.iadd) 1 857 := ⟨by decide +kernel, rfl⟩
theorem dL_law_857 : DD cL_law 857 (.iaload) 1 858 := ⟨by decide +kernel, rfl⟩
theorem dL_law_858 : DD cL_law 858 (.invokevirtual 91) 3 861 := ⟨by decide +kernel, rfl⟩
theorem dL_law_861 : DD cL_law 861 (.aload_n 2) 1 862 := ⟨by decide +kernel, rfl⟩
theorem dL_law_862 : DD cL_law 862 (.aload_n 0) 1 863 := ⟨by decide +kernel, rfl⟩
theorem dL_law_863 : DD cL_law 863 (.iload_n 3) 1 864 := ⟨by decide +kernel, rfl⟩
theorem dL_law_864 : DD cL_law 864 (.iconst 1) 1 865 := ⟨by decide +kernel, rfl⟩
theorem dL_law_865 : DD cL_law 865 (.iadd) 1 866 := ⟨by decide +kernel, rfl⟩
theorem dL_law_866 : DD cL_law 866 (.iaload) 1 867 := ⟨by decide +kernel, rfl⟩
theorem dL_law_867 : DD cL_law 867 (.aload_n 0) 1 868 := ⟨by decide +kernel, rfl⟩
theorem dL_law_868 : DD cL_law 868 (.iload_n 3) 1 869 := ⟨by decide +kernel, rfl⟩
theorem dL_law_869 : DD cL_law 869 (.iconst 2) 1 870 := ⟨by decide +kernel, rfl⟩
theorem dL_law_870 : DD cL_law 870 (.iadd) 1 871 := ⟨by decide +kernel, rfl⟩
theorem dL_law_871 : DD cL_law 871 (.iaload) 1 872 := ⟨by decide +kernel, rfl⟩
theorem dL_law_872 : DD cL_law 872 (.aload_n 0) 1 873 := ⟨by decide +kernel, rfl⟩
theorem dL_law_873 : DD cL_law 873 (.iload_n 3) 1 874 := ⟨by decide +kernel, rfl⟩
theorem dL_law_874 : DD cL_law 874 (.iconst 3) 1 875 := ⟨by decide +kernel, rfl⟩
theorem dL_law_875 : DD cL_law 875 (.iadd) 1 876 := ⟨by decide +kernel, rfl⟩
theorem dL_law_876 : DD cL_law 876 (.iaload) 1 877 := ⟨by decide +kernel, rfl⟩
theorem dL_law_877 : DD cL_law 877 (.invokevirtual 94) 3 880 := ⟨by decide +kernel, rfl⟩
theorem dL_law_880 : DD cL_law 880 (.if_icmp .eq 524) 3 883 := ⟨by decide +kernel, rfl⟩
theorem dL_law_883 : DD cL_law 883 (.iconst 0) 1 884 := ⟨by decide +kernel, rfl⟩
theorem dL_law_884 : DD cL_law 884 (.ireturn) 1 885 := ⟨by decide +kernel, rfl⟩
theorem dL_law_885 : DD cL_law 885 (.aload_n 1) 1 886 := ⟨by decide +kernel, rfl⟩
theorem dL_law_886 : DD cL_law 886 (.aload_n 0) 1 887 := ⟨by decide +kernel, rfl⟩
theorem dL_law_887 : DD cL_law 887 (.iload_n 3) 1 888 := ⟨by decide +kernel, rfl⟩
theorem dL_law_888 : DD cL_law 888 (.iconst 1) 1 889 := ⟨by decide +kernel, rfl⟩
theorem dL_law_889 : DD cL_law 889 (.iadd) 1 890 := ⟨by decide +kernel, rfl⟩
theorem dL_law_890 : DD cL_law 890 (.iaload) 1 891 := ⟨by decide +kernel, rfl⟩
theorem dL_law_891 : DD cL_law 891 (.invokevirtual 95) 3 894 := ⟨by decide +kernel, rfl⟩
theorem dL_law_894 : DD cL_law 894 (.aload_n 2) 1 895 := ⟨by decide +kernel, rfl⟩
theorem dL_law_895 : DD cL_law 895 (.aload_n 0) 1 896 := ⟨by decide +kernel, rfl⟩
theorem dL_law_896 : DD cL_law 896 (.iload_n 3) 1 897 := ⟨by decide +kernel, rfl⟩
theorem dL_law_897 : DD cL_law 897 (.iconst 1) 1 898 := ⟨by decide +kernel, rfl⟩
theorem dL_law_898 : DD cL_law 898 (.iadd) 1 899 := ⟨by decide +kernel, rfl⟩
theorem dL_law_899 : DD cL_law 899 (.iaload) 1 900 := ⟨by decide +kernel, rfl⟩
theorem dL_law_900 : DD cL_law 900 (.invokevirtual 98) 3 903 := ⟨by decide +kernel, rfl⟩
theorem dL_law_903 : DD cL_law 903 (.if_icmp .eq 501) 3 906 := ⟨by decide +kernel, rfl⟩
theorem dL_law_906 : DD cL_law 906 (.iconst 0) 1 907 := ⟨by decide +kernel, rfl⟩
theorem dL_law_907 : DD cL_law 907 (.ireturn) 1 908 := ⟨by decide +kernel, rfl⟩
theorem dL_law_908 : DD cL_law 908 (.aload_n 1) 1 909 := ⟨by decide +kernel, rfl⟩
theorem dL_law_909 : DD cL_law 909 (.aload_n 0) 1 910 := ⟨by decide +kernel, rfl⟩
theorem dL_law_910 : DD cL_law 910 (.iload_n 3) 1 911 := ⟨by decide +kernel, rfl⟩
theorem dL_law_911 : DD cL_law 911 (.iconst 1) 1 912 := ⟨by decide +kernel, rfl⟩
theorem dL_law_912 : DD cL_law 912 (.iadd) 1 913 := ⟨by decide +kernel, rfl⟩
theorem dL_law_913 : DD cL_law 913 (.iaload) 1 914 := ⟨by decide +kernel, rfl⟩
theorem dL_law_914 : DD cL_law 914 (.aload_n 0) 1 915 := ⟨by decide +kernel, rfl⟩
theorem dL_law_915 : DD cL_law 915 (.iload_n 3) 1 916 := ⟨by decide +kernel, rfl⟩
theorem dL_law_916 : DD cL_law 916 (.iconst 2) 1 917 := ⟨by decide +kernel, rfl⟩
theorem dL_law_917 : DD cL_law 917 (.iadd) 1 918 := ⟨by decide +kernel, rfl⟩
theorem dL_law_918 : DD cL_law 918 (.iaload) 1 919 := ⟨by decide +kernel, rfl⟩
theorem dL_law_919 : DD cL_law 919 (.invokevirtual 99) 3 922 := ⟨by decide +kernel, rfl⟩
theorem dL_law_922 : DD cL_law 922 (.aload_n 2) 1 923 := ⟨by decide +kernel, rfl⟩
theorem dL_law_923 : DD cL_law 923 (.aload_n 0) 1 924 := ⟨by decide +kernel, rfl⟩
theorem dL_law_924 : DD cL_law 924 (.iload_n 3) 1 925 := ⟨by decide +kernel, rfl⟩
theorem dL_law_925 : DD cL_law 925 (.iconst 1) 1 926 := ⟨by decide +kernel, rfl⟩
theorem dL_law_926 : DD cL_law 926 (.iadd) 1 927 := ⟨by decide +kernel, rfl⟩
theorem dL_law_927 : DD cL_law 927 (.iaload) 1 928 := ⟨by decide +kernel, rfl⟩
theorem dL_law_928 : DD cL_law 928 (.aload_n 0) 1 929 := ⟨by decide +kernel, rfl⟩
theorem dL_law_929 : DD cL_law 929 (.iload_n 3) 1 930 := ⟨by decide +kernel, rfl⟩
theorem dL_law_930 : DD cL_law 930 (.iconst 2) 1 931 := ⟨by decide +kernel, rfl⟩
theorem dL_law_931 : DD cL_law 931 (.iadd) 1 932 := ⟨by decide +kernel, rfl⟩
theorem dL_law_932 : DD cL_law 932 (.iaload) 1 933 := ⟨by decide +kernel, rfl⟩
theorem dL_law_933 : DD cL_law 933 (.invokevirtual 102) 3 936 := ⟨by decide +kernel, rfl⟩
theorem dL_law_936 : DD cL_law 936 (.if_icmp .eq 468) 3 939 := ⟨by decide +kernel, rfl⟩
theorem dL_law_939 : DD cL_law 939 (.iconst 0) 1 940 := ⟨by decide +kernel, rfl⟩
theorem dL_law_940 : DD cL_law 940 (.ireturn) 1 941 := ⟨by decide +kernel, rfl⟩
theorem dL_law_941 : DD cL_law 941 (.aload_n 1) 1 942 := ⟨by decide +kernel, rfl⟩
theorem dL_law_942 : DD cL_law 942 (.invokevirtual 103) 3 945 := ⟨by decide +kernel, rfl⟩
theorem dL_law_945 : DD cL_law 945 (.aload_n 2) 1 946 := ⟨by decide +kernel, rfl⟩
theorem dL_law_946 : DD cL_law 946 (.invokevirtual 106) 3 949 := ⟨by decide +kernel, rfl⟩
theorem dL_law_949 : DD cL_law 949 (.if_icmp .eq 455) 3 952 := ⟨by decide +kernel, rfl⟩
theorem dL_law_952 : DD cL_law 952 (.iconst 0) 1 953 := ⟨by decide +kernel, rfl⟩
theorem dL_law_953 : DD cL_law 953 (.ireturn) 1 954 := ⟨by decide +kernel, rfl⟩
theorem dL_law_954 : DD cL_law 954 (.aload_n 1) 1 955 := ⟨by decide +kernel, rfl⟩
theorem dL_law_955 : DD cL_law 955 (.invokevirtual 107) 3 958 := ⟨by decide +kernel, rfl⟩
theorem dL_law_958 : DD cL_law 958 (.aload_n 2) 1 959 := ⟨by decide +kernel, rfl⟩
theorem dL_law_959 : DD cL_law 959 (.invokevirtual 110) 3 962 := ⟨by decide +kernel, rfl⟩
theorem dL_law_962 : DD cL_law 962 (.if_icmp .eq 442) 3 965 := ⟨by decide +kernel, rfl⟩
theorem dL_law_965 : DD cL_law 965 (.iconst 0) 1 966 := ⟨by decide +kernel, rfl⟩
theorem dL_law_966 : DD cL_law 966 (.ireturn) 1 967 := ⟨by decide +kernel, rfl⟩
theorem dL_law_967 : DD cL_law 967 (.aload_n 1) 1 968 := ⟨by decide +kernel, rfl⟩
theorem dL_law_968 : DD cL_law 968 (.aload_n 0) 1 969 := ⟨by decide +kernel, rfl⟩
theorem dL_law_969 : DD cL_law 969 (.iload_n 3) 1 970 := ⟨by decide +kernel, rfl⟩
theorem dL_law_970 : DD cL_law 970 (.iconst 1) 1 971 := ⟨by decide +kernel, rfl⟩
theorem dL_law_971 : DD cL_law 971 (.iadd) 1 972 := ⟨by decide +kernel, rfl⟩
theorem dL_law_972 : DD cL_law 972 (.iaload) 1 973 := ⟨by decide +kernel, rfl⟩
theorem dL_law_973 : DD cL_law 973 (.invokevirtual 111) 3 976 := ⟨by decide +kernel, rfl⟩
theorem dL_law_976 : DD cL_law 976 (.aload_n 2) 1 977 := ⟨by decide +kernel, rfl⟩
theorem dL_law_977 : DD cL_law 977 (.aload_n 0) 1 978 := ⟨by decide +kernel, rfl⟩
theorem dL_law_978 : DD cL_law 978 (.iload_n 3) 1 979 := ⟨by decide +kernel, rfl⟩
theorem dL_law_979 : DD cL_law 979 (.iconst 1) 1 980 := ⟨by decide +kernel, rfl⟩
theorem dL_law_980 : DD cL_law 980 (.iadd) 1 981 := ⟨by decide +kernel, rfl⟩
theorem dL_law_981 : DD cL_law 981 (.iaload) 1 982 := ⟨by decide +kernel, rfl⟩
theorem dL_law_982 : DD cL_law 982 (.invokevirtual 114) 3 985 := ⟨by decide +kernel, rfl⟩
theorem dL_law_985 : DD cL_law 985 (.if_icmp .eq 419) 3 988 := ⟨by decide +kernel, rfl⟩
theorem dL_law_988 : DD cL_law 988 (.iconst 0) 1 989 := ⟨by decide +kernel, rfl⟩
theorem dL_law_989 : DD cL_law 989 (.ireturn) 1 990 := ⟨by decide +kernel, rfl⟩
theorem dL_law_990 : DD cL_law 990 (.aload_n 1) 1 991 := ⟨by decide +kernel, rfl⟩
theorem dL_law_991 : DD cL_law 991 (.aload_n 0) 1 992 := ⟨by decide +kernel, rfl⟩
theorem dL_law_992 : DD cL_law 992 (.iload_n 3) 1 993 := ⟨by decide +kernel, rfl⟩
theorem dL_law_993 : DD cL_law 993 (.iconst 1) 1 994 := ⟨by decide +kernel, rfl⟩
theorem dL_law_994 : DD cL_law 994 (.iadd) 1 995 := ⟨by decide +kernel, rfl⟩
theorem dL_law_995 : DD cL_law 995 (.iaload) 1 996 := ⟨by decide +kernel, rfl⟩
theorem dL_law_996 : DD cL_law 996 (.aload_n 0) 1 997 := ⟨by decide +kernel, rfl⟩
theorem dL_law_997 : DD cL_law 997 (.iload_n 3) 1 998 := ⟨by decide +kernel, rfl⟩
theorem dL_law_998 : DD cL_law 998 (.iconst 2) 1 999 := ⟨by decide +kernel, rfl⟩
theorem dL_law_999 : DD cL_law 999 (.iadd) 1 1000 := ⟨by decide +kernel, rfl⟩
theorem dL_law_1000 : DD cL_law 1000 (.iaload) 1 1001 := ⟨by decide +kernel, rfl⟩
theorem dL_law_1001 : DD cL_law 1001 (.aload_n 0) 1 1002 := ⟨by decide +kernel, rfl⟩
theorem dL_law_1002 : DD cL_law 1002 (.iload_n 3) 1 1003 := ⟨by decide +kernel, rfl⟩
theorem dL_law_1003 : DD cL_law 1003 (.iconst 3) 1 1004 := ⟨by decide +kernel, rfl⟩
theorem dL_law_1004 : DD cL_law 1004 (.iadd) 1 1005 := ⟨by decide +kernel, rfl⟩
theorem dL_law_1005 : DD cL_law 1005 (.iaload) 1 1006 := ⟨by decide +kernel, rfl⟩
theorem dL_law_1006 : DD cL_law 1006 (.aload_n 0) 1 1007 := ⟨by decide +kernel, rfl⟩
theorem dL_law_1007 : DD cL_law 1007 (.iload_n 3) 1 1008 := ⟨by decide +kernel, rfl⟩
theorem dL_law_1008 : DD cL_law 1008 (.iconst 4) 1 1009 := ⟨by decide +kernel, rfl⟩
theorem dL_law_1009 : DD cL_law 1009 (.iadd) 1 1010 := ⟨by decide +kernel, rfl⟩
theorem dL_law_1010 : DD cL_law 1010 (.iaload) 1 1011 := ⟨by decide +kernel, rfl⟩
theorem dL_law_1011 : DD cL_law 1011 (.aload_n 0) 1 1012 := ⟨by decide +kernel, rfl⟩
theorem dL_law_1012 : DD cL_law 1012 (.iload_n 3) 1 1013 := ⟨by decide +kernel, rfl⟩
theorem dL_law_1013 : DD cL_law 1013 (.iconst 5) 1 1014 := ⟨by decide +kernel, rfl⟩
theorem dL_law_1014 : DD cL_law 1014 (.iadd) 1 1015 := ⟨by decide +kernel, rfl⟩
theorem dL_law_1015 : DD cL_law 1015 (.iaload) 1 1016 := ⟨by decide +kernel, rfl⟩
theorem dL_law_1016 : DD cL_law 1016 (.invokevirtual 115) 3 1019 := ⟨by decide +kernel, rfl⟩
theorem dL_law_1019 : DD cL_law 1019 (.aload_n 2) 1 1020 := ⟨by decide +kernel, rfl⟩
theorem dL_law_1020 : DD cL_law 1020 (.aload_n 0) 1 1021 := ⟨by decide +kernel, rfl⟩
theorem dL_law_1021 : DD cL_law 1021 (.iload_n 3) 1 1022 := ⟨by decide +kernel, rfl⟩
theorem dL_law_1022 : DD cL_law 1022 (.iconst 1) 1 1023 := ⟨by decide +kernel, rfl⟩
theorem dL_law_1023 : DD cL_law 1023 (.iadd) 1 1024 := ⟨by decide +kernel, rfl⟩
theorem dL_law_1024 : DD cL_law 1024 (.iaload) 1 1025 := ⟨by decide +kernel, rfl⟩
theorem dL_law_1025 : DD cL_law 1025 (.aload_n 0) 1 1026 := ⟨by decide +kernel, rfl⟩
theorem dL_law_1026 : DD cL_law 1026 (.iload_n 3) 1 1027 := ⟨by decide +kernel, rfl⟩
theorem dL_law_1027 : DD cL_law 1027 (.iconst 2) 1 1028 := ⟨by decide +kernel, rfl⟩
theorem dL_law_1028 : DD cL_law 1028 (.iadd) 1 1029 := ⟨by decide +kernel, rfl⟩
theorem dL_law_1029 : DD cL_law 1029 (.iaload) 1 1030 := ⟨by decide +kernel, rfl⟩
theorem dL_law_1030 : DD cL_law 1030 (.aload_n 0) 1 1031 := ⟨by decide +kernel, rfl⟩
theorem dL_law_1031 : DD cL_law 1031 (.iload_n 3) 1 1032 := ⟨by decide +kernel, rfl⟩
theorem dL_law_1032 : DD cL_law 1032 (.iconst 3) 1 1033 := ⟨by decide +kernel, rfl⟩
theorem dL_law_1033 : DD cL_law 1033 (.iadd) 1 1034 := ⟨by decide +kernel, rfl⟩
theorem dL_law_1034 : DD cL_law 1034 (.iaload) 1 1035 := ⟨by decide +kernel, rfl⟩
theorem dL_law_1035 : DD cL_law 1035 (.aload_n 0) 1 1036 := ⟨by decide +kernel, rfl⟩
theorem dL_law_1036 : DD cL_law 1036 (.iload_n 3) 1 1037 := ⟨by decide +kernel, rfl⟩
theorem dL_law_1037 : DD cL_law 1037 (.iconst 4) 1 1038 := ⟨by decide +kernel, rfl⟩
theorem dL_law_1038 : DD cL_law 1038 (.iadd) 1 1039 := ⟨by decide +kernel, rfl⟩
theorem dL_law_1039 : DD cL_law 1039 (.iaload) 1 1040 := ⟨by decide +kernel, rfl⟩
theorem dL_law_1040 : DD cL_law 1040 (.aload_n 0) 1 1041 := ⟨by decide +kernel, rfl⟩
theorem dL_law_1041 : DD cL_law 1041 (.iload_n 3) 1 1042 := ⟨by decide +kernel, rfl⟩
theorem dL_law_1042 : DD cL_law 1042 (.iconst 5) 1 1043 := ⟨by decide +kernel, rfl⟩
theorem dL_law_1043 : DD cL_law 1043 (.iadd) 1 1044 := ⟨by decide +kernel, rfl⟩
theorem dL_law_1044 : DD cL_law 1044 (.iaload) 1 1045 := ⟨by decide +kernel, rfl⟩
theorem dL_law_1045 : DD cL_law 1045 (.invokevirtual 118) 3 1048 := ⟨by decide +kernel, rfl⟩
theorem dL_law_1048 : DD cL_law 1048 (.if_icmp .eq 356) 3 1051 := ⟨by decide +kernel, rfl⟩
theorem dL_law_1051 : DD cL_law 1051 (.iconst 0) 1 1052 := ⟨by decide +kernel, rfl⟩
theorem dL_law_1052 : DD cL_law 1052 (.ireturn) 1 1053 := ⟨by decide +kernel, rfl⟩
theorem dL_law_1053 : DD cL_law 1053 (.aload_n 1) 1 1054 := ⟨by decide +kernel, rfl⟩
theorem dL_law_1054 : DD cL_law 1054 (.aload_n 0) 1 1055 := ⟨by decide +kernel, rfl⟩
theorem dL_law_1055 : DD cL_law 1055 (.iload_n 3) 1 1056 := ⟨by decide +kernel, rfl⟩
theorem dL_law_1056 : DD cL_law 1056 (.iconst 1) 1 1057 := ⟨by decide +kernel, rfl⟩
theorem dL_law_1057 : DD cL_law 1057 (.iadd) 1 1058 := ⟨by decide +kernel, rfl⟩
theorem dL_law_1058 : DD cL_law 1058 (.iaload) 1 1059 := ⟨by decide +kernel, rfl⟩
theorem dL_law_1059 : DD cL_law 1059 (.aload_n 0) 1 1060 := ⟨by decide +kernel, rfl⟩
theorem dL_law_1060 : DD cL_law 1060 (.iload_n 3) 1 1061 := ⟨by decide +kernel, rfl⟩
theorem dL_law_1061 : DD cL_law 1061 (.iconst 2) 1 1062 := ⟨by decide +kernel, rfl⟩
theorem dL_law_1062 : DD cL_law 1062 (.iadd) 1 1063 := ⟨by decide +kernel, rfl⟩
theorem dL_law_1063 : DD cL_law 1063 (.iaload) 1 1064 := ⟨by decide +kernel, rfl⟩
theorem dL_law_1064 : DD cL_law 1064 (.aload_n 0) 1 1065 := ⟨by decide +kernel, rfl⟩
theorem dL_law_1065 : DD cL_law 1065 (.iload_n 3) 1 1066 := ⟨by decide +kernel, rfl⟩
theorem dL_law_1066 : DD cL_law 1066 (.iconst 3) 1 1067 := ⟨by decide +kernel, rfl⟩
theorem dL_law_1067 : DD cL_law 1067 (.iadd) 1 1068 := ⟨by decide +kernel, rfl⟩
theorem dL_law_1068 : DD cL_law 1068 (.iaload) 1 1069 := ⟨by decide +kernel, rfl⟩
theorem dL_law_1069 : DD cL_law 1069 (.invokevirtual 119) 3 1072 := ⟨by decide +kernel, rfl⟩
theorem dL_law_1072 : DD cL_law 1072 (.aload_n 2) 1 1073 := ⟨by decide +kernel, rfl⟩
theorem dL_law_1073 : DD cL_law 1073 (.aload_n 0) 1 1074 := ⟨by decide +kernel, rfl⟩
theorem dL_law_1074 : DD cL_law 1074 (.iload_n 3) 1 1075 := ⟨by decide +kernel, rfl⟩
theorem dL_law_1075 : DD cL_law 1075 (.iconst 1) 1 1076 := ⟨by decide +kernel, rfl⟩
theorem dL_law_1076 : DD cL_law 1076 (.iadd) 1 1077 := ⟨by decide +kernel, rfl⟩
theorem dL_law_1077 : DD cL_law 1077 (.iaload) 1 1078 := ⟨by decide +kernel, rfl⟩
theorem dL_law_1078 : DD cL_law 1078 (.aload_n 0) 1 1079 := ⟨by decide +kernel, rfl⟩
theorem dL_law_1079 : DD cL_law 1079 (.iload_n 3) 1 1080 := ⟨by decide +kernel, rfl⟩
theorem dL_law_1080 : DD cL_law 1080 (.iconst 2) 1 1081 := ⟨by decide +kernel, rfl⟩
theorem dL_law_1081 : DD cL_law 1081 (.iadd) 1 1082 := ⟨by decide +kernel, rfl⟩
theorem dL_law_1082 : DD cL_law 1082 (.iaload) 1 1083 := ⟨by decide +kernel, rfl⟩
theorem dL_law_1083 : DD cL_law 1083 (.aload_n 0) 1 1084 := ⟨by decide +kernel, rfl⟩
theorem dL_law_1084 : DD cL_law 1084 (.iload_n 3) 1 1085 := ⟨by decide +kernel, rfl⟩
theorem dL_law_1085 : DD cL_law 1085 (.iconst 3) 1 1086 := ⟨by decide +kernel, rfl⟩
theorem dL_law_1086 : DD cL_law 1086 (.iadd) 1 1087 := ⟨by decide +kernel, rfl⟩
theorem dL_law_1087 : DD cL_law 1087 (.iaload) 1 1088 := ⟨by decide +kernel, rfl⟩
theorem dL_law_1088 : DD cL_law 1088 (.invokevirtual 122) 3 1091 := ⟨by decide +kernel, rfl⟩
theorem dL_law_1091 : DD cL_law 1091 (.if_icmp .eq 313) 3 1094 := ⟨by decide +kernel, rfl⟩
theorem dL_law_1094 : DD cL_law 1094 (.iconst 0) 1 1095 := ⟨by decide +kernel, rfl⟩
theorem dL_law_1095 : DD cL_law 1095 (.ireturn) 1 1096 := ⟨by decide +kernel, rfl⟩
theorem dL_law_1096 : DD cL_law 1096 (.aload_n 1) 1 1097 := ⟨by decide +kernel, rfl⟩
theorem dL_law_1097 : DD cL_law 1097 (.aload_n 0) 1 1098 := ⟨by decide +kernel, rfl⟩
theorem dL_law_1098 : DD cL_law 1098 (.iload_n 3) 1 1099 := ⟨by decide +kernel, rfl⟩
theorem dL_law_1099 : DD cL_law 1099 (.iconst 1) 1 1100 := ⟨by decide +kernel, rfl⟩
theorem dL_law_1100 : DD cL_law 1100 (.iadd) 1 1101 := ⟨by decide +kernel, rfl⟩
theorem dL_law_1101 : DD cL_law 1101 (.iaload) 1 1102 := ⟨by decide +kernel, rfl⟩
theorem dL_law_1102 : DD cL_law 1102 (.aload_n 0) 1 1103 := ⟨by decide +kernel, rfl⟩
theorem dL_law_1103 : DD cL_law 1103 (.iload_n 3) 1 1104 := ⟨by decide +kernel, rfl⟩
theorem dL_law_1104 : DD cL_law 1104 (.iconst 2) 1 1105 := ⟨by decide +kernel, rfl⟩
theorem dL_law_1105 : DD cL_law 1105 (.iadd) 1 1106 := ⟨by decide +kernel, rfl⟩
theorem dL_law_1106 : DD cL_law 1106 (.iaload) 1 1107 := ⟨by decide +kernel, rfl⟩
theorem dL_law_1107 : DD cL_law 1107 (.aload_n 0) 1 1108 := ⟨by decide +kernel, rfl⟩
theorem dL_law_1108 : DD cL_law 1108 (.iload_n 3) 1 1109 := ⟨by decide +kernel, rfl⟩
theorem dL_law_1109 : DD cL_law 1109 (.iconst 3) 1 1110 := ⟨by decide +kernel, rfl⟩
theorem dL_law_1110 : DD cL_law 1110 (.iadd) 1 1111 := ⟨by decide +kernel, rfl⟩
theorem dL_law_1111 : DD cL_law 1111 (.iaload) 1 1112 := ⟨by decide +kernel, rfl⟩
theorem dL_law_1112 : DD cL_law 1112 (.i2l) 1 1113 := ⟨by decide +kernel, rfl⟩
theorem dL_law_1113 : DD cL_law 1113 (.bipush 32) 2 1115 := ⟨by decide +kernel, rfl⟩
theorem dL_law_1115 : DD cL_law 1115 (.lshl) 1 1116 := ⟨by decide +kernel, rfl⟩
theorem dL_law_1116 : DD cL_law 1116 (.aload_n 0) 1 1117 := ⟨by decide +kernel, rfl⟩
theorem dL_law_1117 : DD cL_law 1117 (.iload_n 3) 1 1118 := ⟨by decide +kernel, rfl⟩
theorem dL_law_1118 : DD cL_law 1118 (.iconst 4) 1 1119 := ⟨by decide +kernel, rfl⟩
theorem dL_law_1119 : DD cL_law 1119 (.iadd) 1 1120 := ⟨by decide +kernel, rfl⟩
theorem dL_law_1120 : DD cL_law 1120 (.iaload) 1 1121 := ⟨by decide +kernel, rfl⟩
theorem dL_law_1121 : DD cL_law 1121 (.i2l) 1 1122 := ⟨by decide +kernel, rfl⟩
theorem dL_law_1122 : DD cL_law 1122 (.ldc2_w 123) 3 1125 := ⟨by decide +kernel, rfl⟩
theorem dL_law_1125 : DD cL_law 1125 (.land) 1 1126 := ⟨by decide +kernel, rfl⟩
theorem dL_law_1126 : DD cL_law 1126 (.lor) 1 1127 := ⟨by decide +kernel, rfl⟩
theorem dL_law_1127 : DD cL_law 1127 (.invokevirtual 125) 3 1130 := ⟨by decide +kernel, rfl⟩
theorem dL_law_1130 : DD cL_law 1130 (.aload_n 2) 1 1131 := ⟨by decide +kernel, rfl⟩
theorem dL_law_1131 : DD cL_law 1131 (.aload_n 0) 1 1132 := ⟨by decide +kernel, rfl⟩
theorem dL_law_1132 : DD cL_law 1132 (.iload_n 3) 1 1133 := ⟨by decide +kernel, rfl⟩
theorem dL_law_1133 : DD cL_law 1133 (.iconst 1) 1 1134 := ⟨by decide +kernel, rfl⟩
theorem dL_law_1134 : DD cL_law 1134 (.iadd) 1 1135 := ⟨by decide +kernel, rfl⟩
theorem dL_law_1135 : DD cL_law 1135 (.iaload) 1 1136 := ⟨by decide +kernel, rfl⟩
theorem dL_law_1136 : DD cL_law 1136 (.aload_n 0) 1 1137 := ⟨by decide +kernel, rfl⟩
theorem dL_law_1137 : DD cL_law 1137 (.iload_n 3) 1 1138 := ⟨by decide +kernel, rfl⟩
theorem dL_law_1138 : DD cL_law 1138 (.iconst 2) 1 1139 := ⟨by decide +kernel, rfl⟩
theorem dL_law_1139 : DD cL_law 1139 (.iadd) 1 1140 := ⟨by decide +kernel, rfl⟩
theorem dL_law_1140 : DD cL_law 1140 (.iaload) 1 1141 := ⟨by decide +kernel, rfl⟩
theorem dL_law_1141 : DD cL_law 1141 (.aload_n 0) 1 1142 := ⟨by decide +kernel, rfl⟩
theorem dL_law_1142 : DD cL_law 1142 (.iload_n 3) 1 1143 := ⟨by decide +kernel, rfl⟩
theorem dL_law_1143 : DD cL_law 1143 (.iconst 3) 1 1144 := ⟨by decide +kernel, rfl⟩
theorem dL_law_1144 : DD cL_law 1144 (.iadd) 1 1145 := ⟨by decide +kernel, rfl⟩
theorem dL_law_1145 : DD cL_law 1145 (.iaload) 1 1146 := ⟨by decide +kernel, rfl⟩
theorem dL_law_1146 : DD cL_law 1146 (.i2l) 1 1147 := ⟨by decide +kernel, rfl⟩
theorem dL_law_1147 : DD cL_law 1147 (.bipush 32) 2 1149 := ⟨by decide +kernel, rfl⟩
theorem dL_law_1149 : DD cL_law 1149 (.lshl) 1 1150 := ⟨by decide +kernel, rfl⟩
theorem dL_law_1150 : DD cL_law 1150 (.aload_n 0) 1 1151 := ⟨by decide +kernel, rfl⟩
theorem dL_law_1151 : DD cL_law 1151 (.iload_n 3) 1 1152 := ⟨by decide +kernel, rfl⟩
theorem dL_law_1152 : DD cL_law 1152 (.iconst 4) 1 1153 := ⟨by decide +kernel, rfl⟩
theorem dL_law_1153 : DD cL_law 1153 (.iadd) 1 1154 := ⟨by decide +kernel, rfl⟩
theorem dL_law_1154 : DD cL_law 1154 (.iaload) 1 1155 := ⟨by decide +kernel, rfl⟩
theorem dL_law_1155 : DD cL_law 1155 (.i2l) 1 1156 := ⟨by decide +kernel, rfl⟩
theorem dL_law_1156 : DD cL_law 1156 (.ldc2_w 123) 3 1159 := ⟨by decide +kernel, rfl⟩
theorem dL_law_1159 : DD cL_law 1159 (.land) 1 1160 := ⟨by decide +kernel, rfl⟩
theorem dL_law_1160 : DD cL_law 1160 (.lor) 1 1161 := ⟨by decide +kernel, rfl⟩
theorem dL_law_1161 : DD cL_law 1161 (.invokevirtual 129) 3 1164 := ⟨by decide +kernel, rfl⟩
theorem dL_law_1164 : DD cL_law 1164 (.lcmp) 1 1165 := ⟨by decide +kernel, rfl⟩
theorem dL_law_1165 : DD cL_law 1165 (.ifCond .eq 239) 3 1168 := ⟨by decide +kernel, rfl⟩
theorem dL_law_1168 : DD cL_law 1168 (.iconst 0) 1 1169 := ⟨by decide +kernel, rfl⟩
theorem dL_law_1169 : DD cL_law 1169 (.ireturn) 1 1170 := ⟨by decide +kernel, rfl⟩
theorem dL_law_1170 : DD cL_law 1170 (.aload_n 1) 1 1171 := ⟨by decide +kernel, rfl⟩
theorem dL_law_1171 : DD cL_law 1171 (.aload_n 0) 1 1172 := ⟨by decide +kernel, rfl⟩
theorem dL_law_1172 : DD cL_law 1172 (.iload_n 3) 1 1173 := ⟨by decide +kernel, rfl⟩
theorem dL_law_1173 : DD cL_law 1173 (.iconst 1) 1 1174 := ⟨by decide +kernel, rfl⟩
theorem dL_law_1174 : DD cL_law 1174 (.iadd) 1 1175 := ⟨by decide +kernel, rfl⟩
theorem dL_law_1175 : DD cL_law 1175 (.iaload) 1 1176 := ⟨by decide +kernel, rfl⟩
theorem dL_law_1176 : DD cL_law 1176 (.aload_n 0) 1 1177 := ⟨by decide +kernel, rfl⟩
theorem dL_law_1177 : DD cL_law 1177 (.iload_n 3) 1 1178 := ⟨by decide +kernel, rfl⟩
theorem dL_law_1178 : DD cL_law 1178 (.iconst 2) 1 1179 := ⟨by decide +kernel, rfl⟩
theorem dL_law_1179 : DD cL_law 1179 (.iadd) 1 1180 := ⟨by decide +kernel, rfl⟩
theorem dL_law_1180 : DD cL_law 1180 (.iaload) 1 1181 := ⟨by decide +kernel, rfl⟩
theorem dL_law_1181 : DD cL_law 1181 (.aload_n 0) 1 1182 := ⟨by decide +kernel, rfl⟩
theorem dL_law_1182 : DD cL_law 1182 (.iload_n 3) 1 1183 := ⟨by decide +kernel, rfl⟩
theorem dL_law_1183 : DD cL_law 1183 (.iconst 3) 1 1184 := ⟨by decide +kernel, rfl⟩
theorem dL_law_1184 : DD cL_law 1184 (.iadd) 1 1185 := ⟨by decide +kernel, rfl⟩
theorem dL_law_1185 : DD cL_law 1185 (.iaload) 1 1186 := ⟨by decide +kernel, rfl⟩
theorem dL_law_1186 : DD cL_law 1186 (.aload_n 0) 1 1187 := ⟨by decide +kernel, rfl⟩
theorem dL_law_1187 : DD cL_law 1187 (.iload_n 3) 1 1188 := ⟨by decide +kernel, rfl⟩
theorem dL_law_1188 : DD cL_law 1188 (.iconst 4) 1 1189 := ⟨by decide +kernel, rfl⟩
theorem dL_law_1189 : DD cL_law 1189 (.iadd) 1 1190 := ⟨by decide +kernel, rfl⟩
theorem dL_law_1190 : DD cL_law 1190 (.iaload) 1 1191 := ⟨by decide +kernel, rfl⟩
theorem dL_law_1191 : DD cL_law 1191 (.aload_n 0) 1 1192 := ⟨by decide +kernel, rfl⟩
theorem dL_law_1192 : DD cL_law 1192 (.iload_n 3) 1 1193 := ⟨by decide +kernel, rfl⟩
theorem dL_law_1193 : DD cL_law 1193 (.iconst 5) 1 1194 := ⟨by decide +kernel, rfl⟩
theorem dL_law_1194 : DD cL_law 1194 (.iadd) 1 1195 := ⟨by decide +kernel, rfl⟩
theorem dL_law_1195 : DD cL_law 1195 (.iaload) 1 1196 := ⟨by decide +kernel, rfl⟩
theorem dL_law_1196 : DD cL_law 1196 (.invokevirtual 130) 3 1199 := ⟨by decide +kernel, rfl⟩
theorem dL_law_1199 : DD cL_law 1199 (.aload_n 2) 1 1200 := ⟨by decide +kernel, rfl⟩
theorem dL_law_1200 : DD cL_law 1200 (.aload_n 0) 1 1201 := ⟨by decide +kernel, rfl⟩
theorem dL_law_1201 : DD cL_law 1201 (.iload_n 3) 1 1202 := ⟨by decide +kernel, rfl⟩
theorem dL_law_1202 : DD cL_law 1202 (.iconst 1) 1 1203 := ⟨by decide +kernel, rfl⟩
theorem dL_law_1203 : DD cL_law 1203 (.iadd) 1 1204 := ⟨by decide +kernel, rfl⟩
theorem dL_law_1204 : DD cL_law 1204 (.iaload) 1 1205 := ⟨by decide +kernel, rfl⟩
theorem dL_law_1205 : DD cL_law 1205 (.aload_n 0) 1 1206 := ⟨by decide +kernel, rfl⟩
theorem dL_law_1206 : DD cL_law 1206 (.iload_n 3) 1 1207 := ⟨by decide +kernel, rfl⟩
theorem dL_law_1207 : DD cL_law 1207 (.iconst 2) 1 1208 := ⟨by decide +kernel, rfl⟩
theorem dL_law_1208 : DD cL_law 1208 (.iadd) 1 1209 := ⟨by decide +kernel, rfl⟩
theorem dL_law_1209 : DD cL_law 1209 (.iaload) 1 1210 := ⟨by decide +kernel, rfl⟩
theorem dL_law_1210 : DD cL_law 1210 (.aload_n 0) 1 1211 := ⟨by decide +kernel, rfl⟩
theorem dL_law_1211 : DD cL_law 1211 (.iload_n 3) 1 1212 := ⟨by decide +kernel, rfl⟩
theorem dL_law_1212 : DD cL_law 1212 (.iconst 3) 1 1213 := ⟨by decide +kernel, rfl⟩
theorem dL_law_1213 : DD cL_law 1213 (.iadd) 1 1214 := ⟨by decide +kernel, rfl⟩
theorem dL_law_1214 : DD cL_law 1214 (.iaload) 1 1215 := ⟨by decide +kernel, rfl⟩
theorem dL_law_1215 : DD cL_law 1215 (.aload_n 0) 1 1216 := ⟨by decide +kernel, rfl⟩
theorem dL_law_1216 : DD cL_law 1216 (.iload_n 3) 1 1217 := ⟨by decide +kernel, rfl⟩
theorem dL_law_1217 : DD cL_law 1217 (.iconst 4) 1 1218 := ⟨by decide +kernel, rfl⟩
theorem dL_law_1218 : DD cL_law 1218 (.iadd) 1 1219 := ⟨by decide +kernel, rfl⟩
theorem dL_law_1219 : DD cL_law 1219 (.iaload) 1 1220 := ⟨by decide +kernel, rfl⟩
theorem dL_law_1220 : DD cL_law 1220 (.aload_n 0) 1 1221 := ⟨by decide +kernel, rfl⟩
theorem dL_law_1221 : DD cL_law 1221 (.iload_n 3) 1 1222 := ⟨by decide +kernel, rfl⟩
theorem dL_law_1222 : DD cL_law 1222 (.iconst 5) 1 1223 := ⟨by decide +kernel, rfl⟩
theorem dL_law_1223 : DD cL_law 1223 (.iadd) 1 1224 := ⟨by decide +kernel, rfl⟩
theorem dL_law_1224 : DD cL_law 1224 (.iaload) 1 1225 := ⟨by decide +kernel, rfl⟩
theorem dL_law_1225 : DD cL_law 1225 (.invokevirtual 133) 3 1228 := ⟨by decide +kernel, rfl⟩
theorem dL_law_1228 : DD cL_law 1228 (.if_icmp .eq 176) 3 1231 := ⟨by decide +kernel, rfl⟩
theorem dL_law_1231 : DD cL_law 1231 (.iconst 0) 1 1232 := ⟨by decide +kernel, rfl⟩
theorem dL_law_1232 : DD cL_law 1232 (.ireturn) 1 1233 := ⟨by decide +kernel, rfl⟩
theorem dL_law_1233 : DD cL_law 1233 (.aload_n 1) 1 1234 := ⟨by decide +kernel, rfl⟩
theorem dL_law_1234 : DD cL_law 1234 (.aload_n 0) 1 1235 := ⟨by decide +kernel, rfl⟩
theorem dL_law_1235 : DD cL_law 1235 (.iload_n 3) 1 1236 := ⟨by decide +kernel, rfl⟩
theorem dL_law_1236 : DD cL_law 1236 (.iconst 1) 1 1237 := ⟨by decide +kernel, rfl⟩
theorem dL_law_1237 : DD cL_law 1237 (.iadd) 1 1238 := ⟨by decide +kernel, rfl⟩
theorem dL_law_1238 : DD cL_law 1238 (.iaload) 1 1239 := ⟨by decide +kernel, rfl⟩
theorem dL_law_1239 : DD cL_law 1239 (.aload_n 0) 1 1240 := ⟨by decide +kernel, rfl⟩
theorem dL_law_1240 : DD cL_law 1240 (.iload_n 3) 1 1241 := ⟨by decide +kernel, rfl⟩
theorem dL_law_1241 : DD cL_law 1241 (.iconst 2) 1 1242 := ⟨by decide +kernel, rfl⟩
theorem dL_law_1242 : DD cL_law 1242 (.iadd) 1 1243 := ⟨by decide +kernel, rfl⟩
theorem dL_law_1243 : DD cL_law 1243 (.iaload) 1 1244 := ⟨by decide +kernel, rfl⟩
theorem dL_law_1244 : DD cL_law 1244 (.aload_n 0) 1 1245 := ⟨by decide +kernel, rfl⟩
theorem dL_law_1245 : DD cL_law 1245 (.iload_n 3) 1 1246 := ⟨by decide +kernel, rfl⟩
theorem dL_law_1246 : DD cL_law 1246 (.iconst 3) 1 1247 := ⟨by decide +kernel, rfl⟩
theorem dL_law_1247 : DD cL_law 1247 (.iadd) 1 1248 := ⟨by decide +kernel, rfl⟩
theorem dL_law_1248 : DD cL_law 1248 (.iaload) 1 1249 := ⟨by decide +kernel, rfl⟩
theorem dL_law_1249 : DD cL_law 1249 (.invokevirtual 134) 3 1252 := ⟨by decide +kernel, rfl⟩
theorem dL_law_1252 : DD cL_law 1252 (.aload_n 2) 1 1253 := ⟨by decide +kernel, rfl⟩
theorem dL_law_1253 : DD cL_law 1253 (.aload_n 0) 1 1254 := ⟨by decide +kernel, rfl⟩
theorem dL_law_1254 : DD cL_law 1254 (.iload_n 3) 1 1255 := ⟨by decide +kernel, rfl⟩
theorem dL_law_1255 : DD cL_law 1255 (.iconst 1) 1 1256 := ⟨by decide +kernel, rfl⟩
theorem dL_law_1256 : DD cL_law 1256 (.iadd) 1 1257 := ⟨by decide +kernel, rfl⟩
theorem dL_law_1257 : DD cL_law 1257 (.iaload) 1 1258 := ⟨by decide +kernel, rfl⟩
theorem dL_law_1258 : DD cL_law 1258 (.aload_n 0) 1 1259 := ⟨by decide +kernel, rfl⟩
theorem dL_law_1259 : DD cL_law 1259 (.iload_n 3) 1 1260 := ⟨by decide +kernel, rfl⟩
theorem dL_law_1260 : DD cL_law 1260 (.iconst 2) 1 1261 := ⟨by decide +kernel, rfl⟩
theorem dL_law_1261 : DD cL_law 1261 (.iadd) 1 1262 := ⟨by decide +kernel, rfl⟩
theorem dL_law_1262 : DD cL_law 1262 (.iaload) 1 1263 := ⟨by decide +kernel, rfl⟩
theorem dL_law_1263 : DD cL_law 1263 (.aload_n 0) 1 1264 := ⟨by decide +kernel, rfl⟩
theorem dL_law_1264 : DD cL_law 1264 (.iload_n 3) 1 1265 := ⟨by decide +kernel, rfl⟩
theorem dL_law_1265 : DD cL_law 1265 (.iconst 3) 1 1266 := ⟨by decide +kernel, rfl⟩
theorem dL_law_1266 : DD cL_law 1266 (.iadd) 1 1267 := ⟨by decide +kernel, rfl⟩
theorem dL_law_1267 : DD cL_law 1267 (.iaload) 1 1268 := ⟨by decide +kernel, rfl⟩
theorem dL_law_1268 : DD cL_law 1268 (.invokevirtual 137) 3 1271 := ⟨by decide +kernel, rfl⟩
theorem dL_law_1271 : DD cL_law 1271 (.if_icmp .eq 133) 3 1274 := ⟨by decide +kernel, rfl⟩
theorem dL_law_1274 : DD cL_law 1274 (.iconst 0) 1 1275 := ⟨by decide +kernel, rfl⟩
theorem dL_law_1275 : DD cL_law 1275 (.ireturn) 1 1276 := ⟨by decide +kernel, rfl⟩
theorem dL_law_1276 : DD cL_law 1276 (.aload_n 1) 1 1277 := ⟨by decide +kernel, rfl⟩
theorem dL_law_1277 : DD cL_law 1277 (.aload_n 0) 1 1278 := ⟨by decide +kernel, rfl⟩
theorem dL_law_1278 : DD cL_law 1278 (.iload_n 3) 1 1279 := ⟨by decide +kernel, rfl⟩
theorem dL_law_1279 : DD cL_law 1279 (.iconst 1) 1 1280 := ⟨by decide +kernel, rfl⟩
theorem dL_law_1280 : DD cL_law 1280 (.iadd) 1 1281 := ⟨by decide +kernel, rfl⟩
theorem dL_law_1281 : DD cL_law 1281 (.iaload) 1 1282 := ⟨by decide +kernel, rfl⟩
theorem dL_law_1282 : DD cL_law 1282 (.aload_n 0) 1 1283 := ⟨by decide +kernel, rfl⟩
theorem dL_law_1283 : DD cL_law 1283 (.iload_n 3) 1 1284 := ⟨by decide +kernel, rfl⟩
theorem dL_law_1284 : DD cL_law 1284 (.iconst 2) 1 1285 := ⟨by decide +kernel, rfl⟩
theorem dL_law_1285 : DD cL_law 1285 (.iadd) 1 1286 := ⟨by decide +kernel, rfl⟩
theorem dL_law_1286 : DD cL_law 1286 (.iaload) 1 1287 := ⟨by decide +kernel, rfl⟩
theorem dL_law_1287 : DD cL_law 1287 (.aload_n 0) 1 1288 := ⟨by decide +kernel, rfl⟩
theorem dL_law_1288 : DD cL_law 1288 (.iload_n 3) 1 1289 := ⟨by decide +kernel, rfl⟩
theorem dL_law_1289 : DD cL_law 1289 (.iconst 3) 1 1290 := ⟨by decide +kernel, rfl⟩
theorem dL_law_1290 : DD cL_law 1290 (.iadd) 1 1291 := ⟨by decide +kernel, rfl⟩
theorem dL_law_1291 : DD cL_law 1291 (.iaload) 1 1292 := ⟨by decide +kernel, rfl⟩
theorem dL_law_1292 : DD cL_law 1292 (.invokevirtual 138) 3 1295 := ⟨by decide +kernel, rfl⟩
theorem dL_law_1295 : DD cL_law 1295 (.aload_n 2) 1 1296 := ⟨by decide +kernel, rfl⟩
theorem dL_law_1296 : DD cL_law 1296 (.aload_n 0) 1 1297 := ⟨by decide +kernel, rfl⟩
theorem dL_law_1297 : DD cL_law 1297 (.iload_n 3) 1 1298 := ⟨by decide +kernel, rfl⟩
theorem dL_law_1298 : DD cL_law 1298 (.iconst 1) 1 1299 := ⟨by decide +kernel, rfl⟩
theorem dL_law_1299 : DD cL_law 1299 (.iadd) 1 1300 := ⟨by decide +kernel, rfl⟩
theorem dL_law_1300 : DD cL_law 1300 (.iaload) 1 1301 := ⟨by decide +kernel, rfl⟩
theorem dL_law_1301 : DD cL_law 1301 (.aload_n 0) 1 1302 := ⟨by decide +kernel, rfl⟩
theorem dL_law_1302 : DD cL_law 1302 (.iload_n 3) 1 1303 := ⟨by decide +kernel, rfl⟩
theorem dL_law_1303 : DD cL_law 1303 (.iconst 2) 1 1304 := ⟨by decide +kernel, rfl⟩
theorem dL_law_1304 : DD cL_law 1304 (.iadd) 1 1305 := ⟨by decide +kernel, rfl⟩
theorem dL_law_1305 : DD cL_law 1305 (.iaload) 1 1306 := ⟨by decide +kernel, rfl⟩
theorem dL_law_1306 : DD cL_law 1306 (.aload_n 0) 1 1307 := ⟨by decide +kernel, rfl⟩
theorem dL_law_1307 : DD cL_law 1307 (.iload_n 3) 1 1308 := ⟨by decide +kernel, rfl⟩
theorem dL_law_1308 : DD cL_law 1308 (.iconst 3) 1 1309 := ⟨by decide +kernel, rfl⟩
theorem dL_law_1309 : DD cL_law 1309 (.iadd) 1 1310 := ⟨by decide +kernel, rfl⟩
theorem dL_law_1310 : DD cL_law 1310 (.iaload) 1 1311 := ⟨by decide +kernel, rfl⟩
theorem dL_law_1311 : DD cL_law 1311 (.invokevirtual 141) 3 1314 := ⟨by decide +kernel, rfl⟩
theorem dL_law_1314 : DD cL_law 1314 (.if_icmp .eq 90) 3 1317 := ⟨by decide +kernel, rfl⟩
theorem dL_law_1317 : DD cL_law 1317 (.iconst 0) 1 1318 := ⟨by decide +kernel, rfl⟩
theorem dL_law_1318 : DD cL_law 1318 (.ireturn) 1 1319 := ⟨by decide +kernel, rfl⟩
theorem dL_law_1319 : DD cL_law 1319 (.aload_n 1) 1 1320 := ⟨by decide +kernel, rfl⟩
theorem dL_law_1320 : DD cL_law 1320 (.invokevirtual 142) 3 1323 := ⟨by decide +kernel, rfl⟩
theorem dL_law_1323 : DD cL_law 1323 (.aload_n 2) 1 1324 := ⟨by decide +kernel, rfl⟩
theorem dL_law_1324 : DD cL_law 1324 (.invokevirtual 145) 3 1327 := ⟨by decide +kernel, rfl⟩
theorem dL_law_1327 : DD cL_law 1327 (.if_icmp .eq 77) 3 1330 := ⟨by decide +kernel, rfl⟩
theorem dL_law_1330 : DD cL_law 1330 (.iconst 0) 1 1331 := ⟨by decide +kernel, rfl⟩
theorem dL_law_1331 : DD cL_law 1331 (.ireturn) 1 1332 := ⟨by decide +kernel, rfl⟩
theorem dL_law_1332 : DD cL_law 1332 (.aload_n 1) 1 1333 := ⟨by decide +kernel, rfl⟩
theorem dL_law_1333 : DD cL_law 1333 (.invokevirtual 146) 3 1336 := ⟨by decide +kernel, rfl⟩
theorem dL_law_1336 : DD cL_law 1336 (.aload_n 2) 1 1337 := ⟨by decide +kernel, rfl⟩
theorem dL_law_1337 : DD cL_law 1337 (.invokevirtual 149) 3 1340 := ⟨by decide +kernel, rfl⟩
theorem dL_law_1340 : DD cL_law 1340 (.if_icmp .eq 64) 3 1343 := ⟨by decide +kernel, rfl⟩
theorem dL_law_1343 : DD cL_law 1343 (.iconst 0) 1 1344 := ⟨by decide +kernel, rfl⟩
theorem dL_law_1344 : DD cL_law 1344 (.ireturn) 1 1345 := ⟨by decide +kernel, rfl⟩
theorem dL_law_1345 : DD cL_law 1345 (.aload_n 1) 1 1346 := ⟨by decide +kernel, rfl⟩
theorem dL_law_1346 : DD cL_law 1346 (.invokevirtual 150) 3 1349 := ⟨by decide +kernel, rfl⟩
theorem dL_law_1349 : DD cL_law 1349 (.aload_n 2) 1 1350 := ⟨by decide +kernel, rfl⟩
theorem dL_law_1350 : DD cL_law 1350 (.invokevirtual 153) 3 1353 := ⟨by decide +kernel, rfl⟩
theorem dL_law_1353 : DD cL_law 1353 (.if_icmp .eq 51) 3 1356 := ⟨by decide +kernel, rfl⟩
theorem dL_law_1356 : DD cL_law 1356 (.iconst 0) 1 1357 := ⟨by decide +kernel, rfl⟩
theorem dL_law_1357 : DD cL_law 1357 (.ireturn) 1 1358 := ⟨by decide +kernel, rfl⟩
theorem dL_law_1358 : DD cL_law 1358 (.aload_n 1) 1 1359 := ⟨by decide +kernel, rfl⟩
theorem dL_law_1359 : DD cL_law 1359 (.aload_n 0) 1 1360 := ⟨by decide +kernel, rfl⟩
theorem dL_law_1360 : DD cL_law 1360 (.iload_n 3) 1 1361 := ⟨by decide +kernel, rfl⟩
theorem dL_law_1361 : DD cL_law 1361 (.iconst 1) 1 1362 := ⟨by decide +kernel, rfl⟩
theorem dL_law_1362 : DD cL_law 1362 (.iadd) 1 1363 := ⟨by decide +kernel, rfl⟩
theorem dL_law_1363 : DD cL_law 1363 (.iaload) 1 1364 := ⟨by decide +kernel, rfl⟩
theorem dL_law_1364 : DD cL_law 1364 (.invokevirtual 154) 3 1367 := ⟨by decide +kernel, rfl⟩
theorem dL_law_1367 : DD cL_law 1367 (.aload_n 2) 1 1368 := ⟨by decide +kernel, rfl⟩
theorem dL_law_1368 : DD cL_law 1368 (.aload_n 0) 1 1369 := ⟨by decide +kernel, rfl⟩
theorem dL_law_1369 : DD cL_law 1369 (.iload_n 3) 1 1370 := ⟨by decide +kernel, rfl⟩
theorem dL_law_1370 : DD cL_law 1370 (.iconst 1) 1 1371 := ⟨by decide +kernel, rfl⟩
theorem dL_law_1371 : DD cL_law 1371 (.iadd) 1 1372 := ⟨by decide +kernel, rfl⟩
theorem dL_law_1372 : DD cL_law 1372 (.iaload) 1 1373 := ⟨by decide +kernel, rfl⟩
theorem dL_law_1373 : DD cL_law 1373 (.invokevirtual 157) 3 1376 := ⟨by decide +kernel, rfl⟩
theorem dL_law_1376 : DD cL_law 1376 (.if_icmp .eq 28) 3 1379 := ⟨by decide +kernel, rfl⟩
theorem dL_law_1379 : DD cL_law 1379 (.iconst 0) 1 1380 := ⟨by decide +kernel, rfl⟩
theorem dL_law_1380 : DD cL_law 1380 (.ireturn) 1 1381 := ⟨by decide +kernel, rfl⟩
theorem dL_law_1381 : DD cL_law 1381 (.aload_n 1) 1 1382 := ⟨by decide +kernel, rfl⟩
theorem dL_law_1382 : DD cL_law 1382 (.aload_n 0) 1 1383 := ⟨by decide +kernel, rfl⟩
theorem dL_law_1383 : DD cL_law 1383 (.iload_n 3) 1 1384 := ⟨by decide +kernel, rfl⟩
theorem dL_law_1384 : DD cL_law 1384 (.iconst 1) 1 1385 := ⟨by decide +kernel, rfl⟩
theorem dL_law_1385 : DD cL_law 1385 (.iadd) 1 1386 := ⟨by decide +kernel, rfl⟩
theorem dL_law_1386 : DD cL_law 1386 (.iaload) 1 1387 := ⟨by decide +kernel, rfl⟩
theorem dL_law_1387 : DD cL_law 1387 (.invokevirtual 158) 3 1390 := ⟨by decide +kernel, rfl⟩
theorem dL_law_1390 : DD cL_law 1390 (.aload_n 2) 1 1391 := ⟨by decide +kernel, rfl⟩
theorem dL_law_1391 : DD cL_law 1391 (.aload_n 0) 1 1392 := ⟨by decide +kernel, rfl⟩
theorem dL_law_1392 : DD cL_law 1392 (.iload_n 3) 1 1393 := ⟨by decide +kernel, rfl⟩
theorem dL_law_1393 : DD cL_law 1393 (.iconst 1) 1 1394 := ⟨by decide +kernel, rfl⟩
theorem dL_law_1394 : DD cL_law 1394 (.iadd) 1 1395 := ⟨by decide +kernel, rfl⟩
theorem dL_law_1395 : DD cL_law 1395 (.iaload) 1 1396 := ⟨by decide +kernel, rfl⟩
theorem dL_law_1396 : DD cL_law 1396 (.invokevirtual 161) 3 1399 := ⟨by decide +kernel, rfl⟩
theorem dL_law_1399 : DD cL_law 1399 (.if_icmp .eq 5) 3 1402 := ⟨by decide +kernel, rfl⟩
theorem dL_law_1402 : DD cL_law 1402 (.iconst 0) 1 1403 := ⟨by decide +kernel, rfl⟩
theorem dL_law_1403 : DD cL_law 1403 (.ireturn) 1 1404 := ⟨by decide +kernel, rfl⟩
theorem dL_law_1404 : DD cL_law 1404 (.iinc 3 6) 3 1407 := ⟨by decide +kernel, rfl⟩
theorem dL_law_1407 : DD cL_law 1407 (.goto (-1389)) 3 1410 := ⟨by decide +kernel, rfl⟩
theorem dL_law_1410 : DD cL_law 1410 (.iconst 1) 1 1411 := ⟨by decide +kernel, rfl⟩
theorem dL_law_1411 : DD cL_law 1411 (.ireturn) 1 1412 := ⟨by decide +kernel, rfl⟩
end
section
/-! ===== the words that every method takes with it; what stands around (tables, nest mates, statics, texts) ===== -/
def GW : List Cond := lw_tbl.filter goodWord
theorem gw_in {w : Cond} (h : w ∈ lw_tbl) (hg : goodWord w = true) : w ∈ GW := List.mem_filter.mpr ⟨h, hg⟩
theorem gw_good : GoodIn GW GW := fun w h => ⟨h, good_of_word (List.mem_filter.mp h).2⟩
theorem gw_cons {w : Cond} (h : w ∈ GW) : GoodIn GW (w :: GW) := fun v hv => by
  rcases List.mem_cons.mp hv with e | e
  · subst e; exact gw_good _ h
  · exact gw_good _ e
theorem gw_consL {w : Cond} {L : List Cond} (h : w ∈ GW) (hL : GoodIn GW L) : GoodIn GW (w :: L) := fun v hv => by
  rcases List.mem_cons.mp hv with e | e
  · subst e; exact gw_good _ h
  · exact hL _ e
theorem gw_V {own : String} {idx : Nat} {C : String} {y : MethodName} {c0 : Cond} (h1 : Cond.methodLink own idx y ∈ GW) (h2 : Cond.instanceMethod y ∈ GW) (h3 : Cond.selects C y y ∈ GW) (h4 : Cond.initialized C ∈ GW) (h0 : c0 ∈ GW) : GoodIn GW (wsV own idx C y (c0 :: GW)) :=
  gw_consL h1 (gw_consL h2 (gw_consL h3 (gw_consL h4 (gw_cons h0))))
theorem gw_S {own : String} {idx : Nat} {y : MethodName} {c0 : Cond} (h1 : Cond.methodLink own idx y ∈ GW) (h2 : Cond.static y ∈ GW) (h4 : Cond.initialized own ∈ GW) (h0 : c0 ∈ GW) : GoodIn GW (wsS own idx y (c0 :: GW)) :=
  gw_consL h1 (gw_consL h2 (gw_consL h4 (gw_cons h0)))
/-- the links to nest mates -/
def nwM : List (String × Nat × MethodName) := [("LogRollers$Match", 17, ⟨"LogRollers$Stander", "<init>", "()V"⟩), ("LogRollers$World", 64, ⟨"LogRollers$Person", "<init>", "()V"⟩), ("LogRollers", 42, ⟨"LogRollers$Person", "<init>", "()V"⟩), ("LogRollers", 49, ⟨"LogRollers$Tape", "<init>", "()V"⟩), ("LogRollers", 63, ⟨"LogRollers$Sheet", "<init>", "()V"⟩), ("LogRollers$World", 72, ⟨"LogRollers", "within", "(III)Z"⟩), ("LogRollers$Person", 33, ⟨"LogRollers", "atMost", "(II)I"⟩), ("LogRollers$Way", 28, ⟨"LogRollers", "within", "(III)Z"⟩), ("LogRollers$Match", 110, ⟨"LogRollers", "within", "(III)Z"⟩), ("LogRollers$Stander", 34, ⟨"LogRollers", "atMost", "(II)I"⟩), ("LogRollers$Tape", 33, ⟨"LogRollers$Way", "<init>", "()V"⟩), ("LogRollers$Sheet", 22, ⟨"LogRollers", "within", "(III)Z"⟩)]
def NW : List Cond := nwM.map (fun q => Cond.methodLinkNest q.1 q.2.1 q.2.2 "LogRollers")
abbrev nwF : Cond := .fieldLinkNest "LogRollers$World" 30 "LogRollers" "PART_AT_FIRST" "[I" "LogRollers"
abbrev nwC : Cond := .castable "[I" "java/lang/Cloneable"
abbrev GT : Type := va_G × (Nat → ClassId) × (Nat → Nat)
def gtys (g : GT) : List (ClassId × FieldType) := [(g.2.1 0, .int), (g.2.1 1, .long), (g.2.1 2, .object "LogRollers$Person"), (g.2.1 3, .object "LogRollers$Sheet"), (g.2.1 4, .object "LogRollers$Way")]
def tb0 : List Int32 := [15, 5, 3, 60, 0]
def tb1 : List Int32 := [-1, 0, 0, 2, 0, 4]
def tb2 : List Int32 := [1, 0, 0, 0, 0]
def tb3 : List Int32 := [99, 50, 50, 999, 100]
def tvs (L : List Int32) : Nat → Value := fun j => .int (L.getD j 0)
/-- a static array: its field, its numbers -/
def eS (n : String) (t : Nat) (L : List Int32) (A : Nat → Prop) (U : State) (H : Heap) : Prop := va_Z "LogRollers" n "[I" (.ref t) A U H ∧ va_T .int t L.length (tvs L) A U H
def slen : List Nat := [4, 4, 4, 4, 4, 3, 5, 4, 4, 3]
def sbyt : List (List Int32) := [[116, 117, 114, 110], [108, 101, 97, 110], [108, 101, 102, 116], [116, 105, 99, 107], [101, 108, 115, 101], [114, 117, 110], [99, 104, 101, 99, 107], [98, 97, 99, 107], [119, 97, 105, 116], [104, 111, 112]]
def stxt : List String := ["turn", "lean", "left", "tick", "else", "\x72un", "check", "back", "wait", "hop"]
def sixT : List Nat := [78, 84, 86, 88, 90, 92, 94, 96, 98, 100]
def sixM : List Nat := [204, 210, 212, 214, 216, 218, 220, 222, 224, 226]
def ES (g : GT) (A : Nat → Prop) (U : State) (H : Heap) : Prop :=
  eS "PART_AT_FIRST" (g.2.2 0) tb0 A U H ∧ eS "KIND_ABOVE" (g.2.2 1) tb1 A U H ∧ eS "PART_LEAST" (g.2.2 2) tb2 A U H ∧ eS "PART_MOST" (g.2.2 3) tb3 A U H ∧
  va_Z "java/lang/String" "COMPACT_STRINGS" "Z" (.int 1) A U H ∧ va_Zq "jdk/internal/util/Preconditions" "SIOOBE_FORMATTER" "Ljava/util/function/BiFunction;" A U H ∧
  vk_S 10 slen sbyt (fun i => g.2.2 (10 + i)) (fun i => g.2.2 (30 + i)) A U H ∧ vk_S 10 slen sbyt (fun i => g.2.2 (50 + i)) (fun i => g.2.2 (70 + i)) A U H
def ER (g : GT) (U : State) : Prop := (∀ i : Nat, i < 10 → vk_R "LogRollers$Tape" (sixT.getD i 0) (stxt.getD i "") (g.2.2 (10 + i)) U) ∧ ∀ i : Nat, i < 10 → vk_R "LogRollersModel" (sixM.getD i 0) (stxt.getD i "") (g.2.2 (50 + i)) U
def EV (g : GT) (A : Nat → Prop) (U : State) : Prop :=
  va_K g.1 vwCl (gtys g) U ∧ (∀ w ∈ NW, va_Nw w U) ∧ va_Nw nwF U ∧ va_Nw nwC U ∧ (∀ C ∈ (["LogRollers$Person", "LogRollers$Sheet", "LogRollers$Way"] : List String), va_AO C U) ∧ ER g U ∧ ES g A U U.heap
theorem eS.moved {n : String} {t : Nat} {L : List Int32} {A : Nat → Prop} {u U : State} {H : Heap} (hvm : u.vm.Alike U.vm) (h : eS n t L A u H) : eS n t L A U H := ⟨h.1.moved hvm, h.2.moved hvm⟩
theorem eS.kept {n : String} {t : Nat} {L : List Int32} {A : Nat → Prop} {U : State} {H H1 : Heap} (h : eS n t L A U H) (hq : ∀ a : Nat, a < H.size → ¬ A a → H1[a]? = H[a]?) : eS n t L A U H1 := ⟨h.1.kept hq, h.2.kept hq⟩
theorem eS.narrow {n : String} {t : Nat} {L : List Int32} {A B : Nat → Prop} {U : State} {H : Heap} (h : eS n t L A U H) (hAB : ∀ q, B q → A q) : eS n t L B U H := ⟨h.1.narrow hAB, h.2.narrow hAB⟩
theorem ES.moved {g : GT} {A : Nat → Prop} {u U : State} {H : Heap} (hvm : u.vm.Alike U.vm) (h : ES g A u H) : ES g A U H :=
  ⟨h.1.moved hvm, h.2.1.moved hvm, h.2.2.1.moved hvm, h.2.2.2.1.moved hvm, h.2.2.2.2.1.moved hvm, h.2.2.2.2.2.1.moved hvm, h.2.2.2.2.2.2.1.moved hvm, h.2.2.2.2.2.2.2.moved hvm⟩
theorem ES.kept {g : GT} {A : Nat → Prop} {U : State} {H H1 : Heap} (h : ES g A U H) (hq : ∀ a : Nat, a < H.size → ¬ A a → H1[a]? = H[a]?) : ES g A U H1 :=
  ⟨h.1.kept hq, h.2.1.kept hq, h.2.2.1.kept hq, h.2.2.2.1.kept hq, h.2.2.2.2.1.kept hq, h.2.2.2.2.2.1.kept hq, h.2.2.2.2.2.2.1.kept hq, h.2.2.2.2.2.2.2.kept hq⟩
theorem ES.narrow {g : GT} {A B : Nat → Prop} {U : State} {H : Heap} (h : ES g A U H) (hAB : ∀ q, B q → A q) : ES g B U H :=
  ⟨h.1.narrow hAB, h.2.1.narrow hAB, h.2.2.1.narrow hAB, h.2.2.2.1.narrow hAB, h.2.2.2.2.1.narrow hAB, h.2.2.2.2.2.1.narrow hAB, h.2.2.2.2.2.2.1.narrow hAB, h.2.2.2.2.2.2.2.narrow hAB⟩
/-- a static fact stays where the cells outside A stay and the new A has no old cell more -/
theorem nw_warm {s U : State} (hW : s.WarmedH U.vm) (h : ∀ w ∈ NW, va_Nw w s) : ∀ w ∈ NW, va_Nw w U := by
  intro w hw
  obtain ⟨q, hq, rfl⟩ := List.mem_map.mp hw
  exact va_Nw.warmM hW (h _ hw)
theorem nw_same {s U : State} (hv : s.vm = U.vm) (h : ∀ w ∈ NW, va_Nw w s) : ∀ w ∈ NW, va_Nw w U := by
  intro w hw
  obtain ⟨q, hq, rfl⟩ := List.mem_map.mp hw
  exact va_Nw.same rfl hv (h _ hw)
theorem EV.calling {g : GT} {A : Nat → Prop} {U : State} (h : EV g A U) (f : JFrame) (mk : MethodId) (a : Array Value) : EV g A (U.calling f mk a) := by
  obtain ⟨h1, h2, h3, h4, h5, h6, h7⟩ := h
  have hv : U.vm = (U.calling f mk a).vm := rfl
  have ha : U.vm.Alike (U.calling f mk a).vm := Vm.Alike.refl U.vm
  exact ⟨va_K.moved ha h1, nw_same hv h2, va_Nw.same rfl hv h3, va_Nw.same rfl hv h4, fun C hC => (h5 C hC).moved ha, ⟨fun i hi => (h6.1 i hi).same hv.symm, fun i hi => (h6.2 i hi).same hv.symm⟩, h7.moved ha⟩
theorem va_Z.narrowL {C n d : String} {v : Value} {A B : Nat → Prop} {U : State} {H : Heap} (h : va_Z C n d v A U H) (hAB : ∀ q, q < H.size → B q → A q) : va_Z C n d v B U H := by
  obtain ⟨cf, kf, fi, f, a, cell, h1, h2, h3, h4, h5, h6, h7, h8⟩ := h
  exact ⟨cf, kf, fi, f, a, cell, h1, h2, h3, h4, h5, h6, h7, fun z => h8 (hAB a (Array.getElem?_eq_some_iff.mp h5).1 z)⟩
theorem EV.go {g : GT} {A B : Nat → Prop} {s U : State} {H : Heap} {locs : List Loc} (h : EV g A s) (hS : va_S A s.heap H locs) (hAB : ∀ q, B q → A q) (hU : U.heap = H) (hW : s.WarmedH U.vm) : EV g B U := by
  obtain ⟨h1, h2, h3, h4, h5, h6, h7⟩ := h
  refine ⟨va_K.moved hW.alike h1, nw_warm hW h2, va_Nw.warmF hW h3, va_Nw.warmC hW h4, fun C hC => (h5 C hC).moved hW.alike, ⟨fun i hi => (h6.1 i hi).warm hW, fun i hi => (h6.2 i hi).warm hW⟩, ?_⟩
  rw [hU]
  exact ((h7.moved hW.alike).kept hS.2.1).narrow hAB
end
section
/-! ===== the judgement: a heap as a function from addresses to cells ===== -/
abbrev Hp : Type := Nat → Option va_E
def HP (g : GT) (h : Hp) (H : Heap) : Prop := ∀ (a : Nat) (c : va_E), h a = some c → va_at g.1 vwCl (a, c) H
def dm (h : Hp) (sz : Nat) : Nat → Prop := fun q => h q ≠ none ∨ sz ≤ q
def hU (h : Hp) (a : Nat) (c : va_E) : Hp := fun x => if x = a then some c else h x
theorem hU_s {h : Hp} {a : Nat} {c : va_E} : hU h a c a = some c := by simp [hU]
theorem hU_n {h : Hp} {a b : Nat} {c : va_E} (hne : b ≠ a) : hU h a c b = h b := by simp [hU, hne]
theorem hU_u {h : Hp} {a : Nat} {c d : va_E} : hU (hU h a c) a d = hU h a d := by
  funext x; unfold hU; by_cases hx : x = a <;> simp [hx]
theorem hU_w {h : Hp} {a b : Nat} {c d : va_E} (hne : a ≠ b) : hU (hU h a c) b d = hU (hU h b d) a c := by
  funext x; unfold hU
  by_cases hx : x = a
  · subst hx; simp [hne]
  · simp [hx]
theorem hU_id {h : Hp} {a : Nat} {c : va_E} (ha : h a = some c) : hU h a c = h := by
  funext x; unfold hU; by_cases hx : x = a
  · subst hx; simp [ha]
  · simp [hx]
theorem HP.lt {g : GT} {h : Hp} {H : Heap} (hp : HP g h H) {a : Nat} {c : va_E} (ha : h a = some c) : a < H.size := (hp a c ha).lt
theorem HP.one {g : GT} {h : Hp} {H : Heap} (hp : HP g h H) {a : Nat} {c : va_E} (ha : h a = some c) : va_P g.1 vwCl [(a, c)] H := by
  intro k q hk
  match k, hk with
  | 0, hk => cases hk; exact hp a c ha
  | k + 1, hk => simp at hk
theorem HD1 {A : Nat → Prop} {a : Nat} {c : va_E} (ha : A a) : va_D A [(a, c)] := by
  refine ⟨fun i j x y hi hj _ => ?_, fun k q hk => ?_⟩
  · have h1 := (List.getElem?_eq_some_iff.mp hi).1
    have h2 := (List.getElem?_eq_some_iff.mp hj).1
    simp at h1 h2; omega
  · match k, hk with
    | 0, hk => cases hk; exact ha
    | k + 1, hk => simp at hk
theorem HP.set {g : GT} {h : Hp} {H H1 : Heap} (hp : HP g h H) {a : Nat} {c : va_E} (he : va_at g.1 vwCl (a, c) H1) (oq : ∀ q : Nat, q ≠ a → H1[q]? = H[q]?) : HP g (hU h a c) H1 := by
  intro x d hx
  by_cases hxa : x = a
  · subst hxa; rw [hU_s] at hx; cases hx; exact he
  · rw [hU_n hxa] at hx; exact (hp x d hx).kept (oq x hxa)
theorem HP.kept {g : GT} {h : Hp} {H H1 : Heap} (hp : HP g h H) (oq : ∀ q : Nat, q < H.size → H1[q]? = H[q]?) : HP g h H1 := fun x d hx => (hp x d hx).kept (oq x (hp.lt hx))
abbrev KT : Type := Program × Launch × Env × Room × State × MethodId × Array Value × List Frame × Method × Code × (State → Prop) × Nat × GT × (Nat → Prop)
def VJ (K : KT) (k n : Nat) (h : Hp) (pc : Nat) (lv : List (Nat × Value)) (st : List Value) : Prop := match K with
  | (p, l, e, R, s, m, args, below, meth, c, Q, nL, g, A) => ∀ (H : Heap) (locs : List Loc) (ls : Array Slot), HP g h H → (∀ a, h a ≠ none → A a) → va_S A s.heap H locs → lv_has ls nL lv → W p l e R s m args below meth c H locs k n Q (F0 m pc ls st)
def Cx (K : KT) (l0 : Launch) (g0 : GT) (cc : ByteArray) (own : String) (nL0 : Nat) (rm : Room) : Prop := match K with
  | (p, l, e, R, s, m, args, below, meth, c, Q, nL, g, A) => p.tables.exec = Jvm.exec ∧ c.code = cc ∧ c.maxLocals = nL ∧ s.vm.findClass own = some m.cls ∧ (∀ w ∈ GW, w.before args s = true) ∧ EV g A s ∧ (∀ q, s.heap.size ≤ q → A q) ∧ meth.locks = false ∧ l = l0 ∧ g = g0 ∧ R = rm ∧ nL = nL0
def QFp (g : GT) (A : Nat → Prop) (P : Option Value → Hp → Prop) : Array Value → State → Outcome → State → Prop := fun _ st oc t => (∃ (r : Option Value) (h2 : Hp), oc = .returned r ∧ P r h2 ∧ HP g h2 t.heap ∧ ∀ a, h2 a ≠ none → A a) ∧ va_F A st t
def Rt (K : KT) (ret : Option FieldType) (P : Option Value → Hp → Prop) (mc ms : Nat) : Prop := match K with
  | (p, l, e, R, s, m, args, below, meth, c, Q, nL, g, A) => meth.sig.returnType = ret ∧ Q = MQ below (QFp g A P) args s mc ms A
def MC (l : Launch) (g : GT) (y : MethodName) (cc : ByteArray) (nL : Nat) (ret : Option FieldType) (rm : Room) (av : List Value) (h : Hp) (P : Option Value → Hp → Prop) (mc ms : Nat) : Prop :=
  ∀ sz : Nat, Met l y (Cond.code y cc nL ret :: GW) rm (va_Pc av (fun U => U.heap.size = sz ∧ HP g h U.heap ∧ EV g (dm h sz) U)) (QFp g (dm h sz) P) mc ms (dm h sz)
abbrev MF (l : Launch) (g : GT) (y : MethodName) (cc : ByteArray) (nL : Nat) (ret : Option FieldType) (rm : Room) (av : List Value) (h : Hp) (r : Option Value) (h2 : Hp) : Prop := MC l g y cc nL ret rm av h (fun r' h' => r' = r ∧ h' = h2) 0 0
theorem mc_of {l : Launch} {g : GT} {y : MethodName} {cc : ByteArray} {nL : Nat} {ret : Option FieldType} {rm : Room} {av : List Value} {h : Hp} {P : Option Value → Hp → Prop} {mc ms : Nat} (hy : plainName y.cls = true) (hlen : (lg_sl av).length ≤ nL)
    (body : ∀ K : KT, Cx K l g cc y.cls nL rm → Rt K ret P mc ms → VJ K 0 0 h 0 (lv_args 0 av) []) : MC l g y cc nL ret rm av h P mc ms := by
  intro sz
  refine Met.ofW (cc := cc) (maxL := nL) (ret := ret) hy rfl ?_
  intro p e s m args below meth c s₁ B hml hv
  obtain ⟨rfl, hsz, hP, hE⟩ := hv
  subst hsz
  have hts := atoms_spec (ws := Cond.code y cc nL ret :: GW) B.pre
  have hown : s.vm.findClass y.cls = some m.cls := findClass_of_methodNamed B.named
  have hb := body (p, l, e, rm, s, m, av.toArray, below, meth, c, MQ below (QFp g (dm h s.heap.size) P) av.toArray s mc ms (dm h s.heap.size), nL, g, dm h s.heap.size)
    ⟨B.exec, B.bytes, hml, hown, fun w hw => hts w (List.mem_cons_of_mem _ hw), hE, fun q hq => Or.inr hq, B.notSynchronized, rfl, rfl, rfl, rfl⟩ ⟨B.returns, rfl⟩
  have hl := lv_entry av (n := nL) hlen
  rw [lg_entry_eq]
  exact hb s.heap [] _ hP (fun a ha => Or.inl ha) va_S.rf hl
section VR
variable {K : KT} {l0 : Launch} {g0 : GT} {cc : ByteArray} {own : String} {nL0 : Nat} {rm : Room} {k n : Nat} {h : Hp} {pc pc1 : Nat} {lv : List (Nat × Value)} {st : List Value}
theorem v_nmi {x : Int32} (kk : ∀ y : Int32, y = x → VJ K k n h pc lv (.int y :: st)) : VJ K k n h pc lv (.int x :: st) := kk x rfl
theorem v_nml {x : Int64} (kk : ∀ y : Int64, y = x → VJ K k n h pc lv (.long y :: st)) : VJ K k n h pc lv (.long x :: st) := kk x rfl
theorem v_eqi {x y : Int32} (e : x = y) (kk : VJ K k n h pc lv (.int y :: st)) : VJ K k n h pc lv (.int x :: st) := e ▸ kk
theorem v_eqh {h2 : Hp} (e : h = h2) (kk : VJ K k n h2 pc lv st) : VJ K k n h pc lv st := e ▸ kk
theorem v_eqs {st2 : List Value} (e : st = st2) (kk : VJ K k n h pc lv st2) : VJ K k n h pc lv st := e ▸ kk
theorem v_eqv {lv2 : List (Nat × Value)} (e : lv = lv2) (kk : VJ K k n h pc lv2 st) : VJ K k n h pc lv st := e ▸ kk
theorem v_lv {lv2 : List (Nat × Value)} (ks : List Nat) (e : lv_pick lv ks = lv2) (kk : VJ K k n h pc lv2 st) : VJ K k n h pc lv st := by
  obtain ⟨p, l, e, R, s, m, args, below, meth, c, Q, nL, g, A⟩ := K
  exact fun H locs ls h1 h2 h3 h4 => kk H locs ls h1 h2 h3 (lv_sub h4 ks ‹_›)
theorem v_widen {k2 n2 : Nat} (h1 : k ≤ k2) (h2 : n ≤ n2) (kk : VJ K k2 n2 h pc lv st) : VJ K k n h pc lv st := by
  obtain ⟨p, l, e, R, s, m, args, below, meth, c, Q, nL, g, A⟩ := K
  exact fun H locs ls a1 a2 a3 a4 => W.widen h1 h2 (kk H locs ls a1 a2 a3 a4)

theorem v_iconst (X : Cx K l0 g0 cc own nL0 rm) {i : Int} {v : Int32} (hd : DD cc pc (.iconst i) 1 pc1) (hv : Int32.ofInt i = v) (kk : VJ K k n h pc1 lv (.int v :: st)) : VJ K k n h pc lv (st) := by
  obtain ⟨p, l, e, R, s, m, args, below, meth, c, Q, nL, g, A⟩ := K
  obtain ⟨hx, hb, hml, hown, hts, hE, hA, hlk, rfl, rfl, rfl, rfl⟩ := X
  obtain ⟨hd, rfl⟩ := hd
  exact fun H locs ls h1 h2 h3 h4 => lv_iconst hx hb hd hv (kk H locs ls h1 h2 h3 h4)
theorem v_bipush (X : Cx K l0 g0 cc own nL0 rm) {i : Int} {v : Int32} (hd : DD cc pc (.bipush i) 2 pc1) (hv : (Int8.ofInt i).toInt32 = v) (kk : VJ K k n h pc1 lv (.int v :: st)) : VJ K k n h pc lv (st) := by
  obtain ⟨p, l, e, R, s, m, args, below, meth, c, Q, nL, g, A⟩ := K
  obtain ⟨hx, hb, hml, hown, hts, hE, hA, hlk, rfl, rfl, rfl, rfl⟩ := X
  obtain ⟨hd, rfl⟩ := hd
  exact fun H locs ls h1 h2 h3 h4 => lv_bipush hx hb hd hv (kk H locs ls h1 h2 h3 h4)
theorem v_sipush (X : Cx K l0 g0 cc own nL0 rm) {i : Int} {v : Int32} (hd : DD cc pc (.sipush i) 3 pc1) (hv : (Int16.ofInt i).toInt32 = v) (kk : VJ K k n h pc1 lv (.int v :: st)) : VJ K k n h pc lv (st) := by
  obtain ⟨p, l, e, R, s, m, args, below, meth, c, Q, nL, g, A⟩ := K
  obtain ⟨hx, hb, hml, hown, hts, hE, hA, hlk, rfl, rfl, rfl, rfl⟩ := X
  obtain ⟨hd, rfl⟩ := hd
  exact fun H locs ls h1 h2 h3 h4 => lv_sipush hx hb hd hv (kk H locs ls h1 h2 h3 h4)
theorem v_lconst (X : Cx K l0 g0 cc own nL0 rm) {i : Fin 2} {v : Int64} (hd : DD cc pc (.lconst i) 1 pc1) (hv : Int64.ofNat (i : Nat) = v) (kk : VJ K k n h pc1 lv (.long v :: st)) : VJ K k n h pc lv (st) := by
  obtain ⟨p, l, e, R, s, m, args, below, meth, c, Q, nL, g, A⟩ := K
  obtain ⟨hx, hb, hml, hown, hts, hE, hA, hlk, rfl, rfl, rfl, rfl⟩ := X
  obtain ⟨hd, rfl⟩ := hd
  exact fun H locs ls h1 h2 h3 h4 => lv_lconst hx hb hd hv (kk H locs ls h1 h2 h3 h4)
theorem v_null (X : Cx K l0 g0 cc own nL0 rm) (hd : DD cc pc (.aconst_null) 1 pc1) (kk : VJ K k n h pc1 lv (.null :: st)) : VJ K k n h pc lv (st) := by
  obtain ⟨p, l, e, R, s, m, args, below, meth, c, Q, nL, g, A⟩ := K
  obtain ⟨hx, hb, hml, hown, hts, hE, hA, hlk, rfl, rfl, rfl, rfl⟩ := X
  obtain ⟨hd, rfl⟩ := hd
  exact fun H locs ls h1 h2 h3 h4 => lv_null hx hb hd (kk H locs ls h1 h2 h3 h4)
theorem v_ldc (X : Cx K l0 g0 cc own nL0 rm) {i : Nat} {v : Int32} (hd : DD cc pc (.ldc i) 2 pc1) (hw : Cond.constant own i v ∈ GW) (kk : VJ K k n h pc1 lv (.int v :: st)) : VJ K k n h pc lv (st) := by
  obtain ⟨p, l, e, R, s, m, args, below, meth, c, Q, nL, g, A⟩ := K
  obtain ⟨hx, hb, hml, hown, hts, hE, hA, hlk, rfl, rfl, rfl, rfl⟩ := X
  obtain ⟨hd, rfl⟩ := hd
  exact fun H locs ls h1 h2 h3 h4 => lv_ldc hx hb hown (hts _ hw) hd (kk H locs ls h1 h2 h3 h4)
theorem v_ldcw (X : Cx K l0 g0 cc own nL0 rm) {i : Nat} {v : Int32} (hd : DD cc pc (.ldc_w i) 3 pc1) (hw : Cond.constant own i v ∈ GW) (kk : VJ K k n h pc1 lv (.int v :: st)) : VJ K k n h pc lv (st) := by
  obtain ⟨p, l, e, R, s, m, args, below, meth, c, Q, nL, g, A⟩ := K
  obtain ⟨hx, hb, hml, hown, hts, hE, hA, hlk, rfl, rfl, rfl, rfl⟩ := X
  obtain ⟨hd, rfl⟩ := hd
  exact fun H locs ls h1 h2 h3 h4 => lv_ldcw hx hb hown (hts _ hw) hd (kk H locs ls h1 h2 h3 h4)
theorem v_ldc2 (X : Cx K l0 g0 cc own nL0 rm) {i : Nat} {v : Int64} (hd : DD cc pc (.ldc2_w i) 3 pc1) (hw : Cond.constantLong own i v ∈ GW) (kk : VJ K k n h pc1 lv (.long v :: st)) : VJ K k n h pc lv (st) := by
  obtain ⟨p, l, e, R, s, m, args, below, meth, c, Q, nL, g, A⟩ := K
  obtain ⟨hx, hb, hml, hown, hts, hE, hA, hlk, rfl, rfl, rfl, rfl⟩ := X
  obtain ⟨hd, rfl⟩ := hd
  exact fun H locs ls h1 h2 h3 h4 => lv_ldc2 hx hb hown (hts _ hw) hd (kk H locs ls h1 h2 h3 h4)
theorem v_iload_n (X : Cx K l0 g0 cc own nL0 rm) {j : Fin 4} {x : Int32} (hd : DD cc pc (.iload_n j) 1 pc1) (q : Nat) (hq : lv[q]? = some ((j : Nat), .int x)) (kk : VJ K k n h pc1 lv (.int x :: st)) : VJ K k n h pc lv (st) := by
  obtain ⟨p, l, e, R, s, m, args, below, meth, c, Q, nL, g, A⟩ := K
  obtain ⟨hx, hb, hml, hown, hts, hE, hA, hlk, rfl, rfl, rfl, rfl⟩ := X
  obtain ⟨hd, rfl⟩ := hd
  exact fun H locs ls h1 h2 h3 h4 => lv_iload_n hx hb hd rfl (lv_at h4 q hq) (kk H locs ls h1 h2 h3 h4)
theorem v_iload (X : Cx K l0 g0 cc own nL0 rm) {j : Nat} {x : Int32} (hd : DD cc pc (.iload j) 2 pc1) (q : Nat) (hq : lv[q]? = some (j, .int x)) (kk : VJ K k n h pc1 lv (.int x :: st)) : VJ K k n h pc lv (st) := by
  obtain ⟨p, l, e, R, s, m, args, below, meth, c, Q, nL, g, A⟩ := K
  obtain ⟨hx, hb, hml, hown, hts, hE, hA, hlk, rfl, rfl, rfl, rfl⟩ := X
  obtain ⟨hd, rfl⟩ := hd
  exact fun H locs ls h1 h2 h3 h4 => lv_iload hx hb hd (lv_at h4 q hq) (kk H locs ls h1 h2 h3 h4)
theorem v_lload_n (X : Cx K l0 g0 cc own nL0 rm) {j : Fin 4} {x : Int64} (hd : DD cc pc (.lload_n j) 1 pc1) (q : Nat) (hq : lv[q]? = some ((j : Nat), .long x)) (kk : VJ K k n h pc1 lv (.long x :: st)) : VJ K k n h pc lv (st) := by
  obtain ⟨p, l, e, R, s, m, args, below, meth, c, Q, nL, g, A⟩ := K
  obtain ⟨hx, hb, hml, hown, hts, hE, hA, hlk, rfl, rfl, rfl, rfl⟩ := X
  obtain ⟨hd, rfl⟩ := hd
  exact fun H locs ls h1 h2 h3 h4 => lv_lload_n hx hb hd rfl (lv_at h4 q hq) (kk H locs ls h1 h2 h3 h4)
theorem v_lload (X : Cx K l0 g0 cc own nL0 rm) {j : Nat} {x : Int64} (hd : DD cc pc (.lload j) 2 pc1) (q : Nat) (hq : lv[q]? = some (j, .long x)) (kk : VJ K k n h pc1 lv (.long x :: st)) : VJ K k n h pc lv (st) := by
  obtain ⟨p, l, e, R, s, m, args, below, meth, c, Q, nL, g, A⟩ := K
  obtain ⟨hx, hb, hml, hown, hts, hE, hA, hlk, rfl, rfl, rfl, rfl⟩ := X
  obtain ⟨hd, rfl⟩ := hd
  exact fun H locs ls h1 h2 h3 h4 => lv_lload hx hb hd (lv_at h4 q hq) (kk H locs ls h1 h2 h3 h4)
theorem v_aload_n (X : Cx K l0 g0 cc own nL0 rm) {j : Fin 4} {x : Nat} (hd : DD cc pc (.aload_n j) 1 pc1) (q : Nat) (hq : lv[q]? = some ((j : Nat), .ref x)) (kk : VJ K k n h pc1 lv (.ref x :: st)) : VJ K k n h pc lv (st) := by
  obtain ⟨p, l, e, R, s, m, args, below, meth, c, Q, nL, g, A⟩ := K
  obtain ⟨hx, hb, hml, hown, hts, hE, hA, hlk, rfl, rfl, rfl, rfl⟩ := X
  obtain ⟨hd, rfl⟩ := hd
  exact fun H locs ls h1 h2 h3 h4 => lv_aload_n hx hb hd rfl (lv_at h4 q hq) (kk H locs ls h1 h2 h3 h4)
theorem v_aload (X : Cx K l0 g0 cc own nL0 rm) {j : Nat} {x : Nat} (hd : DD cc pc (.aload j) 2 pc1) (q : Nat) (hq : lv[q]? = some (j, .ref x)) (kk : VJ K k n h pc1 lv (.ref x :: st)) : VJ K k n h pc lv (st) := by
  obtain ⟨p, l, e, R, s, m, args, below, meth, c, Q, nL, g, A⟩ := K
  obtain ⟨hx, hb, hml, hown, hts, hE, hA, hlk, rfl, rfl, rfl, rfl⟩ := X
  obtain ⟨hd, rfl⟩ := hd
  exact fun H locs ls h1 h2 h3 h4 => lv_aload hx hb hd (lv_at h4 q hq) (kk H locs ls h1 h2 h3 h4)
theorem v_aload_nN (X : Cx K l0 g0 cc own nL0 rm) {j : Fin 4} (hd : DD cc pc (.aload_n j) 1 pc1) (q : Nat) (hq : lv[q]? = some ((j : Nat), .null)) (kk : VJ K k n h pc1 lv (.null :: st)) : VJ K k n h pc lv (st) := by
  obtain ⟨p, l, e, R, s, m, args, below, meth, c, Q, nL, g, A⟩ := K
  obtain ⟨hx, hb, hml, hown, hts, hE, hA, hlk, rfl, rfl, rfl, rfl⟩ := X
  obtain ⟨hd, rfl⟩ := hd
  exact fun H locs ls h1 h2 h3 h4 => lv_aload_nN hx hb hd rfl (lv_at h4 q hq) (kk H locs ls h1 h2 h3 h4)
theorem v_aloadN (X : Cx K l0 g0 cc own nL0 rm) {j : Nat} (hd : DD cc pc (.aload j) 2 pc1) (q : Nat) (hq : lv[q]? = some (j, .null)) (kk : VJ K k n h pc1 lv (.null :: st)) : VJ K k n h pc lv (st) := by
  obtain ⟨p, l, e, R, s, m, args, below, meth, c, Q, nL, g, A⟩ := K
  obtain ⟨hx, hb, hml, hown, hts, hE, hA, hlk, rfl, rfl, rfl, rfl⟩ := X
  obtain ⟨hd, rfl⟩ := hd
  exact fun H locs ls h1 h2 h3 h4 => lv_aloadN hx hb hd (lv_at h4 q hq) (kk H locs ls h1 h2 h3 h4)
theorem v_istore_n (X : Cx K l0 g0 cc own nL0 rm) {j : Fin 4} {x : Int32} {lv1 : List (Nat × Value)} (hd : DD cc pc (.istore_n j) 1 pc1) (hn : (j : Nat) < nL0) (hl : ((j : Nat), Value.int x) :: lv.filter (fun q => !(q.1 == (j : Nat)) && !(q.1 + 1 == (j : Nat) && q.2.category == 2)) = lv1) (kk : VJ K k n h pc1 lv1 st) : VJ K k n h pc lv (.int x :: st) := by
  obtain ⟨p, l, e, R, s, m, args, below, meth, c, Q, nL, g, A⟩ := K
  obtain ⟨hx, hb, hml, hown, hts, hE, hA, hlk, rfl, rfl, rfl, rfl⟩ := X
  obtain ⟨hd, rfl⟩ := hd
  exact fun H locs ls h1 h2 h3 h4 => lv_istore_n hx hb hd rfl h4 hn hl (fun ls' h4' => kk H locs ls' h1 h2 h3 h4')
theorem v_istore (X : Cx K l0 g0 cc own nL0 rm) {j : Nat} {x : Int32} {lv1 : List (Nat × Value)} (hd : DD cc pc (.istore j) 2 pc1) (hn : j < nL0) (hl : (j, Value.int x) :: lv.filter (fun q => !(q.1 == j) && !(q.1 + 1 == j && q.2.category == 2)) = lv1) (kk : VJ K k n h pc1 lv1 st) : VJ K k n h pc lv (.int x :: st) := by
  obtain ⟨p, l, e, R, s, m, args, below, meth, c, Q, nL, g, A⟩ := K
  obtain ⟨hx, hb, hml, hown, hts, hE, hA, hlk, rfl, rfl, rfl, rfl⟩ := X
  obtain ⟨hd, rfl⟩ := hd
  exact fun H locs ls h1 h2 h3 h4 => lv_istore hx hb hd h4 hn hl (fun ls' h4' => kk H locs ls' h1 h2 h3 h4')
theorem v_astore_n (X : Cx K l0 g0 cc own nL0 rm) {j : Fin 4} {x : Nat} {lv1 : List (Nat × Value)} (hd : DD cc pc (.astore_n j) 1 pc1) (hn : (j : Nat) < nL0) (hl : ((j : Nat), Value.ref x) :: lv.filter (fun q => !(q.1 == (j : Nat)) && !(q.1 + 1 == (j : Nat) && q.2.category == 2)) = lv1) (kk : VJ K k n h pc1 lv1 st) : VJ K k n h pc lv (.ref x :: st) := by
  obtain ⟨p, l, e, R, s, m, args, below, meth, c, Q, nL, g, A⟩ := K
  obtain ⟨hx, hb, hml, hown, hts, hE, hA, hlk, rfl, rfl, rfl, rfl⟩ := X
  obtain ⟨hd, rfl⟩ := hd
  exact fun H locs ls h1 h2 h3 h4 => lv_astore_n hx hb hd rfl h4 hn hl (fun ls' h4' => kk H locs ls' h1 h2 h3 h4')
theorem v_astore (X : Cx K l0 g0 cc own nL0 rm) {j : Nat} {x : Nat} {lv1 : List (Nat × Value)} (hd : DD cc pc (.astore j) 2 pc1) (hn : j < nL0) (hl : (j, Value.ref x) :: lv.filter (fun q => !(q.1 == j) && !(q.1 + 1 == j && q.2.category == 2)) = lv1) (kk : VJ K k n h pc1 lv1 st) : VJ K k n h pc lv (.ref x :: st) := by
  obtain ⟨p, l, e, R, s, m, args, below, meth, c, Q, nL, g, A⟩ := K
  obtain ⟨hx, hb, hml, hown, hts, hE, hA, hlk, rfl, rfl, rfl, rfl⟩ := X
  obtain ⟨hd, rfl⟩ := hd
  exact fun H locs ls h1 h2 h3 h4 => lv_astore hx hb hd h4 hn hl (fun ls' h4' => kk H locs ls' h1 h2 h3 h4')
theorem v_lstore_n (X : Cx K l0 g0 cc own nL0 rm) {j : Fin 4} {x : Int64} {lv1 : List (Nat × Value)} (hd : DD cc pc (.lstore_n j) 1 pc1) (hn : (j : Nat) + 1 < nL0) (hl : ((j : Nat), Value.long x) :: lv.filter (fun q => !(q.1 == (j : Nat)) && (!(q.1 == (j : Nat) + 1) && !(q.1 + 1 == (j : Nat) && q.2.category == 2))) = lv1) (kk : VJ K k n h pc1 lv1 st) : VJ K k n h pc lv (.long x :: st) := by
  obtain ⟨p, l, e, R, s, m, args, below, meth, c, Q, nL, g, A⟩ := K
  obtain ⟨hx, hb, hml, hown, hts, hE, hA, hlk, rfl, rfl, rfl, rfl⟩ := X
  obtain ⟨hd, rfl⟩ := hd
  exact fun H locs ls h1 h2 h3 h4 => lv_lstore_n hx hb hd rfl h4 hn hl (fun ls' h4' => kk H locs ls' h1 h2 h3 h4')
theorem v_lstore (X : Cx K l0 g0 cc own nL0 rm) {j : Nat} {x : Int64} {lv1 : List (Nat × Value)} (hd : DD cc pc (.lstore j) 2 pc1) (hn : j + 1 < nL0) (hl : (j, Value.long x) :: lv.filter (fun q => !(q.1 == j) && (!(q.1 == j + 1) && !(q.1 + 1 == j && q.2.category == 2))) = lv1) (kk : VJ K k n h pc1 lv1 st) : VJ K k n h pc lv (.long x :: st) := by
  obtain ⟨p, l, e, R, s, m, args, below, meth, c, Q, nL, g, A⟩ := K
  obtain ⟨hx, hb, hml, hown, hts, hE, hA, hlk, rfl, rfl, rfl, rfl⟩ := X
  obtain ⟨hd, rfl⟩ := hd
  exact fun H locs ls h1 h2 h3 h4 => lv_lstore hx hb hd h4 hn hl (fun ls' h4' => kk H locs ls' h1 h2 h3 h4')
theorem v_astore_nN (X : Cx K l0 g0 cc own nL0 rm) {j : Fin 4} {lv1 : List (Nat × Value)} (hd : DD cc pc (.astore_n j) 1 pc1) (hn : (j : Nat) < nL0) (hl : ((j : Nat), Value.null) :: lv.filter (fun q => !(q.1 == (j : Nat)) && !(q.1 + 1 == (j : Nat) && q.2.category == 2)) = lv1) (kk : VJ K k n h pc1 lv1 st) : VJ K k n h pc lv (.null :: st) := by
  obtain ⟨p, l, e, R, s, m, args, below, meth, c, Q, nL, g, A⟩ := K
  obtain ⟨hx, hb, hml, hown, hts, hE, hA, hlk, rfl, rfl, rfl, rfl⟩ := X
  obtain ⟨hd, rfl⟩ := hd
  exact fun H locs ls h1 h2 h3 h4 => lv_astore_nN hx hb hd rfl h4 hn hl (fun ls' h4' => kk H locs ls' h1 h2 h3 h4')
theorem v_astoreN (X : Cx K l0 g0 cc own nL0 rm) {j : Nat} {lv1 : List (Nat × Value)} (hd : DD cc pc (.astore j) 2 pc1) (hn : j < nL0) (hl : (j, Value.null) :: lv.filter (fun q => !(q.1 == j) && !(q.1 + 1 == j && q.2.category == 2)) = lv1) (kk : VJ K k n h pc1 lv1 st) : VJ K k n h pc lv (.null :: st) := by
  obtain ⟨p, l, e, R, s, m, args, below, meth, c, Q, nL, g, A⟩ := K
  obtain ⟨hx, hb, hml, hown, hts, hE, hA, hlk, rfl, rfl, rfl, rfl⟩ := X
  obtain ⟨hd, rfl⟩ := hd
  exact fun H locs ls h1 h2 h3 h4 => lv_astoreN hx hb hd h4 hn hl (fun ls' h4' => kk H locs ls' h1 h2 h3 h4')
theorem v_iinc (X : Cx K l0 g0 cc own nL0 rm) {j : Nat} {i : Int} {x v : Int32} {lv1 : List (Nat × Value)} (hd : DD cc pc (.iinc j i) 3 pc1) (q : Nat) (hq : lv[q]? = some (j, .int x)) (hv : x + Int32.ofInt i = v) (hn : j < nL0) (hl : (j, Value.int v) :: lv.filter (fun q => !(q.1 == j) && !(q.1 + 1 == j && q.2.category == 2)) = lv1) (kk : VJ K k n h pc1 lv1 st) : VJ K k n h pc lv st := by
  obtain ⟨p, l, e, R, s, m, args, below, meth, c, Q, nL, g, A⟩ := K
  obtain ⟨hx, hb, hml, hown, hts, hE, hA, hlk, rfl, rfl, rfl, rfl⟩ := X
  obtain ⟨hd, rfl⟩ := hd
  exact fun H locs ls h1 h2 h3 h4 => lv_iinc hx hb hd h4 (k := q) hq hv hn hl (fun ls' h4' => kk H locs ls' h1 h2 h3 h4')
theorem v_iadd (X : Cx K l0 g0 cc own nL0 rm) {x y : Int32} (hd : DD cc pc (.iadd) 1 pc1) (kk : VJ K k n h pc1 lv (.int (x + y) :: st)) : VJ K k n h pc lv (.int y :: .int x :: st) := by
  obtain ⟨p, l, e, R, s, m, args, below, meth, c, Q, nL, g, A⟩ := K
  obtain ⟨hx, hb, hml, hown, hts, hE, hA, hlk, rfl, rfl, rfl, rfl⟩ := X
  obtain ⟨hd, rfl⟩ := hd
  exact fun H locs ls h1 h2 h3 h4 => lv_iadd hx hb hd (kk H locs ls h1 h2 h3 h4)
theorem v_isub (X : Cx K l0 g0 cc own nL0 rm) {x y : Int32} (hd : DD cc pc (.isub) 1 pc1) (kk : VJ K k n h pc1 lv (.int (x - y) :: st)) : VJ K k n h pc lv (.int y :: .int x :: st) := by
  obtain ⟨p, l, e, R, s, m, args, below, meth, c, Q, nL, g, A⟩ := K
  obtain ⟨hx, hb, hml, hown, hts, hE, hA, hlk, rfl, rfl, rfl, rfl⟩ := X
  obtain ⟨hd, rfl⟩ := hd
  exact fun H locs ls h1 h2 h3 h4 => lv_isub hx hb hd (kk H locs ls h1 h2 h3 h4)
theorem v_imul (X : Cx K l0 g0 cc own nL0 rm) {x y : Int32} (hd : DD cc pc (.imul) 1 pc1) (kk : VJ K k n h pc1 lv (.int (x * y) :: st)) : VJ K k n h pc lv (.int y :: .int x :: st) := by
  obtain ⟨p, l, e, R, s, m, args, below, meth, c, Q, nL, g, A⟩ := K
  obtain ⟨hx, hb, hml, hown, hts, hE, hA, hlk, rfl, rfl, rfl, rfl⟩ := X
  obtain ⟨hd, rfl⟩ := hd
  exact fun H locs ls h1 h2 h3 h4 => lv_imul hx hb hd (kk H locs ls h1 h2 h3 h4)
theorem v_iand (X : Cx K l0 g0 cc own nL0 rm) {x y : Int32} (hd : DD cc pc (.iand) 1 pc1) (kk : VJ K k n h pc1 lv (.int (x &&& y) :: st)) : VJ K k n h pc lv (.int y :: .int x :: st) := by
  obtain ⟨p, l, e, R, s, m, args, below, meth, c, Q, nL, g, A⟩ := K
  obtain ⟨hx, hb, hml, hown, hts, hE, hA, hlk, rfl, rfl, rfl, rfl⟩ := X
  obtain ⟨hd, rfl⟩ := hd
  exact fun H locs ls h1 h2 h3 h4 => lv_iand hx hb hd (kk H locs ls h1 h2 h3 h4)
theorem v_ior (X : Cx K l0 g0 cc own nL0 rm) {x y : Int32} (hd : DD cc pc (.ior) 1 pc1) (kk : VJ K k n h pc1 lv (.int (x ||| y) :: st)) : VJ K k n h pc lv (.int y :: .int x :: st) := by
  obtain ⟨p, l, e, R, s, m, args, below, meth, c, Q, nL, g, A⟩ := K
  obtain ⟨hx, hb, hml, hown, hts, hE, hA, hlk, rfl, rfl, rfl, rfl⟩ := X
  obtain ⟨hd, rfl⟩ := hd
  exact fun H locs ls h1 h2 h3 h4 => lv_ior hx hb hd (kk H locs ls h1 h2 h3 h4)
theorem v_ixor (X : Cx K l0 g0 cc own nL0 rm) {x y : Int32} (hd : DD cc pc (.ixor) 1 pc1) (kk : VJ K k n h pc1 lv (.int (x ^^^ y) :: st)) : VJ K k n h pc lv (.int y :: .int x :: st) := by
  obtain ⟨p, l, e, R, s, m, args, below, meth, c, Q, nL, g, A⟩ := K
  obtain ⟨hx, hb, hml, hown, hts, hE, hA, hlk, rfl, rfl, rfl, rfl⟩ := X
  obtain ⟨hd, rfl⟩ := hd
  exact fun H locs ls h1 h2 h3 h4 => lv_ixor hx hb hd (kk H locs ls h1 h2 h3 h4)
theorem v_ladd (X : Cx K l0 g0 cc own nL0 rm) {x y : Int64} (hd : DD cc pc (.ladd) 1 pc1) (kk : VJ K k n h pc1 lv (.long (x + y) :: st)) : VJ K k n h pc lv (.long y :: .long x :: st) := by
  obtain ⟨p, l, e, R, s, m, args, below, meth, c, Q, nL, g, A⟩ := K
  obtain ⟨hx, hb, hml, hown, hts, hE, hA, hlk, rfl, rfl, rfl, rfl⟩ := X
  obtain ⟨hd, rfl⟩ := hd
  exact fun H locs ls h1 h2 h3 h4 => lv_ladd hx hb hd (kk H locs ls h1 h2 h3 h4)
theorem v_lsub (X : Cx K l0 g0 cc own nL0 rm) {x y : Int64} (hd : DD cc pc (.lsub) 1 pc1) (kk : VJ K k n h pc1 lv (.long (x - y) :: st)) : VJ K k n h pc lv (.long y :: .long x :: st) := by
  obtain ⟨p, l, e, R, s, m, args, below, meth, c, Q, nL, g, A⟩ := K
  obtain ⟨hx, hb, hml, hown, hts, hE, hA, hlk, rfl, rfl, rfl, rfl⟩ := X
  obtain ⟨hd, rfl⟩ := hd
  exact fun H locs ls h1 h2 h3 h4 => lv_lsub hx hb hd (kk H locs ls h1 h2 h3 h4)
theorem v_lmul (X : Cx K l0 g0 cc own nL0 rm) {x y : Int64} (hd : DD cc pc (.lmul) 1 pc1) (kk : VJ K k n h pc1 lv (.long (x * y) :: st)) : VJ K k n h pc lv (.long y :: .long x :: st) := by
  obtain ⟨p, l, e, R, s, m, args, below, meth, c, Q, nL, g, A⟩ := K
  obtain ⟨hx, hb, hml, hown, hts, hE, hA, hlk, rfl, rfl, rfl, rfl⟩ := X
  obtain ⟨hd, rfl⟩ := hd
  exact fun H locs ls h1 h2 h3 h4 => lv_lmul hx hb hd (kk H locs ls h1 h2 h3 h4)
theorem v_land (X : Cx K l0 g0 cc own nL0 rm) {x y : Int64} (hd : DD cc pc (.land) 1 pc1) (kk : VJ K k n h pc1 lv (.long (x &&& y) :: st)) : VJ K k n h pc lv (.long y :: .long x :: st) := by
  obtain ⟨p, l, e, R, s, m, args, below, meth, c, Q, nL, g, A⟩ := K
  obtain ⟨hx, hb, hml, hown, hts, hE, hA, hlk, rfl, rfl, rfl, rfl⟩ := X
  obtain ⟨hd, rfl⟩ := hd
  exact fun H locs ls h1 h2 h3 h4 => lv_land hx hb hd (kk H locs ls h1 h2 h3 h4)
theorem v_lor (X : Cx K l0 g0 cc own nL0 rm) {x y : Int64} (hd : DD cc pc (.lor) 1 pc1) (kk : VJ K k n h pc1 lv (.long (x ||| y) :: st)) : VJ K k n h pc lv (.long y :: .long x :: st) := by
  obtain ⟨p, l, e, R, s, m, args, below, meth, c, Q, nL, g, A⟩ := K
  obtain ⟨hx, hb, hml, hown, hts, hE, hA, hlk, rfl, rfl, rfl, rfl⟩ := X
  obtain ⟨hd, rfl⟩ := hd
  exact fun H locs ls h1 h2 h3 h4 => lv_lor hx hb hd (kk H locs ls h1 h2 h3 h4)
theorem v_lxor (X : Cx K l0 g0 cc own nL0 rm) {x y : Int64} (hd : DD cc pc (.lxor) 1 pc1) (kk : VJ K k n h pc1 lv (.long (x ^^^ y) :: st)) : VJ K k n h pc lv (.long y :: .long x :: st) := by
  obtain ⟨p, l, e, R, s, m, args, below, meth, c, Q, nL, g, A⟩ := K
  obtain ⟨hx, hb, hml, hown, hts, hE, hA, hlk, rfl, rfl, rfl, rfl⟩ := X
  obtain ⟨hd, rfl⟩ := hd
  exact fun H locs ls h1 h2 h3 h4 => lv_lxor hx hb hd (kk H locs ls h1 h2 h3 h4)
theorem v_idiv (X : Cx K l0 g0 cc own nL0 rm) {x y : Int32} (hd : DD cc pc (.idiv) 1 pc1) (hne : ¬ y = 0) (kk : VJ K k n h pc1 lv (.int (x / y) :: st)) : VJ K k n h pc lv (.int y :: .int x :: st) := by
  obtain ⟨p, l, e, R, s, m, args, below, meth, c, Q, nL, g, A⟩ := K
  obtain ⟨hx, hb, hml, hown, hts, hE, hA, hlk, rfl, rfl, rfl, rfl⟩ := X
  obtain ⟨hd, rfl⟩ := hd
  exact fun H locs ls h1 h2 h3 h4 => lv_idiv hx hb hd hne (kk H locs ls h1 h2 h3 h4)
theorem v_irem (X : Cx K l0 g0 cc own nL0 rm) {x y : Int32} (hd : DD cc pc (.irem) 1 pc1) (hne : ¬ y = 0) (kk : VJ K k n h pc1 lv (.int (x - x / y * y) :: st)) : VJ K k n h pc lv (.int y :: .int x :: st) := by
  obtain ⟨p, l, e, R, s, m, args, below, meth, c, Q, nL, g, A⟩ := K
  obtain ⟨hx, hb, hml, hown, hts, hE, hA, hlk, rfl, rfl, rfl, rfl⟩ := X
  obtain ⟨hd, rfl⟩ := hd
  exact fun H locs ls h1 h2 h3 h4 => lv_irem hx hb hd hne (kk H locs ls h1 h2 h3 h4)
theorem v_ineg (X : Cx K l0 g0 cc own nL0 rm) {x : Int32} (hd : DD cc pc (.ineg) 1 pc1) (kk : VJ K k n h pc1 lv (.int (-x) :: st)) : VJ K k n h pc lv (.int x :: st) := by
  obtain ⟨p, l, e, R, s, m, args, below, meth, c, Q, nL, g, A⟩ := K
  obtain ⟨hx, hb, hml, hown, hts, hE, hA, hlk, rfl, rfl, rfl, rfl⟩ := X
  obtain ⟨hd, rfl⟩ := hd
  exact fun H locs ls h1 h2 h3 h4 => lv_ineg hx hb hd (kk H locs ls h1 h2 h3 h4)
theorem v_ishl (X : Cx K l0 g0 cc own nL0 rm) {x y : Int32} (hd : DD cc pc (.ishl) 1 pc1) (kk : VJ K k n h pc1 lv (.int (x <<< (y &&& 31)) :: st)) : VJ K k n h pc lv (.int y :: .int x :: st) := by
  obtain ⟨p, l, e, R, s, m, args, below, meth, c, Q, nL, g, A⟩ := K
  obtain ⟨hx, hb, hml, hown, hts, hE, hA, hlk, rfl, rfl, rfl, rfl⟩ := X
  obtain ⟨hd, rfl⟩ := hd
  exact fun H locs ls h1 h2 h3 h4 => lv_ishl hx hb hd (kk H locs ls h1 h2 h3 h4)
theorem v_ishr (X : Cx K l0 g0 cc own nL0 rm) {x y : Int32} (hd : DD cc pc (.ishr) 1 pc1) (kk : VJ K k n h pc1 lv (.int (x >>> (y &&& 31)) :: st)) : VJ K k n h pc lv (.int y :: .int x :: st) := by
  obtain ⟨p, l, e, R, s, m, args, below, meth, c, Q, nL, g, A⟩ := K
  obtain ⟨hx, hb, hml, hown, hts, hE, hA, hlk, rfl, rfl, rfl, rfl⟩ := X
  obtain ⟨hd, rfl⟩ := hd
  exact fun H locs ls h1 h2 h3 h4 => lv_ishr hx hb hd (kk H locs ls h1 h2 h3 h4)
theorem v_iushr (X : Cx K l0 g0 cc own nL0 rm) {x y : Int32} (hd : DD cc pc (.iushr) 1 pc1) (kk : VJ K k n h pc1 lv (.int ((x.toUInt32 >>> (y.toUInt32 &&& Int32.toUInt32 31)).toInt32) :: st)) : VJ K k n h pc lv (.int y :: .int x :: st) := by
  obtain ⟨p, l, e, R, s, m, args, below, meth, c, Q, nL, g, A⟩ := K
  obtain ⟨hx, hb, hml, hown, hts, hE, hA, hlk, rfl, rfl, rfl, rfl⟩ := X
  obtain ⟨hd, rfl⟩ := hd
  exact fun H locs ls h1 h2 h3 h4 => lv_iushr hx hb hd rfl (kk H locs ls h1 h2 h3 h4)
theorem v_lshl (X : Cx K l0 g0 cc own nL0 rm) {x : Int64} {y : Int32} (hd : DD cc pc (.lshl) 1 pc1) (kk : VJ K k n h pc1 lv (.long (x <<< (y.toInt64 &&& 63)) :: st)) : VJ K k n h pc lv (.int y :: .long x :: st) := by
  obtain ⟨p, l, e, R, s, m, args, below, meth, c, Q, nL, g, A⟩ := K
  obtain ⟨hx, hb, hml, hown, hts, hE, hA, hlk, rfl, rfl, rfl, rfl⟩ := X
  obtain ⟨hd, rfl⟩ := hd
  exact fun H locs ls h1 h2 h3 h4 => lv_lshl hx hb hd rfl (kk H locs ls h1 h2 h3 h4)
theorem v_i2l (X : Cx K l0 g0 cc own nL0 rm) {x : Int32} (hd : DD cc pc (.i2l) 1 pc1) (kk : VJ K k n h pc1 lv (.long x.toInt64 :: st)) : VJ K k n h pc lv (.int x :: st) := by
  obtain ⟨p, l, e, R, s, m, args, below, meth, c, Q, nL, g, A⟩ := K
  obtain ⟨hx, hb, hml, hown, hts, hE, hA, hlk, rfl, rfl, rfl, rfl⟩ := X
  obtain ⟨hd, rfl⟩ := hd
  exact fun H locs ls h1 h2 h3 h4 => lv_i2l hx hb hd rfl (kk H locs ls h1 h2 h3 h4)
theorem v_l2i (X : Cx K l0 g0 cc own nL0 rm) {x : Int64} (hd : DD cc pc (.l2i) 1 pc1) (kk : VJ K k n h pc1 lv (.int x.toInt32 :: st)) : VJ K k n h pc lv (.long x :: st) := by
  obtain ⟨p, l, e, R, s, m, args, below, meth, c, Q, nL, g, A⟩ := K
  obtain ⟨hx, hb, hml, hown, hts, hE, hA, hlk, rfl, rfl, rfl, rfl⟩ := X
  obtain ⟨hd, rfl⟩ := hd
  exact fun H locs ls h1 h2 h3 h4 => lv_l2i hx hb hd rfl (kk H locs ls h1 h2 h3 h4)
theorem v_i2b (X : Cx K l0 g0 cc own nL0 rm) {x : Int32} (hd : DD cc pc (.i2b) 1 pc1) (kk : VJ K k n h pc1 lv (.int x.toInt8.toInt32 :: st)) : VJ K k n h pc lv (.int x :: st) := by
  obtain ⟨p, l, e, R, s, m, args, below, meth, c, Q, nL, g, A⟩ := K
  obtain ⟨hx, hb, hml, hown, hts, hE, hA, hlk, rfl, rfl, rfl, rfl⟩ := X
  obtain ⟨hd, rfl⟩ := hd
  exact fun H locs ls h1 h2 h3 h4 => lv_i2b hx hb hd rfl (kk H locs ls h1 h2 h3 h4)
theorem v_i2s (X : Cx K l0 g0 cc own nL0 rm) {x : Int32} (hd : DD cc pc (.i2s) 1 pc1) (kk : VJ K k n h pc1 lv (.int x.toInt16.toInt32 :: st)) : VJ K k n h pc lv (.int x :: st) := by
  obtain ⟨p, l, e, R, s, m, args, below, meth, c, Q, nL, g, A⟩ := K
  obtain ⟨hx, hb, hml, hown, hts, hE, hA, hlk, rfl, rfl, rfl, rfl⟩ := X
  obtain ⟨hd, rfl⟩ := hd
  exact fun H locs ls h1 h2 h3 h4 => lv_i2s hx hb hd rfl (kk H locs ls h1 h2 h3 h4)
theorem v_i2c (X : Cx K l0 g0 cc own nL0 rm) {x : Int32} (hd : DD cc pc (.i2c) 1 pc1) (kk : VJ K k n h pc1 lv (.int ((x.toUInt32 % 65536).toInt32) :: st)) : VJ K k n h pc lv (.int x :: st) := by
  obtain ⟨p, l, e, R, s, m, args, below, meth, c, Q, nL, g, A⟩ := K
  obtain ⟨hx, hb, hml, hown, hts, hE, hA, hlk, rfl, rfl, rfl, rfl⟩ := X
  obtain ⟨hd, rfl⟩ := hd
  exact fun H locs ls h1 h2 h3 h4 => lv_i2c hx hb hd rfl (kk H locs ls h1 h2 h3 h4)
theorem v_lcmp (X : Cx K l0 g0 cc own nL0 rm) {x y : Int64} (hd : DD cc pc (.lcmp) 1 pc1) (kk : VJ K k n h pc1 lv (.int (lg_cmp x y) :: st)) : VJ K k n h pc lv (.long y :: .long x :: st) := by
  obtain ⟨p, l, e, R, s, m, args, below, meth, c, Q, nL, g, A⟩ := K
  obtain ⟨hx, hb, hml, hown, hts, hE, hA, hlk, rfl, rfl, rfl, rfl⟩ := X
  obtain ⟨hd, rfl⟩ := hd
  exact fun H locs ls h1 h2 h3 h4 => W.lcmp hx hb hd (kk H locs ls h1 h2 h3 h4)
theorem v_dup (X : Cx K l0 g0 cc own nL0 rm) {va : Value} (hd : DD cc pc (.dup) 1 pc1) (hva : va.category = 1) (kk : VJ K k n h pc1 lv (va :: va :: st)) : VJ K k n h pc lv (va :: st) := by
  obtain ⟨p, l, e, R, s, m, args, below, meth, c, Q, nL, g, A⟩ := K
  obtain ⟨hx, hb, hml, hown, hts, hE, hA, hlk, rfl, rfl, rfl, rfl⟩ := X
  obtain ⟨hd, rfl⟩ := hd
  exact fun H locs ls h1 h2 h3 h4 => lv_dup hx hb hd hva (kk H locs ls h1 h2 h3 h4)
theorem v_pop (X : Cx K l0 g0 cc own nL0 rm) {va : Value} (hd : DD cc pc (.pop) 1 pc1) (hva : va.category = 1) (kk : VJ K k n h pc1 lv (st)) : VJ K k n h pc lv (va :: st) := by
  obtain ⟨p, l, e, R, s, m, args, below, meth, c, Q, nL, g, A⟩ := K
  obtain ⟨hx, hb, hml, hown, hts, hE, hA, hlk, rfl, rfl, rfl, rfl⟩ := X
  obtain ⟨hd, rfl⟩ := hd
  exact fun H locs ls h1 h2 h3 h4 => lv_pop hx hb hd hva (kk H locs ls h1 h2 h3 h4)
theorem v_dup2 (X : Cx K l0 g0 cc own nL0 rm) {va vb : Value} (hd : DD cc pc (.dup2) 1 pc1) (hva : va.category = 1) (hvb : vb.category = 1) (kk : VJ K k n h pc1 lv (va :: vb :: va :: vb :: st)) : VJ K k n h pc lv (va :: vb :: st) := by
  obtain ⟨p, l, e, R, s, m, args, below, meth, c, Q, nL, g, A⟩ := K
  obtain ⟨hx, hb, hml, hown, hts, hE, hA, hlk, rfl, rfl, rfl, rfl⟩ := X
  obtain ⟨hd, rfl⟩ := hd
  exact fun H locs ls h1 h2 h3 h4 => lv_dup2_11 hx hb hd hva hvb (kk H locs ls h1 h2 h3 h4)
theorem v_if_eq (X : Cx K l0 g0 cc own nL0 rm) {x : Int32} {off : Int} {tgt : Nat} (hd : DD cc pc (.ifCond .eq off) 3 pc1) (ht : (pc : Int) + off = (tgt : Int)) (kt : x = 0 → VJ K k n h tgt lv st) (kf : ¬ x = 0 → VJ K k n h pc1 lv st) : VJ K k n h pc lv (.int x :: st) := by
  obtain ⟨p, l, e, R, s, m, args, below, meth, c, Q, nL, g, A⟩ := K
  obtain ⟨hx, hb, hml, hown, hts, hE, hA, hlk, rfl, rfl, rfl, rfl⟩ := X
  obtain ⟨hd, rfl⟩ := hd
  exact fun H locs ls h1 h2 h3 h4 => lv_if_eq hx hb hd ht (fun q => kt q H locs ls h1 h2 h3 h4) (fun q => kf q H locs ls h1 h2 h3 h4)
theorem v_icmp_eq (X : Cx K l0 g0 cc own nL0 rm) {x y : Int32} {off : Int} {tgt : Nat} (hd : DD cc pc (.if_icmp .eq off) 3 pc1) (ht : (pc : Int) + off = (tgt : Int)) (kt : x = y → VJ K k n h tgt lv st) (kf : ¬ x = y → VJ K k n h pc1 lv st) : VJ K k n h pc lv (.int y :: .int x :: st) := by
  obtain ⟨p, l, e, R, s, m, args, below, meth, c, Q, nL, g, A⟩ := K
  obtain ⟨hx, hb, hml, hown, hts, hE, hA, hlk, rfl, rfl, rfl, rfl⟩ := X
  obtain ⟨hd, rfl⟩ := hd
  exact fun H locs ls h1 h2 h3 h4 => lv_icmp_eq hx hb hd ht (fun q => kt q H locs ls h1 h2 h3 h4) (fun q => kf q H locs ls h1 h2 h3 h4)
theorem v_if_ne (X : Cx K l0 g0 cc own nL0 rm) {x : Int32} {off : Int} {tgt : Nat} (hd : DD cc pc (.ifCond .ne off) 3 pc1) (ht : (pc : Int) + off = (tgt : Int)) (kt : ¬ x = 0 → VJ K k n h tgt lv st) (kf : x = 0 → VJ K k n h pc1 lv st) : VJ K k n h pc lv (.int x :: st) := by
  obtain ⟨p, l, e, R, s, m, args, below, meth, c, Q, nL, g, A⟩ := K
  obtain ⟨hx, hb, hml, hown, hts, hE, hA, hlk, rfl, rfl, rfl, rfl⟩ := X
  obtain ⟨hd, rfl⟩ := hd
  exact fun H locs ls h1 h2 h3 h4 => lv_if_ne hx hb hd ht (fun q => kt q H locs ls h1 h2 h3 h4) (fun q => kf q H locs ls h1 h2 h3 h4)
theorem v_icmp_ne (X : Cx K l0 g0 cc own nL0 rm) {x y : Int32} {off : Int} {tgt : Nat} (hd : DD cc pc (.if_icmp .ne off) 3 pc1) (ht : (pc : Int) + off = (tgt : Int)) (kt : ¬ x = y → VJ K k n h tgt lv st) (kf : x = y → VJ K k n h pc1 lv st) : VJ K k n h pc lv (.int y :: .int x :: st) := by
  obtain ⟨p, l, e, R, s, m, args, below, meth, c, Q, nL, g, A⟩ := K
  obtain ⟨hx, hb, hml, hown, hts, hE, hA, hlk, rfl, rfl, rfl, rfl⟩ := X
  obtain ⟨hd, rfl⟩ := hd
  exact fun H locs ls h1 h2 h3 h4 => lv_icmp_ne hx hb hd ht (fun q => kt q H locs ls h1 h2 h3 h4) (fun q => kf q H locs ls h1 h2 h3 h4)
theorem v_if_lt (X : Cx K l0 g0 cc own nL0 rm) {x : Int32} {off : Int} {tgt : Nat} (hd : DD cc pc (.ifCond .lt off) 3 pc1) (ht : (pc : Int) + off = (tgt : Int)) (kt : x < 0 → VJ K k n h tgt lv st) (kf : ¬ x < 0 → VJ K k n h pc1 lv st) : VJ K k n h pc lv (.int x :: st) := by
  obtain ⟨p, l, e, R, s, m, args, below, meth, c, Q, nL, g, A⟩ := K
  obtain ⟨hx, hb, hml, hown, hts, hE, hA, hlk, rfl, rfl, rfl, rfl⟩ := X
  obtain ⟨hd, rfl⟩ := hd
  exact fun H locs ls h1 h2 h3 h4 => lv_if_lt hx hb hd ht (fun q => kt q H locs ls h1 h2 h3 h4) (fun q => kf q H locs ls h1 h2 h3 h4)
theorem v_icmp_lt (X : Cx K l0 g0 cc own nL0 rm) {x y : Int32} {off : Int} {tgt : Nat} (hd : DD cc pc (.if_icmp .lt off) 3 pc1) (ht : (pc : Int) + off = (tgt : Int)) (kt : x < y → VJ K k n h tgt lv st) (kf : ¬ x < y → VJ K k n h pc1 lv st) : VJ K k n h pc lv (.int y :: .int x :: st) := by
  obtain ⟨p, l, e, R, s, m, args, below, meth, c, Q, nL, g, A⟩ := K
  obtain ⟨hx, hb, hml, hown, hts, hE, hA, hlk, rfl, rfl, rfl, rfl⟩ := X
  obtain ⟨hd, rfl⟩ := hd
  exact fun H locs ls h1 h2 h3 h4 => lv_icmp_lt hx hb hd ht (fun q => kt q H locs ls h1 h2 h3 h4) (fun q => kf q H locs ls h1 h2 h3 h4)
theorem v_if_ge (X : Cx K l0 g0 cc own nL0 rm) {x : Int32} {off : Int} {tgt : Nat} (hd : DD cc pc (.ifCond .ge off) 3 pc1) (ht : (pc : Int) + off = (tgt : Int)) (kt : 0 ≤ x → VJ K k n h tgt lv st) (kf : ¬ 0 ≤ x → VJ K k n h pc1 lv st) : VJ K k n h pc lv (.int x :: st) := by
  obtain ⟨p, l, e, R, s, m, args, below, meth, c, Q, nL, g, A⟩ := K
  obtain ⟨hx, hb, hml, hown, hts, hE, hA, hlk, rfl, rfl, rfl, rfl⟩ := X
  obtain ⟨hd, rfl⟩ := hd
  exact fun H locs ls h1 h2 h3 h4 => lv_if_ge hx hb hd ht (fun q => kt q H locs ls h1 h2 h3 h4) (fun q => kf q H locs ls h1 h2 h3 h4)
theorem v_icmp_ge (X : Cx K l0 g0 cc own nL0 rm) {x y : Int32} {off : Int} {tgt : Nat} (hd : DD cc pc (.if_icmp .ge off) 3 pc1) (ht : (pc : Int) + off = (tgt : Int)) (kt : y ≤ x → VJ K k n h tgt lv st) (kf : ¬ y ≤ x → VJ K k n h pc1 lv st) : VJ K k n h pc lv (.int y :: .int x :: st) := by
  obtain ⟨p, l, e, R, s, m, args, below, meth, c, Q, nL, g, A⟩ := K
  obtain ⟨hx, hb, hml, hown, hts, hE, hA, hlk, rfl, rfl, rfl, rfl⟩ := X
  obtain ⟨hd, rfl⟩ := hd
  exact fun H locs ls h1 h2 h3 h4 => lv_icmp_ge hx hb hd ht (fun q => kt q H locs ls h1 h2 h3 h4) (fun q => kf q H locs ls h1 h2 h3 h4)
theorem v_if_gt (X : Cx K l0 g0 cc own nL0 rm) {x : Int32} {off : Int} {tgt : Nat} (hd : DD cc pc (.ifCond .gt off) 3 pc1) (ht : (pc : Int) + off = (tgt : Int)) (kt : 0 < x → VJ K k n h tgt lv st) (kf : ¬ 0 < x → VJ K k n h pc1 lv st) : VJ K k n h pc lv (.int x :: st) := by
  obtain ⟨p, l, e, R, s, m, args, below, meth, c, Q, nL, g, A⟩ := K
  obtain ⟨hx, hb, hml, hown, hts, hE, hA, hlk, rfl, rfl, rfl, rfl⟩ := X
  obtain ⟨hd, rfl⟩ := hd
  exact fun H locs ls h1 h2 h3 h4 => lv_if_gt hx hb hd ht (fun q => kt q H locs ls h1 h2 h3 h4) (fun q => kf q H locs ls h1 h2 h3 h4)
theorem v_icmp_gt (X : Cx K l0 g0 cc own nL0 rm) {x y : Int32} {off : Int} {tgt : Nat} (hd : DD cc pc (.if_icmp .gt off) 3 pc1) (ht : (pc : Int) + off = (tgt : Int)) (kt : y < x → VJ K k n h tgt lv st) (kf : ¬ y < x → VJ K k n h pc1 lv st) : VJ K k n h pc lv (.int y :: .int x :: st) := by
  obtain ⟨p, l, e, R, s, m, args, below, meth, c, Q, nL, g, A⟩ := K
  obtain ⟨hx, hb, hml, hown, hts, hE, hA, hlk, rfl, rfl, rfl, rfl⟩ := X
  obtain ⟨hd, rfl⟩ := hd
  exact fun H locs ls h1 h2 h3 h4 => lv_icmp_gt hx hb hd ht (fun q => kt q H locs ls h1 h2 h3 h4) (fun q => kf q H locs ls h1 h2 h3 h4)
theorem v_if_le (X : Cx K l0 g0 cc own nL0 rm) {x : Int32} {off : Int} {tgt : Nat} (hd : DD cc pc (.ifCond .le off) 3 pc1) (ht : (pc : Int) + off = (tgt : Int)) (kt : x ≤ 0 → VJ K k n h tgt lv st) (kf : ¬ x ≤ 0 → VJ K k n h pc1 lv st) : VJ K k n h pc lv (.int x :: st) := by
  obtain ⟨p, l, e, R, s, m, args, below, meth, c, Q, nL, g, A⟩ := K
  obtain ⟨hx, hb, hml, hown, hts, hE, hA, hlk, rfl, rfl, rfl, rfl⟩ := X
  obtain ⟨hd, rfl⟩ := hd
  exact fun H locs ls h1 h2 h3 h4 => lv_if_le hx hb hd ht (fun q => kt q H locs ls h1 h2 h3 h4) (fun q => kf q H locs ls h1 h2 h3 h4)
theorem v_icmp_le (X : Cx K l0 g0 cc own nL0 rm) {x y : Int32} {off : Int} {tgt : Nat} (hd : DD cc pc (.if_icmp .le off) 3 pc1) (ht : (pc : Int) + off = (tgt : Int)) (kt : x ≤ y → VJ K k n h tgt lv st) (kf : ¬ x ≤ y → VJ K k n h pc1 lv st) : VJ K k n h pc lv (.int y :: .int x :: st) := by
  obtain ⟨p, l, e, R, s, m, args, below, meth, c, Q, nL, g, A⟩ := K
  obtain ⟨hx, hb, hml, hown, hts, hE, hA, hlk, rfl, rfl, rfl, rfl⟩ := X
  obtain ⟨hd, rfl⟩ := hd
  exact fun H locs ls h1 h2 h3 h4 => lv_icmp_le hx hb hd ht (fun q => kt q H locs ls h1 h2 h3 h4) (fun q => kf q H locs ls h1 h2 h3 h4)
theorem v_goto (X : Cx K l0 g0 cc own nL0 rm) {off : Int} {tgt : Nat} (hd : DD cc pc (.goto off) 3 pc1) (ht : (pc : Int) + off = (tgt : Int)) (kk : VJ K k n h tgt lv st) : VJ K k n h pc lv st := by
  obtain ⟨p, l, e, R, s, m, args, below, meth, c, Q, nL, g, A⟩ := K
  obtain ⟨hx, hb, hml, hown, hts, hE, hA, hlk, rfl, rfl, rfl, rfl⟩ := X
  obtain ⟨hd, rfl⟩ := hd
  exact fun H locs ls h1 h2 h3 h4 => lv_goto hx hb hd ht (kk H locs ls h1 h2 h3 h4)
theorem v_ifnull (X : Cx K l0 g0 cc own nL0 rm) {x : Nat} {off : Int} (hd : DD cc pc (.ifnull off) 3 pc1) (kk : VJ K k n h pc1 lv st) : VJ K k n h pc lv (.ref x :: st) := by
  obtain ⟨p, l, e, R, s, m, args, below, meth, c, Q, nL, g, A⟩ := K
  obtain ⟨hx, hb, hml, hown, hts, hE, hA, hlk, rfl, rfl, rfl, rfl⟩ := X
  obtain ⟨hd, rfl⟩ := hd
  exact fun H locs ls h1 h2 h3 h4 => lv_ifnull hx hb hd (kk H locs ls h1 h2 h3 h4)
theorem v_ifnullN (X : Cx K l0 g0 cc own nL0 rm) {off : Int} {tgt : Nat} (hd : DD cc pc (.ifnull off) 3 pc1) (ht : (pc : Int) + off = (tgt : Int)) (kk : VJ K k n h tgt lv st) : VJ K k n h pc lv (.null :: st) := by
  obtain ⟨p, l, e, R, s, m, args, below, meth, c, Q, nL, g, A⟩ := K
  obtain ⟨hx, hb, hml, hown, hts, hE, hA, hlk, rfl, rfl, rfl, rfl⟩ := X
  obtain ⟨hd, rfl⟩ := hd
  exact fun H locs ls h1 h2 h3 h4 => lv_ifnullN hx hb hd ht (kk H locs ls h1 h2 h3 h4)
theorem v_ifnonnull (X : Cx K l0 g0 cc own nL0 rm) {x : Nat} {off : Int} {tgt : Nat} (hd : DD cc pc (.ifnonnull off) 3 pc1) (ht : (pc : Int) + off = (tgt : Int)) (kk : VJ K k n h tgt lv st) : VJ K k n h pc lv (.ref x :: st) := by
  obtain ⟨p, l, e, R, s, m, args, below, meth, c, Q, nL, g, A⟩ := K
  obtain ⟨hx, hb, hml, hown, hts, hE, hA, hlk, rfl, rfl, rfl, rfl⟩ := X
  obtain ⟨hd, rfl⟩ := hd
  exact fun H locs ls h1 h2 h3 h4 => lv_ifnonnull hx hb hd ht (kk H locs ls h1 h2 h3 h4)
theorem v_ifnonnullN (X : Cx K l0 g0 cc own nL0 rm) {off : Int} (hd : DD cc pc (.ifnonnull off) 3 pc1) (kk : VJ K k n h pc1 lv st) : VJ K k n h pc lv (.null :: st) := by
  obtain ⟨p, l, e, R, s, m, args, below, meth, c, Q, nL, g, A⟩ := K
  obtain ⟨hx, hb, hml, hown, hts, hE, hA, hlk, rfl, rfl, rfl, rfl⟩ := X
  obtain ⟨hd, rfl⟩ := hd
  exact fun H locs ls h1 h2 h3 h4 => lv_ifnonnullN hx hb hd (kk H locs ls h1 h2 h3 h4)
theorem v_tabOut (X : Cx K l0 g0 cc own nL0 rm) {dflt lo hi : Int} {offs : Array Int} {len : Nat} {x : Int32} {tgt : Nat} (hd : DD cc pc (.tableswitch dflt lo hi offs) len pc1) (hh : x.toInt < lo ∨ hi < x.toInt) (ht : (pc : Int) + dflt = (tgt : Int)) (kk : VJ K k n h tgt lv st) : VJ K k n h pc lv (.int x :: st) := by
  obtain ⟨p, l, e, R, s, m, args, below, meth, c, Q, nL, g, A⟩ := K
  obtain ⟨hx, hb, hml, hown, hts, hE, hA, hlk, rfl, rfl, rfl, rfl⟩ := X
  obtain ⟨hd, rfl⟩ := hd
  exact fun H locs ls h1 h2 h3 h4 => lv_tableOut hx hb hd hh ht (kk H locs ls h1 h2 h3 h4)
theorem v_tabIn (X : Cx K l0 g0 cc own nL0 rm) {dflt lo hi : Int} {offs : Array Int} {len : Nat} {x : Int32} {off : Int} {tgt : Nat} (hd : DD cc pc (.tableswitch dflt lo hi offs) len pc1) (j : Int32) (hj : x = j) (e1 : ¬ j.toInt < lo) (e2 : ¬ hi < j.toInt) (ho : offs[(j.toInt - lo).toNat]? = some off) (ht : (pc : Int) + off = (tgt : Int)) (kk : VJ K k n h tgt lv st) : VJ K k n h pc lv (.int x :: st) := by
  subst hj
  obtain ⟨p, l, e, R, s, m, args, below, meth, c, Q, nL, g, A⟩ := K
  obtain ⟨hx, hb, hml, hown, hts, hE, hA, hlk, rfl, rfl, rfl, rfl⟩ := X
  obtain ⟨hd, rfl⟩ := hd
  exact fun H locs ls h1 h2 h3 h4 => lv_tableIn hx hb hd e1 e2 ho ht (kk H locs ls h1 h2 h3 h4)
/-- the cells of a heap below a bound, as a list -/
def hL (h : Hp) (sz : Nat) : va_W := (List.range sz).filterMap (fun a => (h a).map (fun c => (a, c)))
theorem hL_mem {h : Hp} {sz a : Nat} {c : va_E} : (a, c) ∈ hL h sz ↔ a < sz ∧ h a = some c := by
  unfold hL
  rw [List.mem_filterMap]
  constructor
  · rintro ⟨x, hx, he⟩
    cases hc : h x with
    | none => rw [hc] at he; cases he
    | some d =>
      rw [hc] at he
      cases he
      exact ⟨List.mem_range.mp hx, hc⟩
  · rintro ⟨h1, h2⟩
    exact ⟨a, List.mem_range.mpr h1, by rw [h2]; rfl⟩
theorem hL_P {g : GT} {h : Hp} {H : Heap} (hp : HP g h H) : va_P g.1 vwCl (hL h H.size) H := fun k q hk => hp q.1 q.2 (hL_mem.mp (List.mem_of_getElem? hk)).2
theorem hL_D {A : Nat → Prop} {h : Hp} {sz : Nat} (hA : ∀ a, h a ≠ none → A a) : va_D A (hL h sz) := by
  have hp : (hL h sz).Pairwise (fun p q => p.1 < q.1) := by
    unfold hL
    refine List.Pairwise.filterMap _ ?_ List.pairwise_lt_range
    intro a a' haa b hb b' hb'
    cases hc : h a with
    | none => rw [hc] at hb; cases hb
    | some d =>
      cases hc' : h a' with
      | none => rw [hc'] at hb'; cases hb'
      | some d' =>
        rw [hc] at hb; rw [hc'] at hb'
        cases hb; cases hb'
        exact haa
  refine ⟨fun i j p q hi hj hpq => ?_, fun k q hk => hA _ (by rw [(hL_mem.mp (List.mem_of_getElem? hk)).2]; exact fun e => by cases e)⟩
  obtain ⟨li, ei⟩ := List.getElem?_eq_some_iff.mp hi
  obtain ⟨lj, ej⟩ := List.getElem?_eq_some_iff.mp hj
  rcases Nat.lt_trichotomy i j with hlt | heq | hgt
  · have := List.pairwise_iff_getElem.mp hp i j li lj hlt
    rw [ei, ej] at this; omega
  · exact heq
  · have := List.pairwise_iff_getElem.mp hp j i lj li hgt
    rw [ei, ej] at this; omega
theorem hL_at {g : GT} {h : Hp} {H : Heap} (hp : HP g h H) {a : Nat} {c : va_E} (ha : h a = some c) : ∃ q : Nat, (hL h H.size)[q]? = some (a, c) := List.getElem?_of_mem (hL_mem.mpr ⟨hp.lt ha, ha⟩)
theorem hL_set {g : GT} {A : Nat → Prop} {h : Hp} {H H1 : Heap} {a q : Nat} {c d : va_E} (hp : HP g h H) (hD : va_D A (hL h H.size)) (hq : (hL h H.size)[q]? = some (a, c)) (hP : va_P g.1 vwCl ((hL h H.size).set q (a, d)) H1) : HP g (hU h a d) H1 := by
  have hl := (List.getElem?_eq_some_iff.mp hq).1
  intro x e hx
  by_cases hxa : x = a
  · subst hxa
    rw [hU_s] at hx; cases hx
    exact hP q _ (List.getElem?_set_self hl)
  · rw [hU_n hxa] at hx
    obtain ⟨i, hi⟩ := hL_at hp hx
    have hne : q ≠ i := fun e1 => by
      subst e1
      rw [hq] at hi
      exact hxa (congrArg Prod.fst (Option.some.inj hi)).symm
    exact hP i _ (by rw [List.getElem?_set_ne hne]; exact hi)
theorem hL_push {g : GT} {A : Nat → Prop} {h : Hp} {H H1 : Heap} {a : Nat} {d : va_E} (hp : HP g h H) (hP : va_P g.1 vwCl (hL h H.size ++ [(a, d)]) H1) (hD : va_D A (hL h H.size ++ [(a, d)])) : HP g (hU h a d) H1 ∧ h a = none ∧ A a := by
  have hz : (hL h H.size ++ [(a, d)])[(hL h H.size).length]? = some (a, d) := by simp
  have hfr : h a = none := by
    cases hc : h a with
    | none => rfl
    | some c =>
      obtain ⟨i, hi⟩ := hL_at hp hc
      have hl := (List.getElem?_eq_some_iff.mp hi).1
      have := hD.1 i (hL h H.size).length (a, c) (a, d) (by rw [List.getElem?_append_left hl]; exact hi) hz rfl
      omega
  refine ⟨fun x e hx => ?_, hfr, hD.2 _ _ hz⟩
  by_cases hxa : x = a
  · subst hxa
    rw [hU_s] at hx; cases hx
    exact hP _ _ hz
  · rw [hU_n hxa] at hx
    obtain ⟨i, hi⟩ := hL_at hp hx
    have hl := (List.getElem?_eq_some_iff.mp hi).1
    exact hP i _ (by rw [List.getElem?_append_left hl]; exact hi)
theorem hU_dom {A : Nat → Prop} {h : Hp} {a : Nat} {c : va_E} (hA : ∀ a, h a ≠ none → A a) (ha : A a) : ∀ x, hU h a c x ≠ none → A x := by
  intro x hx
  by_cases hxa : x = a
  · subst hxa; exact ha
  · rw [hU_n hxa] at hx; exact hA x hx
theorem hsome {h : Hp} {a : Nat} {c : va_E} (ha : h a = some c) : h a ≠ none := fun e => by rw [ha] at e; cases e
/-- a field's link, by its number, at a class's place j -/
def FS (own : String) (idx ci j : Nat) (C : String) (T : u_T) (N : Nat) : Prop := vwCl[ci]? = some (C, T, N) ∧ (∀ w ∈ u_ws C T N, w ∈ GW) ∧ j < N ∧ Cond.fieldLink own idx (T j).1 (T j).2.1 (T j).2.2.1 ∈ GW
theorem v_get (X : Cx K l0 g0 cc own nL0 rm) {a idx ci j : Nat} {C : String} {T : u_T} {N : Nat} {fs : List Value} {v : Value} (hs : FS own idx ci j C T N) (hh : h a = some (.inr (ci, fs))) (hv : fs[j]? = some v) (hd : DD cc pc (.getfield idx) 3 pc1) (kk : VJ K k n h pc1 lv (v :: st)) : VJ K k n h pc lv (.ref a :: st) := by
  obtain ⟨p, l, e, R, s, m, args, below, meth, c, Q, nL, g, A⟩ := K
  obtain ⟨hx, hb, hml, hown, hts, hE, hA, hlk, rfl, rfl, rfl, rfl⟩ := X
  obtain ⟨hd, rfl⟩ := hd
  exact fun H locs ls h1 h2 h3 h4 => va_get hx hb hts hs.2.1 hown hE.1 (h1.one hh) 0 rfl hs.1 j hs.2.2.1 (hts _ hs.2.2.2) (fun _ q => q) hv hd (kk H locs ls h1 h2 h3 h4)
theorem v_put (X : Cx K l0 g0 cc own nL0 rm) {a idx ci j : Nat} {C : String} {T : u_T} {N : Nat} {fs : List Value} {v : Value} {ty0 : Nat → FieldType} {ty : FieldType} (hs : FS own idx ci j C T N) (hty : ∀ k, k < N → parseFieldDescriptor (T k).2.2.1 = some (ty0 k)) (hnm : ∀ a, a < N → ∀ b, b < N → a ≠ b → (T a).2.1 ≠ (T b).2.1) (hfin : (T j).2.2.2 = false) (hpd : parseFieldDescriptor (T j).2.2.1 = some ty) (hh : h a = some (.inr (ci, fs))) (hnr : narrow ty v = v) (hft : fits ty v = true) (hl : j < fs.length) (hd : DD cc pc (.putfield idx) 3 pc1) (kk : VJ K k n (hU h a (.inr (ci, fs.set j v))) pc1 lv st) : VJ K k n h pc lv (v :: .ref a :: st) := by
  obtain ⟨p, l, e, R, s, m, args, below, meth, c, Q, nL, g, A⟩ := K
  obtain ⟨hx, hb, hml, hown, hts, hE, hA, hlk, rfl, rfl, rfl, rfl⟩ := X
  obtain ⟨hd, rfl⟩ := hd
  intro H locs ls h1 h2 h3 h4
  obtain ⟨q, hq⟩ := hL_at h1 hh
  exact va_put hx hb hts hs.2.1 ty0 hty hnm hown hE.1 (hL_P h1) (hL_D h2) h3 q hq hs.1 j hs.2.2.1 (hts _ hs.2.2.2) (fun _ q => q) hfin hpd hnr hft hl hd (fun H1 locs1 p1 p2 p3 => kk H1 locs1 ls (hL_set h1 (hL_D h2) hq p1) (hU_dom h2 (h2 a (hsome hh))) p3 h4)
theorem v_iald (X : Cx K l0 g0 cc own nL0 rm) {a N : Nat} {f : Nat → Int32} {i : Int32} (hh : h a = some (.inl (g0.2.1 0, N, .inl f))) (hin : vp_in i N) (hd : DD cc pc (.iaload) 1 pc1) (kk : VJ K k n h pc1 lv (.int (f i.toNatClampNeg) :: st)) : VJ K k n h pc lv (.int i :: .ref a :: st) := by
  obtain ⟨p, l, e, R, s, m, args, below, meth, c, Q, nL, g, A⟩ := K
  obtain ⟨hx, hb, hml, hown, hts, hE, hA, hlk, rfl, rfl, rfl, rfl⟩ := X
  obtain ⟨hd, rfl⟩ := hd
  exact fun H locs ls h1 h2 h3 h4 => va_iald hx hb hE.1 (h1.one hh) 0 0 rfl rfl hin hd (kk H locs ls h1 h2 h3 h4)
theorem v_lald (X : Cx K l0 g0 cc own nL0 rm) {a N : Nat} {f : Nat → Int64} {i : Int32} (hh : h a = some (.inl (g0.2.1 1, N, .inr (.inl f)))) (hin : vp_in i N) (hd : DD cc pc (.laload) 1 pc1) (kk : VJ K k n h pc1 lv (.long (f i.toNatClampNeg) :: st)) : VJ K k n h pc lv (.int i :: .ref a :: st) := by
  obtain ⟨p, l, e, R, s, m, args, below, meth, c, Q, nL, g, A⟩ := K
  obtain ⟨hx, hb, hml, hown, hts, hE, hA, hlk, rfl, rfl, rfl, rfl⟩ := X
  obtain ⟨hd, rfl⟩ := hd
  exact fun H locs ls h1 h2 h3 h4 => va_lald hx hb hE.1 (h1.one hh) 0 1 rfl rfl hin hd (kk H locs ls h1 h2 h3 h4)
theorem v_aald (X : Cx K l0 g0 cc own nL0 rm) {a N : Nat} {f : Nat → Option Nat} {i : Int32} (t : Nat) {C : String} (ht : (gtys g0)[t]? = some (g0.2.1 t, .object C)) (hh : h a = some (.inl (g0.2.1 t, N, .inr (.inr (.inr (.inr f)))))) (hin : vp_in i N) (hd : DD cc pc (.aaload) 1 pc1) (kk : VJ K k n h pc1 lv (va_rf (f i.toNatClampNeg) :: st)) : VJ K k n h pc lv (.int i :: .ref a :: st) := by
  obtain ⟨p, l, e, R, s, m, args, below, meth, c, Q, nL, g, A⟩ := K
  obtain ⟨hx, hb, hml, hown, hts, hE, hA, hlk, rfl, rfl, rfl, rfl⟩ := X
  obtain ⟨hd, rfl⟩ := hd
  exact fun H locs ls h1 h2 h3 h4 => va_aldq hx hb hE.1 (h1.one hh) 0 t rfl ht hin hd (kk H locs ls h1 h2 h3 h4)
theorem v_iast (X : Cx K l0 g0 cc own nL0 rm) {a N : Nat} {f : Nat → Int32} {i x : Int32} (hh : h a = some (.inl (g0.2.1 0, N, .inl f))) (hin : vp_in i N) (hd : DD cc pc (.iastore) 1 pc1) (kk : VJ K k n (hU h a (.inl (g0.2.1 0, N, .inl (upd f i.toNatClampNeg x)))) pc1 lv st) : VJ K k n h pc lv (.int x :: .int i :: .ref a :: st) := by
  obtain ⟨p, l, e, R, s, m, args, below, meth, c, Q, nL, g, A⟩ := K
  obtain ⟨hx, hb, hml, hown, hts, hE, hA, hlk, rfl, rfl, rfl, rfl⟩ := X
  obtain ⟨hd, rfl⟩ := hd
  intro H locs ls h1 h2 h3 h4
  obtain ⟨q, hq⟩ := hL_at h1 hh
  exact va_iast hx hb hE.1 (hL_P h1) (hL_D h2) h3 q 0 hq rfl hin hd (fun H1 locs1 p1 p2 p3 => kk H1 locs1 ls (hL_set h1 (hL_D h2) hq p1) (hU_dom h2 (h2 a (hsome hh))) p3 h4)
theorem v_last (X : Cx K l0 g0 cc own nL0 rm) {a N : Nat} {f : Nat → Int64} {i : Int32} {x : Int64} (hh : h a = some (.inl (g0.2.1 1, N, .inr (.inl f)))) (hin : vp_in i N) (hd : DD cc pc (.lastore) 1 pc1) (kk : VJ K k n (hU h a (.inl (g0.2.1 1, N, .inr (.inl (vp_updL f i.toNatClampNeg x))))) pc1 lv st) : VJ K k n h pc lv (.long x :: .int i :: .ref a :: st) := by
  obtain ⟨p, l, e, R, s, m, args, below, meth, c, Q, nL, g, A⟩ := K
  obtain ⟨hx, hb, hml, hown, hts, hE, hA, hlk, rfl, rfl, rfl, rfl⟩ := X
  obtain ⟨hd, rfl⟩ := hd
  intro H locs ls h1 h2 h3 h4
  obtain ⟨q, hq⟩ := hL_at h1 hh
  exact va_last hx hb hE.1 (hL_P h1) (hL_D h2) h3 q 1 hq rfl hin hd (fun H1 locs1 p1 p2 p3 => kk H1 locs1 ls (hL_set h1 (hL_D h2) hq p1) (hU_dom h2 (h2 a (hsome hh))) p3 h4)
theorem v_aast (X : Cx K l0 g0 cc own nL0 rm) {a N b ci : Nat} {f : Nat → Option Nat} {i : Int32} {vs : List Value} {C : String} {T : u_T} {M : Nat} (t : Nat) (ht : (gtys g0)[t]? = some (g0.2.1 t, .object C)) (hc : vwCl[ci]? = some (C, T, M)) (hh : h a = some (.inl (g0.2.1 t, N, .inr (.inr (.inr (.inr f)))))) (hb2 : h b = some (.inr (ci, vs))) (hin : vp_in i N) (hd : DD cc pc (.aastore) 1 pc1) (kk : VJ K k n (hU h a (.inl (g0.2.1 t, N, .inr (.inr (.inr (.inr (va_up f i.toNatClampNeg (some b)))))))) pc1 lv st) : VJ K k n h pc lv (.ref b :: .int i :: .ref a :: st) := by
  obtain ⟨p, l, e, R, s, m, args, below, meth, c, Q, nL, g, A⟩ := K
  obtain ⟨hx, hb, hml, hown, hts, hE, hA, hlk, rfl, rfl, rfl, rfl⟩ := X
  obtain ⟨hd, rfl⟩ := hd
  intro H locs ls h1 h2 h3 h4
  obtain ⟨q, hq⟩ := hL_at h1 hh
  obtain ⟨q2, hq2⟩ := hL_at h1 hb2
  exact va_astq (r := (C, T, M)) hx hb hE.1 (hL_P h1) (hL_D h2) h3 q t q2 ci hq ht hq2 hc hin hd (fun H1 locs1 p1 p2 p3 => kk H1 locs1 ls (hL_set h1 (hL_D h2) hq p1) (hU_dom h2 (h2 a (hsome hh))) p3 h4)
theorem v_aastN (X : Cx K l0 g0 cc own nL0 rm) {a N : Nat} {f : Nat → Option Nat} {i : Int32} {C : String} (t : Nat) (ht : (gtys g0)[t]? = some (g0.2.1 t, .object C)) (hh : h a = some (.inl (g0.2.1 t, N, .inr (.inr (.inr (.inr f)))))) (hin : vp_in i N) (hd : DD cc pc (.aastore) 1 pc1) (kk : VJ K k n (hU h a (.inl (g0.2.1 t, N, .inr (.inr (.inr (.inr (va_up f i.toNatClampNeg none))))))) pc1 lv st) : VJ K k n h pc lv (.null :: .int i :: .ref a :: st) := by
  obtain ⟨p, l, e, R, s, m, args, below, meth, c, Q, nL, g, A⟩ := K
  obtain ⟨hx, hb, hml, hown, hts, hE, hA, hlk, rfl, rfl, rfl, rfl⟩ := X
  obtain ⟨hd, rfl⟩ := hd
  intro H locs ls h1 h2 h3 h4
  obtain ⟨q, hq⟩ := hL_at h1 hh
  exact va_astqN hx hb hE.1 (hL_P h1) (hL_D h2) h3 q t hq ht hin hd (fun H1 locs1 p1 p2 p3 => kk H1 locs1 ls (hL_set h1 (hL_D h2) hq p1) (hU_dom h2 (h2 a (hsome hh))) p3 h4)
theorem v_iret (X : Cx K l0 g0 cc own nL0 rm) {P : Option Value → Hp → Prop} {mc ms : Nat} {v : Int32} (r : Rt K (some .int) P mc ms) (hd : DD cc pc (.ireturn) 1 pc1) (hk : k ≤ mc) (hn : n ≤ ms) (hq : P (some (.int v)) h) : VJ K k n h pc lv [.int v] := by
  obtain ⟨p, l, e, R, s, m, args, below, meth, c, Q, nL, g, A⟩ := K
  obtain ⟨hx, hb, hml, hown, hts, hE, hA, hlk, rfl, rfl, rfl, rfl⟩ := X
  obtain ⟨hd, rfl⟩ := hd
  obtain ⟨hr, rfl⟩ := r
  exact fun H locs ls h1 h2 h3 h4 => W.widen hk hn (W.iret hx hb hr (fun t ht hW => ⟨⟨_, h, rfl, hq, by rw [ht]; exact h1, h2⟩, h3.F ht⟩) h3.2.2 hd hlk)
theorem v_zret (X : Cx K l0 g0 cc own nL0 rm) {ty : FieldType} {P : Option Value → Hp → Prop} {mc ms : Nat} {v : Int32} (r : Rt K (some ty) P mc ms) (hd : DD cc pc (.ireturn) 1 pc1) (hnr : narrow ty (.int v) = .int v) (hk : k ≤ mc) (hn : n ≤ ms) (hq : P (some (.int v)) h) : VJ K k n h pc lv [.int v] := by
  obtain ⟨p, l, e, R, s, m, args, below, meth, c, Q, nL, g, A⟩ := K
  obtain ⟨hx, hb, hml, hown, hts, hE, hA, hlk, rfl, rfl, rfl, rfl⟩ := X
  obtain ⟨hd, rfl⟩ := hd
  obtain ⟨hr, rfl⟩ := r
  exact fun H locs ls h1 h2 h3 h4 => W.widen hk hn (W.zret hx hb hr hnr (fun t ht hW => ⟨⟨_, h, rfl, hq, by rw [ht]; exact h1, h2⟩, h3.F ht⟩) h3.2.2 hd hlk)
theorem v_lret (X : Cx K l0 g0 cc own nL0 rm) {P : Option Value → Hp → Prop} {mc ms : Nat} {v : Int64} (r : Rt K (some .long) P mc ms) (hd : DD cc pc (.lreturn) 1 pc1) (hk : k ≤ mc) (hn : n ≤ ms) (hq : P (some (.long v)) h) : VJ K k n h pc lv [.long v] := by
  obtain ⟨p, l, e, R, s, m, args, below, meth, c, Q, nL, g, A⟩ := K
  obtain ⟨hx, hb, hml, hown, hts, hE, hA, hlk, rfl, rfl, rfl, rfl⟩ := X
  obtain ⟨hd, rfl⟩ := hd
  obtain ⟨hr, rfl⟩ := r
  exact fun H locs ls h1 h2 h3 h4 => W.widen hk hn (W.lret hx hb hr (fun t ht hW => ⟨⟨_, h, rfl, hq, by rw [ht]; exact h1, h2⟩, h3.F ht⟩) h3.2.2 hd hlk)
theorem v_vret (X : Cx K l0 g0 cc own nL0 rm) {P : Option Value → Hp → Prop} {mc ms : Nat} (r : Rt K none P mc ms) (hd : DD cc pc (.return_) 1 pc1) (hk : k ≤ mc) (hn : n ≤ ms) (hq : P none h) : VJ K k n h pc lv [] := by
  obtain ⟨p, l, e, R, s, m, args, below, meth, c, Q, nL, g, A⟩ := K
  obtain ⟨hx, hb, hml, hown, hts, hE, hA, hlk, rfl, rfl, rfl, rfl⟩ := X
  obtain ⟨hd, rfl⟩ := hd
  obtain ⟨hr, rfl⟩ := r
  exact fun H locs ls h1 h2 h3 h4 => W.widen hk hn (W.vret hx hb hr (fun t ht hW => ⟨⟨_, h, rfl, hq, by rw [ht]; exact h1, h2⟩, h3.F ht⟩) h3.2.2 hd hlk)
theorem v_aret (X : Cx K l0 g0 cc own nL0 rm) {rt : FieldType} {P : Option Value → Hp → Prop} {mc ms : Nat} {v : Value} (r : Rt K (some rt) P mc ms) (hrt : (∃ n, rt = .object n) ∨ ∃ t, rt = .array t) (hv : v = .null ∨ ∃ a, v = .ref a) (hd : DD cc pc (.areturn) 1 pc1) (hk : k ≤ mc) (hn : n ≤ ms) (hq : P (some v) h) : VJ K k n h pc lv [v] := by
  obtain ⟨p, l, e, R, s, m, args, below, meth, c, Q, nL, g, A⟩ := K
  obtain ⟨hx, hb, hml, hown, hts, hE, hA, hlk, rfl, rfl, rfl, rfl⟩ := X
  obtain ⟨hd, rfl⟩ := hd
  obtain ⟨hr, rfl⟩ := r
  exact fun H locs ls h1 h2 h3 h4 => W.widen hk hn (W.aret hx hb hr hrt hv (fun t ht hW => ⟨⟨_, h, rfl, hq, by rw [ht]; exact h1, h2⟩, h3.F ht⟩) h3.2.2 hd hlk)
end VR
end
section
/-! ===== calls ===== -/
theorem mc_blind {g : GT} {av : List Value} {h : Hp} {sz : Nat} : FrameBlind (va_Pc av (fun U => U.heap.size = sz ∧ HP g h U.heap ∧ EV g (dm h sz) U)) := by
  intro a U f mk q
  obtain ⟨e, h1, h2, h3⟩ := q
  exact ⟨e, h1, h2, h3.calling f mk a⟩
/-- what a call's site needs of the tables -/
def SV (own : String) (idx : Nat) (y : MethodName) (cc : ByteArray) (nL : Nat) (ret : Option FieldType) (ar : Nat) : Prop := Cond.methodLink own idx y ∈ GW ∧ Cond.instanceMethod y ∈ GW ∧ Cond.selects y.cls y y ∈ GW ∧ Cond.initialized y.cls ∈ GW ∧ Cond.code y cc nL ret ∈ GW ∧ (y.cls ≠ "java/lang/invoke/MethodHandle" ∧ y.cls ≠ "java/lang/invoke/VarHandle" ∧ (parseMethodDescriptor y.desc).map (fun d => d.parameters.length) = some ar)
def SS (own : String) (idx : Nat) (y : MethodName) (cc : ByteArray) (nL : Nat) (ret : Option FieldType) (ar : Nat) : Prop := Cond.methodLink own idx y ∈ GW ∧ Cond.static y ∈ GW ∧ Cond.initialized y.cls ∈ GW ∧ Cond.code y cc nL ret ∈ GW ∧ (y.cls ≠ "java/lang/invoke/MethodHandle" ∧ y.cls ≠ "java/lang/invoke/VarHandle" ∧ (parseMethodDescriptor y.desc).map (fun d => d.parameters.length) = some ar)
def SNs (own : String) (idx : Nat) (y : MethodName) (cc : ByteArray) (nL : Nat) (ret : Option FieldType) (ar : Nat) : Prop := Cond.methodLinkNest own idx y "LogRollers" ∈ NW ∧ Cond.static y ∈ GW ∧ Cond.initialized y.cls ∈ GW ∧ Cond.code y cc nL ret ∈ GW ∧ (y.cls ≠ "java/lang/invoke/MethodHandle" ∧ y.cls ≠ "java/lang/invoke/VarHandle" ∧ (parseMethodDescriptor y.desc).map (fun d => d.parameters.length) = some ar)
def SI (own : String) (idx : Nat) (y : MethodName) (cc : ByteArray) (nL : Nat) (ar : Nat) : Prop := Cond.methodLink own idx y ∈ GW ∧ Cond.instanceMethod y ∈ GW ∧ y.name = "<init>" ∧ Cond.initialized y.cls ∈ GW ∧ Cond.code y cc nL none ∈ GW ∧ (y.cls ≠ "java/lang/invoke/MethodHandle" ∧ y.cls ≠ "java/lang/invoke/VarHandle" ∧ (parseMethodDescriptor y.desc).map (fun d => d.parameters.length) = some ar)
def SIn (own : String) (idx : Nat) (y : MethodName) (cc : ByteArray) (nL : Nat) (ar : Nat) : Prop := Cond.methodLinkNest own idx y "LogRollers" ∈ NW ∧ Cond.instanceMethod y ∈ GW ∧ y.name = "<init>" ∧ Cond.initialized y.cls ∈ GW ∧ Cond.code y cc nL none ∈ GW ∧ (y.cls ≠ "java/lang/invoke/MethodHandle" ∧ y.cls ≠ "java/lang/invoke/VarHandle" ∧ (parseMethodDescriptor y.desc).map (fun d => d.parameters.length) = some ar)
section VC
variable {K : KT} {l0 : Launch} {g0 : GT} {cc : ByteArray} {own : String} {nL0 : Nat} {rm : Room} {k n : Nat} {h : Hp} {pc pc1 : Nat} {lv : List (Nat × Value)} {st st0 : List Value}
theorem v_run {p : Program} {l : Launch} {e : Env} {R : Room} {s : State} {m : MethodId} {args : Array Value} {below : List Frame} {meth : Method} {c : Code} {Q : State → Prop} {nL : Nat} {g : GT} {A : Nat → Prop} (hA : ∀ q, s.heap.size ≤ q → A q) {P : Option Value → Hp → Prop} {mc ms : Nat} {a : Array Value}
    (hr : ∀ (H : Heap) (locs : List Loc) (ls : Array Slot), HP g h H → (∀ a, h a ≠ none → A a) → va_S A s.heap H locs → lv_has ls nL lv → va_Run p l e R s m args below meth c H locs k n mc ms (F0 m pc ls st0) st (QFp g (dm h H.size) P a) (dm h H.size))
    (kk : ∀ (r : Option Value) (h2 : Hp), P r h2 → VJ (p, l, e, R, s, m, args, below, meth, c, Q, nL, g, A) (k + mc) (n + ms) h2 (pc + 3) lv (r.toList ++ st)) : VJ (p, l, e, R, s, m, args, below, meth, c, Q, nL, g, A) k n h pc lv st0 := by
  intro H locs ls h1 h2 h3 h4 T hT X
  obtain ⟨v, st₀, t, T', L, h0, X', hL, e1, e2, ⟨⟨r, hh, hv, hp, hhp, hdm⟩, hz, hk⟩, st1⟩ := hr H locs ls h1 h2 h3 h4 T hT X
  cases hv
  rw [h0] at hz hk
  have hin : ∀ q, dm h H.size q → A q := fun q hq => by
    rcases hq with hq | hq
    · exact h2 q hq
    · exact hA q (Nat.le_trans h3.1 hq)
  obtain ⟨t2, a1, b1⟩ := kk v hh hp T'.heap (locs ++ L) ls (by rw [e1]; exact hhp) (fun a ha => hin a (hdm a ha))
    ⟨Nat.le_trans h3.1 (by rw [e1]; exact hz), fun q q1 q2 => by rw [e1, hk q (Nat.lt_of_lt_of_le q1 h3.1) (fun z => q2 (hin q z))]; exact h3.2.1 q q1 q2, fun q hq => by
      rcases List.mem_append.mp hq with h | h
      · exact h3.2.2 q h
      · exact hin _ (hL q h)⟩ h4 T' rfl X'
  exact ⟨t2, st1 t2 a1, b1⟩

theorem v_cS (X : Cx K l0 g0 cc own nL0 rm) {y : MethodName} {cc1 : ByteArray} {nL1 ar idx : Nat} {ret1 : Option FieldType} {rm1 : Room} {P : Option Value → Hp → Prop} {mc ms : Nat} {av : List Value} (hs : SS own idx y cc1 nL1 ret1 ar) (hM : MC l0 g0 y cc1 nL1 ret1 rm1 av h P mc ms) (hd : DD cc pc (.invokestatic idx) 3 pc1) (hst : st0 = av.reverse ++ st) (har : av.length = ar) (hrm : rm1.cells = mc ∧ rm1.slots = ms) (hR : rm1.frames + 1 ≤ rm.frames ∧ 8 + (nL1 + 11) + rm1.locals ≤ rm.locals) (hf : k + mc ≤ rm.cells ∧ n + ms ≤ rm.slots) (hW : (st.map fun v => v.category).sum ≤ 8) (kk : ∀ (r : Option Value) (h2 : Hp), P r h2 → VJ K (k + mc) (n + ms) h2 pc1 lv (r.toList ++ st)) : VJ K k n h pc lv st0 := by
  obtain ⟨p, l, e, R, s, m, args, below, meth, c, Q, nL, g, A⟩ := K
  obtain ⟨hx, hb, hml, hown, hts, hE, hA, hlk, rfl, rfl, rfl, rfl⟩ := X
  obtain ⟨hd, rfl⟩ := hd
  refine v_run hA (fun H locs ls h1 h2 h3 h4 => va_runS (As := av) (rest := st) ⟨hx, hb, hml, hown, hts⟩ (hM H.size) ⟨callB_of ar hts (gw_cons hs.2.2.2.1) rfl hrm.1 hrm.2 (hts _ hs.2.2.1) (hts _ hs.1) hs.2.2.2.2 hR, hts _ hs.2.1⟩ ⟨mc_blind, fun U hU hW => ⟨rfl, by rw [hU], by rw [hU]; exact h1, hE.go h3 (fun q hq => by
      rcases hq with hq | hq
      · exact h2 q hq
      · exact hA q (Nat.le_trans h3.1 hq)) hU hW⟩⟩ rfl har h4.1 hst (lv_room hW) hd hf) kk
theorem v_cSn (X : Cx K l0 g0 cc own nL0 rm) {y : MethodName} {cc1 : ByteArray} {nL1 ar idx : Nat} {ret1 : Option FieldType} {rm1 : Room} {P : Option Value → Hp → Prop} {mc ms : Nat} {av : List Value} (hs : SNs own idx y cc1 nL1 ret1 ar) (hM : MC l0 g0 y cc1 nL1 ret1 rm1 av h P mc ms) (hd : DD cc pc (.invokestatic idx) 3 pc1) (hst : st0 = av.reverse ++ st) (har : av.length = ar) (hrm : rm1.cells = mc ∧ rm1.slots = ms) (hR : rm1.frames + 1 ≤ rm.frames ∧ 8 + (nL1 + 11) + rm1.locals ≤ rm.locals) (hf : k + mc ≤ rm.cells ∧ n + ms ≤ rm.slots) (hW : (st.map fun v => v.category).sum ≤ 8) (kk : ∀ (r : Option Value) (h2 : Hp), P r h2 → VJ K (k + mc) (n + ms) h2 pc1 lv (r.toList ++ st)) : VJ K k n h pc lv st0 := by
  obtain ⟨p, l, e, R, s, m, args, below, meth, c, Q, nL, g, A⟩ := K
  obtain ⟨hx, hb, hml, hown, hts, hE, hA, hlk, rfl, rfl, rfl, rfl⟩ := X
  obtain ⟨hd, rfl⟩ := hd
  refine v_run hA (fun H locs ls h1 h2 h3 h4 => va_runSN (host := "LogRollers") (As := av) (rest := st) ⟨hx, hb, hml, hown, hts⟩ (hM H.size) ⟨va_cnB ar hts (gw_cons hs.2.2.2.1) rfl hrm.1 hrm.2 (hE.2.1 _ hs.1) (hts _ hs.2.2.1) hs.2.2.2.2 hR, hts _ hs.2.1, trivial⟩ ⟨mc_blind, fun U hU hW => ⟨rfl, by rw [hU], by rw [hU]; exact h1, hE.go h3 (fun q hq => by
      rcases hq with hq | hq
      · exact h2 q hq
      · exact hA q (Nat.le_trans h3.1 hq)) hU hW⟩⟩ rfl har h4.1 hst (lv_room hW) hd hf) kk
theorem v_cV (X : Cx K l0 g0 cc own nL0 rm) {y : MethodName} {cc1 : ByteArray} {nL1 ar idx : Nat} {ret1 : Option FieldType} {rm1 : Room} {P : Option Value → Hp → Prop} {mc ms : Nat} {av : List Value} {b ci : Nat} {T : u_T} {N : Nat} {fs : List Value} (hs : SV own idx y cc1 nL1 ret1 ar) (hM : MC l0 g0 y cc1 nL1 ret1 rm1 (.ref b :: av) h P mc ms) (hrc : h b = some (.inr (ci, fs))) (hci : vwCl[ci]? = some (y.cls, T, N)) (hd : DD cc pc (.invokevirtual idx) 3 pc1) (hst : st0 = av.reverse ++ .ref b :: st) (har : av.length = ar) (hrm : rm1.cells = mc ∧ rm1.slots = ms) (hR : rm1.frames + 1 ≤ rm.frames ∧ 8 + (nL1 + 11) + rm1.locals ≤ rm.locals) (hf : k + mc ≤ rm.cells ∧ n + ms ≤ rm.slots) (hW : (st.map fun v => v.category).sum ≤ 8) (kk : ∀ (r : Option Value) (h2 : Hp), P r h2 → VJ K (k + mc) (n + ms) h2 pc1 lv (r.toList ++ st)) : VJ K k n h pc lv st0 := by
  obtain ⟨p, l, e, R, s, m, args, below, meth, c, Q, nL, g, A⟩ := K
  obtain ⟨hx, hb, hml, hown, hts, hE, hA, hlk, rfl, rfl, rfl, rfl⟩ := X
  obtain ⟨hd, rfl⟩ := hd
  refine v_run hA (fun H locs ls h1 h2 h3 h4 => va_runV (C := y.cls) (As := av) (rest := st) ⟨hx, hb, hml, hown, hts⟩ (hM H.size) ⟨callB_of ar hts (gw_cons hs.2.2.2.2.1) rfl hrm.1 hrm.2 (hts _ hs.2.2.2.1) (hts _ hs.1) hs.2.2.2.2.2 hR, hts _ hs.2.1, hts _ hs.2.2.1⟩ ⟨mc_blind, va_recv hE.1 (h1.one hrc) (q := (y.cls, T, N)) (q0 := 0) hci rfl, fun U hU hW => ⟨rfl, by rw [hU], by rw [hU]; exact h1, hE.go h3 (fun q hq => by
      rcases hq with hq | hq
      · exact h2 q hq
      · exact hA q (Nat.le_trans h3.1 hq)) hU hW⟩⟩ rfl har h4.1 hst (lv_room hW) hd hf) kk
theorem v_cI (X : Cx K l0 g0 cc own nL0 rm) {y : MethodName} {cc1 : ByteArray} {nL1 ar idx : Nat} {rm1 : Room} {P : Option Value → Hp → Prop} {mc ms : Nat} {av : List Value} {b : Nat} (hs : SI own idx y cc1 nL1 ar) (hM : MC l0 g0 y cc1 nL1 none rm1 (.ref b :: av) h P mc ms) (hd : DD cc pc (.invokespecial idx) 3 pc1) (hst : st0 = av.reverse ++ .ref b :: st) (har : av.length = ar) (hrm : rm1.cells = mc ∧ rm1.slots = ms) (hR : rm1.frames + 1 ≤ rm.frames ∧ 8 + (nL1 + 11) + rm1.locals ≤ rm.locals) (hf : k + mc ≤ rm.cells ∧ n + ms ≤ rm.slots) (hW : (st.map fun v => v.category).sum ≤ 8) (kk : ∀ (r : Option Value) (h2 : Hp), P r h2 → VJ K (k + mc) (n + ms) h2 pc1 lv (r.toList ++ st)) : VJ K k n h pc lv st0 := by
  obtain ⟨p, l, e, R, s, m, args, below, meth, c, Q, nL, g, A⟩ := K
  obtain ⟨hx, hb, hml, hown, hts, hE, hA, hlk, rfl, rfl, rfl, rfl⟩ := X
  obtain ⟨hd, rfl⟩ := hd
  refine v_run hA (fun H locs ls h1 h2 h3 h4 => va_runI (As := av) (rest := st) ⟨hx, hb, hml, hown, hts⟩ (hM H.size) ⟨callB_of ar hts (gw_cons hs.2.2.2.2.1) rfl hrm.1 hrm.2 (hts _ hs.2.2.2.1) (hts _ hs.1) hs.2.2.2.2.2 hR, hs.2.2.1, hts _ hs.2.1⟩ ⟨mc_blind, fun U hU hW => ⟨rfl, by rw [hU], by rw [hU]; exact h1, hE.go h3 (fun q hq => by
      rcases hq with hq | hq
      · exact h2 q hq
      · exact hA q (Nat.le_trans h3.1 hq)) hU hW⟩⟩ rfl har h4.1 hst (lv_room hW) hd hf) kk
theorem v_cIn (X : Cx K l0 g0 cc own nL0 rm) {y : MethodName} {cc1 : ByteArray} {nL1 ar idx : Nat} {rm1 : Room} {P : Option Value → Hp → Prop} {mc ms : Nat} {av : List Value} {b : Nat} (hs : SIn own idx y cc1 nL1 ar) (hM : MC l0 g0 y cc1 nL1 none rm1 (.ref b :: av) h P mc ms) (hd : DD cc pc (.invokespecial idx) 3 pc1) (hst : st0 = av.reverse ++ .ref b :: st) (har : av.length = ar) (hrm : rm1.cells = mc ∧ rm1.slots = ms) (hR : rm1.frames + 1 ≤ rm.frames ∧ 8 + (nL1 + 11) + rm1.locals ≤ rm.locals) (hf : k + mc ≤ rm.cells ∧ n + ms ≤ rm.slots) (hW : (st.map fun v => v.category).sum ≤ 8) (kk : ∀ (r : Option Value) (h2 : Hp), P r h2 → VJ K (k + mc) (n + ms) h2 pc1 lv (r.toList ++ st)) : VJ K k n h pc lv st0 := by
  obtain ⟨p, l, e, R, s, m, args, below, meth, c, Q, nL, g, A⟩ := K
  obtain ⟨hx, hb, hml, hown, hts, hE, hA, hlk, rfl, rfl, rfl, rfl⟩ := X
  obtain ⟨hd, rfl⟩ := hd
  refine v_run hA (fun H locs ls h1 h2 h3 h4 => va_runIN (host := "LogRollers") (As := av) (rest := st) ⟨hx, hb, hml, hown, hts⟩ (hM H.size) ⟨va_cnB ar hts (gw_cons hs.2.2.2.2.1) rfl hrm.1 hrm.2 (hE.2.1 _ hs.1) (hts _ hs.2.2.2.1) hs.2.2.2.2.2 hR, hs.2.2.1, hts _ hs.2.1⟩ ⟨mc_blind, fun U hU hW => ⟨rfl, by rw [hU], by rw [hU]; exact h1, hE.go h3 (fun q hq => by
      rcases hq with hq | hq
      · exact h2 q hq
      · exact hA q (Nat.le_trans h3.1 hq)) hU hW⟩⟩ rfl har h4.1 hst (lv_room hW) hd hf) kk
theorem v_cSi (X : Cx K l0 g0 cc own nL0 rm) {y : MethodName} {cc1 : ByteArray} {nL1 ar idx : Nat} {ret1 : Option FieldType} {rm1 : Room} {h2 : Hp} {v : Int32} (av : List Value) (hs : SS own idx y cc1 nL1 ret1 ar) (hM : MF l0 g0 y cc1 nL1 ret1 rm1 av h (some (.int v)) h2) (hd : DD cc pc (.invokestatic idx) 3 pc1) (hst : st0 = av.reverse ++ st) (har : av.length = ar) (hrm : rm1.cells = 0 ∧ rm1.slots = 0) (hR : rm1.frames + 1 ≤ rm.frames ∧ 8 + (nL1 + 11) + rm1.locals ≤ rm.locals) (hf : k ≤ rm.cells ∧ n ≤ rm.slots) (hW : (st.map fun v => v.category).sum ≤ 8) (kk : VJ K k n h2 pc1 lv (.int v :: st)) : VJ K k n h pc lv st0 :=
  v_cS X hs hM hd hst har hrm hR hf hW (fun r hh q => by obtain ⟨rfl, rfl⟩ := q; exact kk)
theorem v_cSni (X : Cx K l0 g0 cc own nL0 rm) {y : MethodName} {cc1 : ByteArray} {nL1 ar idx : Nat} {ret1 : Option FieldType} {rm1 : Room} {h2 : Hp} {v : Int32} (av : List Value) (hs : SNs own idx y cc1 nL1 ret1 ar) (hM : MF l0 g0 y cc1 nL1 ret1 rm1 av h (some (.int v)) h2) (hd : DD cc pc (.invokestatic idx) 3 pc1) (hst : st0 = av.reverse ++ st) (har : av.length = ar) (hrm : rm1.cells = 0 ∧ rm1.slots = 0) (hR : rm1.frames + 1 ≤ rm.frames ∧ 8 + (nL1 + 11) + rm1.locals ≤ rm.locals) (hf : k ≤ rm.cells ∧ n ≤ rm.slots) (hW : (st.map fun v => v.category).sum ≤ 8) (kk : VJ K k n h2 pc1 lv (.int v :: st)) : VJ K k n h pc lv st0 :=
  v_cSn X hs hM hd hst har hrm hR hf hW (fun r hh q => by obtain ⟨rfl, rfl⟩ := q; exact kk)
theorem v_cVi (X : Cx K l0 g0 cc own nL0 rm) {y : MethodName} {cc1 : ByteArray} {nL1 ar idx : Nat} {ret1 : Option FieldType} {rm1 : Room} {h2 : Hp} {v : Int32} {b ci : Nat} {T : u_T} {N : Nat} {fs : List Value} (av : List Value) (hs : SV own idx y cc1 nL1 ret1 ar) (hM : MF l0 g0 y cc1 nL1 ret1 rm1 (.ref b :: av) h (some (.int v)) h2) (hrc : h b = some (.inr (ci, fs))) (hci : vwCl[ci]? = some (y.cls, T, N)) (hd : DD cc pc (.invokevirtual idx) 3 pc1) (hst : st0 = av.reverse ++ .ref b :: st) (har : av.length = ar) (hrm : rm1.cells = 0 ∧ rm1.slots = 0) (hR : rm1.frames + 1 ≤ rm.frames ∧ 8 + (nL1 + 11) + rm1.locals ≤ rm.locals) (hf : k ≤ rm.cells ∧ n ≤ rm.slots) (hW : (st.map fun v => v.category).sum ≤ 8) (kk : VJ K k n h2 pc1 lv (.int v :: st)) : VJ K k n h pc lv st0 :=
  v_cV X hs hM hrc hci hd hst har hrm hR hf hW (fun r hh q => by obtain ⟨rfl, rfl⟩ := q; exact kk)
theorem v_cSl (X : Cx K l0 g0 cc own nL0 rm) {y : MethodName} {cc1 : ByteArray} {nL1 ar idx : Nat} {ret1 : Option FieldType} {rm1 : Room} {h2 : Hp} {v : Int64} (av : List Value) (hs : SS own idx y cc1 nL1 ret1 ar) (hM : MF l0 g0 y cc1 nL1 ret1 rm1 av h (some (.long v)) h2) (hd : DD cc pc (.invokestatic idx) 3 pc1) (hst : st0 = av.reverse ++ st) (har : av.length = ar) (hrm : rm1.cells = 0 ∧ rm1.slots = 0) (hR : rm1.frames + 1 ≤ rm.frames ∧ 8 + (nL1 + 11) + rm1.locals ≤ rm.locals) (hf : k ≤ rm.cells ∧ n ≤ rm.slots) (hW : (st.map fun v => v.category).sum ≤ 8) (kk : VJ K k n h2 pc1 lv (.long v :: st)) : VJ K k n h pc lv st0 :=
  v_cS X hs hM hd hst har hrm hR hf hW (fun r hh q => by obtain ⟨rfl, rfl⟩ := q; exact kk)
theorem v_cSnl (X : Cx K l0 g0 cc own nL0 rm) {y : MethodName} {cc1 : ByteArray} {nL1 ar idx : Nat} {ret1 : Option FieldType} {rm1 : Room} {h2 : Hp} {v : Int64} (av : List Value) (hs : SNs own idx y cc1 nL1 ret1 ar) (hM : MF l0 g0 y cc1 nL1 ret1 rm1 av h (some (.long v)) h2) (hd : DD cc pc (.invokestatic idx) 3 pc1) (hst : st0 = av.reverse ++ st) (har : av.length = ar) (hrm : rm1.cells = 0 ∧ rm1.slots = 0) (hR : rm1.frames + 1 ≤ rm.frames ∧ 8 + (nL1 + 11) + rm1.locals ≤ rm.locals) (hf : k ≤ rm.cells ∧ n ≤ rm.slots) (hW : (st.map fun v => v.category).sum ≤ 8) (kk : VJ K k n h2 pc1 lv (.long v :: st)) : VJ K k n h pc lv st0 :=
  v_cSn X hs hM hd hst har hrm hR hf hW (fun r hh q => by obtain ⟨rfl, rfl⟩ := q; exact kk)
theorem v_cVl (X : Cx K l0 g0 cc own nL0 rm) {y : MethodName} {cc1 : ByteArray} {nL1 ar idx : Nat} {ret1 : Option FieldType} {rm1 : Room} {h2 : Hp} {v : Int64} {b ci : Nat} {T : u_T} {N : Nat} {fs : List Value} (av : List Value) (hs : SV own idx y cc1 nL1 ret1 ar) (hM : MF l0 g0 y cc1 nL1 ret1 rm1 (.ref b :: av) h (some (.long v)) h2) (hrc : h b = some (.inr (ci, fs))) (hci : vwCl[ci]? = some (y.cls, T, N)) (hd : DD cc pc (.invokevirtual idx) 3 pc1) (hst : st0 = av.reverse ++ .ref b :: st) (har : av.length = ar) (hrm : rm1.cells = 0 ∧ rm1.slots = 0) (hR : rm1.frames + 1 ≤ rm.frames ∧ 8 + (nL1 + 11) + rm1.locals ≤ rm.locals) (hf : k ≤ rm.cells ∧ n ≤ rm.slots) (hW : (st.map fun v => v.category).sum ≤ 8) (kk : VJ K k n h2 pc1 lv (.long v :: st)) : VJ K k n h pc lv st0 :=
  v_cV X hs hM hrc hci hd hst har hrm hR hf hW (fun r hh q => by obtain ⟨rfl, rfl⟩ := q; exact kk)
theorem v_cSr (X : Cx K l0 g0 cc own nL0 rm) {y : MethodName} {cc1 : ByteArray} {nL1 ar idx : Nat} {ret1 : Option FieldType} {rm1 : Room} {h2 : Hp} {v : Value} (av : List Value) (hs : SS own idx y cc1 nL1 ret1 ar) (hM : MF l0 g0 y cc1 nL1 ret1 rm1 av h (some (v)) h2) (hd : DD cc pc (.invokestatic idx) 3 pc1) (hst : st0 = av.reverse ++ st) (har : av.length = ar) (hrm : rm1.cells = 0 ∧ rm1.slots = 0) (hR : rm1.frames + 1 ≤ rm.frames ∧ 8 + (nL1 + 11) + rm1.locals ≤ rm.locals) (hf : k ≤ rm.cells ∧ n ≤ rm.slots) (hW : (st.map fun v => v.category).sum ≤ 8) (kk : VJ K k n h2 pc1 lv (v :: st)) : VJ K k n h pc lv st0 :=
  v_cS X hs hM hd hst har hrm hR hf hW (fun r hh q => by obtain ⟨rfl, rfl⟩ := q; exact kk)
theorem v_cSnr (X : Cx K l0 g0 cc own nL0 rm) {y : MethodName} {cc1 : ByteArray} {nL1 ar idx : Nat} {ret1 : Option FieldType} {rm1 : Room} {h2 : Hp} {v : Value} (av : List Value) (hs : SNs own idx y cc1 nL1 ret1 ar) (hM : MF l0 g0 y cc1 nL1 ret1 rm1 av h (some (v)) h2) (hd : DD cc pc (.invokestatic idx) 3 pc1) (hst : st0 = av.reverse ++ st) (har : av.length = ar) (hrm : rm1.cells = 0 ∧ rm1.slots = 0) (hR : rm1.frames + 1 ≤ rm.frames ∧ 8 + (nL1 + 11) + rm1.locals ≤ rm.locals) (hf : k ≤ rm.cells ∧ n ≤ rm.slots) (hW : (st.map fun v => v.category).sum ≤ 8) (kk : VJ K k n h2 pc1 lv (v :: st)) : VJ K k n h pc lv st0 :=
  v_cSn X hs hM hd hst har hrm hR hf hW (fun r hh q => by obtain ⟨rfl, rfl⟩ := q; exact kk)
theorem v_cVr (X : Cx K l0 g0 cc own nL0 rm) {y : MethodName} {cc1 : ByteArray} {nL1 ar idx : Nat} {ret1 : Option FieldType} {rm1 : Room} {h2 : Hp} {v : Value} {b ci : Nat} {T : u_T} {N : Nat} {fs : List Value} (av : List Value) (hs : SV own idx y cc1 nL1 ret1 ar) (hM : MF l0 g0 y cc1 nL1 ret1 rm1 (.ref b :: av) h (some (v)) h2) (hrc : h b = some (.inr (ci, fs))) (hci : vwCl[ci]? = some (y.cls, T, N)) (hd : DD cc pc (.invokevirtual idx) 3 pc1) (hst : st0 = av.reverse ++ .ref b :: st) (har : av.length = ar) (hrm : rm1.cells = 0 ∧ rm1.slots = 0) (hR : rm1.frames + 1 ≤ rm.frames ∧ 8 + (nL1 + 11) + rm1.locals ≤ rm.locals) (hf : k ≤ rm.cells ∧ n ≤ rm.slots) (hW : (st.map fun v => v.category).sum ≤ 8) (kk : VJ K k n h2 pc1 lv (v :: st)) : VJ K k n h pc lv st0 :=
  v_cV X hs hM hrc hci hd hst har hrm hR hf hW (fun r hh q => by obtain ⟨rfl, rfl⟩ := q; exact kk)
theorem v_cSv (X : Cx K l0 g0 cc own nL0 rm) {y : MethodName} {cc1 : ByteArray} {nL1 ar idx : Nat} {ret1 : Option FieldType} {rm1 : Room} {h2 : Hp} (av : List Value) (hs : SS own idx y cc1 nL1 ret1 ar) (hM : MF l0 g0 y cc1 nL1 ret1 rm1 av h none h2) (hd : DD cc pc (.invokestatic idx) 3 pc1) (hst : st0 = av.reverse ++ st) (har : av.length = ar) (hrm : rm1.cells = 0 ∧ rm1.slots = 0) (hR : rm1.frames + 1 ≤ rm.frames ∧ 8 + (nL1 + 11) + rm1.locals ≤ rm.locals) (hf : k ≤ rm.cells ∧ n ≤ rm.slots) (hW : (st.map fun v => v.category).sum ≤ 8) (kk : VJ K k n h2 pc1 lv (st)) : VJ K k n h pc lv st0 :=
  v_cS X hs hM hd hst har hrm hR hf hW (fun r hh q => by obtain ⟨rfl, rfl⟩ := q; exact kk)
theorem v_cSnv (X : Cx K l0 g0 cc own nL0 rm) {y : MethodName} {cc1 : ByteArray} {nL1 ar idx : Nat} {ret1 : Option FieldType} {rm1 : Room} {h2 : Hp} (av : List Value) (hs : SNs own idx y cc1 nL1 ret1 ar) (hM : MF l0 g0 y cc1 nL1 ret1 rm1 av h none h2) (hd : DD cc pc (.invokestatic idx) 3 pc1) (hst : st0 = av.reverse ++ st) (har : av.length = ar) (hrm : rm1.cells = 0 ∧ rm1.slots = 0) (hR : rm1.frames + 1 ≤ rm.frames ∧ 8 + (nL1 + 11) + rm1.locals ≤ rm.locals) (hf : k ≤ rm.cells ∧ n ≤ rm.slots) (hW : (st.map fun v => v.category).sum ≤ 8) (kk : VJ K k n h2 pc1 lv (st)) : VJ K k n h pc lv st0 :=
  v_cSn X hs hM hd hst har hrm hR hf hW (fun r hh q => by obtain ⟨rfl, rfl⟩ := q; exact kk)
theorem v_cVv (X : Cx K l0 g0 cc own nL0 rm) {y : MethodName} {cc1 : ByteArray} {nL1 ar idx : Nat} {ret1 : Option FieldType} {rm1 : Room} {h2 : Hp} {b ci : Nat} {T : u_T} {N : Nat} {fs : List Value} (av : List Value) (hs : SV own idx y cc1 nL1 ret1 ar) (hM : MF l0 g0 y cc1 nL1 ret1 rm1 (.ref b :: av) h none h2) (hrc : h b = some (.inr (ci, fs))) (hci : vwCl[ci]? = some (y.cls, T, N)) (hd : DD cc pc (.invokevirtual idx) 3 pc1) (hst : st0 = av.reverse ++ .ref b :: st) (har : av.length = ar) (hrm : rm1.cells = 0 ∧ rm1.slots = 0) (hR : rm1.frames + 1 ≤ rm.frames ∧ 8 + (nL1 + 11) + rm1.locals ≤ rm.locals) (hf : k ≤ rm.cells ∧ n ≤ rm.slots) (hW : (st.map fun v => v.category).sum ≤ 8) (kk : VJ K k n h2 pc1 lv (st)) : VJ K k n h pc lv st0 :=
  v_cV X hs hM hrc hci hd hst har hrm hR hf hW (fun r hh q => by obtain ⟨rfl, rfl⟩ := q; exact kk)
end VC
end
section
theorem u_X0 : ∀ w ∈ u_ws RX0 TX0 8, w ∈ GW := by
  have h : (u_ws RX0 TX0 8).all (fun w => decide (w ∈ lw_tbl) && goodWord w) = true := by decide +kernel
  intro w hw
  have h1 := List.all_eq_true.mp h w hw
  simp only [Bool.and_eq_true, decide_eq_true_eq] at h1
  exact gw_in h1.1 h1.2
theorem u_X1 : ∀ w ∈ u_ws RX1 TX1 7, w ∈ GW := by
  have h : (u_ws RX1 TX1 7).all (fun w => decide (w ∈ lw_tbl) && goodWord w) = true := by decide +kernel
  intro w hw
  have h1 := List.all_eq_true.mp h w hw
  simp only [Bool.and_eq_true, decide_eq_true_eq] at h1
  exact gw_in h1.1 h1.2
theorem u_X2 : ∀ w ∈ u_ws RX2 TX2 3, w ∈ GW := by
  have h : (u_ws RX2 TX2 3).all (fun w => decide (w ∈ lw_tbl) && goodWord w) = true := by decide +kernel
  intro w hw
  have h1 := List.all_eq_true.mp h w hw
  simp only [Bool.and_eq_true, decide_eq_true_eq] at h1
  exact gw_in h1.1 h1.2
theorem u_X3 : ∀ w ∈ u_ws RX3 TX3 5, w ∈ GW := by
  have h : (u_ws RX3 TX3 5).all (fun w => decide (w ∈ lw_tbl) && goodWord w) = true := by decide +kernel
  intro w hw
  have h1 := List.all_eq_true.mp h w hw
  simp only [Bool.and_eq_true, decide_eq_true_eq] at h1
  exact gw_in h1.1 h1.2
theorem u_X4 : ∀ w ∈ u_ws RX4 TX4 6, w ∈ GW := by
  have h : (u_ws RX4 TX4 6).all (fun w => decide (w ∈ lw_tbl) && goodWord w) = true := by decide +kernel
  intro w hw
  have h1 := List.all_eq_true.mp h w hw
  simp only [Bool.and_eq_true, decide_eq_true_eq] at h1
  exact gw_in h1.1 h1.2
theorem u_X5 : ∀ w ∈ u_ws RX5 TX5 5, w ∈ GW := by
  have h : (u_ws RX5 TX5 5).all (fun w => decide (w ∈ lw_tbl) && goodWord w) = true := by decide +kernel
  intro w hw
  have h1 := List.all_eq_true.mp h w hw
  simp only [Bool.and_eq_true, decide_eq_true_eq] at h1
  exact gw_in h1.1 h1.2
theorem u_X6 : ∀ w ∈ u_ws RX6 TX6 10, w ∈ GW := by
  have h : (u_ws RX6 TX6 10).all (fun w => decide (w ∈ lw_tbl) && goodWord w) = true := by decide +kernel
  intro w hw
  have h1 := List.all_eq_true.mp h w hw
  simp only [Bool.and_eq_true, decide_eq_true_eq] at h1
  exact gw_in h1.1 h1.2
theorem u_X7 : ∀ w ∈ u_ws RX7 TX7 8, w ∈ GW := by
  have h : (u_ws RX7 TX7 8).all (fun w => decide (w ∈ lw_tbl) && goodWord w) = true := by decide +kernel
  intro w hw
  have h1 := List.all_eq_true.mp h w hw
  simp only [Bool.and_eq_true, decide_eq_true_eq] at h1
  exact gw_in h1.1 h1.2
theorem u_X8 : ∀ w ∈ u_ws RX8 TX8 19, w ∈ GW := by
  have h : (u_ws RX8 TX8 19).all (fun w => decide (w ∈ lw_tbl) && goodWord w) = true := by decide +kernel
  intro w hw
  have h1 := List.all_eq_true.mp h w hw
  simp only [Bool.and_eq_true, decide_eq_true_eq] at h1
  exact gw_in h1.1 h1.2
theorem qi_L : Cond.initialized RL ∈ GW := gw_in (List.mem_of_getElem? (i := 38) (by decide +kernel)) rfl
theorem qi_X7 : Cond.initialized RX7 ∈ GW := gw_in (List.mem_of_getElem? (i := 39) (by decide +kernel)) rfl
theorem qi_X6 : Cond.initialized RX6 ∈ GW := gw_in (List.mem_of_getElem? (i := 40) (by decide +kernel)) rfl
theorem qi_X0 : Cond.initialized RX0 ∈ GW := gw_in (List.mem_of_getElem? (i := 41) (by decide +kernel)) rfl
theorem qi_X3 : Cond.initialized RX3 ∈ GW := gw_in (List.mem_of_getElem? (i := 42) (by decide +kernel)) rfl
theorem qi_X1 : Cond.initialized RX1 ∈ GW := gw_in (List.mem_of_getElem? (i := 43) (by decide +kernel)) rfl
theorem qi_X4 : Cond.initialized RX4 ∈ GW := gw_in (List.mem_of_getElem? (i := 44) (by decide +kernel)) rfl
theorem qi_X2 : Cond.initialized RX2 ∈ GW := gw_in (List.mem_of_getElem? (i := 45) (by decide +kernel)) rfl
theorem qi_X8 : Cond.initialized RX8 ∈ GW := gw_in (List.mem_of_getElem? (i := 46) (by decide +kernel)) rfl
theorem qi_J9 : Cond.initialized RJ9 ∈ GW := gw_in (List.mem_of_getElem? (i := 47) (by decide +kernel)) rfl
theorem qi_J6 : Cond.initialized RJ6 ∈ GW := gw_in (List.mem_of_getElem? (i := 48) (by decide +kernel)) rfl
theorem qi_X5 : Cond.initialized RX5 ∈ GW := gw_in (List.mem_of_getElem? (i := 49) (by decide +kernel)) rfl
theorem qi_J0 : Cond.initialized RJ0 ∈ GW := gw_in (List.mem_of_getElem? (i := 50) (by decide +kernel)) rfl
theorem qi_J1 : Cond.initialized RJ1 ∈ GW := gw_in (List.mem_of_getElem? (i := 51) (by decide +kernel)) rfl
theorem qi_J3 : Cond.initialized RJ3 ∈ GW := gw_in (List.mem_of_getElem? (i := 52) (by decide +kernel)) rfl
theorem qi_J2 : Cond.initialized RJ2 ∈ GW := gw_in (List.mem_of_getElem? (i := 53) (by decide +kernel)) rfl
theorem qi_J10 : Cond.initialized RJ10 ∈ GW := gw_in (List.mem_of_getElem? (i := 54) (by decide +kernel)) rfl
theorem qc_X7_init : Cond.code yX7_init cX7_init 2 none ∈ GW := gw_in (List.mem_of_getElem? (i := 59) (by decide +kernel)) rfl
theorem qn_X7_init : Cond.instanceMethod yX7_init ∈ GW := gw_in (List.mem_of_getElem? (i := 58) (by decide +kernel)) rfl
theorem qc_X6_init : Cond.code yX6_init cX6_init 2 none ∈ GW := gw_in (List.mem_of_getElem? (i := 67) (by decide +kernel)) rfl
theorem qn_X6_init : Cond.instanceMethod yX6_init ∈ GW := gw_in (List.mem_of_getElem? (i := 66) (by decide +kernel)) rfl
theorem qc_X0_init : Cond.code yX0_init cX0_init 3 none ∈ GW := gw_in (List.mem_of_getElem? (i := 86) (by decide +kernel)) rfl
theorem qn_X0_init : Cond.instanceMethod yX0_init ∈ GW := gw_in (List.mem_of_getElem? (i := 85) (by decide +kernel)) rfl
theorem qc_X3_init : Cond.code yX3_init cX3_init 1 none ∈ GW := gw_in (List.mem_of_getElem? (i := 92) (by decide +kernel)) rfl
theorem qn_X3_init : Cond.instanceMethod yX3_init ∈ GW := gw_in (List.mem_of_getElem? (i := 91) (by decide +kernel)) rfl
theorem qc_X1_init : Cond.code yX1_init cX1_init 1 none ∈ GW := gw_in (List.mem_of_getElem? (i := 150) (by decide +kernel)) rfl
theorem qn_X1_init : Cond.instanceMethod yX1_init ∈ GW := gw_in (List.mem_of_getElem? (i := 149) (by decide +kernel)) rfl
theorem qc_X4_init : Cond.code yX4_init cX4_init 1 none ∈ GW := gw_in (List.mem_of_getElem? (i := 234) (by decide +kernel)) rfl
theorem qn_X4_init : Cond.instanceMethod yX4_init ∈ GW := gw_in (List.mem_of_getElem? (i := 233) (by decide +kernel)) rfl
theorem qc_X2_init : Cond.code yX2_init cX2_init 1 none ∈ GW := gw_in (List.mem_of_getElem? (i := 262) (by decide +kernel)) rfl
theorem qn_X2_init : Cond.instanceMethod yX2_init ∈ GW := gw_in (List.mem_of_getElem? (i := 261) (by decide +kernel)) rfl
theorem qc_X7_roller : Cond.code yX7_roller cX7_roller 4 (some .int) ∈ GW := gw_in (List.mem_of_getElem? (i := 306) (by decide +kernel)) rfl
theorem qn_X7_roller : Cond.instanceMethod yX7_roller ∈ GW := gw_in (List.mem_of_getElem? (i := 304) (by decide +kernel)) rfl
theorem ql_X7_roller : Cond.selects yX7_roller.cls yX7_roller yX7_roller ∈ GW := gw_in (List.mem_of_getElem? (i := 305) (by decide +kernel)) rfl
theorem qc_X7_isKind : Cond.code yX7_isKind cX7_isKind 1 (some .boolean) ∈ GW := gw_in (List.mem_of_getElem? (i := 309) (by decide +kernel)) rfl
theorem qt_X7_isKind : Cond.static yX7_isKind ∈ GW := gw_in (List.mem_of_getElem? (i := 308) (by decide +kernel)) rfl
theorem qc_X7_within : Cond.code yX7_within cX7_within 3 (some .boolean) ∈ GW := gw_in (List.mem_of_getElem? (i := 312) (by decide +kernel)) rfl
theorem qt_X7_within : Cond.static yX7_within ∈ GW := gw_in (List.mem_of_getElem? (i := 311) (by decide +kernel)) rfl
theorem qc_X7_finding : Cond.code yX7_finding cX7_finding 3 (some .int) ∈ GW := gw_in (List.mem_of_getElem? (i := 317) (by decide +kernel)) rfl
theorem qn_X7_finding : Cond.instanceMethod yX7_finding ∈ GW := gw_in (List.mem_of_getElem? (i := 316) (by decide +kernel)) rfl
theorem ql_X7_finding : Cond.selects yX7_finding.cls yX7_finding yX7_finding ∈ GW := gw_in (List.mem_of_getElem? (i := 0) (by decide +kernel)) rfl
theorem qc_X1_begin : Cond.code yX1_begin cX1_begin 3 none ∈ GW := gw_in (List.mem_of_getElem? (i := 322) (by decide +kernel)) rfl
theorem qn_X1_begin : Cond.instanceMethod yX1_begin ∈ GW := gw_in (List.mem_of_getElem? (i := 320) (by decide +kernel)) rfl
theorem ql_X1_begin : Cond.selects yX1_begin.cls yX1_begin yX1_begin ∈ GW := gw_in (List.mem_of_getElem? (i := 321) (by decide +kernel)) rfl
theorem qc_X7_of : Cond.code yX7_of cX7_of 3 (some .int) ∈ GW := gw_in (List.mem_of_getElem? (i := 326) (by decide +kernel)) rfl
theorem qn_X7_of : Cond.instanceMethod yX7_of ∈ GW := gw_in (List.mem_of_getElem? (i := 324) (by decide +kernel)) rfl
theorem ql_X7_of : Cond.selects yX7_of.cls yX7_of yX7_of ∈ GW := gw_in (List.mem_of_getElem? (i := 325) (by decide +kernel)) rfl
theorem qc_X7_isPerson : Cond.code yX7_isPerson cX7_isPerson 2 (some .boolean) ∈ GW := gw_in (List.mem_of_getElem? (i := 330) (by decide +kernel)) rfl
theorem qn_X7_isPerson : Cond.instanceMethod yX7_isPerson ∈ GW := gw_in (List.mem_of_getElem? (i := 329) (by decide +kernel)) rfl
theorem ql_X7_isPerson : Cond.selects yX7_isPerson.cls yX7_isPerson yX7_isPerson ∈ GW := gw_in (List.mem_of_getElem? (i := 1) (by decide +kernel)) rfl
theorem qc_X1_trait : Cond.code yX1_trait cX1_trait 2 (some .int) ∈ GW := gw_in (List.mem_of_getElem? (i := 334) (by decide +kernel)) rfl
theorem qn_X1_trait : Cond.instanceMethod yX1_trait ∈ GW := gw_in (List.mem_of_getElem? (i := 332) (by decide +kernel)) rfl
theorem ql_X1_trait : Cond.selects yX1_trait.cls yX1_trait yX1_trait ∈ GW := gw_in (List.mem_of_getElem? (i := 333) (by decide +kernel)) rfl
theorem qc_X7_set : Cond.code yX7_set cX7_set 5 (some .int) ∈ GW := gw_in (List.mem_of_getElem? (i := 338) (by decide +kernel)) rfl
theorem qn_X7_set : Cond.instanceMethod yX7_set ∈ GW := gw_in (List.mem_of_getElem? (i := 336) (by decide +kernel)) rfl
theorem ql_X7_set : Cond.selects yX7_set.cls yX7_set yX7_set ∈ GW := gw_in (List.mem_of_getElem? (i := 337) (by decide +kernel)) rfl
theorem qc_X7_maySet : Cond.code yX7_maySet cX7_maySet 3 (some .boolean) ∈ GW := gw_in (List.mem_of_getElem? (i := 342) (by decide +kernel)) rfl
theorem qn_X7_maySet : Cond.instanceMethod yX7_maySet ∈ GW := gw_in (List.mem_of_getElem? (i := 341) (by decide +kernel)) rfl
theorem ql_X7_maySet : Cond.selects yX7_maySet.cls yX7_maySet yX7_maySet ∈ GW := gw_in (List.mem_of_getElem? (i := 2) (by decide +kernel)) rfl
theorem qc_X6_isOnLog : Cond.code yX6_isOnLog cX6_isOnLog 2 (some .boolean) ∈ GW := gw_in (List.mem_of_getElem? (i := 346) (by decide +kernel)) rfl
theorem qn_X6_isOnLog : Cond.instanceMethod yX6_isOnLog ∈ GW := gw_in (List.mem_of_getElem? (i := 344) (by decide +kernel)) rfl
theorem ql_X6_isOnLog : Cond.selects yX6_isOnLog.cls yX6_isOnLog yX6_isOnLog ∈ GW := gw_in (List.mem_of_getElem? (i := 345) (by decide +kernel)) rfl
theorem qc_X1_change : Cond.code yX1_change cX1_change 3 none ∈ GW := gw_in (List.mem_of_getElem? (i := 351) (by decide +kernel)) rfl
theorem qn_X1_change : Cond.instanceMethod yX1_change ∈ GW := gw_in (List.mem_of_getElem? (i := 349) (by decide +kernel)) rfl
theorem ql_X1_change : Cond.selects yX1_change.cls yX1_change yX1_change ∈ GW := gw_in (List.mem_of_getElem? (i := 350) (by decide +kernel)) rfl
theorem qc_X7_as : Cond.code yX7_as cX7_as 3 (some .int) ∈ GW := gw_in (List.mem_of_getElem? (i := 355) (by decide +kernel)) rfl
theorem qn_X7_as : Cond.instanceMethod yX7_as ∈ GW := gw_in (List.mem_of_getElem? (i := 353) (by decide +kernel)) rfl
theorem ql_X7_as : Cond.selects yX7_as.cls yX7_as yX7_as ∈ GW := gw_in (List.mem_of_getElem? (i := 354) (by decide +kernel)) rfl
theorem qc_X7_isUnder : Cond.code yX7_isUnder cX7_isUnder 4 (some .boolean) ∈ GW := gw_in (List.mem_of_getElem? (i := 358) (by decide +kernel)) rfl
theorem qt_X7_isUnder : Cond.static yX7_isUnder ∈ GW := gw_in (List.mem_of_getElem? (i := 357) (by decide +kernel)) rfl
theorem qc_X7_log : Cond.code yX7_log cX7_log 4 (some .int) ∈ GW := gw_in (List.mem_of_getElem? (i := 365) (by decide +kernel)) rfl
theorem qn_X7_log : Cond.instanceMethod yX7_log ∈ GW := gw_in (List.mem_of_getElem? (i := 363) (by decide +kernel)) rfl
theorem ql_X7_log : Cond.selects yX7_log.cls yX7_log yX7_log ∈ GW := gw_in (List.mem_of_getElem? (i := 364) (by decide +kernel)) rfl
theorem qc_X7_push : Cond.code yX7_push cX7_push 7 (some .int) ∈ GW := gw_in (List.mem_of_getElem? (i := 373) (by decide +kernel)) rfl
theorem qn_X7_push : Cond.instanceMethod yX7_push ∈ GW := gw_in (List.mem_of_getElem? (i := 371) (by decide +kernel)) rfl
theorem ql_X7_push : Cond.selects yX7_push.cls yX7_push yX7_push ∈ GW := gw_in (List.mem_of_getElem? (i := 372) (by decide +kernel)) rfl
theorem qc_X7_isSituation : Cond.code yX7_isSituation cX7_isSituation 4 (some .boolean) ∈ GW := gw_in (List.mem_of_getElem? (i := 376) (by decide +kernel)) rfl
theorem qt_X7_isSituation : Cond.static yX7_isSituation ∈ GW := gw_in (List.mem_of_getElem? (i := 375) (by decide +kernel)) rfl
theorem qc_X6_wayAt : Cond.code yX6_wayAt cX6_wayAt 2 (some (.object "LogRollers$Way")) ∈ GW := gw_in (List.mem_of_getElem? (i := 380) (by decide +kernel)) rfl
theorem qn_X6_wayAt : Cond.instanceMethod yX6_wayAt ∈ GW := gw_in (List.mem_of_getElem? (i := 378) (by decide +kernel)) rfl
theorem ql_X6_wayAt : Cond.selects yX6_wayAt.cls yX6_wayAt yX6_wayAt ∈ GW := gw_in (List.mem_of_getElem? (i := 379) (by decide +kernel)) rfl
theorem qc_X1_shove : Cond.code yX1_shove cX1_shove 6 (some .int) ∈ GW := gw_in (List.mem_of_getElem? (i := 385) (by decide +kernel)) rfl
theorem qn_X1_shove : Cond.instanceMethod yX1_shove ∈ GW := gw_in (List.mem_of_getElem? (i := 383) (by decide +kernel)) rfl
theorem ql_X1_shove : Cond.selects yX1_shove.cls yX1_shove yX1_shove ∈ GW := gw_in (List.mem_of_getElem? (i := 384) (by decide +kernel)) rfl
theorem qc_X7_atMost : Cond.code yX7_atMost cX7_atMost 2 (some .int) ∈ GW := gw_in (List.mem_of_getElem? (i := 388) (by decide +kernel)) rfl
theorem qt_X7_atMost : Cond.static yX7_atMost ∈ GW := gw_in (List.mem_of_getElem? (i := 387) (by decide +kernel)) rfl
theorem qc_X1_waiterShove : Cond.code yX1_waiterShove cX1_waiterShove 3 (some .int) ∈ GW := gw_in (List.mem_of_getElem? (i := 392) (by decide +kernel)) rfl
theorem qn_X1_waiterShove : Cond.instanceMethod yX1_waiterShove ∈ GW := gw_in (List.mem_of_getElem? (i := 391) (by decide +kernel)) rfl
theorem ql_X1_waiterShove : Cond.selects yX1_waiterShove.cls yX1_waiterShove yX1_waiterShove ∈ GW := gw_in (List.mem_of_getElem? (i := 3) (by decide +kernel)) rfl
theorem qc_X5_firstThat : Cond.code yX5_firstThat cX5_firstThat 9 (some .int) ∈ GW := gw_in (List.mem_of_getElem? (i := 396) (by decide +kernel)) rfl
theorem qn_X5_firstThat : Cond.instanceMethod yX5_firstThat ∈ GW := gw_in (List.mem_of_getElem? (i := 394) (by decide +kernel)) rfl
theorem ql_X5_firstThat : Cond.selects yX5_firstThat.cls yX5_firstThat yX5_firstThat ∈ GW := gw_in (List.mem_of_getElem? (i := 395) (by decide +kernel)) rfl
theorem qc_X5_deedOf : Cond.code yX5_deedOf cX5_deedOf 2 (some .int) ∈ GW := gw_in (List.mem_of_getElem? (i := 400) (by decide +kernel)) rfl
theorem qn_X5_deedOf : Cond.instanceMethod yX5_deedOf ∈ GW := gw_in (List.mem_of_getElem? (i := 398) (by decide +kernel)) rfl
theorem ql_X5_deedOf : Cond.selects yX5_deedOf.cls yX5_deedOf yX5_deedOf ∈ GW := gw_in (List.mem_of_getElem? (i := 399) (by decide +kernel)) rfl
theorem qc_X1_deedShove : Cond.code yX1_deedShove cX1_deedShove 4 (some .int) ∈ GW := gw_in (List.mem_of_getElem? (i := 405) (by decide +kernel)) rfl
theorem qn_X1_deedShove : Cond.instanceMethod yX1_deedShove ∈ GW := gw_in (List.mem_of_getElem? (i := 404) (by decide +kernel)) rfl
theorem ql_X1_deedShove : Cond.selects yX1_deedShove.cls yX1_deedShove yX1_deedShove ∈ GW := gw_in (List.mem_of_getElem? (i := 4) (by decide +kernel)) rfl
theorem qc_X7_mount : Cond.code yX7_mount cX7_mount 3 (some .int) ∈ GW := gw_in (List.mem_of_getElem? (i := 409) (by decide +kernel)) rfl
theorem qn_X7_mount : Cond.instanceMethod yX7_mount ∈ GW := gw_in (List.mem_of_getElem? (i := 407) (by decide +kernel)) rfl
theorem ql_X7_mount : Cond.selects yX7_mount.cls yX7_mount yX7_mount ∈ GW := gw_in (List.mem_of_getElem? (i := 408) (by decide +kernel)) rfl
theorem qc_X7_isPair : Cond.code yX7_isPair cX7_isPair 3 (some .boolean) ∈ GW := gw_in (List.mem_of_getElem? (i := 413) (by decide +kernel)) rfl
theorem qn_X7_isPair : Cond.instanceMethod yX7_isPair ∈ GW := gw_in (List.mem_of_getElem? (i := 412) (by decide +kernel)) rfl
theorem ql_X7_isPair : Cond.selects yX7_isPair.cls yX7_isPair yX7_isPair ∈ GW := gw_in (List.mem_of_getElem? (i := 5) (by decide +kernel)) rfl
theorem qc_X0_begin : Cond.code yX0_begin cX0_begin 3 none ∈ GW := gw_in (List.mem_of_getElem? (i := 417) (by decide +kernel)) rfl
theorem qn_X0_begin : Cond.instanceMethod yX0_begin ∈ GW := gw_in (List.mem_of_getElem? (i := 415) (by decide +kernel)) rfl
theorem ql_X0_begin : Cond.selects yX0_begin.cls yX0_begin yX0_begin ∈ GW := gw_in (List.mem_of_getElem? (i := 416) (by decide +kernel)) rfl
theorem qc_X3_begin : Cond.code yX3_begin cX3_begin 2 none ∈ GW := gw_in (List.mem_of_getElem? (i := 421) (by decide +kernel)) rfl
theorem qn_X3_begin : Cond.instanceMethod yX3_begin ∈ GW := gw_in (List.mem_of_getElem? (i := 419) (by decide +kernel)) rfl
theorem ql_X3_begin : Cond.selects yX3_begin.cls yX3_begin yX3_begin ∈ GW := gw_in (List.mem_of_getElem? (i := 420) (by decide +kernel)) rfl
theorem qc_X7_off : Cond.code yX7_off cX7_off 1 (some .int) ∈ GW := gw_in (List.mem_of_getElem? (i := 425) (by decide +kernel)) rfl
theorem qn_X7_off : Cond.instanceMethod yX7_off ∈ GW := gw_in (List.mem_of_getElem? (i := 423) (by decide +kernel)) rfl
theorem ql_X7_off : Cond.selects yX7_off.cls yX7_off yX7_off ∈ GW := gw_in (List.mem_of_getElem? (i := 424) (by decide +kernel)) rfl
theorem qc_X7_bout : Cond.code yX7_bout cX7_bout 5 (some .int) ∈ GW := gw_in (List.mem_of_getElem? (i := 429) (by decide +kernel)) rfl
theorem qn_X7_bout : Cond.instanceMethod yX7_bout ∈ GW := gw_in (List.mem_of_getElem? (i := 427) (by decide +kernel)) rfl
theorem ql_X7_bout : Cond.selects yX7_bout.cls yX7_bout yX7_bout ∈ GW := gw_in (List.mem_of_getElem? (i := 428) (by decide +kernel)) rfl
theorem qc_X0_go : Cond.code yX0_go cX0_go 6 (some .int) ∈ GW := gw_in (List.mem_of_getElem? (i := 433) (by decide +kernel)) rfl
theorem qn_X0_go : Cond.instanceMethod yX0_go ∈ GW := gw_in (List.mem_of_getElem? (i := 431) (by decide +kernel)) rfl
theorem ql_X0_go : Cond.selects yX0_go.cls yX0_go yX0_go ∈ GW := gw_in (List.mem_of_getElem? (i := 432) (by decide +kernel)) rfl
theorem qc_X0_tick : Cond.code yX0_tick cX0_tick 5 (some .int) ∈ GW := gw_in (List.mem_of_getElem? (i := 437) (by decide +kernel)) rfl
theorem qn_X0_tick : Cond.instanceMethod yX0_tick ∈ GW := gw_in (List.mem_of_getElem? (i := 435) (by decide +kernel)) rfl
theorem ql_X0_tick : Cond.selects yX0_tick.cls yX0_tick yX0_tick ∈ GW := gw_in (List.mem_of_getElem? (i := 436) (by decide +kernel)) rfl
theorem qc_X0_seenBy : Cond.code yX0_seenBy cX0_seenBy 3 (some .int) ∈ GW := gw_in (List.mem_of_getElem? (i := 441) (by decide +kernel)) rfl
theorem qn_X0_seenBy : Cond.instanceMethod yX0_seenBy ∈ GW := gw_in (List.mem_of_getElem? (i := 439) (by decide +kernel)) rfl
theorem ql_X0_seenBy : Cond.selects yX0_seenBy.cls yX0_seenBy yX0_seenBy ∈ GW := gw_in (List.mem_of_getElem? (i := 440) (by decide +kernel)) rfl
theorem qc_X0_nextShove : Cond.code yX0_nextShove cX0_nextShove 5 (some .int) ∈ GW := gw_in (List.mem_of_getElem? (i := 445) (by decide +kernel)) rfl
theorem qn_X0_nextShove : Cond.instanceMethod yX0_nextShove ∈ GW := gw_in (List.mem_of_getElem? (i := 443) (by decide +kernel)) rfl
theorem ql_X0_nextShove : Cond.selects yX0_nextShove.cls yX0_nextShove yX0_nextShove ∈ GW := gw_in (List.mem_of_getElem? (i := 444) (by decide +kernel)) rfl
theorem qc_X3_cost : Cond.code yX3_cost cX3_cost 1 (some .int) ∈ GW := gw_in (List.mem_of_getElem? (i := 450) (by decide +kernel)) rfl
theorem qt_X3_cost : Cond.static yX3_cost ∈ GW := gw_in (List.mem_of_getElem? (i := 449) (by decide +kernel)) rfl
theorem qc_J9_abs_0f7a4 : Cond.code yJ9_abs_0f7a4 cJ9_abs_0f7a4 1 (some .int) ∈ GW := gw_in (List.mem_of_getElem? (i := 453) (by decide +kernel)) rfl
theorem qt_J9_abs_0f7a4 : Cond.static yJ9_abs_0f7a4 ∈ GW := gw_in (List.mem_of_getElem? (i := 452) (by decide +kernel)) rfl
theorem qc_X3_decide : Cond.code yX3_decide cX3_decide 3 none ∈ GW := gw_in (List.mem_of_getElem? (i := 457) (by decide +kernel)) rfl
theorem qn_X3_decide : Cond.instanceMethod yX3_decide ∈ GW := gw_in (List.mem_of_getElem? (i := 455) (by decide +kernel)) rfl
theorem ql_X3_decide : Cond.selects yX3_decide.cls yX3_decide yX3_decide ∈ GW := gw_in (List.mem_of_getElem? (i := 456) (by decide +kernel)) rfl
theorem qc_X0_roll : Cond.code yX0_roll cX0_roll 4 none ∈ GW := gw_in (List.mem_of_getElem? (i := 462) (by decide +kernel)) rfl
theorem qn_X0_roll : Cond.instanceMethod yX0_roll ∈ GW := gw_in (List.mem_of_getElem? (i := 461) (by decide +kernel)) rfl
theorem ql_X0_roll : Cond.selects yX0_roll.cls yX0_roll yX0_roll ∈ GW := gw_in (List.mem_of_getElem? (i := 6) (by decide +kernel)) rfl
theorem qc_X0_stepUnlessSlipping : Cond.code yX0_stepUnlessSlipping cX0_stepUnlessSlipping 3 none ∈ GW := gw_in (List.mem_of_getElem? (i := 466) (by decide +kernel)) rfl
theorem qn_X0_stepUnlessSlipping : Cond.instanceMethod yX0_stepUnlessSlipping ∈ GW := gw_in (List.mem_of_getElem? (i := 465) (by decide +kernel)) rfl
theorem ql_X0_stepUnlessSlipping : Cond.selects yX0_stepUnlessSlipping.cls yX0_stepUnlessSlipping yX0_stepUnlessSlipping ∈ GW := gw_in (List.mem_of_getElem? (i := 7) (by decide +kernel)) rfl
theorem qc_X3_step : Cond.code yX3_step cX3_step 2 none ∈ GW := gw_in (List.mem_of_getElem? (i := 471) (by decide +kernel)) rfl
theorem qn_X3_step : Cond.instanceMethod yX3_step ∈ GW := gw_in (List.mem_of_getElem? (i := 469) (by decide +kernel)) rfl
theorem ql_X3_step : Cond.selects yX3_step.cls yX3_step yX3_step ∈ GW := gw_in (List.mem_of_getElem? (i := 470) (by decide +kernel)) rfl
theorem qc_X3_sway : Cond.code yX3_sway cX3_sway 2 none ∈ GW := gw_in (List.mem_of_getElem? (i := 476) (by decide +kernel)) rfl
theorem qn_X3_sway : Cond.instanceMethod yX3_sway ∈ GW := gw_in (List.mem_of_getElem? (i := 474) (by decide +kernel)) rfl
theorem ql_X3_sway : Cond.selects yX3_sway.cls yX3_sway yX3_sway ∈ GW := gw_in (List.mem_of_getElem? (i := 475) (by decide +kernel)) rfl
theorem qc_X7_endBout : Cond.code yX7_endBout cX7_endBout 4 none ∈ GW := gw_in (List.mem_of_getElem? (i := 481) (by decide +kernel)) rfl
theorem qn_X7_endBout : Cond.instanceMethod yX7_endBout ∈ GW := gw_in (List.mem_of_getElem? (i := 480) (by decide +kernel)) rfl
theorem ql_X7_endBout : Cond.selects yX7_endBout.cls yX7_endBout yX7_endBout ∈ GW := gw_in (List.mem_of_getElem? (i := 8) (by decide +kernel)) rfl
theorem qc_X7_stands : Cond.code yX7_stands cX7_stands 6 (some .int) ∈ GW := gw_in (List.mem_of_getElem? (i := 485) (by decide +kernel)) rfl
theorem qn_X7_stands : Cond.instanceMethod yX7_stands ∈ GW := gw_in (List.mem_of_getElem? (i := 483) (by decide +kernel)) rfl
theorem ql_X7_stands : Cond.selects yX7_stands.cls yX7_stands yX7_stands ∈ GW := gw_in (List.mem_of_getElem? (i := 484) (by decide +kernel)) rfl
theorem qc_X7_now : Cond.code yX7_now cX7_now 2 (some .int) ∈ GW := gw_in (List.mem_of_getElem? (i := 491) (by decide +kernel)) rfl
theorem qn_X7_now : Cond.instanceMethod yX7_now ∈ GW := gw_in (List.mem_of_getElem? (i := 489) (by decide +kernel)) rfl
theorem ql_X7_now : Cond.selects yX7_now.cls yX7_now yX7_now ∈ GW := gw_in (List.mem_of_getElem? (i := 490) (by decide +kernel)) rfl
theorem qc_X7_seed : Cond.code yX7_seed cX7_seed 3 (some .int) ∈ GW := gw_in (List.mem_of_getElem? (i := 495) (by decide +kernel)) rfl
theorem qn_X7_seed : Cond.instanceMethod yX7_seed ∈ GW := gw_in (List.mem_of_getElem? (i := 493) (by decide +kernel)) rfl
theorem ql_X7_seed : Cond.selects yX7_seed.cls yX7_seed yX7_seed ∈ GW := gw_in (List.mem_of_getElem? (i := 494) (by decide +kernel)) rfl
theorem qc_X7_ahead : Cond.code yX7_ahead cX7_ahead 6 (some .int) ∈ GW := gw_in (List.mem_of_getElem? (i := 499) (by decide +kernel)) rfl
theorem qn_X7_ahead : Cond.instanceMethod yX7_ahead ∈ GW := gw_in (List.mem_of_getElem? (i := 497) (by decide +kernel)) rfl
theorem ql_X7_ahead : Cond.selects yX7_ahead.cls yX7_ahead yX7_ahead ∈ GW := gw_in (List.mem_of_getElem? (i := 498) (by decide +kernel)) rfl
theorem qc_X7_startAhead : Cond.code yX7_startAhead cX7_startAhead 3 none ∈ GW := gw_in (List.mem_of_getElem? (i := 503) (by decide +kernel)) rfl
theorem qn_X7_startAhead : Cond.instanceMethod yX7_startAhead ∈ GW := gw_in (List.mem_of_getElem? (i := 502) (by decide +kernel)) rfl
theorem ql_X7_startAhead : Cond.selects yX7_startAhead.cls yX7_startAhead yX7_startAhead ∈ GW := gw_in (List.mem_of_getElem? (i := 9) (by decide +kernel)) rfl
theorem qc_X7_best : Cond.code yX7_best cX7_best 8 (some .int) ∈ GW := gw_in (List.mem_of_getElem? (i := 507) (by decide +kernel)) rfl
theorem qn_X7_best : Cond.instanceMethod yX7_best ∈ GW := gw_in (List.mem_of_getElem? (i := 505) (by decide +kernel)) rfl
theorem ql_X7_best : Cond.selects yX7_best.cls yX7_best yX7_best ∈ GW := gw_in (List.mem_of_getElem? (i := 506) (by decide +kernel)) rfl
theorem qc_X1_takeFrom : Cond.code yX1_takeFrom cX1_takeFrom 2 none ∈ GW := gw_in (List.mem_of_getElem? (i := 511) (by decide +kernel)) rfl
theorem qn_X1_takeFrom : Cond.instanceMethod yX1_takeFrom ∈ GW := gw_in (List.mem_of_getElem? (i := 509) (by decide +kernel)) rfl
theorem ql_X1_takeFrom : Cond.selects yX1_takeFrom.cls yX1_takeFrom yX1_takeFrom ∈ GW := gw_in (List.mem_of_getElem? (i := 510) (by decide +kernel)) rfl
theorem qc_X7_light : Cond.code yX7_light cX7_light 5 (some .int) ∈ GW := gw_in (List.mem_of_getElem? (i := 516) (by decide +kernel)) rfl
theorem qn_X7_light : Cond.instanceMethod yX7_light ∈ GW := gw_in (List.mem_of_getElem? (i := 514) (by decide +kernel)) rfl
theorem ql_X7_light : Cond.selects yX7_light.cls yX7_light yX7_light ∈ GW := gw_in (List.mem_of_getElem? (i := 515) (by decide +kernel)) rfl
theorem qc_X7_late : Cond.code yX7_late cX7_late 6 (some .int) ∈ GW := gw_in (List.mem_of_getElem? (i := 520) (by decide +kernel)) rfl
theorem qn_X7_late : Cond.instanceMethod yX7_late ∈ GW := gw_in (List.mem_of_getElem? (i := 518) (by decide +kernel)) rfl
theorem ql_X7_late : Cond.selects yX7_late.cls yX7_late yX7_late ∈ GW := gw_in (List.mem_of_getElem? (i := 519) (by decide +kernel)) rfl
theorem qc_X7_swing : Cond.code yX7_swing cX7_swing 11 (some .int) ∈ GW := gw_in (List.mem_of_getElem? (i := 524) (by decide +kernel)) rfl
theorem qn_X7_swing : Cond.instanceMethod yX7_swing ∈ GW := gw_in (List.mem_of_getElem? (i := 522) (by decide +kernel)) rfl
theorem ql_X7_swing : Cond.selects yX7_swing.cls yX7_swing yX7_swing ∈ GW := gw_in (List.mem_of_getElem? (i := 523) (by decide +kernel)) rfl
theorem qc_J9_max_7cf53 : Cond.code yJ9_max_7cf53 cJ9_max_7cf53 2 (some .int) ∈ GW := gw_in (List.mem_of_getElem? (i := 529) (by decide +kernel)) rfl
theorem qt_J9_max_7cf53 : Cond.static yJ9_max_7cf53 ∈ GW := gw_in (List.mem_of_getElem? (i := 528) (by decide +kernel)) rfl
theorem qc_X7_beats : Cond.code yX7_beats cX7_beats 3 (some .int) ∈ GW := gw_in (List.mem_of_getElem? (i := 533) (by decide +kernel)) rfl
theorem qn_X7_beats : Cond.instanceMethod yX7_beats ∈ GW := gw_in (List.mem_of_getElem? (i := 531) (by decide +kernel)) rfl
theorem ql_X7_beats : Cond.selects yX7_beats.cls yX7_beats yX7_beats ∈ GW := gw_in (List.mem_of_getElem? (i := 532) (by decide +kernel)) rfl
theorem qc_X7_beatenBy : Cond.code yX7_beatenBy cX7_beatenBy 7 (some .int) ∈ GW := gw_in (List.mem_of_getElem? (i := 537) (by decide +kernel)) rfl
theorem qn_X7_beatenBy : Cond.instanceMethod yX7_beatenBy ∈ GW := gw_in (List.mem_of_getElem? (i := 536) (by decide +kernel)) rfl
theorem ql_X7_beatenBy : Cond.selects yX7_beatenBy.cls yX7_beatenBy yX7_beatenBy ∈ GW := gw_in (List.mem_of_getElem? (i := 10) (by decide +kernel)) rfl
theorem qc_X7_five : Cond.code yX7_five cX7_five 8 (some .int) ∈ GW := gw_in (List.mem_of_getElem? (i := 541) (by decide +kernel)) rfl
theorem qn_X7_five : Cond.instanceMethod yX7_five ∈ GW := gw_in (List.mem_of_getElem? (i := 539) (by decide +kernel)) rfl
theorem ql_X7_five : Cond.selects yX7_five.cls yX7_five yX7_five ∈ GW := gw_in (List.mem_of_getElem? (i := 540) (by decide +kernel)) rfl
theorem qc_X7_champion : Cond.code yX7_champion cX7_champion 6 (some .int) ∈ GW := gw_in (List.mem_of_getElem? (i := 545) (by decide +kernel)) rfl
theorem qn_X7_champion : Cond.instanceMethod yX7_champion ∈ GW := gw_in (List.mem_of_getElem? (i := 543) (by decide +kernel)) rfl
theorem ql_X7_champion : Cond.selects yX7_champion.cls yX7_champion yX7_champion ∈ GW := gw_in (List.mem_of_getElem? (i := 544) (by decide +kernel)) rfl
theorem qc_J6_bitCount_0f7a4 : Cond.code yJ6_bitCount_0f7a4 cJ6_bitCount_0f7a4 1 (some .int) ∈ GW := gw_in (List.mem_of_getElem? (i := 548) (by decide +kernel)) rfl
theorem qt_J6_bitCount_0f7a4 : Cond.static yJ6_bitCount_0f7a4 ∈ GW := gw_in (List.mem_of_getElem? (i := 547) (by decide +kernel)) rfl
theorem qc_X7_feed : Cond.code yX7_feed cX7_feed 4 (some .int) ∈ GW := gw_in (List.mem_of_getElem? (i := 555) (by decide +kernel)) rfl
theorem qn_X7_feed : Cond.instanceMethod yX7_feed ∈ GW := gw_in (List.mem_of_getElem? (i := 553) (by decide +kernel)) rfl
theorem ql_X7_feed : Cond.selects yX7_feed.cls yX7_feed yX7_feed ∈ GW := gw_in (List.mem_of_getElem? (i := 554) (by decide +kernel)) rfl
theorem qc_X4_addByte : Cond.code yX4_addByte cX4_addByte 2 none ∈ GW := gw_in (List.mem_of_getElem? (i := 559) (by decide +kernel)) rfl
theorem qn_X4_addByte : Cond.instanceMethod yX4_addByte ∈ GW := gw_in (List.mem_of_getElem? (i := 557) (by decide +kernel)) rfl
theorem ql_X4_addByte : Cond.selects yX4_addByte.cls yX4_addByte yX4_addByte ∈ GW := gw_in (List.mem_of_getElem? (i := 558) (by decide +kernel)) rfl
theorem qc_X7_wipe : Cond.code yX7_wipe cX7_wipe 2 (some .int) ∈ GW := gw_in (List.mem_of_getElem? (i := 563) (by decide +kernel)) rfl
theorem qn_X7_wipe : Cond.instanceMethod yX7_wipe ∈ GW := gw_in (List.mem_of_getElem? (i := 561) (by decide +kernel)) rfl
theorem ql_X7_wipe : Cond.selects yX7_wipe.cls yX7_wipe yX7_wipe ∈ GW := gw_in (List.mem_of_getElem? (i := 562) (by decide +kernel)) rfl
theorem qc_X7_way : Cond.code yX7_way cX7_way 3 (some .int) ∈ GW := gw_in (List.mem_of_getElem? (i := 567) (by decide +kernel)) rfl
theorem qn_X7_way : Cond.instanceMethod yX7_way ∈ GW := gw_in (List.mem_of_getElem? (i := 565) (by decide +kernel)) rfl
theorem ql_X7_way : Cond.selects yX7_way.cls yX7_way yX7_way ∈ GW := gw_in (List.mem_of_getElem? (i := 566) (by decide +kernel)) rfl
theorem qc_X4_toWay : Cond.code yX4_toWay cX4_toWay 3 (some (.object "LogRollers$Way")) ∈ GW := gw_in (List.mem_of_getElem? (i := 571) (by decide +kernel)) rfl
theorem qn_X4_toWay : Cond.instanceMethod yX4_toWay ∈ GW := gw_in (List.mem_of_getElem? (i := 569) (by decide +kernel)) rfl
theorem ql_X4_toWay : Cond.selects yX4_toWay.cls yX4_toWay yX4_toWay ∈ GW := gw_in (List.mem_of_getElem? (i := 570) (by decide +kernel)) rfl
theorem qc_X5_init : Cond.code yX5_init cX5_init 1 none ∈ GW := gw_in (List.mem_of_getElem? (i := 576) (by decide +kernel)) rfl
theorem qn_X5_init : Cond.instanceMethod yX5_init ∈ GW := gw_in (List.mem_of_getElem? (i := 575) (by decide +kernel)) rfl
theorem qc_X4_nextToken : Cond.code yX4_nextToken cX4_nextToken 1 none ∈ GW := gw_in (List.mem_of_getElem? (i := 598) (by decide +kernel)) rfl
theorem qn_X4_nextToken : Cond.instanceMethod yX4_nextToken ∈ GW := gw_in (List.mem_of_getElem? (i := 597) (by decide +kernel)) rfl
theorem ql_X4_nextToken : Cond.selects yX4_nextToken.cls yX4_nextToken yX4_nextToken ∈ GW := gw_in (List.mem_of_getElem? (i := 11) (by decide +kernel)) rfl
theorem qc_X4_isLetter : Cond.code yX4_isLetter cX4_isLetter 1 (some .boolean) ∈ GW := gw_in (List.mem_of_getElem? (i := 601) (by decide +kernel)) rfl
theorem qt_X4_isLetter : Cond.static yX4_isLetter ∈ GW := gw_in (List.mem_of_getElem? (i := 600) (by decide +kernel)) rfl
theorem qc_X4_takeWord : Cond.code yX4_takeWord cX4_takeWord 1 none ∈ GW := gw_in (List.mem_of_getElem? (i := 605) (by decide +kernel)) rfl
theorem qn_X4_takeWord : Cond.instanceMethod yX4_takeWord ∈ GW := gw_in (List.mem_of_getElem? (i := 604) (by decide +kernel)) rfl
theorem ql_X4_takeWord : Cond.selects yX4_takeWord.cls yX4_takeWord yX4_takeWord ∈ GW := gw_in (List.mem_of_getElem? (i := 12) (by decide +kernel)) rfl
theorem qc_X4_isDigit : Cond.code yX4_isDigit cX4_isDigit 1 (some .boolean) ∈ GW := gw_in (List.mem_of_getElem? (i := 608) (by decide +kernel)) rfl
theorem qt_X4_isDigit : Cond.static yX4_isDigit ∈ GW := gw_in (List.mem_of_getElem? (i := 607) (by decide +kernel)) rfl
theorem qc_X4_takeNumber : Cond.code yX4_takeNumber cX4_takeNumber 2 none ∈ GW := gw_in (List.mem_of_getElem? (i := 612) (by decide +kernel)) rfl
theorem qn_X4_takeNumber : Cond.instanceMethod yX4_takeNumber ∈ GW := gw_in (List.mem_of_getElem? (i := 611) (by decide +kernel)) rfl
theorem ql_X4_takeNumber : Cond.selects yX4_takeNumber.cls yX4_takeNumber yX4_takeNumber ∈ GW := gw_in (List.mem_of_getElem? (i := 13) (by decide +kernel)) rfl
theorem qc_J9_min_7cf53 : Cond.code yJ9_min_7cf53 cJ9_min_7cf53 2 (some .int) ∈ GW := gw_in (List.mem_of_getElem? (i := 615) (by decide +kernel)) rfl
theorem qt_J9_min_7cf53 : Cond.static yJ9_min_7cf53 ∈ GW := gw_in (List.mem_of_getElem? (i := 614) (by decide +kernel)) rfl
theorem qc_X4_isSign : Cond.code yX4_isSign cX4_isSign 1 (some .boolean) ∈ GW := gw_in (List.mem_of_getElem? (i := 618) (by decide +kernel)) rfl
theorem qt_X4_isSign : Cond.static yX4_isSign ∈ GW := gw_in (List.mem_of_getElem? (i := 617) (by decide +kernel)) rfl
theorem qc_X4_takeRule : Cond.code yX4_takeRule cX4_takeRule 6 (some .boolean) ∈ GW := gw_in (List.mem_of_getElem? (i := 622) (by decide +kernel)) rfl
theorem qn_X4_takeRule : Cond.instanceMethod yX4_takeRule ∈ GW := gw_in (List.mem_of_getElem? (i := 621) (by decide +kernel)) rfl
theorem ql_X4_takeRule : Cond.selects yX4_takeRule.cls yX4_takeRule yX4_takeRule ∈ GW := gw_in (List.mem_of_getElem? (i := 14) (by decide +kernel)) rfl
theorem qc_X4_nameHere : Cond.code yX4_nameHere cX4_nameHere 1 (some .int) ∈ GW := gw_in (List.mem_of_getElem? (i := 626) (by decide +kernel)) rfl
theorem qn_X4_nameHere : Cond.instanceMethod yX4_nameHere ∈ GW := gw_in (List.mem_of_getElem? (i := 625) (by decide +kernel)) rfl
theorem ql_X4_nameHere : Cond.selects yX4_nameHere.cls yX4_nameHere yX4_nameHere ∈ GW := gw_in (List.mem_of_getElem? (i := 15) (by decide +kernel)) rfl
theorem qc_X4_isWord : Cond.code yX4_isWord cX4_isWord 3 (some .boolean) ∈ GW := gw_in (List.mem_of_getElem? (i := 631) (by decide +kernel)) rfl
theorem qn_X4_isWord : Cond.instanceMethod yX4_isWord ∈ GW := gw_in (List.mem_of_getElem? (i := 630) (by decide +kernel)) rfl
theorem ql_X4_isWord : Cond.selects yX4_isWord.cls yX4_isWord yX4_isWord ∈ GW := gw_in (List.mem_of_getElem? (i := 16) (by decide +kernel)) rfl
theorem qc_J0_length_8abf5 : Cond.code yJ0_length_8abf5 cJ0_length_8abf5 1 (some .int) ∈ GW := gw_in (List.mem_of_getElem? (i := 635) (by decide +kernel)) rfl
theorem qn_J0_length_8abf5 : Cond.instanceMethod yJ0_length_8abf5 ∈ GW := gw_in (List.mem_of_getElem? (i := 633) (by decide +kernel)) rfl
theorem ql_J0_length_8abf5 : Cond.selects yJ0_length_8abf5.cls yJ0_length_8abf5 yJ0_length_8abf5 ∈ GW := gw_in (List.mem_of_getElem? (i := 634) (by decide +kernel)) rfl
theorem qc_J0_coder_7d493 : Cond.code yJ0_coder_7d493 cJ0_coder_7d493 1 (some .byte) ∈ GW := gw_in (List.mem_of_getElem? (i := 639) (by decide +kernel)) rfl
theorem qn_J0_coder_7d493 : Cond.instanceMethod yJ0_coder_7d493 ∈ GW := gw_in (List.mem_of_getElem? (i := 637) (by decide +kernel)) rfl
theorem ql_J0_coder_7d493 : Cond.selects yJ0_coder_7d493.cls yJ0_coder_7d493 yJ0_coder_7d493 ∈ GW := gw_in (List.mem_of_getElem? (i := 638) (by decide +kernel)) rfl
theorem qc_J0_charAt_5068e : Cond.code yJ0_charAt_5068e cJ0_charAt_5068e 2 (some .char) ∈ GW := gw_in (List.mem_of_getElem? (i := 645) (by decide +kernel)) rfl
theorem qn_J0_charAt_5068e : Cond.instanceMethod yJ0_charAt_5068e ∈ GW := gw_in (List.mem_of_getElem? (i := 643) (by decide +kernel)) rfl
theorem ql_J0_charAt_5068e : Cond.selects yJ0_charAt_5068e.cls yJ0_charAt_5068e yJ0_charAt_5068e ∈ GW := gw_in (List.mem_of_getElem? (i := 644) (by decide +kernel)) rfl
theorem qc_J0_isLatin1_aae02 : Cond.code yJ0_isLatin1_aae02 cJ0_isLatin1_aae02 1 (some .boolean) ∈ GW := gw_in (List.mem_of_getElem? (i := 649) (by decide +kernel)) rfl
theorem qn_J0_isLatin1_aae02 : Cond.instanceMethod yJ0_isLatin1_aae02 ∈ GW := gw_in (List.mem_of_getElem? (i := 647) (by decide +kernel)) rfl
theorem ql_J0_isLatin1_aae02 : Cond.selects yJ0_isLatin1_aae02.cls yJ0_isLatin1_aae02 yJ0_isLatin1_aae02 ∈ GW := gw_in (List.mem_of_getElem? (i := 648) (by decide +kernel)) rfl
theorem qc_J1_charAt_3b067 : Cond.code yJ1_charAt_3b067 cJ1_charAt_3b067 2 (some .char) ∈ GW := gw_in (List.mem_of_getElem? (i := 652) (by decide +kernel)) rfl
theorem qt_J1_charAt_3b067 : Cond.static yJ1_charAt_3b067 ∈ GW := gw_in (List.mem_of_getElem? (i := 651) (by decide +kernel)) rfl
theorem qc_J0_checkIndex_df160 : Cond.code yJ0_checkIndex_df160 cJ0_checkIndex_df160 2 none ∈ GW := gw_in (List.mem_of_getElem? (i := 655) (by decide +kernel)) rfl
theorem qt_J0_checkIndex_df160 : Cond.static yJ0_checkIndex_df160 ∈ GW := gw_in (List.mem_of_getElem? (i := 654) (by decide +kernel)) rfl
theorem qc_J3_checkIndex_8e157 : Cond.code yJ3_checkIndex_8e157 cJ3_checkIndex_8e157 3 (some .int) ∈ GW := gw_in (List.mem_of_getElem? (i := 660) (by decide +kernel)) rfl
theorem qt_J3_checkIndex_8e157 : Cond.static yJ3_checkIndex_8e157 ∈ GW := gw_in (List.mem_of_getElem? (i := 659) (by decide +kernel)) rfl
theorem qc_J2_charAt_3b067 : Cond.code yJ2_charAt_3b067 cJ2_charAt_3b067 2 (some .char) ∈ GW := gw_in (List.mem_of_getElem? (i := 663) (by decide +kernel)) rfl
theorem qt_J2_charAt_3b067 : Cond.static yJ2_charAt_3b067 ∈ GW := gw_in (List.mem_of_getElem? (i := 662) (by decide +kernel)) rfl
theorem qc_J2_checkIndex_2214a : Cond.code yJ2_checkIndex_2214a cJ2_checkIndex_2214a 2 none ∈ GW := gw_in (List.mem_of_getElem? (i := 666) (by decide +kernel)) rfl
theorem qt_J2_checkIndex_2214a : Cond.static yJ2_checkIndex_2214a ∈ GW := gw_in (List.mem_of_getElem? (i := 665) (by decide +kernel)) rfl
theorem qc_J2_length_9d52b : Cond.code yJ2_length_9d52b cJ2_length_9d52b 1 (some .int) ∈ GW := gw_in (List.mem_of_getElem? (i := 669) (by decide +kernel)) rfl
theorem qt_J2_length_9d52b : Cond.static yJ2_length_9d52b ∈ GW := gw_in (List.mem_of_getElem? (i := 668) (by decide +kernel)) rfl
theorem qc_J2_getChar_3b067 : Cond.code yJ2_getChar_3b067 cJ2_getChar_3b067 2 (some .char) ∈ GW := gw_in (List.mem_of_getElem? (i := 673) (by decide +kernel)) rfl
theorem qt_J2_getChar_3b067 : Cond.static yJ2_getChar_3b067 ∈ GW := gw_in (List.mem_of_getElem? (i := 672) (by decide +kernel)) rfl
theorem qc_X4_takeComparison : Cond.code yX4_takeComparison cX4_takeComparison 3 (some .boolean) ∈ GW := gw_in (List.mem_of_getElem? (i := 687) (by decide +kernel)) rfl
theorem qn_X4_takeComparison : Cond.instanceMethod yX4_takeComparison ∈ GW := gw_in (List.mem_of_getElem? (i := 686) (by decide +kernel)) rfl
theorem ql_X4_takeComparison : Cond.selects yX4_takeComparison.cls yX4_takeComparison yX4_takeComparison ∈ GW := gw_in (List.mem_of_getElem? (i := 17) (by decide +kernel)) rfl
theorem qc_X4_deedHere : Cond.code yX4_deedHere cX4_deedHere 1 (some .int) ∈ GW := gw_in (List.mem_of_getElem? (i := 691) (by decide +kernel)) rfl
theorem qn_X4_deedHere : Cond.instanceMethod yX4_deedHere ∈ GW := gw_in (List.mem_of_getElem? (i := 690) (by decide +kernel)) rfl
theorem ql_X4_deedHere : Cond.selects yX4_deedHere.cls yX4_deedHere yX4_deedHere ∈ GW := gw_in (List.mem_of_getElem? (i := 18) (by decide +kernel)) rfl
theorem qc_X5_addRule : Cond.code yX5_addRule cX5_addRule 5 none ∈ GW := gw_in (List.mem_of_getElem? (i := 700) (by decide +kernel)) rfl
theorem qn_X5_addRule : Cond.instanceMethod yX5_addRule ∈ GW := gw_in (List.mem_of_getElem? (i := 698) (by decide +kernel)) rfl
theorem ql_X5_addRule : Cond.selects yX5_addRule.cls yX5_addRule yX5_addRule ∈ GW := gw_in (List.mem_of_getElem? (i := 699) (by decide +kernel)) rfl
theorem qc_X7_rules : Cond.code yX7_rules cX7_rules 3 (some .int) ∈ GW := gw_in (List.mem_of_getElem? (i := 705) (by decide +kernel)) rfl
theorem qn_X7_rules : Cond.instanceMethod yX7_rules ∈ GW := gw_in (List.mem_of_getElem? (i := 703) (by decide +kernel)) rfl
theorem ql_X7_rules : Cond.selects yX7_rules.cls yX7_rules yX7_rules ∈ GW := gw_in (List.mem_of_getElem? (i := 704) (by decide +kernel)) rfl
theorem qc_X7_holds : Cond.code yX7_holds cX7_holds 8 (some .int) ∈ GW := gw_in (List.mem_of_getElem? (i := 709) (by decide +kernel)) rfl
theorem qn_X7_holds : Cond.instanceMethod yX7_holds ∈ GW := gw_in (List.mem_of_getElem? (i := 707) (by decide +kernel)) rfl
theorem ql_X7_holds : Cond.selects yX7_holds.cls yX7_holds yX7_holds ∈ GW := gw_in (List.mem_of_getElem? (i := 708) (by decide +kernel)) rfl
theorem qc_X7_sheet : Cond.code yX7_sheet cX7_sheet 5 (some .int) ∈ GW := gw_in (List.mem_of_getElem? (i := 714) (by decide +kernel)) rfl
theorem qn_X7_sheet : Cond.instanceMethod yX7_sheet ∈ GW := gw_in (List.mem_of_getElem? (i := 712) (by decide +kernel)) rfl
theorem ql_X7_sheet : Cond.selects yX7_sheet.cls yX7_sheet yX7_sheet ∈ GW := gw_in (List.mem_of_getElem? (i := 713) (by decide +kernel)) rfl
theorem qc_X7_isSheet : Cond.code yX7_isSheet cX7_isSheet 1 (some .boolean) ∈ GW := gw_in (List.mem_of_getElem? (i := 717) (by decide +kernel)) rfl
theorem qt_X7_isSheet : Cond.static yX7_isSheet ∈ GW := gw_in (List.mem_of_getElem? (i := 716) (by decide +kernel)) rfl
theorem qc_X2_begin : Cond.code yX2_begin cX2_begin 4 none ∈ GW := gw_in (List.mem_of_getElem? (i := 722) (by decide +kernel)) rfl
theorem qn_X2_begin : Cond.instanceMethod yX2_begin ∈ GW := gw_in (List.mem_of_getElem? (i := 720) (by decide +kernel)) rfl
theorem ql_X2_begin : Cond.selects yX2_begin.cls yX2_begin yX2_begin ∈ GW := gw_in (List.mem_of_getElem? (i := 721) (by decide +kernel)) rfl
theorem qc_X7_write : Cond.code yX7_write cX7_write 7 (some .long) ∈ GW := gw_in (List.mem_of_getElem? (i := 726) (by decide +kernel)) rfl
theorem qn_X7_write : Cond.instanceMethod yX7_write ∈ GW := gw_in (List.mem_of_getElem? (i := 724) (by decide +kernel)) rfl
theorem ql_X7_write : Cond.selects yX7_write.cls yX7_write yX7_write ∈ GW := gw_in (List.mem_of_getElem? (i := 725) (by decide +kernel)) rfl
theorem qc_X2_isMissing : Cond.code yX2_isMissing cX2_isMissing 1 (some .boolean) ∈ GW := gw_in (List.mem_of_getElem? (i := 730) (by decide +kernel)) rfl
theorem qn_X2_isMissing : Cond.instanceMethod yX2_isMissing ∈ GW := gw_in (List.mem_of_getElem? (i := 728) (by decide +kernel)) rfl
theorem ql_X2_isMissing : Cond.selects yX2_isMissing.cls yX2_isMissing yX2_isMissing ∈ GW := gw_in (List.mem_of_getElem? (i := 729) (by decide +kernel)) rfl
theorem qc_X2_put : Cond.code yX2_put cX2_put 4 none ∈ GW := gw_in (List.mem_of_getElem? (i := 735) (by decide +kernel)) rfl
theorem qn_X2_put : Cond.instanceMethod yX2_put ∈ GW := gw_in (List.mem_of_getElem? (i := 733) (by decide +kernel)) rfl
theorem ql_X2_put : Cond.selects yX2_put.cls yX2_put yX2_put ∈ GW := gw_in (List.mem_of_getElem? (i := 734) (by decide +kernel)) rfl
theorem qc_X7_copy : Cond.code yX7_copy cX7_copy 6 (some .int) ∈ GW := gw_in (List.mem_of_getElem? (i := 740) (by decide +kernel)) rfl
theorem qn_X7_copy : Cond.instanceMethod yX7_copy ∈ GW := gw_in (List.mem_of_getElem? (i := 738) (by decide +kernel)) rfl
theorem ql_X7_copy : Cond.selects yX7_copy.cls yX7_copy yX7_copy ∈ GW := gw_in (List.mem_of_getElem? (i := 739) (by decide +kernel)) rfl
theorem qc_X2_hasRow : Cond.code yX2_hasRow cX2_hasRow 3 (some .boolean) ∈ GW := gw_in (List.mem_of_getElem? (i := 744) (by decide +kernel)) rfl
theorem qn_X2_hasRow : Cond.instanceMethod yX2_hasRow ∈ GW := gw_in (List.mem_of_getElem? (i := 742) (by decide +kernel)) rfl
theorem ql_X2_hasRow : Cond.selects yX2_hasRow.cls yX2_hasRow yX2_hasRow ∈ GW := gw_in (List.mem_of_getElem? (i := 743) (by decide +kernel)) rfl
theorem qc_X7_film : Cond.code yX7_film cX7_film 8 (some .int) ∈ GW := gw_in (List.mem_of_getElem? (i := 751) (by decide +kernel)) rfl
theorem qn_X7_film : Cond.instanceMethod yX7_film ∈ GW := gw_in (List.mem_of_getElem? (i := 749) (by decide +kernel)) rfl
theorem ql_X7_film : Cond.selects yX7_film.cls yX7_film yX7_film ∈ GW := gw_in (List.mem_of_getElem? (i := 750) (by decide +kernel)) rfl
theorem qc_X7_sheetFinding : Cond.code yX7_sheetFinding cX7_sheetFinding 4 (some .int) ∈ GW := gw_in (List.mem_of_getElem? (i := 755) (by decide +kernel)) rfl
theorem qn_X7_sheetFinding : Cond.instanceMethod yX7_sheetFinding ∈ GW := gw_in (List.mem_of_getElem? (i := 754) (by decide +kernel)) rfl
theorem ql_X7_sheetFinding : Cond.selects yX7_sheetFinding.cls yX7_sheetFinding yX7_sheetFinding ∈ GW := gw_in (List.mem_of_getElem? (i := 19) (by decide +kernel)) rfl
theorem qc_X7_read : Cond.code yX7_read cX7_read 8 (some .int) ∈ GW := gw_in (List.mem_of_getElem? (i := 759) (by decide +kernel)) rfl
theorem qn_X7_read : Cond.instanceMethod yX7_read ∈ GW := gw_in (List.mem_of_getElem? (i := 757) (by decide +kernel)) rfl
theorem ql_X7_read : Cond.selects yX7_read.cls yX7_read yX7_read ∈ GW := gw_in (List.mem_of_getElem? (i := 758) (by decide +kernel)) rfl
theorem qc_X7_image : Cond.code yX7_image cX7_image 1 (some .int) ∈ GW := gw_in (List.mem_of_getElem? (i := 763) (by decide +kernel)) rfl
theorem qn_X7_image : Cond.instanceMethod yX7_image ∈ GW := gw_in (List.mem_of_getElem? (i := 761) (by decide +kernel)) rfl
theorem ql_X7_image : Cond.selects yX7_image.cls yX7_image yX7_image ∈ GW := gw_in (List.mem_of_getElem? (i := 762) (by decide +kernel)) rfl
theorem qc_X6_takeFrom : Cond.code yX6_takeFrom cX6_takeFrom 3 none ∈ GW := gw_in (List.mem_of_getElem? (i := 767) (by decide +kernel)) rfl
theorem qn_X6_takeFrom : Cond.instanceMethod yX6_takeFrom ∈ GW := gw_in (List.mem_of_getElem? (i := 765) (by decide +kernel)) rfl
theorem ql_X6_takeFrom : Cond.selects yX6_takeFrom.cls yX6_takeFrom yX6_takeFrom ∈ GW := gw_in (List.mem_of_getElem? (i := 766) (by decide +kernel)) rfl
theorem qc_X0_takeFrom : Cond.code yX0_takeFrom cX0_takeFrom 3 none ∈ GW := gw_in (List.mem_of_getElem? (i := 772) (by decide +kernel)) rfl
theorem qn_X0_takeFrom : Cond.instanceMethod yX0_takeFrom ∈ GW := gw_in (List.mem_of_getElem? (i := 770) (by decide +kernel)) rfl
theorem ql_X0_takeFrom : Cond.selects yX0_takeFrom.cls yX0_takeFrom yX0_takeFrom ∈ GW := gw_in (List.mem_of_getElem? (i := 771) (by decide +kernel)) rfl
theorem qc_X3_takeFrom : Cond.code yX3_takeFrom cX3_takeFrom 2 none ∈ GW := gw_in (List.mem_of_getElem? (i := 776) (by decide +kernel)) rfl
theorem qn_X3_takeFrom : Cond.instanceMethod yX3_takeFrom ∈ GW := gw_in (List.mem_of_getElem? (i := 774) (by decide +kernel)) rfl
theorem ql_X3_takeFrom : Cond.selects yX3_takeFrom.cls yX3_takeFrom yX3_takeFrom ∈ GW := gw_in (List.mem_of_getElem? (i := 775) (by decide +kernel)) rfl
theorem qc_X7_undo : Cond.code yX7_undo cX7_undo 1 (some .int) ∈ GW := gw_in (List.mem_of_getElem? (i := 780) (by decide +kernel)) rfl
theorem qn_X7_undo : Cond.instanceMethod yX7_undo ∈ GW := gw_in (List.mem_of_getElem? (i := 778) (by decide +kernel)) rfl
theorem ql_X7_undo : Cond.selects yX7_undo.cls yX7_undo yX7_undo ∈ GW := gw_in (List.mem_of_getElem? (i := 779) (by decide +kernel)) rfl
theorem qc_X7_tear : Cond.code yX7_tear cX7_tear 2 (some .int) ∈ GW := gw_in (List.mem_of_getElem? (i := 784) (by decide +kernel)) rfl
theorem qn_X7_tear : Cond.instanceMethod yX7_tear ∈ GW := gw_in (List.mem_of_getElem? (i := 782) (by decide +kernel)) rfl
theorem ql_X7_tear : Cond.selects yX7_tear.cls yX7_tear yX7_tear ∈ GW := gw_in (List.mem_of_getElem? (i := 783) (by decide +kernel)) rfl
theorem qc_X7_count : Cond.code yX7_count cX7_count 2 (some .int) ∈ GW := gw_in (List.mem_of_getElem? (i := 788) (by decide +kernel)) rfl
theorem qn_X7_count : Cond.instanceMethod yX7_count ∈ GW := gw_in (List.mem_of_getElem? (i := 786) (by decide +kernel)) rfl
theorem ql_X7_count : Cond.selects yX7_count.cls yX7_count yX7_count ∈ GW := gw_in (List.mem_of_getElem? (i := 787) (by decide +kernel)) rfl
theorem qc_X6_allFalls : Cond.code yX6_allFalls cX6_allFalls 3 (some .int) ∈ GW := gw_in (List.mem_of_getElem? (i := 792) (by decide +kernel)) rfl
theorem qn_X6_allFalls : Cond.instanceMethod yX6_allFalls ∈ GW := gw_in (List.mem_of_getElem? (i := 790) (by decide +kernel)) rfl
theorem ql_X6_allFalls : Cond.selects yX6_allFalls.cls yX6_allFalls yX6_allFalls ∈ GW := gw_in (List.mem_of_getElem? (i := 791) (by decide +kernel)) rfl
theorem qc_X7_status : Cond.code yX7_status cX7_status 4 (some .int) ∈ GW := gw_in (List.mem_of_getElem? (i := 796) (by decide +kernel)) rfl
theorem qn_X7_status : Cond.instanceMethod yX7_status ∈ GW := gw_in (List.mem_of_getElem? (i := 794) (by decide +kernel)) rfl
theorem ql_X7_status : Cond.selects yX7_status.cls yX7_status yX7_status ∈ GW := gw_in (List.mem_of_getElem? (i := 795) (by decide +kernel)) rfl
theorem qc_X8_init : Cond.code yX8_init cX8_init 1 none ∈ GW := gw_in (List.mem_of_getElem? (i := 801) (by decide +kernel)) rfl
theorem qn_X8_init : Cond.instanceMethod yX8_init ∈ GW := gw_in (List.mem_of_getElem? (i := 800) (by decide +kernel)) rfl
theorem qc_X8_roller : Cond.code yX8_roller cX8_roller 4 (some .int) ∈ GW := gw_in (List.mem_of_getElem? (i := 864) (by decide +kernel)) rfl
theorem qn_X8_roller : Cond.instanceMethod yX8_roller ∈ GW := gw_in (List.mem_of_getElem? (i := 862) (by decide +kernel)) rfl
theorem ql_X8_roller : Cond.selects yX8_roller.cls yX8_roller yX8_roller ∈ GW := gw_in (List.mem_of_getElem? (i := 863) (by decide +kernel)) rfl
theorem qc_X8_in : Cond.code yX8_in cX8_in 6 (some .boolean) ∈ GW := gw_in (List.mem_of_getElem? (i := 868) (by decide +kernel)) rfl
theorem qt_X8_in : Cond.static yX8_in ∈ GW := gw_in (List.mem_of_getElem? (i := 867) (by decide +kernel)) rfl
theorem qc_X8_finds : Cond.code yX8_finds cX8_finds 2 (some .int) ∈ GW := gw_in (List.mem_of_getElem? (i := 874) (by decide +kernel)) rfl
theorem qn_X8_finds : Cond.instanceMethod yX8_finds ∈ GW := gw_in (List.mem_of_getElem? (i := 873) (by decide +kernel)) rfl
theorem ql_X8_finds : Cond.selects yX8_finds.cls yX8_finds yX8_finds ∈ GW := gw_in (List.mem_of_getElem? (i := 20) (by decide +kernel)) rfl
theorem qc_X8_of : Cond.code yX8_of cX8_of 3 (some .int) ∈ GW := gw_in (List.mem_of_getElem? (i := 879) (by decide +kernel)) rfl
theorem qn_X8_of : Cond.instanceMethod yX8_of ∈ GW := gw_in (List.mem_of_getElem? (i := 877) (by decide +kernel)) rfl
theorem ql_X8_of : Cond.selects yX8_of.cls yX8_of yX8_of ∈ GW := gw_in (List.mem_of_getElem? (i := 878) (by decide +kernel)) rfl
theorem qc_X8_isPerson : Cond.code yX8_isPerson cX8_isPerson 2 (some .boolean) ∈ GW := gw_in (List.mem_of_getElem? (i := 883) (by decide +kernel)) rfl
theorem qn_X8_isPerson : Cond.instanceMethod yX8_isPerson ∈ GW := gw_in (List.mem_of_getElem? (i := 882) (by decide +kernel)) rfl
theorem ql_X8_isPerson : Cond.selects yX8_isPerson.cls yX8_isPerson yX8_isPerson ∈ GW := gw_in (List.mem_of_getElem? (i := 21) (by decide +kernel)) rfl
theorem qc_X8_set : Cond.code yX8_set cX8_set 5 (some .int) ∈ GW := gw_in (List.mem_of_getElem? (i := 888) (by decide +kernel)) rfl
theorem qn_X8_set : Cond.instanceMethod yX8_set ∈ GW := gw_in (List.mem_of_getElem? (i := 886) (by decide +kernel)) rfl
theorem ql_X8_set : Cond.selects yX8_set.cls yX8_set yX8_set ∈ GW := gw_in (List.mem_of_getElem? (i := 887) (by decide +kernel)) rfl
theorem qc_X8_mayBe : Cond.code yX8_mayBe cX8_mayBe 3 (some .boolean) ∈ GW := gw_in (List.mem_of_getElem? (i := 892) (by decide +kernel)) rfl
theorem qn_X8_mayBe : Cond.instanceMethod yX8_mayBe ∈ GW := gw_in (List.mem_of_getElem? (i := 891) (by decide +kernel)) rfl
theorem ql_X8_mayBe : Cond.selects yX8_mayBe.cls yX8_mayBe yX8_mayBe ∈ GW := gw_in (List.mem_of_getElem? (i := 22) (by decide +kernel)) rfl
theorem qc_X8_isOnLog : Cond.code yX8_isOnLog cX8_isOnLog 2 (some .boolean) ∈ GW := gw_in (List.mem_of_getElem? (i := 900) (by decide +kernel)) rfl
theorem qn_X8_isOnLog : Cond.instanceMethod yX8_isOnLog ∈ GW := gw_in (List.mem_of_getElem? (i := 899) (by decide +kernel)) rfl
theorem ql_X8_isOnLog : Cond.selects yX8_isOnLog.cls yX8_isOnLog yX8_isOnLog ∈ GW := gw_in (List.mem_of_getElem? (i := 23) (by decide +kernel)) rfl
theorem qc_X8_as : Cond.code yX8_as cX8_as 3 (some .int) ∈ GW := gw_in (List.mem_of_getElem? (i := 905) (by decide +kernel)) rfl
theorem qn_X8_as : Cond.instanceMethod yX8_as ∈ GW := gw_in (List.mem_of_getElem? (i := 903) (by decide +kernel)) rfl
theorem ql_X8_as : Cond.selects yX8_as.cls yX8_as yX8_as ∈ GW := gw_in (List.mem_of_getElem? (i := 904) (by decide +kernel)) rfl
theorem qc_X8_told : Cond.code yX8_told cX8_told 3 (some .int) ∈ GW := gw_in (List.mem_of_getElem? (i := 908) (by decide +kernel)) rfl
theorem qt_X8_told : Cond.static yX8_told ∈ GW := gw_in (List.mem_of_getElem? (i := 907) (by decide +kernel)) rfl
theorem qc_X8_isOf : Cond.code yX8_isOf cX8_isOf 2 (some .boolean) ∈ GW := gw_in (List.mem_of_getElem? (i := 911) (by decide +kernel)) rfl
theorem qt_X8_isOf : Cond.static yX8_isOf ∈ GW := gw_in (List.mem_of_getElem? (i := 910) (by decide +kernel)) rfl
theorem qc_X8_log : Cond.code yX8_log cX8_log 6 (some .int) ∈ GW := gw_in (List.mem_of_getElem? (i := 916) (by decide +kernel)) rfl
theorem qn_X8_log : Cond.instanceMethod yX8_log ∈ GW := gw_in (List.mem_of_getElem? (i := 914) (by decide +kernel)) rfl
theorem ql_X8_log : Cond.selects yX8_log.cls yX8_log yX8_log ∈ GW := gw_in (List.mem_of_getElem? (i := 915) (by decide +kernel)) rfl
theorem qc_X8_push : Cond.code yX8_push cX8_push 6 (some .int) ∈ GW := gw_in (List.mem_of_getElem? (i := 921) (by decide +kernel)) rfl
theorem qn_X8_push : Cond.instanceMethod yX8_push ∈ GW := gw_in (List.mem_of_getElem? (i := 919) (by decide +kernel)) rfl
theorem ql_X8_push : Cond.selects yX8_push.cls yX8_push yX8_push ∈ GW := gw_in (List.mem_of_getElem? (i := 920) (by decide +kernel)) rfl
theorem qc_X8_pushOf : Cond.code yX8_pushOf cX8_pushOf 10 (some .int) ∈ GW := gw_in (List.mem_of_getElem? (i := 927) (by decide +kernel)) rfl
theorem qt_X8_pushOf : Cond.static yX8_pushOf ∈ GW := gw_in (List.mem_of_getElem? (i := 926) (by decide +kernel)) rfl
theorem qc_X8_held : Cond.code yX8_held cX8_held 2 (some .int) ∈ GW := gw_in (List.mem_of_getElem? (i := 930) (by decide +kernel)) rfl
theorem qt_X8_held : Cond.static yX8_held ∈ GW := gw_in (List.mem_of_getElem? (i := 929) (by decide +kernel)) rfl
theorem qc_X8_size : Cond.code yX8_size cX8_size 1 (some .int) ∈ GW := gw_in (List.mem_of_getElem? (i := 933) (by decide +kernel)) rfl
theorem qt_X8_size : Cond.static yX8_size ∈ GW := gw_in (List.mem_of_getElem? (i := 932) (by decide +kernel)) rfl
theorem qc_X8_ruleOf : Cond.code yX8_ruleOf cX8_ruleOf 10 (some .int) ∈ GW := gw_in (List.mem_of_getElem? (i := 936) (by decide +kernel)) rfl
theorem qt_X8_ruleOf : Cond.static yX8_ruleOf ∈ GW := gw_in (List.mem_of_getElem? (i := 935) (by decide +kernel)) rfl
theorem qc_X8_mount : Cond.code yX8_mount cX8_mount 3 (some .int) ∈ GW := gw_in (List.mem_of_getElem? (i := 940) (by decide +kernel)) rfl
theorem qn_X8_mount : Cond.instanceMethod yX8_mount ∈ GW := gw_in (List.mem_of_getElem? (i := 938) (by decide +kernel)) rfl
theorem ql_X8_mount : Cond.selects yX8_mount.cls yX8_mount yX8_mount ∈ GW := gw_in (List.mem_of_getElem? (i := 939) (by decide +kernel)) rfl
theorem qc_X8_areTwo : Cond.code yX8_areTwo cX8_areTwo 3 (some .boolean) ∈ GW := gw_in (List.mem_of_getElem? (i := 944) (by decide +kernel)) rfl
theorem qn_X8_areTwo : Cond.instanceMethod yX8_areTwo ∈ GW := gw_in (List.mem_of_getElem? (i := 943) (by decide +kernel)) rfl
theorem ql_X8_areTwo : Cond.selects yX8_areTwo.cls yX8_areTwo yX8_areTwo ∈ GW := gw_in (List.mem_of_getElem? (i := 24) (by decide +kernel)) rfl
theorem qc_X8_getsOn : Cond.code yX8_getsOn cX8_getsOn 4 none ∈ GW := gw_in (List.mem_of_getElem? (i := 947) (by decide +kernel)) rfl
theorem qt_X8_getsOn : Cond.static yX8_getsOn ∈ GW := gw_in (List.mem_of_getElem? (i := 946) (by decide +kernel)) rfl
theorem qc_X8_off : Cond.code yX8_off cX8_off 1 (some .int) ∈ GW := gw_in (List.mem_of_getElem? (i := 951) (by decide +kernel)) rfl
theorem qn_X8_off : Cond.instanceMethod yX8_off ∈ GW := gw_in (List.mem_of_getElem? (i := 949) (by decide +kernel)) rfl
theorem ql_X8_off : Cond.selects yX8_off.cls yX8_off yX8_off ∈ GW := gw_in (List.mem_of_getElem? (i := 950) (by decide +kernel)) rfl
theorem qc_X8_bout : Cond.code yX8_bout cX8_bout 4 (some .int) ∈ GW := gw_in (List.mem_of_getElem? (i := 955) (by decide +kernel)) rfl
theorem qn_X8_bout : Cond.instanceMethod yX8_bout ∈ GW := gw_in (List.mem_of_getElem? (i := 953) (by decide +kernel)) rfl
theorem ql_X8_bout : Cond.selects yX8_bout.cls yX8_bout yX8_bout ∈ GW := gw_in (List.mem_of_getElem? (i := 954) (by decide +kernel)) rfl
theorem qc_X8_goesBy : Cond.code yX8_goesBy cX8_goesBy 8 (some .int) ∈ GW := gw_in (List.mem_of_getElem? (i := 959) (by decide +kernel)) rfl
theorem qt_X8_goesBy : Cond.static yX8_goesBy ∈ GW := gw_in (List.mem_of_getElem? (i := 958) (by decide +kernel)) rfl
theorem qc_X8_sees : Cond.code yX8_sees cX8_sees 3 (some .int) ∈ GW := gw_in (List.mem_of_getElem? (i := 962) (by decide +kernel)) rfl
theorem qt_X8_sees : Cond.static yX8_sees ∈ GW := gw_in (List.mem_of_getElem? (i := 961) (by decide +kernel)) rfl
theorem qc_X8_pushes : Cond.code yX8_pushes cX8_pushes 3 (some .int) ∈ GW := gw_in (List.mem_of_getElem? (i := 965) (by decide +kernel)) rfl
theorem qt_X8_pushes : Cond.static yX8_pushes ∈ GW := gw_in (List.mem_of_getElem? (i := 964) (by decide +kernel)) rfl
theorem qc_X8_costOf : Cond.code yX8_costOf cX8_costOf 1 (some .int) ∈ GW := gw_in (List.mem_of_getElem? (i := 968) (by decide +kernel)) rfl
theorem qt_X8_costOf : Cond.static yX8_costOf ∈ GW := gw_in (List.mem_of_getElem? (i := 967) (by decide +kernel)) rfl
theorem qc_X8_steps : Cond.code yX8_steps cX8_steps 3 none ∈ GW := gw_in (List.mem_of_getElem? (i := 971) (by decide +kernel)) rfl
theorem qt_X8_steps : Cond.static yX8_steps ∈ GW := gw_in (List.mem_of_getElem? (i := 970) (by decide +kernel)) rfl
theorem qc_X8_slips : Cond.code yX8_slips cX8_slips 1 (some .boolean) ∈ GW := gw_in (List.mem_of_getElem? (i := 974) (by decide +kernel)) rfl
theorem qt_X8_slips : Cond.static yX8_slips ∈ GW := gw_in (List.mem_of_getElem? (i := 973) (by decide +kernel)) rfl
theorem qc_X8_falls : Cond.code yX8_falls cX8_falls 2 (some .boolean) ∈ GW := gw_in (List.mem_of_getElem? (i := 978) (by decide +kernel)) rfl
theorem qt_X8_falls : Cond.static yX8_falls ∈ GW := gw_in (List.mem_of_getElem? (i := 977) (by decide +kernel)) rfl
theorem qc_X8_stands : Cond.code yX8_stands cX8_stands 3 (some .int) ∈ GW := gw_in (List.mem_of_getElem? (i := 982) (by decide +kernel)) rfl
theorem qn_X8_stands : Cond.instanceMethod yX8_stands ∈ GW := gw_in (List.mem_of_getElem? (i := 980) (by decide +kernel)) rfl
theorem ql_X8_stands : Cond.selects yX8_stands.cls yX8_stands yX8_stands ∈ GW := gw_in (List.mem_of_getElem? (i := 981) (by decide +kernel)) rfl
theorem qc_X8_now : Cond.code yX8_now cX8_now 2 (some .int) ∈ GW := gw_in (List.mem_of_getElem? (i := 986) (by decide +kernel)) rfl
theorem qn_X8_now : Cond.instanceMethod yX8_now ∈ GW := gw_in (List.mem_of_getElem? (i := 984) (by decide +kernel)) rfl
theorem ql_X8_now : Cond.selects yX8_now.cls yX8_now yX8_now ∈ GW := gw_in (List.mem_of_getElem? (i := 985) (by decide +kernel)) rfl
theorem qc_X8_seed : Cond.code yX8_seed cX8_seed 3 (some .int) ∈ GW := gw_in (List.mem_of_getElem? (i := 991) (by decide +kernel)) rfl
theorem qn_X8_seed : Cond.instanceMethod yX8_seed ∈ GW := gw_in (List.mem_of_getElem? (i := 989) (by decide +kernel)) rfl
theorem ql_X8_seed : Cond.selects yX8_seed.cls yX8_seed yX8_seed ∈ GW := gw_in (List.mem_of_getElem? (i := 990) (by decide +kernel)) rfl
theorem qc_X8_ahead : Cond.code yX8_ahead cX8_ahead 6 (some .int) ∈ GW := gw_in (List.mem_of_getElem? (i := 995) (by decide +kernel)) rfl
theorem qn_X8_ahead : Cond.instanceMethod yX8_ahead ∈ GW := gw_in (List.mem_of_getElem? (i := 993) (by decide +kernel)) rfl
theorem ql_X8_ahead : Cond.selects yX8_ahead.cls yX8_ahead yX8_ahead ∈ GW := gw_in (List.mem_of_getElem? (i := 994) (by decide +kernel)) rfl
theorem qc_X8_copies : Cond.code yX8_copies cX8_copies 3 none ∈ GW := gw_in (List.mem_of_getElem? (i := 999) (by decide +kernel)) rfl
theorem qt_X8_copies : Cond.static yX8_copies ∈ GW := gw_in (List.mem_of_getElem? (i := 998) (by decide +kernel)) rfl
theorem qc_X8_boutAhead : Cond.code yX8_boutAhead cX8_boutAhead 7 (some .int) ∈ GW := gw_in (List.mem_of_getElem? (i := 1003) (by decide +kernel)) rfl
theorem qn_X8_boutAhead : Cond.instanceMethod yX8_boutAhead ∈ GW := gw_in (List.mem_of_getElem? (i := 1002) (by decide +kernel)) rfl
theorem ql_X8_boutAhead : Cond.selects yX8_boutAhead.cls yX8_boutAhead yX8_boutAhead ∈ GW := gw_in (List.mem_of_getElem? (i := 25) (by decide +kernel)) rfl
theorem qc_X8_best : Cond.code yX8_best cX8_best 8 (some .int) ∈ GW := gw_in (List.mem_of_getElem? (i := 1007) (by decide +kernel)) rfl
theorem qn_X8_best : Cond.instanceMethod yX8_best ∈ GW := gw_in (List.mem_of_getElem? (i := 1005) (by decide +kernel)) rfl
theorem ql_X8_best : Cond.selects yX8_best.cls yX8_best yX8_best ∈ GW := gw_in (List.mem_of_getElem? (i := 1006) (by decide +kernel)) rfl
theorem qc_X8_light : Cond.code yX8_light cX8_light 5 (some .int) ∈ GW := gw_in (List.mem_of_getElem? (i := 1012) (by decide +kernel)) rfl
theorem qn_X8_light : Cond.instanceMethod yX8_light ∈ GW := gw_in (List.mem_of_getElem? (i := 1010) (by decide +kernel)) rfl
theorem ql_X8_light : Cond.selects yX8_light.cls yX8_light yX8_light ∈ GW := gw_in (List.mem_of_getElem? (i := 1011) (by decide +kernel)) rfl
theorem qc_X8_late : Cond.code yX8_late cX8_late 5 (some .int) ∈ GW := gw_in (List.mem_of_getElem? (i := 1017) (by decide +kernel)) rfl
theorem qn_X8_late : Cond.instanceMethod yX8_late ∈ GW := gw_in (List.mem_of_getElem? (i := 1015) (by decide +kernel)) rfl
theorem ql_X8_late : Cond.selects yX8_late.cls yX8_late yX8_late ∈ GW := gw_in (List.mem_of_getElem? (i := 1016) (by decide +kernel)) rfl
theorem qc_X8_swing : Cond.code yX8_swing cX8_swing 6 (some .int) ∈ GW := gw_in (List.mem_of_getElem? (i := 1021) (by decide +kernel)) rfl
theorem qn_X8_swing : Cond.instanceMethod yX8_swing ∈ GW := gw_in (List.mem_of_getElem? (i := 1019) (by decide +kernel)) rfl
theorem ql_X8_swing : Cond.selects yX8_swing.cls yX8_swing yX8_swing ∈ GW := gw_in (List.mem_of_getElem? (i := 1020) (by decide +kernel)) rfl
theorem qc_X8_beats : Cond.code yX8_beats cX8_beats 3 (some .int) ∈ GW := gw_in (List.mem_of_getElem? (i := 1025) (by decide +kernel)) rfl
theorem qn_X8_beats : Cond.instanceMethod yX8_beats ∈ GW := gw_in (List.mem_of_getElem? (i := 1023) (by decide +kernel)) rfl
theorem ql_X8_beats : Cond.selects yX8_beats.cls yX8_beats yX8_beats ∈ GW := gw_in (List.mem_of_getElem? (i := 1024) (by decide +kernel)) rfl
theorem qc_X8_beatenBy : Cond.code yX8_beatenBy cX8_beatenBy 5 (some .int) ∈ GW := gw_in (List.mem_of_getElem? (i := 1029) (by decide +kernel)) rfl
theorem qn_X8_beatenBy : Cond.instanceMethod yX8_beatenBy ∈ GW := gw_in (List.mem_of_getElem? (i := 1028) (by decide +kernel)) rfl
theorem ql_X8_beatenBy : Cond.selects yX8_beatenBy.cls yX8_beatenBy yX8_beatenBy ∈ GW := gw_in (List.mem_of_getElem? (i := 26) (by decide +kernel)) rfl
theorem qc_X8_five : Cond.code yX8_five cX8_five 8 (some .int) ∈ GW := gw_in (List.mem_of_getElem? (i := 1033) (by decide +kernel)) rfl
theorem qn_X8_five : Cond.instanceMethod yX8_five ∈ GW := gw_in (List.mem_of_getElem? (i := 1031) (by decide +kernel)) rfl
theorem ql_X8_five : Cond.selects yX8_five.cls yX8_five yX8_five ∈ GW := gw_in (List.mem_of_getElem? (i := 1032) (by decide +kernel)) rfl
theorem qc_X8_champion : Cond.code yX8_champion cX8_champion 7 (some .int) ∈ GW := gw_in (List.mem_of_getElem? (i := 1037) (by decide +kernel)) rfl
theorem qn_X8_champion : Cond.instanceMethod yX8_champion ∈ GW := gw_in (List.mem_of_getElem? (i := 1035) (by decide +kernel)) rfl
theorem ql_X8_champion : Cond.selects yX8_champion.cls yX8_champion yX8_champion ∈ GW := gw_in (List.mem_of_getElem? (i := 1036) (by decide +kernel)) rfl
theorem qc_X8_feed : Cond.code yX8_feed cX8_feed 4 (some .int) ∈ GW := gw_in (List.mem_of_getElem? (i := 1042) (by decide +kernel)) rfl
theorem qn_X8_feed : Cond.instanceMethod yX8_feed ∈ GW := gw_in (List.mem_of_getElem? (i := 1040) (by decide +kernel)) rfl
theorem ql_X8_feed : Cond.selects yX8_feed.cls yX8_feed yX8_feed ∈ GW := gw_in (List.mem_of_getElem? (i := 1041) (by decide +kernel)) rfl
theorem qc_X8_wipe : Cond.code yX8_wipe cX8_wipe 2 (some .int) ∈ GW := gw_in (List.mem_of_getElem? (i := 1046) (by decide +kernel)) rfl
theorem qn_X8_wipe : Cond.instanceMethod yX8_wipe ∈ GW := gw_in (List.mem_of_getElem? (i := 1044) (by decide +kernel)) rfl
theorem ql_X8_wipe : Cond.selects yX8_wipe.cls yX8_wipe yX8_wipe ∈ GW := gw_in (List.mem_of_getElem? (i := 1045) (by decide +kernel)) rfl
theorem qc_X8_way : Cond.code yX8_way cX8_way 2 (some .int) ∈ GW := gw_in (List.mem_of_getElem? (i := 1050) (by decide +kernel)) rfl
theorem qn_X8_way : Cond.instanceMethod yX8_way ∈ GW := gw_in (List.mem_of_getElem? (i := 1048) (by decide +kernel)) rfl
theorem ql_X8_way : Cond.selects yX8_way.cls yX8_way yX8_way ∈ GW := gw_in (List.mem_of_getElem? (i := 1049) (by decide +kernel)) rfl
theorem qc_X8_look : Cond.code yX8_look cX8_look 2 none ∈ GW := gw_in (List.mem_of_getElem? (i := 1054) (by decide +kernel)) rfl
theorem qn_X8_look : Cond.instanceMethod yX8_look ∈ GW := gw_in (List.mem_of_getElem? (i := 1053) (by decide +kernel)) rfl
theorem ql_X8_look : Cond.selects yX8_look.cls yX8_look yX8_look ∈ GW := gw_in (List.mem_of_getElem? (i := 27) (by decide +kernel)) rfl
theorem qc_X8_isLetter : Cond.code yX8_isLetter cX8_isLetter 1 (some .boolean) ∈ GW := gw_in (List.mem_of_getElem? (i := 1057) (by decide +kernel)) rfl
theorem qt_X8_isLetter : Cond.static yX8_isLetter ∈ GW := gw_in (List.mem_of_getElem? (i := 1056) (by decide +kernel)) rfl
theorem qc_X8_isDigit : Cond.code yX8_isDigit cX8_isDigit 1 (some .boolean) ∈ GW := gw_in (List.mem_of_getElem? (i := 1060) (by decide +kernel)) rfl
theorem qt_X8_isDigit : Cond.static yX8_isDigit ∈ GW := gw_in (List.mem_of_getElem? (i := 1059) (by decide +kernel)) rfl
theorem qc_X8_reads : Cond.code yX8_reads cX8_reads 4 none ∈ GW := gw_in (List.mem_of_getElem? (i := 1064) (by decide +kernel)) rfl
theorem qn_X8_reads : Cond.instanceMethod yX8_reads ∈ GW := gw_in (List.mem_of_getElem? (i := 1063) (by decide +kernel)) rfl
theorem ql_X8_reads : Cond.selects yX8_reads.cls yX8_reads yX8_reads ∈ GW := gw_in (List.mem_of_getElem? (i := 28) (by decide +kernel)) rfl
theorem qc_X8_name : Cond.code yX8_name cX8_name 1 (some .int) ∈ GW := gw_in (List.mem_of_getElem? (i := 1068) (by decide +kernel)) rfl
theorem qn_X8_name : Cond.instanceMethod yX8_name ∈ GW := gw_in (List.mem_of_getElem? (i := 1067) (by decide +kernel)) rfl
theorem ql_X8_name : Cond.selects yX8_name.cls yX8_name yX8_name ∈ GW := gw_in (List.mem_of_getElem? (i := 29) (by decide +kernel)) rfl
theorem qc_X8_isWord : Cond.code yX8_isWord cX8_isWord 4 (some .boolean) ∈ GW := gw_in (List.mem_of_getElem? (i := 1073) (by decide +kernel)) rfl
theorem qn_X8_isWord : Cond.instanceMethod yX8_isWord ∈ GW := gw_in (List.mem_of_getElem? (i := 1072) (by decide +kernel)) rfl
theorem ql_X8_isWord : Cond.selects yX8_isWord.cls yX8_isWord yX8_isWord ∈ GW := gw_in (List.mem_of_getElem? (i := 30) (by decide +kernel)) rfl
theorem qc_X8_must : Cond.code yX8_must cX8_must 2 none ∈ GW := gw_in (List.mem_of_getElem? (i := 1083) (by decide +kernel)) rfl
theorem qn_X8_must : Cond.instanceMethod yX8_must ∈ GW := gw_in (List.mem_of_getElem? (i := 1082) (by decide +kernel)) rfl
theorem ql_X8_must : Cond.selects yX8_must.cls yX8_must yX8_must ∈ GW := gw_in (List.mem_of_getElem? (i := 31) (by decide +kernel)) rfl
theorem qc_X8_compares : Cond.code yX8_compares cX8_compares 3 none ∈ GW := gw_in (List.mem_of_getElem? (i := 1087) (by decide +kernel)) rfl
theorem qn_X8_compares : Cond.instanceMethod yX8_compares ∈ GW := gw_in (List.mem_of_getElem? (i := 1086) (by decide +kernel)) rfl
theorem ql_X8_compares : Cond.selects yX8_compares.cls yX8_compares yX8_compares ∈ GW := gw_in (List.mem_of_getElem? (i := 32) (by decide +kernel)) rfl
theorem qc_X8_isSign : Cond.code yX8_isSign cX8_isSign 2 (some .boolean) ∈ GW := gw_in (List.mem_of_getElem? (i := 1091) (by decide +kernel)) rfl
theorem qn_X8_isSign : Cond.instanceMethod yX8_isSign ∈ GW := gw_in (List.mem_of_getElem? (i := 1090) (by decide +kernel)) rfl
theorem ql_X8_isSign : Cond.selects yX8_isSign.cls yX8_isSign yX8_isSign ∈ GW := gw_in (List.mem_of_getElem? (i := 33) (by decide +kernel)) rfl
theorem qc_X8_deed : Cond.code yX8_deed cX8_deed 1 (some .int) ∈ GW := gw_in (List.mem_of_getElem? (i := 1095) (by decide +kernel)) rfl
theorem qn_X8_deed : Cond.instanceMethod yX8_deed ∈ GW := gw_in (List.mem_of_getElem? (i := 1094) (by decide +kernel)) rfl
theorem ql_X8_deed : Cond.selects yX8_deed.cls yX8_deed yX8_deed ∈ GW := gw_in (List.mem_of_getElem? (i := 34) (by decide +kernel)) rfl
theorem qc_X8_rules : Cond.code yX8_rules cX8_rules 2 (some .int) ∈ GW := gw_in (List.mem_of_getElem? (i := 1104) (by decide +kernel)) rfl
theorem qn_X8_rules : Cond.instanceMethod yX8_rules ∈ GW := gw_in (List.mem_of_getElem? (i := 1102) (by decide +kernel)) rfl
theorem ql_X8_rules : Cond.selects yX8_rules.cls yX8_rules yX8_rules ∈ GW := gw_in (List.mem_of_getElem? (i := 1103) (by decide +kernel)) rfl
theorem qc_X8_isWay : Cond.code yX8_isWay cX8_isWay 2 (some .boolean) ∈ GW := gw_in (List.mem_of_getElem? (i := 1108) (by decide +kernel)) rfl
theorem qn_X8_isWay : Cond.instanceMethod yX8_isWay ∈ GW := gw_in (List.mem_of_getElem? (i := 1107) (by decide +kernel)) rfl
theorem ql_X8_isWay : Cond.selects yX8_isWay.cls yX8_isWay yX8_isWay ∈ GW := gw_in (List.mem_of_getElem? (i := 35) (by decide +kernel)) rfl
theorem qc_X8_holds : Cond.code yX8_holds cX8_holds 7 (some .int) ∈ GW := gw_in (List.mem_of_getElem? (i := 1112) (by decide +kernel)) rfl
theorem qn_X8_holds : Cond.instanceMethod yX8_holds ∈ GW := gw_in (List.mem_of_getElem? (i := 1110) (by decide +kernel)) rfl
theorem ql_X8_holds : Cond.selects yX8_holds.cls yX8_holds yX8_holds ∈ GW := gw_in (List.mem_of_getElem? (i := 1111) (by decide +kernel)) rfl
theorem qc_X8_sheet : Cond.code yX8_sheet cX8_sheet 5 (some .int) ∈ GW := gw_in (List.mem_of_getElem? (i := 1116) (by decide +kernel)) rfl
theorem qn_X8_sheet : Cond.instanceMethod yX8_sheet ∈ GW := gw_in (List.mem_of_getElem? (i := 1114) (by decide +kernel)) rfl
theorem ql_X8_sheet : Cond.selects yX8_sheet.cls yX8_sheet yX8_sheet ∈ GW := gw_in (List.mem_of_getElem? (i := 1115) (by decide +kernel)) rfl
theorem qc_X8_isSheet : Cond.code yX8_isSheet cX8_isSheet 1 (some .boolean) ∈ GW := gw_in (List.mem_of_getElem? (i := 1119) (by decide +kernel)) rfl
theorem qt_X8_isSheet : Cond.static yX8_isSheet ∈ GW := gw_in (List.mem_of_getElem? (i := 1118) (by decide +kernel)) rfl
theorem qc_X8_write : Cond.code yX8_write cX8_write 7 (some .long) ∈ GW := gw_in (List.mem_of_getElem? (i := 1125) (by decide +kernel)) rfl
theorem qn_X8_write : Cond.instanceMethod yX8_write ∈ GW := gw_in (List.mem_of_getElem? (i := 1123) (by decide +kernel)) rfl
theorem ql_X8_write : Cond.selects yX8_write.cls yX8_write yX8_write ∈ GW := gw_in (List.mem_of_getElem? (i := 1124) (by decide +kernel)) rfl
theorem qc_X8_lowest : Cond.code yX8_lowest cX8_lowest 3 (some .long) ∈ GW := gw_in (List.mem_of_getElem? (i := 1129) (by decide +kernel)) rfl
theorem qt_X8_lowest : Cond.static yX8_lowest ∈ GW := gw_in (List.mem_of_getElem? (i := 1128) (by decide +kernel)) rfl
theorem qc_X8_copy : Cond.code yX8_copy cX8_copy 7 (some .int) ∈ GW := gw_in (List.mem_of_getElem? (i := 1133) (by decide +kernel)) rfl
theorem qn_X8_copy : Cond.instanceMethod yX8_copy ∈ GW := gw_in (List.mem_of_getElem? (i := 1131) (by decide +kernel)) rfl
theorem ql_X8_copy : Cond.selects yX8_copy.cls yX8_copy yX8_copy ∈ GW := gw_in (List.mem_of_getElem? (i := 1132) (by decide +kernel)) rfl
theorem qc_X8_film : Cond.code yX8_film cX8_film 7 (some .int) ∈ GW := gw_in (List.mem_of_getElem? (i := 1137) (by decide +kernel)) rfl
theorem qn_X8_film : Cond.instanceMethod yX8_film ∈ GW := gw_in (List.mem_of_getElem? (i := 1135) (by decide +kernel)) rfl
theorem ql_X8_film : Cond.selects yX8_film.cls yX8_film yX8_film ∈ GW := gw_in (List.mem_of_getElem? (i := 1136) (by decide +kernel)) rfl
theorem qc_X8_whyNot : Cond.code yX8_whyNot cX8_whyNot 4 (some .int) ∈ GW := gw_in (List.mem_of_getElem? (i := 1141) (by decide +kernel)) rfl
theorem qn_X8_whyNot : Cond.instanceMethod yX8_whyNot ∈ GW := gw_in (List.mem_of_getElem? (i := 1140) (by decide +kernel)) rfl
theorem ql_X8_whyNot : Cond.selects yX8_whyNot.cls yX8_whyNot yX8_whyNot ∈ GW := gw_in (List.mem_of_getElem? (i := 36) (by decide +kernel)) rfl
theorem qc_X8_read : Cond.code yX8_read cX8_read 7 (some .int) ∈ GW := gw_in (List.mem_of_getElem? (i := 1145) (by decide +kernel)) rfl
theorem qn_X8_read : Cond.instanceMethod yX8_read ∈ GW := gw_in (List.mem_of_getElem? (i := 1143) (by decide +kernel)) rfl
theorem ql_X8_read : Cond.selects yX8_read.cls yX8_read yX8_read ∈ GW := gw_in (List.mem_of_getElem? (i := 1144) (by decide +kernel)) rfl
theorem qc_X8_image : Cond.code yX8_image cX8_image 1 (some .int) ∈ GW := gw_in (List.mem_of_getElem? (i := 1149) (by decide +kernel)) rfl
theorem qn_X8_image : Cond.instanceMethod yX8_image ∈ GW := gw_in (List.mem_of_getElem? (i := 1147) (by decide +kernel)) rfl
theorem ql_X8_image : Cond.selects yX8_image.cls yX8_image yX8_image ∈ GW := gw_in (List.mem_of_getElem? (i := 1148) (by decide +kernel)) rfl
theorem qc_X8_undo : Cond.code yX8_undo cX8_undo 1 (some .int) ∈ GW := gw_in (List.mem_of_getElem? (i := 1153) (by decide +kernel)) rfl
theorem qn_X8_undo : Cond.instanceMethod yX8_undo ∈ GW := gw_in (List.mem_of_getElem? (i := 1151) (by decide +kernel)) rfl
theorem ql_X8_undo : Cond.selects yX8_undo.cls yX8_undo yX8_undo ∈ GW := gw_in (List.mem_of_getElem? (i := 1152) (by decide +kernel)) rfl
theorem qc_X8_tear : Cond.code yX8_tear cX8_tear 2 (some .int) ∈ GW := gw_in (List.mem_of_getElem? (i := 1157) (by decide +kernel)) rfl
theorem qn_X8_tear : Cond.instanceMethod yX8_tear ∈ GW := gw_in (List.mem_of_getElem? (i := 1155) (by decide +kernel)) rfl
theorem ql_X8_tear : Cond.selects yX8_tear.cls yX8_tear yX8_tear ∈ GW := gw_in (List.mem_of_getElem? (i := 1156) (by decide +kernel)) rfl
theorem qc_X8_count : Cond.code yX8_count cX8_count 2 (some .int) ∈ GW := gw_in (List.mem_of_getElem? (i := 1161) (by decide +kernel)) rfl
theorem qn_X8_count : Cond.instanceMethod yX8_count ∈ GW := gw_in (List.mem_of_getElem? (i := 1159) (by decide +kernel)) rfl
theorem ql_X8_count : Cond.selects yX8_count.cls yX8_count yX8_count ∈ GW := gw_in (List.mem_of_getElem? (i := 1160) (by decide +kernel)) rfl
theorem qc_X8_allFalls : Cond.code yX8_allFalls cX8_allFalls 3 (some .int) ∈ GW := gw_in (List.mem_of_getElem? (i := 1165) (by decide +kernel)) rfl
theorem qn_X8_allFalls : Cond.instanceMethod yX8_allFalls ∈ GW := gw_in (List.mem_of_getElem? (i := 1164) (by decide +kernel)) rfl
theorem ql_X8_allFalls : Cond.selects yX8_allFalls.cls yX8_allFalls yX8_allFalls ∈ GW := gw_in (List.mem_of_getElem? (i := 37) (by decide +kernel)) rfl
theorem qc_X8_status : Cond.code yX8_status cX8_status 4 (some .int) ∈ GW := gw_in (List.mem_of_getElem? (i := 1169) (by decide +kernel)) rfl
theorem qn_X8_status : Cond.instanceMethod yX8_status ∈ GW := gw_in (List.mem_of_getElem? (i := 1167) (by decide +kernel)) rfl
theorem ql_X8_status : Cond.selects yX8_status.cls yX8_status yX8_status ∈ GW := gw_in (List.mem_of_getElem? (i := 1168) (by decide +kernel)) rfl
theorem sL_9 : SI RL 9 yX7_init cX7_init 2 0 := ⟨gw_in (List.mem_of_getElem? (i := 57) (by decide +kernel)) rfl, qn_X7_init, rfl, qi_X7, qc_X7_init, ⟨by decide, by decide, by decide +kernel⟩⟩
theorem sX7_9 : SI RX7 9 yX6_init cX6_init 2 0 := ⟨gw_in (List.mem_of_getElem? (i := 65) (by decide +kernel)) rfl, qn_X6_init, rfl, qi_X6, qc_X6_init, ⟨by decide, by decide, by decide +kernel⟩⟩
theorem sX6_44 : SI RX6 44 yX0_init cX0_init 3 2 := ⟨gw_in (List.mem_of_getElem? (i := 84) (by decide +kernel)) rfl, qn_X0_init, rfl, qi_X0, qc_X0_init, ⟨by decide, by decide, by decide +kernel⟩⟩
theorem sX7_33 : SI RX7 33 yX0_init cX0_init 3 2 := ⟨gw_in (List.mem_of_getElem? (i := 227) (by decide +kernel)) rfl, qn_X0_init, rfl, qi_X0, qc_X0_init, ⟨by decide, by decide, by decide +kernel⟩⟩
theorem sL_13 : SV RL 13 yX7_roller cX7_roller 4 (some .int) 2 := ⟨gw_in (List.mem_of_getElem? (i := 303) (by decide +kernel)) rfl, qn_X7_roller, ql_X7_roller, qi_X7, qc_X7_roller, ⟨by decide, by decide, by decide +kernel⟩⟩
theorem sX7_64 : SS RX7 64 yX7_isKind cX7_isKind 1 (some .boolean) 1 := ⟨gw_in (List.mem_of_getElem? (i := 307) (by decide +kernel)) rfl, qt_X7_isKind, qi_X7, qc_X7_isKind, ⟨by decide, by decide, by decide +kernel⟩⟩
theorem sX7_68 : SS RX7 68 yX7_within cX7_within 3 (some .boolean) 3 := ⟨gw_in (List.mem_of_getElem? (i := 310) (by decide +kernel)) rfl, qt_X7_within, qi_X7, qc_X7_within, ⟨by decide, by decide, by decide +kernel⟩⟩
theorem sX7_73 : SV RX7 73 yX7_finding cX7_finding 3 (some .int) 1 := ⟨gw_in (List.mem_of_getElem? (i := 314) (by decide +kernel)) rfl, qn_X7_finding, ql_X7_finding, qi_X7, qc_X7_finding, ⟨by decide, by decide, by decide +kernel⟩⟩
theorem sX7_86 : SV RX7 86 yX1_begin cX1_begin 3 none 2 := ⟨gw_in (List.mem_of_getElem? (i := 319) (by decide +kernel)) rfl, qn_X1_begin, ql_X1_begin, qi_X1, qc_X1_begin, ⟨by decide, by decide, by decide +kernel⟩⟩
theorem sL_18 : SV RL 18 yX7_of cX7_of 3 (some .int) 2 := ⟨gw_in (List.mem_of_getElem? (i := 323) (by decide +kernel)) rfl, qn_X7_of, ql_X7_of, qi_X7, qc_X7_of, ⟨by decide, by decide, by decide +kernel⟩⟩
theorem sX7_90 : SV RX7 90 yX7_isPerson cX7_isPerson 2 (some .boolean) 1 := ⟨gw_in (List.mem_of_getElem? (i := 327) (by decide +kernel)) rfl, qn_X7_isPerson, ql_X7_isPerson, qi_X7, qc_X7_isPerson, ⟨by decide, by decide, by decide +kernel⟩⟩
theorem sX7_93 : SV RX7 93 yX1_trait cX1_trait 2 (some .int) 1 := ⟨gw_in (List.mem_of_getElem? (i := 331) (by decide +kernel)) rfl, qn_X1_trait, ql_X1_trait, qi_X1, qc_X1_trait, ⟨by decide, by decide, by decide +kernel⟩⟩
theorem sL_22 : SV RL 22 yX7_set cX7_set 5 (some .int) 3 := ⟨gw_in (List.mem_of_getElem? (i := 335) (by decide +kernel)) rfl, qn_X7_set, ql_X7_set, qi_X7, qc_X7_set, ⟨by decide, by decide, by decide +kernel⟩⟩
theorem sX7_96 : SV RX7 96 yX7_maySet cX7_maySet 3 (some .boolean) 2 := ⟨gw_in (List.mem_of_getElem? (i := 339) (by decide +kernel)) rfl, qn_X7_maySet, ql_X7_maySet, qi_X7, qc_X7_maySet, ⟨by decide, by decide, by decide +kernel⟩⟩
theorem sX7_100 : SV RX7 100 yX6_isOnLog cX6_isOnLog 2 (some .boolean) 1 := ⟨gw_in (List.mem_of_getElem? (i := 343) (by decide +kernel)) rfl, qn_X6_isOnLog, ql_X6_isOnLog, qi_X6, qc_X6_isOnLog, ⟨by decide, by decide, by decide +kernel⟩⟩
theorem sX7_104 : SV RX7 104 yX1_change cX1_change 3 none 2 := ⟨gw_in (List.mem_of_getElem? (i := 348) (by decide +kernel)) rfl, qn_X1_change, ql_X1_change, qi_X1, qc_X1_change, ⟨by decide, by decide, by decide +kernel⟩⟩
theorem sL_27 : SV RL 27 yX7_as cX7_as 3 (some .int) 2 := ⟨gw_in (List.mem_of_getElem? (i := 352) (by decide +kernel)) rfl, qn_X7_as, ql_X7_as, qi_X7, qc_X7_as, ⟨by decide, by decide, by decide +kernel⟩⟩
theorem sX7_110 : SS RX7 110 yX7_isUnder cX7_isUnder 4 (some .boolean) 2 := ⟨gw_in (List.mem_of_getElem? (i := 356) (by decide +kernel)) rfl, qt_X7_isUnder, qi_X7, qc_X7_isUnder, ⟨by decide, by decide, by decide +kernel⟩⟩
theorem sL_31 : SV RL 31 yX7_log cX7_log 4 (some .int) 2 := ⟨gw_in (List.mem_of_getElem? (i := 362) (by decide +kernel)) rfl, qn_X7_log, ql_X7_log, qi_X7, qc_X7_log, ⟨by decide, by decide, by decide +kernel⟩⟩
theorem sL_35 : SV RL 35 yX7_push cX7_push 7 (some .int) 5 := ⟨gw_in (List.mem_of_getElem? (i := 370) (by decide +kernel)) rfl, qn_X7_push, ql_X7_push, qi_X7, qc_X7_push, ⟨by decide, by decide, by decide +kernel⟩⟩
theorem sX7_123 : SS RX7 123 yX7_isSituation cX7_isSituation 4 (some .boolean) 4 := ⟨gw_in (List.mem_of_getElem? (i := 374) (by decide +kernel)) rfl, qt_X7_isSituation, qi_X7, qc_X7_isSituation, ⟨by decide, by decide, by decide +kernel⟩⟩
theorem sX7_130 : SV RX7 130 yX6_wayAt cX6_wayAt 2 (some (.object "LogRollers$Way")) 1 := ⟨gw_in (List.mem_of_getElem? (i := 377) (by decide +kernel)) rfl, qn_X6_wayAt, ql_X6_wayAt, qi_X6, qc_X6_wayAt, ⟨by decide, by decide, by decide +kernel⟩⟩
theorem sX7_134 : SV RX7 134 yX1_shove cX1_shove 6 (some .int) 5 := ⟨gw_in (List.mem_of_getElem? (i := 382) (by decide +kernel)) rfl, qn_X1_shove, ql_X1_shove, qi_X1, qc_X1_shove, ⟨by decide, by decide, by decide +kernel⟩⟩
theorem sX1_37 : SV RX1 37 yX1_waiterShove cX1_waiterShove 3 (some .int) 2 := ⟨gw_in (List.mem_of_getElem? (i := 389) (by decide +kernel)) rfl, qn_X1_waiterShove, ql_X1_waiterShove, qi_X1, qc_X1_waiterShove, ⟨by decide, by decide, by decide +kernel⟩⟩
theorem sX1_40 : SV RX1 40 yX5_firstThat cX5_firstThat 9 (some .int) 4 := ⟨gw_in (List.mem_of_getElem? (i := 393) (by decide +kernel)) rfl, qn_X5_firstThat, ql_X5_firstThat, qi_X5, qc_X5_firstThat, ⟨by decide, by decide, by decide +kernel⟩⟩
theorem sX1_46 : SV RX1 46 yX5_deedOf cX5_deedOf 2 (some .int) 1 := ⟨gw_in (List.mem_of_getElem? (i := 397) (by decide +kernel)) rfl, qn_X5_deedOf, ql_X5_deedOf, qi_X5, qc_X5_deedOf, ⟨by decide, by decide, by decide +kernel⟩⟩
theorem sX1_50 : SV RX1 50 yX1_deedShove cX1_deedShove 4 (some .int) 3 := ⟨gw_in (List.mem_of_getElem? (i := 402) (by decide +kernel)) rfl, qn_X1_deedShove, ql_X1_deedShove, qi_X1, qc_X1_deedShove, ⟨by decide, by decide, by decide +kernel⟩⟩
theorem sL_40 : SV RL 40 yX7_mount cX7_mount 3 (some .int) 2 := ⟨gw_in (List.mem_of_getElem? (i := 406) (by decide +kernel)) rfl, qn_X7_mount, ql_X7_mount, qi_X7, qc_X7_mount, ⟨by decide, by decide, by decide +kernel⟩⟩
theorem sX7_138 : SV RX7 138 yX7_isPair cX7_isPair 3 (some .boolean) 2 := ⟨gw_in (List.mem_of_getElem? (i := 410) (by decide +kernel)) rfl, qn_X7_isPair, ql_X7_isPair, qi_X7, qc_X7_isPair, ⟨by decide, by decide, by decide +kernel⟩⟩
theorem sX7_153 : SV RX7 153 yX0_begin cX0_begin 3 none 2 := ⟨gw_in (List.mem_of_getElem? (i := 414) (by decide +kernel)) rfl, qn_X0_begin, ql_X0_begin, qi_X0, qc_X0_begin, ⟨by decide, by decide, by decide +kernel⟩⟩
theorem sX0_51 : SV RX0 51 yX3_begin cX3_begin 2 none 1 := ⟨gw_in (List.mem_of_getElem? (i := 418) (by decide +kernel)) rfl, qn_X3_begin, ql_X3_begin, qi_X3, qc_X3_begin, ⟨by decide, by decide, by decide +kernel⟩⟩
theorem sL_44 : SV RL 44 yX7_off cX7_off 1 (some .int) 0 := ⟨gw_in (List.mem_of_getElem? (i := 422) (by decide +kernel)) rfl, qn_X7_off, ql_X7_off, qi_X7, qc_X7_off, ⟨by decide, by decide, by decide +kernel⟩⟩
theorem sL_49 : SV RL 49 yX7_bout cX7_bout 5 (some .int) 1 := ⟨gw_in (List.mem_of_getElem? (i := 426) (by decide +kernel)) rfl, qn_X7_bout, ql_X7_bout, qi_X7, qc_X7_bout, ⟨by decide, by decide, by decide +kernel⟩⟩
theorem sX7_159 : SV RX7 159 yX0_go cX0_go 6 (some .int) 3 := ⟨gw_in (List.mem_of_getElem? (i := 430) (by decide +kernel)) rfl, qn_X0_go, ql_X0_go, qi_X0, qc_X0_go, ⟨by decide, by decide, by decide +kernel⟩⟩
theorem sX0_55 : SV RX0 55 yX0_tick cX0_tick 5 (some .int) 2 := ⟨gw_in (List.mem_of_getElem? (i := 434) (by decide +kernel)) rfl, qn_X0_tick, ql_X0_tick, qi_X0, qc_X0_tick, ⟨by decide, by decide, by decide +kernel⟩⟩
theorem sX0_59 : SV RX0 59 yX0_seenBy cX0_seenBy 3 (some .int) 1 := ⟨gw_in (List.mem_of_getElem? (i := 438) (by decide +kernel)) rfl, qn_X0_seenBy, ql_X0_seenBy, qi_X0, qc_X0_seenBy, ⟨by decide, by decide, by decide +kernel⟩⟩
theorem sX0_63 : SV RX0 63 yX0_nextShove cX0_nextShove 5 (some .int) 2 := ⟨gw_in (List.mem_of_getElem? (i := 442) (by decide +kernel)) rfl, qn_X0_nextShove, ql_X0_nextShove, qi_X0, qc_X0_nextShove, ⟨by decide, by decide, by decide +kernel⟩⟩
theorem sX0_117 : SV RX0 117 yX1_shove cX1_shove 6 (some .int) 5 := ⟨gw_in (List.mem_of_getElem? (i := 447) (by decide +kernel)) rfl, qn_X1_shove, ql_X1_shove, qi_X1, qc_X1_shove, ⟨by decide, by decide, by decide +kernel⟩⟩
theorem sX0_120 : SS RX0 120 yX3_cost cX3_cost 1 (some .int) 1 := ⟨gw_in (List.mem_of_getElem? (i := 448) (by decide +kernel)) rfl, qt_X3_cost, qi_X3, qc_X3_cost, ⟨by decide, by decide, by decide +kernel⟩⟩
theorem sX3_19 : SS RX3 19 yJ9_abs_0f7a4 cJ9_abs_0f7a4 1 (some .int) 1 := ⟨gw_in (List.mem_of_getElem? (i := 451) (by decide +kernel)) rfl, qt_J9_abs_0f7a4, qi_J9, qc_J9_abs_0f7a4, ⟨by decide, by decide, by decide +kernel⟩⟩
theorem sX0_67 : SV RX0 67 yX3_decide cX3_decide 3 none 2 := ⟨gw_in (List.mem_of_getElem? (i := 454) (by decide +kernel)) rfl, qn_X3_decide, ql_X3_decide, qi_X3, qc_X3_decide, ⟨by decide, by decide, by decide +kernel⟩⟩
theorem sX3_31 : SS RX3 31 yX3_cost cX3_cost 1 (some .int) 1 := ⟨gw_in (List.mem_of_getElem? (i := 458) (by decide +kernel)) rfl, qt_X3_cost, qi_X3, qc_X3_cost, ⟨by decide, by decide, by decide +kernel⟩⟩
theorem sX0_71 : SV RX0 71 yX0_roll cX0_roll 4 none 2 := ⟨gw_in (List.mem_of_getElem? (i := 459) (by decide +kernel)) rfl, qn_X0_roll, ql_X0_roll, qi_X0, qc_X0_roll, ⟨by decide, by decide, by decide +kernel⟩⟩
theorem sX0_75 : SV RX0 75 yX0_stepUnlessSlipping cX0_stepUnlessSlipping 3 none 2 := ⟨gw_in (List.mem_of_getElem? (i := 463) (by decide +kernel)) rfl, qn_X0_stepUnlessSlipping, ql_X0_stepUnlessSlipping, qi_X0, qc_X0_stepUnlessSlipping, ⟨by decide, by decide, by decide +kernel⟩⟩
theorem sX0_101 : SV RX0 101 yX3_step cX3_step 2 none 1 := ⟨gw_in (List.mem_of_getElem? (i := 468) (by decide +kernel)) rfl, qn_X3_step, ql_X3_step, qi_X3, qc_X3_step, ⟨by decide, by decide, by decide +kernel⟩⟩
theorem sX0_79 : SV RX0 79 yX3_sway cX3_sway 2 none 1 := ⟨gw_in (List.mem_of_getElem? (i := 473) (by decide +kernel)) rfl, qn_X3_sway, ql_X3_sway, qi_X3, qc_X3_sway, ⟨by decide, by decide, by decide +kernel⟩⟩
theorem sX0_85 : SS RX0 85 yJ9_abs_0f7a4 cJ9_abs_0f7a4 1 (some .int) 1 := ⟨gw_in (List.mem_of_getElem? (i := 477) (by decide +kernel)) rfl, qt_J9_abs_0f7a4, qi_J9, qc_J9_abs_0f7a4, ⟨by decide, by decide, by decide +kernel⟩⟩
theorem sX7_163 : SV RX7 163 yX7_endBout cX7_endBout 4 none 3 := ⟨gw_in (List.mem_of_getElem? (i := 478) (by decide +kernel)) rfl, qn_X7_endBout, ql_X7_endBout, qi_X7, qc_X7_endBout, ⟨by decide, by decide, by decide +kernel⟩⟩
theorem sL_54 : SV RL 54 yX7_stands cX7_stands 6 (some .int) 2 := ⟨gw_in (List.mem_of_getElem? (i := 482) (by decide +kernel)) rfl, qn_X7_stands, ql_X7_stands, qi_X7, qc_X7_stands, ⟨by decide, by decide, by decide +kernel⟩⟩
theorem sX7_183 : SV RX7 183 yX0_seenBy cX0_seenBy 3 (some .int) 1 := ⟨gw_in (List.mem_of_getElem? (i := 486) (by decide +kernel)) rfl, qn_X0_seenBy, ql_X0_seenBy, qi_X0, qc_X0_seenBy, ⟨by decide, by decide, by decide +kernel⟩⟩
theorem sX7_187 : SV RX7 187 yX0_nextShove cX0_nextShove 5 (some .int) 2 := ⟨gw_in (List.mem_of_getElem? (i := 487) (by decide +kernel)) rfl, qn_X0_nextShove, ql_X0_nextShove, qi_X0, qc_X0_nextShove, ⟨by decide, by decide, by decide +kernel⟩⟩
theorem sL_58 : SV RL 58 yX7_now cX7_now 2 (some .int) 1 := ⟨gw_in (List.mem_of_getElem? (i := 488) (by decide +kernel)) rfl, qn_X7_now, ql_X7_now, qi_X7, qc_X7_now, ⟨by decide, by decide, by decide +kernel⟩⟩
theorem sL_62 : SV RL 62 yX7_seed cX7_seed 3 (some .int) 1 := ⟨gw_in (List.mem_of_getElem? (i := 492) (by decide +kernel)) rfl, qn_X7_seed, ql_X7_seed, qi_X7, qc_X7_seed, ⟨by decide, by decide, by decide +kernel⟩⟩
theorem sL_66 : SV RL 66 yX7_ahead cX7_ahead 6 (some .int) 4 := ⟨gw_in (List.mem_of_getElem? (i := 496) (by decide +kernel)) rfl, qn_X7_ahead, ql_X7_ahead, qi_X7, qc_X7_ahead, ⟨by decide, by decide, by decide +kernel⟩⟩
theorem sX7_200 : SV RX7 200 yX7_startAhead cX7_startAhead 3 none 2 := ⟨gw_in (List.mem_of_getElem? (i := 500) (by decide +kernel)) rfl, qn_X7_startAhead, ql_X7_startAhead, qi_X7, qc_X7_startAhead, ⟨by decide, by decide, by decide +kernel⟩⟩
theorem sL_71 : SV RL 71 yX7_best cX7_best 8 (some .int) 3 := ⟨gw_in (List.mem_of_getElem? (i := 504) (by decide +kernel)) rfl, qn_X7_best, ql_X7_best, qi_X7, qc_X7_best, ⟨by decide, by decide, by decide +kernel⟩⟩
theorem sX7_203 : SV RX7 203 yX1_takeFrom cX1_takeFrom 2 none 1 := ⟨gw_in (List.mem_of_getElem? (i := 508) (by decide +kernel)) rfl, qn_X1_takeFrom, ql_X1_takeFrom, qi_X1, qc_X1_takeFrom, ⟨by decide, by decide, by decide +kernel⟩⟩
theorem sL_75 : SV RL 75 yX7_light cX7_light 5 (some .int) 3 := ⟨gw_in (List.mem_of_getElem? (i := 513) (by decide +kernel)) rfl, qn_X7_light, ql_X7_light, qi_X7, qc_X7_light, ⟨by decide, by decide, by decide +kernel⟩⟩
theorem sL_79 : SV RL 79 yX7_late cX7_late 6 (some .int) 3 := ⟨gw_in (List.mem_of_getElem? (i := 517) (by decide +kernel)) rfl, qn_X7_late, ql_X7_late, qi_X7, qc_X7_late, ⟨by decide, by decide, by decide +kernel⟩⟩
theorem sL_83 : SV RL 83 yX7_swing cX7_swing 11 (some .int) 4 := ⟨gw_in (List.mem_of_getElem? (i := 521) (by decide +kernel)) rfl, qn_X7_swing, ql_X7_swing, qi_X7, qc_X7_swing, ⟨by decide, by decide, by decide +kernel⟩⟩
theorem sX7_214 : SV RX7 214 yX0_tick cX0_tick 5 (some .int) 2 := ⟨gw_in (List.mem_of_getElem? (i := 525) (by decide +kernel)) rfl, qn_X0_tick, ql_X0_tick, qi_X0, qc_X0_tick, ⟨by decide, by decide, by decide +kernel⟩⟩
theorem sX7_218 : SS RX7 218 yJ9_abs_0f7a4 cJ9_abs_0f7a4 1 (some .int) 1 := ⟨gw_in (List.mem_of_getElem? (i := 526) (by decide +kernel)) rfl, qt_J9_abs_0f7a4, qi_J9, qc_J9_abs_0f7a4, ⟨by decide, by decide, by decide +kernel⟩⟩
theorem sX7_223 : SS RX7 223 yJ9_max_7cf53 cJ9_max_7cf53 2 (some .int) 2 := ⟨gw_in (List.mem_of_getElem? (i := 527) (by decide +kernel)) rfl, qt_J9_max_7cf53, qi_J9, qc_J9_max_7cf53, ⟨by decide, by decide, by decide +kernel⟩⟩
theorem sL_87 : SV RL 87 yX7_beats cX7_beats 3 (some .int) 2 := ⟨gw_in (List.mem_of_getElem? (i := 530) (by decide +kernel)) rfl, qn_X7_beats, ql_X7_beats, qi_X7, qc_X7_beats, ⟨by decide, by decide, by decide +kernel⟩⟩
theorem sX7_227 : SV RX7 227 yX7_beatenBy cX7_beatenBy 7 (some .int) 2 := ⟨gw_in (List.mem_of_getElem? (i := 534) (by decide +kernel)) rfl, qn_X7_beatenBy, ql_X7_beatenBy, qi_X7, qc_X7_beatenBy, ⟨by decide, by decide, by decide +kernel⟩⟩
theorem sL_91 : SV RL 91 yX7_five cX7_five 8 (some .int) 3 := ⟨gw_in (List.mem_of_getElem? (i := 538) (by decide +kernel)) rfl, qn_X7_five, ql_X7_five, qi_X7, qc_X7_five, ⟨by decide, by decide, by decide +kernel⟩⟩
theorem sL_95 : SV RL 95 yX7_champion cX7_champion 6 (some .int) 1 := ⟨gw_in (List.mem_of_getElem? (i := 542) (by decide +kernel)) rfl, qn_X7_champion, ql_X7_champion, qi_X7, qc_X7_champion, ⟨by decide, by decide, by decide +kernel⟩⟩
theorem sX7_230 : SS RX7 230 yJ6_bitCount_0f7a4 cJ6_bitCount_0f7a4 1 (some .int) 1 := ⟨gw_in (List.mem_of_getElem? (i := 546) (by decide +kernel)) rfl, qt_J6_bitCount_0f7a4, qi_J6, qc_J6_bitCount_0f7a4, ⟨by decide, by decide, by decide +kernel⟩⟩
theorem sL_99 : SV RL 99 yX7_feed cX7_feed 4 (some .int) 2 := ⟨gw_in (List.mem_of_getElem? (i := 552) (by decide +kernel)) rfl, qn_X7_feed, ql_X7_feed, qi_X7, qc_X7_feed, ⟨by decide, by decide, by decide +kernel⟩⟩
theorem sX7_238 : SV RX7 238 yX4_addByte cX4_addByte 2 none 1 := ⟨gw_in (List.mem_of_getElem? (i := 556) (by decide +kernel)) rfl, qn_X4_addByte, ql_X4_addByte, qi_X4, qc_X4_addByte, ⟨by decide, by decide, by decide +kernel⟩⟩
theorem sL_103 : SV RL 103 yX7_wipe cX7_wipe 2 (some .int) 0 := ⟨gw_in (List.mem_of_getElem? (i := 560) (by decide +kernel)) rfl, qn_X7_wipe, ql_X7_wipe, qi_X7, qc_X7_wipe, ⟨by decide, by decide, by decide +kernel⟩⟩
theorem sL_107 : SV RL 107 yX7_way cX7_way 3 (some .int) 0 := ⟨gw_in (List.mem_of_getElem? (i := 564) (by decide +kernel)) rfl, qn_X7_way, ql_X7_way, qi_X7, qc_X7_way, ⟨by decide, by decide, by decide +kernel⟩⟩
theorem sX7_245 : SV RX7 245 yX4_toWay cX4_toWay 3 (some (.object "LogRollers$Way")) 0 := ⟨gw_in (List.mem_of_getElem? (i := 568) (by decide +kernel)) rfl, qn_X4_toWay, ql_X4_toWay, qi_X4, qc_X4_toWay, ⟨by decide, by decide, by decide +kernel⟩⟩
theorem sX4_34 : SV RX4 34 yX4_nextToken cX4_nextToken 1 none 0 := ⟨gw_in (List.mem_of_getElem? (i := 595) (by decide +kernel)) rfl, qn_X4_nextToken, ql_X4_nextToken, qi_X4, qc_X4_nextToken, ⟨by decide, by decide, by decide +kernel⟩⟩
theorem sX4_56 : SS RX4 56 yX4_isLetter cX4_isLetter 1 (some .boolean) 1 := ⟨gw_in (List.mem_of_getElem? (i := 599) (by decide +kernel)) rfl, qt_X4_isLetter, qi_X4, qc_X4_isLetter, ⟨by decide, by decide, by decide +kernel⟩⟩
theorem sX4_60 : SV RX4 60 yX4_takeWord cX4_takeWord 1 none 0 := ⟨gw_in (List.mem_of_getElem? (i := 602) (by decide +kernel)) rfl, qn_X4_takeWord, ql_X4_takeWord, qi_X4, qc_X4_takeWord, ⟨by decide, by decide, by decide +kernel⟩⟩
theorem sX4_63 : SS RX4 63 yX4_isDigit cX4_isDigit 1 (some .boolean) 1 := ⟨gw_in (List.mem_of_getElem? (i := 606) (by decide +kernel)) rfl, qt_X4_isDigit, qi_X4, qc_X4_isDigit, ⟨by decide, by decide, by decide +kernel⟩⟩
theorem sX4_66 : SV RX4 66 yX4_takeNumber cX4_takeNumber 2 none 0 := ⟨gw_in (List.mem_of_getElem? (i := 609) (by decide +kernel)) rfl, qn_X4_takeNumber, ql_X4_takeNumber, qi_X4, qc_X4_takeNumber, ⟨by decide, by decide, by decide +kernel⟩⟩
theorem sX4_72 : SS RX4 72 yJ9_min_7cf53 cJ9_min_7cf53 2 (some .int) 2 := ⟨gw_in (List.mem_of_getElem? (i := 613) (by decide +kernel)) rfl, qt_J9_min_7cf53, qi_J9, qc_J9_min_7cf53, ⟨by decide, by decide, by decide +kernel⟩⟩
theorem sX4_69 : SS RX4 69 yX4_isSign cX4_isSign 1 (some .boolean) 1 := ⟨gw_in (List.mem_of_getElem? (i := 616) (by decide +kernel)) rfl, qt_X4_isSign, qi_X4, qc_X4_isSign, ⟨by decide, by decide, by decide +kernel⟩⟩
theorem sX4_37 : SV RX4 37 yX4_takeRule cX4_takeRule 6 (some .boolean) 1 := ⟨gw_in (List.mem_of_getElem? (i := 619) (by decide +kernel)) rfl, qn_X4_takeRule, ql_X4_takeRule, qi_X4, qc_X4_takeRule, ⟨by decide, by decide, by decide +kernel⟩⟩
theorem sX4_41 : SV RX4 41 yX4_nameHere cX4_nameHere 1 (some .int) 0 := ⟨gw_in (List.mem_of_getElem? (i := 623) (by decide +kernel)) rfl, qn_X4_nameHere, ql_X4_nameHere, qi_X4, qc_X4_nameHere, ⟨by decide, by decide, by decide +kernel⟩⟩
theorem sX4_80 : SV RX4 80 yX4_isWord cX4_isWord 3 (some .boolean) 1 := ⟨gw_in (List.mem_of_getElem? (i := 628) (by decide +kernel)) rfl, qn_X4_isWord, ql_X4_isWord, qi_X4, qc_X4_isWord, ⟨by decide, by decide, by decide +kernel⟩⟩
theorem sX4_102 : SV RX4 102 yJ0_length_8abf5 cJ0_length_8abf5 1 (some .int) 0 := ⟨gw_in (List.mem_of_getElem? (i := 632) (by decide +kernel)) rfl, qn_J0_length_8abf5, ql_J0_length_8abf5, qi_J0, qc_J0_length_8abf5, ⟨by decide, by decide, by decide +kernel⟩⟩
theorem sJ0_335 : SV RJ0 335 yJ0_coder_7d493 cJ0_coder_7d493 1 (some .byte) 0 := ⟨gw_in (List.mem_of_getElem? (i := 636) (by decide +kernel)) rfl, qn_J0_coder_7d493, ql_J0_coder_7d493, qi_J0, qc_J0_coder_7d493, ⟨by decide, by decide, by decide +kernel⟩⟩
theorem sX4_107 : SV RX4 107 yJ0_charAt_5068e cJ0_charAt_5068e 2 (some .char) 1 := ⟨gw_in (List.mem_of_getElem? (i := 642) (by decide +kernel)) rfl, qn_J0_charAt_5068e, ql_J0_charAt_5068e, qi_J0, qc_J0_charAt_5068e, ⟨by decide, by decide, by decide +kernel⟩⟩
theorem sJ0_492 : SV RJ0 492 yJ0_isLatin1_aae02 cJ0_isLatin1_aae02 1 (some .boolean) 0 := ⟨gw_in (List.mem_of_getElem? (i := 646) (by decide +kernel)) rfl, qn_J0_isLatin1_aae02, ql_J0_isLatin1_aae02, qi_J0, qc_J0_isLatin1_aae02, ⟨by decide, by decide, by decide +kernel⟩⟩
theorem sJ0_495 : SS RJ0 495 yJ1_charAt_3b067 cJ1_charAt_3b067 2 (some .char) 2 := ⟨gw_in (List.mem_of_getElem? (i := 650) (by decide +kernel)) rfl, qt_J1_charAt_3b067, qi_J1, qc_J1_charAt_3b067, ⟨by decide, by decide, by decide +kernel⟩⟩
theorem sJ1_9 : SS RJ1 9 yJ0_checkIndex_df160 cJ0_checkIndex_df160 2 none 2 := ⟨gw_in (List.mem_of_getElem? (i := 653) (by decide +kernel)) rfl, qt_J0_checkIndex_df160, qi_J0, qc_J0_checkIndex_df160, ⟨by decide, by decide, by decide +kernel⟩⟩
theorem sJ0_1059 : SS RJ0 1059 yJ3_checkIndex_8e157 cJ3_checkIndex_8e157 3 (some .int) 3 := ⟨gw_in (List.mem_of_getElem? (i := 658) (by decide +kernel)) rfl, qt_J3_checkIndex_8e157, qi_J3, qc_J3_checkIndex_8e157, ⟨by decide, by decide, by decide +kernel⟩⟩
theorem sJ0_498 : SS RJ0 498 yJ2_charAt_3b067 cJ2_charAt_3b067 2 (some .char) 2 := ⟨gw_in (List.mem_of_getElem? (i := 661) (by decide +kernel)) rfl, qt_J2_charAt_3b067, qi_J2, qc_J2_charAt_3b067, ⟨by decide, by decide, by decide +kernel⟩⟩
theorem sJ2_67 : SS RJ2 67 yJ2_checkIndex_2214a cJ2_checkIndex_2214a 2 none 2 := ⟨gw_in (List.mem_of_getElem? (i := 664) (by decide +kernel)) rfl, qt_J2_checkIndex_2214a, qi_J2, qc_J2_checkIndex_2214a, ⟨by decide, by decide, by decide +kernel⟩⟩
theorem sJ2_48 : SS RJ2 48 yJ2_length_9d52b cJ2_length_9d52b 1 (some .int) 1 := ⟨gw_in (List.mem_of_getElem? (i := 667) (by decide +kernel)) rfl, qt_J2_length_9d52b, qi_J2, qc_J2_length_9d52b, ⟨by decide, by decide, by decide +kernel⟩⟩
theorem sJ2_414 : SS RJ2 414 yJ0_checkIndex_df160 cJ0_checkIndex_df160 2 none 2 := ⟨gw_in (List.mem_of_getElem? (i := 670) (by decide +kernel)) rfl, qt_J0_checkIndex_df160, qi_J0, qc_J0_checkIndex_df160, ⟨by decide, by decide, by decide +kernel⟩⟩
theorem sJ2_71 : SS RJ2 71 yJ2_getChar_3b067 cJ2_getChar_3b067 2 (some .char) 2 := ⟨gw_in (List.mem_of_getElem? (i := 671) (by decide +kernel)) rfl, qt_J2_getChar_3b067, qi_J2, qc_J2_getChar_3b067, ⟨by decide, by decide, by decide +kernel⟩⟩
theorem sX4_45 : SV RX4 45 yX4_takeComparison cX4_takeComparison 3 (some .boolean) 0 := ⟨gw_in (List.mem_of_getElem? (i := 684) (by decide +kernel)) rfl, qn_X4_takeComparison, ql_X4_takeComparison, qi_X4, qc_X4_takeComparison, ⟨by decide, by decide, by decide +kernel⟩⟩
theorem sX4_49 : SV RX4 49 yX4_deedHere cX4_deedHere 1 (some .int) 0 := ⟨gw_in (List.mem_of_getElem? (i := 688) (by decide +kernel)) rfl, qn_X4_deedHere, ql_X4_deedHere, qi_X4, qc_X4_deedHere, ⟨by decide, by decide, by decide +kernel⟩⟩
theorem sX4_52 : SV RX4 52 yX5_addRule cX5_addRule 5 none 4 := ⟨gw_in (List.mem_of_getElem? (i := 697) (by decide +kernel)) rfl, qn_X5_addRule, ql_X5_addRule, qi_X5, qc_X5_addRule, ⟨by decide, by decide, by decide +kernel⟩⟩
theorem sL_111 : SV RL 111 yX7_rules cX7_rules 3 (some .int) 1 := ⟨gw_in (List.mem_of_getElem? (i := 702) (by decide +kernel)) rfl, qn_X7_rules, ql_X7_rules, qi_X7, qc_X7_rules, ⟨by decide, by decide, by decide +kernel⟩⟩
theorem sL_115 : SV RL 115 yX7_holds cX7_holds 8 (some .int) 5 := ⟨gw_in (List.mem_of_getElem? (i := 706) (by decide +kernel)) rfl, qn_X7_holds, ql_X7_holds, qi_X7, qc_X7_holds, ⟨by decide, by decide, by decide +kernel⟩⟩
theorem sX7_255 : SV RX7 255 yX5_firstThat cX5_firstThat 9 (some .int) 4 := ⟨gw_in (List.mem_of_getElem? (i := 710) (by decide +kernel)) rfl, qn_X5_firstThat, ql_X5_firstThat, qi_X5, qc_X5_firstThat, ⟨by decide, by decide, by decide +kernel⟩⟩
theorem sL_119 : SV RL 119 yX7_sheet cX7_sheet 5 (some .int) 3 := ⟨gw_in (List.mem_of_getElem? (i := 711) (by decide +kernel)) rfl, qn_X7_sheet, ql_X7_sheet, qi_X7, qc_X7_sheet, ⟨by decide, by decide, by decide +kernel⟩⟩
theorem sX7_259 : SS RX7 259 yX7_isSheet cX7_isSheet 1 (some .boolean) 1 := ⟨gw_in (List.mem_of_getElem? (i := 715) (by decide +kernel)) rfl, qt_X7_isSheet, qi_X7, qc_X7_isSheet, ⟨by decide, by decide, by decide +kernel⟩⟩
theorem sX7_263 : SV RX7 263 yX2_begin cX2_begin 4 none 2 := ⟨gw_in (List.mem_of_getElem? (i := 719) (by decide +kernel)) rfl, qn_X2_begin, ql_X2_begin, qi_X2, qc_X2_begin, ⟨by decide, by decide, by decide +kernel⟩⟩
theorem sL_125 : SV RL 125 yX7_write cX7_write 7 (some .long) 3 := ⟨gw_in (List.mem_of_getElem? (i := 723) (by decide +kernel)) rfl, qn_X7_write, ql_X7_write, qi_X7, qc_X7_write, ⟨by decide, by decide, by decide +kernel⟩⟩
theorem sX7_265 : SV RX7 265 yX2_isMissing cX2_isMissing 1 (some .boolean) 0 := ⟨gw_in (List.mem_of_getElem? (i := 727) (by decide +kernel)) rfl, qn_X2_isMissing, ql_X2_isMissing, qi_X2, qc_X2_isMissing, ⟨by decide, by decide, by decide +kernel⟩⟩
theorem sX7_274 : SV RX7 274 yX2_put cX2_put 4 none 2 := ⟨gw_in (List.mem_of_getElem? (i := 732) (by decide +kernel)) rfl, qn_X2_put, ql_X2_put, qi_X2, qc_X2_put, ⟨by decide, by decide, by decide +kernel⟩⟩
theorem sL_130 : SV RL 130 yX7_copy cX7_copy 6 (some .int) 5 := ⟨gw_in (List.mem_of_getElem? (i := 737) (by decide +kernel)) rfl, qn_X7_copy, ql_X7_copy, qi_X7, qc_X7_copy, ⟨by decide, by decide, by decide +kernel⟩⟩
theorem sX7_281 : SV RX7 281 yX2_hasRow cX2_hasRow 3 (some .boolean) 2 := ⟨gw_in (List.mem_of_getElem? (i := 741) (by decide +kernel)) rfl, qn_X2_hasRow, ql_X2_hasRow, qi_X2, qc_X2_hasRow, ⟨by decide, by decide, by decide +kernel⟩⟩
theorem sL_134 : SV RL 134 yX7_film cX7_film 8 (some .int) 3 := ⟨gw_in (List.mem_of_getElem? (i := 748) (by decide +kernel)) rfl, qn_X7_film, ql_X7_film, qi_X7, qc_X7_film, ⟨by decide, by decide, by decide +kernel⟩⟩
theorem sX7_290 : SV RX7 290 yX7_sheetFinding cX7_sheetFinding 4 (some .int) 3 := ⟨gw_in (List.mem_of_getElem? (i := 752) (by decide +kernel)) rfl, qn_X7_sheetFinding, ql_X7_sheetFinding, qi_X7, qc_X7_sheetFinding, ⟨by decide, by decide, by decide +kernel⟩⟩
theorem sL_138 : SV RL 138 yX7_read cX7_read 8 (some .int) 3 := ⟨gw_in (List.mem_of_getElem? (i := 756) (by decide +kernel)) rfl, qn_X7_read, ql_X7_read, qi_X7, qc_X7_read, ⟨by decide, by decide, by decide +kernel⟩⟩
theorem sL_142 : SV RL 142 yX7_image cX7_image 1 (some .int) 0 := ⟨gw_in (List.mem_of_getElem? (i := 760) (by decide +kernel)) rfl, qn_X7_image, ql_X7_image, qi_X7, qc_X7_image, ⟨by decide, by decide, by decide +kernel⟩⟩
theorem sX7_294 : SV RX7 294 yX6_takeFrom cX6_takeFrom 3 none 1 := ⟨gw_in (List.mem_of_getElem? (i := 764) (by decide +kernel)) rfl, qn_X6_takeFrom, ql_X6_takeFrom, qi_X6, qc_X6_takeFrom, ⟨by decide, by decide, by decide +kernel⟩⟩
theorem sX6_65 : SV RX6 65 yX1_takeFrom cX1_takeFrom 2 none 1 := ⟨gw_in (List.mem_of_getElem? (i := 768) (by decide +kernel)) rfl, qn_X1_takeFrom, ql_X1_takeFrom, qi_X1, qc_X1_takeFrom, ⟨by decide, by decide, by decide +kernel⟩⟩
theorem sX6_69 : SV RX6 69 yX0_takeFrom cX0_takeFrom 3 none 1 := ⟨gw_in (List.mem_of_getElem? (i := 769) (by decide +kernel)) rfl, qn_X0_takeFrom, ql_X0_takeFrom, qi_X0, qc_X0_takeFrom, ⟨by decide, by decide, by decide +kernel⟩⟩
theorem sX0_42 : SV RX0 42 yX3_takeFrom cX3_takeFrom 2 none 1 := ⟨gw_in (List.mem_of_getElem? (i := 773) (by decide +kernel)) rfl, qn_X3_takeFrom, ql_X3_takeFrom, qi_X3, qc_X3_takeFrom, ⟨by decide, by decide, by decide +kernel⟩⟩
theorem sL_146 : SV RL 146 yX7_undo cX7_undo 1 (some .int) 0 := ⟨gw_in (List.mem_of_getElem? (i := 777) (by decide +kernel)) rfl, qn_X7_undo, ql_X7_undo, qi_X7, qc_X7_undo, ⟨by decide, by decide, by decide +kernel⟩⟩
theorem sL_150 : SV RL 150 yX7_tear cX7_tear 2 (some .int) 0 := ⟨gw_in (List.mem_of_getElem? (i := 781) (by decide +kernel)) rfl, qn_X7_tear, ql_X7_tear, qi_X7, qc_X7_tear, ⟨by decide, by decide, by decide +kernel⟩⟩
theorem sL_154 : SV RL 154 yX7_count cX7_count 2 (some .int) 1 := ⟨gw_in (List.mem_of_getElem? (i := 785) (by decide +kernel)) rfl, qn_X7_count, ql_X7_count, qi_X7, qc_X7_count, ⟨by decide, by decide, by decide +kernel⟩⟩
theorem sX7_297 : SV RX7 297 yX6_allFalls cX6_allFalls 3 (some .int) 0 := ⟨gw_in (List.mem_of_getElem? (i := 789) (by decide +kernel)) rfl, qn_X6_allFalls, ql_X6_allFalls, qi_X6, qc_X6_allFalls, ⟨by decide, by decide, by decide +kernel⟩⟩
theorem sL_158 : SV RL 158 yX7_status cX7_status 4 (some .int) 1 := ⟨gw_in (List.mem_of_getElem? (i := 793) (by decide +kernel)) rfl, qn_X7_status, ql_X7_status, qi_X7, qc_X7_status, ⟨by decide, by decide, by decide +kernel⟩⟩
theorem sL_12 : SI RL 12 yX8_init cX8_init 1 0 := ⟨gw_in (List.mem_of_getElem? (i := 799) (by decide +kernel)) rfl, qn_X8_init, rfl, qi_X8, qc_X8_init, ⟨by decide, by decide, by decide +kernel⟩⟩
theorem sL_17 : SV RL 17 yX8_roller cX8_roller 4 (some .int) 2 := ⟨gw_in (List.mem_of_getElem? (i := 861) (by decide +kernel)) rfl, qn_X8_roller, ql_X8_roller, qi_X8, qc_X8_roller, ⟨by decide, by decide, by decide +kernel⟩⟩
theorem sX8_39 : SS RX8 39 yX8_in cX8_in 6 (some .boolean) 3 := ⟨gw_in (List.mem_of_getElem? (i := 866) (by decide +kernel)) rfl, qt_X8_in, qi_X8, qc_X8_in, ⟨by decide, by decide, by decide +kernel⟩⟩
theorem sX8_51 : SV RX8 51 yX8_finds cX8_finds 2 (some .int) 1 := ⟨gw_in (List.mem_of_getElem? (i := 871) (by decide +kernel)) rfl, qn_X8_finds, ql_X8_finds, qi_X8, qc_X8_finds, ⟨by decide, by decide, by decide +kernel⟩⟩
theorem sL_21 : SV RL 21 yX8_of cX8_of 3 (some .int) 2 := ⟨gw_in (List.mem_of_getElem? (i := 876) (by decide +kernel)) rfl, qn_X8_of, ql_X8_of, qi_X8, qc_X8_of, ⟨by decide, by decide, by decide +kernel⟩⟩
theorem sX8_43 : SV RX8 43 yX8_isPerson cX8_isPerson 2 (some .boolean) 1 := ⟨gw_in (List.mem_of_getElem? (i := 880) (by decide +kernel)) rfl, qn_X8_isPerson, ql_X8_isPerson, qi_X8, qc_X8_isPerson, ⟨by decide, by decide, by decide +kernel⟩⟩
theorem sL_26 : SV RL 26 yX8_set cX8_set 5 (some .int) 3 := ⟨gw_in (List.mem_of_getElem? (i := 885) (by decide +kernel)) rfl, qn_X8_set, ql_X8_set, qi_X8, qc_X8_set, ⟨by decide, by decide, by decide +kernel⟩⟩
theorem sX8_66 : SV RX8 66 yX8_mayBe cX8_mayBe 3 (some .boolean) 2 := ⟨gw_in (List.mem_of_getElem? (i := 889) (by decide +kernel)) rfl, qn_X8_mayBe, ql_X8_mayBe, qi_X8, qc_X8_mayBe, ⟨by decide, by decide, by decide +kernel⟩⟩
theorem sX8_70 : SV RX8 70 yX8_isOnLog cX8_isOnLog 2 (some .boolean) 1 := ⟨gw_in (List.mem_of_getElem? (i := 897) (by decide +kernel)) rfl, qn_X8_isOnLog, ql_X8_isOnLog, qi_X8, qc_X8_isOnLog, ⟨by decide, by decide, by decide +kernel⟩⟩
theorem sL_30 : SV RL 30 yX8_as cX8_as 3 (some .int) 2 := ⟨gw_in (List.mem_of_getElem? (i := 902) (by decide +kernel)) rfl, qn_X8_as, ql_X8_as, qi_X8, qc_X8_as, ⟨by decide, by decide, by decide +kernel⟩⟩
theorem sX8_74 : SS RX8 74 yX8_told cX8_told 3 (some .int) 3 := ⟨gw_in (List.mem_of_getElem? (i := 906) (by decide +kernel)) rfl, qt_X8_told, qi_X8, qc_X8_told, ⟨by decide, by decide, by decide +kernel⟩⟩
theorem sX8_78 : SS RX8 78 yX8_isOf cX8_isOf 2 (some .boolean) 2 := ⟨gw_in (List.mem_of_getElem? (i := 909) (by decide +kernel)) rfl, qt_X8_isOf, qi_X8, qc_X8_isOf, ⟨by decide, by decide, by decide +kernel⟩⟩
theorem sL_34 : SV RL 34 yX8_log cX8_log 6 (some .int) 2 := ⟨gw_in (List.mem_of_getElem? (i := 913) (by decide +kernel)) rfl, qn_X8_log, ql_X8_log, qi_X8, qc_X8_log, ⟨by decide, by decide, by decide +kernel⟩⟩
theorem sL_39 : SV RL 39 yX8_push cX8_push 6 (some .int) 5 := ⟨gw_in (List.mem_of_getElem? (i := 918) (by decide +kernel)) rfl, qn_X8_push, ql_X8_push, qi_X8, qc_X8_push, ⟨by decide, by decide, by decide +kernel⟩⟩
theorem sX8_101 : SS RX8 101 yX8_pushOf cX8_pushOf 10 (some .int) 6 := ⟨gw_in (List.mem_of_getElem? (i := 925) (by decide +kernel)) rfl, qt_X8_pushOf, qi_X8, qc_X8_pushOf, ⟨by decide, by decide, by decide +kernel⟩⟩
theorem sX8_84 : SS RX8 84 yX8_held cX8_held 2 (some .int) 2 := ⟨gw_in (List.mem_of_getElem? (i := 928) (by decide +kernel)) rfl, qt_X8_held, qi_X8, qc_X8_held, ⟨by decide, by decide, by decide +kernel⟩⟩
theorem sX8_88 : SS RX8 88 yX8_size cX8_size 1 (some .int) 1 := ⟨gw_in (List.mem_of_getElem? (i := 931) (by decide +kernel)) rfl, qt_X8_size, qi_X8, qc_X8_size, ⟨by decide, by decide, by decide +kernel⟩⟩
theorem sX8_91 : SS RX8 91 yX8_ruleOf cX8_ruleOf 10 (some .int) 6 := ⟨gw_in (List.mem_of_getElem? (i := 934) (by decide +kernel)) rfl, qt_X8_ruleOf, qi_X8, qc_X8_ruleOf, ⟨by decide, by decide, by decide +kernel⟩⟩
theorem sL_43 : SV RL 43 yX8_mount cX8_mount 3 (some .int) 2 := ⟨gw_in (List.mem_of_getElem? (i := 937) (by decide +kernel)) rfl, qn_X8_mount, ql_X8_mount, qi_X8, qc_X8_mount, ⟨by decide, by decide, by decide +kernel⟩⟩
theorem sX8_127 : SV RX8 127 yX8_areTwo cX8_areTwo 3 (some .boolean) 2 := ⟨gw_in (List.mem_of_getElem? (i := 941) (by decide +kernel)) rfl, qn_X8_areTwo, ql_X8_areTwo, qi_X8, qc_X8_areTwo, ⟨by decide, by decide, by decide +kernel⟩⟩
theorem sX8_130 : SS RX8 130 yX8_getsOn cX8_getsOn 4 none 3 := ⟨gw_in (List.mem_of_getElem? (i := 945) (by decide +kernel)) rfl, qt_X8_getsOn, qi_X8, qc_X8_getsOn, ⟨by decide, by decide, by decide +kernel⟩⟩
theorem sL_48 : SV RL 48 yX8_off cX8_off 1 (some .int) 0 := ⟨gw_in (List.mem_of_getElem? (i := 948) (by decide +kernel)) rfl, qn_X8_off, ql_X8_off, qi_X8, qc_X8_off, ⟨by decide, by decide, by decide +kernel⟩⟩
theorem sL_53 : SV RL 53 yX8_bout cX8_bout 4 (some .int) 1 := ⟨gw_in (List.mem_of_getElem? (i := 952) (by decide +kernel)) rfl, qn_X8_bout, ql_X8_bout, qi_X8, qc_X8_bout, ⟨by decide, by decide, by decide +kernel⟩⟩
theorem sX8_135 : SS RX8 135 yX8_goesBy cX8_goesBy 8 (some .int) 1 := ⟨gw_in (List.mem_of_getElem? (i := 957) (by decide +kernel)) rfl, qt_X8_goesBy, qi_X8, qc_X8_goesBy, ⟨by decide, by decide, by decide +kernel⟩⟩
theorem sX8_104 : SS RX8 104 yX8_sees cX8_sees 3 (some .int) 2 := ⟨gw_in (List.mem_of_getElem? (i := 960) (by decide +kernel)) rfl, qt_X8_sees, qi_X8, qc_X8_sees, ⟨by decide, by decide, by decide +kernel⟩⟩
theorem sX8_116 : SS RX8 116 yX8_pushes cX8_pushes 3 (some .int) 2 := ⟨gw_in (List.mem_of_getElem? (i := 963) (by decide +kernel)) rfl, qt_X8_pushes, qi_X8, qc_X8_pushes, ⟨by decide, by decide, by decide +kernel⟩⟩
theorem sX8_108 : SS RX8 108 yX8_costOf cX8_costOf 1 (some .int) 1 := ⟨gw_in (List.mem_of_getElem? (i := 966) (by decide +kernel)) rfl, qt_X8_costOf, qi_X8, qc_X8_costOf, ⟨by decide, by decide, by decide +kernel⟩⟩
theorem sX8_119 : SS RX8 119 yX8_steps cX8_steps 3 none 3 := ⟨gw_in (List.mem_of_getElem? (i := 969) (by decide +kernel)) rfl, qt_X8_steps, qi_X8, qc_X8_steps, ⟨by decide, by decide, by decide +kernel⟩⟩
theorem sX8_112 : SS RX8 112 yX8_slips cX8_slips 1 (some .boolean) 1 := ⟨gw_in (List.mem_of_getElem? (i := 972) (by decide +kernel)) rfl, qt_X8_slips, qi_X8, qc_X8_slips, ⟨by decide, by decide, by decide +kernel⟩⟩
theorem sX8_123 : SS RX8 123 yX8_falls cX8_falls 2 (some .boolean) 2 := ⟨gw_in (List.mem_of_getElem? (i := 976) (by decide +kernel)) rfl, qt_X8_falls, qi_X8, qc_X8_falls, ⟨by decide, by decide, by decide +kernel⟩⟩
theorem sL_57 : SV RL 57 yX8_stands cX8_stands 3 (some .int) 2 := ⟨gw_in (List.mem_of_getElem? (i := 979) (by decide +kernel)) rfl, qn_X8_stands, ql_X8_stands, qi_X8, qc_X8_stands, ⟨by decide, by decide, by decide +kernel⟩⟩
theorem sL_61 : SV RL 61 yX8_now cX8_now 2 (some .int) 1 := ⟨gw_in (List.mem_of_getElem? (i := 983) (by decide +kernel)) rfl, qn_X8_now, ql_X8_now, qi_X8, qc_X8_now, ⟨by decide, by decide, by decide +kernel⟩⟩
theorem sL_65 : SV RL 65 yX8_seed cX8_seed 3 (some .int) 1 := ⟨gw_in (List.mem_of_getElem? (i := 988) (by decide +kernel)) rfl, qn_X8_seed, ql_X8_seed, qi_X8, qc_X8_seed, ⟨by decide, by decide, by decide +kernel⟩⟩
theorem sL_70 : SV RL 70 yX8_ahead cX8_ahead 6 (some .int) 4 := ⟨gw_in (List.mem_of_getElem? (i := 992) (by decide +kernel)) rfl, qn_X8_ahead, ql_X8_ahead, qi_X8, qc_X8_ahead, ⟨by decide, by decide, by decide +kernel⟩⟩
theorem sX8_150 : SS RX8 150 yX8_copies cX8_copies 3 none 2 := ⟨gw_in (List.mem_of_getElem? (i := 997) (by decide +kernel)) rfl, qt_X8_copies, qi_X8, qc_X8_copies, ⟨by decide, by decide, by decide +kernel⟩⟩
theorem sX8_154 : SV RX8 154 yX8_boutAhead cX8_boutAhead 7 (some .int) 3 := ⟨gw_in (List.mem_of_getElem? (i := 1000) (by decide +kernel)) rfl, qn_X8_boutAhead, ql_X8_boutAhead, qi_X8, qc_X8_boutAhead, ⟨by decide, by decide, by decide +kernel⟩⟩
theorem sL_74 : SV RL 74 yX8_best cX8_best 8 (some .int) 3 := ⟨gw_in (List.mem_of_getElem? (i := 1004) (by decide +kernel)) rfl, qn_X8_best, ql_X8_best, qi_X8, qc_X8_best, ⟨by decide, by decide, by decide +kernel⟩⟩
theorem sL_78 : SV RL 78 yX8_light cX8_light 5 (some .int) 3 := ⟨gw_in (List.mem_of_getElem? (i := 1009) (by decide +kernel)) rfl, qn_X8_light, ql_X8_light, qi_X8, qc_X8_light, ⟨by decide, by decide, by decide +kernel⟩⟩
theorem sL_82 : SV RL 82 yX8_late cX8_late 5 (some .int) 3 := ⟨gw_in (List.mem_of_getElem? (i := 1014) (by decide +kernel)) rfl, qn_X8_late, ql_X8_late, qi_X8, qc_X8_late, ⟨by decide, by decide, by decide +kernel⟩⟩
theorem sL_86 : SV RL 86 yX8_swing cX8_swing 6 (some .int) 4 := ⟨gw_in (List.mem_of_getElem? (i := 1018) (by decide +kernel)) rfl, qn_X8_swing, ql_X8_swing, qi_X8, qc_X8_swing, ⟨by decide, by decide, by decide +kernel⟩⟩
theorem sL_90 : SV RL 90 yX8_beats cX8_beats 3 (some .int) 2 := ⟨gw_in (List.mem_of_getElem? (i := 1022) (by decide +kernel)) rfl, qn_X8_beats, ql_X8_beats, qi_X8, qc_X8_beats, ⟨by decide, by decide, by decide +kernel⟩⟩
theorem sX8_161 : SV RX8 161 yX8_beatenBy cX8_beatenBy 5 (some .int) 2 := ⟨gw_in (List.mem_of_getElem? (i := 1026) (by decide +kernel)) rfl, qn_X8_beatenBy, ql_X8_beatenBy, qi_X8, qc_X8_beatenBy, ⟨by decide, by decide, by decide +kernel⟩⟩
theorem sL_94 : SV RL 94 yX8_five cX8_five 8 (some .int) 3 := ⟨gw_in (List.mem_of_getElem? (i := 1030) (by decide +kernel)) rfl, qn_X8_five, ql_X8_five, qi_X8, qc_X8_five, ⟨by decide, by decide, by decide +kernel⟩⟩
theorem sL_98 : SV RL 98 yX8_champion cX8_champion 7 (some .int) 1 := ⟨gw_in (List.mem_of_getElem? (i := 1034) (by decide +kernel)) rfl, qn_X8_champion, ql_X8_champion, qi_X8, qc_X8_champion, ⟨by decide, by decide, by decide +kernel⟩⟩
theorem sL_102 : SV RL 102 yX8_feed cX8_feed 4 (some .int) 2 := ⟨gw_in (List.mem_of_getElem? (i := 1039) (by decide +kernel)) rfl, qn_X8_feed, ql_X8_feed, qi_X8, qc_X8_feed, ⟨by decide, by decide, by decide +kernel⟩⟩
theorem sL_106 : SV RL 106 yX8_wipe cX8_wipe 2 (some .int) 0 := ⟨gw_in (List.mem_of_getElem? (i := 1043) (by decide +kernel)) rfl, qn_X8_wipe, ql_X8_wipe, qi_X8, qc_X8_wipe, ⟨by decide, by decide, by decide +kernel⟩⟩
theorem sL_110 : SV RL 110 yX8_way cX8_way 2 (some .int) 0 := ⟨gw_in (List.mem_of_getElem? (i := 1047) (by decide +kernel)) rfl, qn_X8_way, ql_X8_way, qi_X8, qc_X8_way, ⟨by decide, by decide, by decide +kernel⟩⟩
theorem sX8_235 : SV RX8 235 yX8_look cX8_look 2 none 0 := ⟨gw_in (List.mem_of_getElem? (i := 1051) (by decide +kernel)) rfl, qn_X8_look, ql_X8_look, qi_X8, qc_X8_look, ⟨by decide, by decide, by decide +kernel⟩⟩
theorem sX8_184 : SS RX8 184 yX8_isLetter cX8_isLetter 1 (some .boolean) 1 := ⟨gw_in (List.mem_of_getElem? (i := 1055) (by decide +kernel)) rfl, qt_X8_isLetter, qi_X8, qc_X8_isLetter, ⟨by decide, by decide, by decide +kernel⟩⟩
theorem sX8_187 : SS RX8 187 yX8_isDigit cX8_isDigit 1 (some .boolean) 1 := ⟨gw_in (List.mem_of_getElem? (i := 1058) (by decide +kernel)) rfl, qt_X8_isDigit, qi_X8, qc_X8_isDigit, ⟨by decide, by decide, by decide +kernel⟩⟩
theorem sX8_248 : SV RX8 248 yX8_reads cX8_reads 4 none 1 := ⟨gw_in (List.mem_of_getElem? (i := 1061) (by decide +kernel)) rfl, qn_X8_reads, ql_X8_reads, qi_X8, qc_X8_reads, ⟨by decide, by decide, by decide +kernel⟩⟩
theorem sX8_238 : SV RX8 238 yX8_name cX8_name 1 (some .int) 0 := ⟨gw_in (List.mem_of_getElem? (i := 1065) (by decide +kernel)) rfl, qn_X8_name, ql_X8_name, qi_X8, qc_X8_name, ⟨by decide, by decide, by decide +kernel⟩⟩
theorem sX8_206 : SV RX8 206 yX8_isWord cX8_isWord 4 (some .boolean) 1 := ⟨gw_in (List.mem_of_getElem? (i := 1070) (by decide +kernel)) rfl, qn_X8_isWord, ql_X8_isWord, qi_X8, qc_X8_isWord, ⟨by decide, by decide, by decide +kernel⟩⟩
theorem sX8_190 : SV RX8 190 yJ0_length_8abf5 cJ0_length_8abf5 1 (some .int) 0 := ⟨gw_in (List.mem_of_getElem? (i := 1074) (by decide +kernel)) rfl, qn_J0_length_8abf5, ql_J0_length_8abf5, qi_J0, qc_J0_length_8abf5, ⟨by decide, by decide, by decide +kernel⟩⟩
theorem sX8_196 : SV RX8 196 yJ0_charAt_5068e cJ0_charAt_5068e 2 (some .char) 1 := ⟨gw_in (List.mem_of_getElem? (i := 1075) (by decide +kernel)) rfl, qn_J0_charAt_5068e, ql_J0_charAt_5068e, qi_J0, qc_J0_charAt_5068e, ⟨by decide, by decide, by decide +kernel⟩⟩
theorem sX8_231 : SV RX8 231 yX8_must cX8_must 2 none 1 := ⟨gw_in (List.mem_of_getElem? (i := 1080) (by decide +kernel)) rfl, qn_X8_must, ql_X8_must, qi_X8, qc_X8_must, ⟨by decide, by decide, by decide +kernel⟩⟩
theorem sX8_241 : SV RX8 241 yX8_compares cX8_compares 3 none 1 := ⟨gw_in (List.mem_of_getElem? (i := 1084) (by decide +kernel)) rfl, qn_X8_compares, ql_X8_compares, qi_X8, qc_X8_compares, ⟨by decide, by decide, by decide +kernel⟩⟩
theorem sX8_228 : SV RX8 228 yX8_isSign cX8_isSign 2 (some .boolean) 1 := ⟨gw_in (List.mem_of_getElem? (i := 1088) (by decide +kernel)) rfl, qn_X8_isSign, ql_X8_isSign, qi_X8, qc_X8_isSign, ⟨by decide, by decide, by decide +kernel⟩⟩
theorem sX8_245 : SV RX8 245 yX8_deed cX8_deed 1 (some .int) 0 := ⟨gw_in (List.mem_of_getElem? (i := 1092) (by decide +kernel)) rfl, qn_X8_deed, ql_X8_deed, qi_X8, qc_X8_deed, ⟨by decide, by decide, by decide +kernel⟩⟩
theorem sL_114 : SV RL 114 yX8_rules cX8_rules 2 (some .int) 1 := ⟨gw_in (List.mem_of_getElem? (i := 1101) (by decide +kernel)) rfl, qn_X8_rules, ql_X8_rules, qi_X8, qc_X8_rules, ⟨by decide, by decide, by decide +kernel⟩⟩
theorem sX8_251 : SV RX8 251 yX8_isWay cX8_isWay 2 (some .boolean) 1 := ⟨gw_in (List.mem_of_getElem? (i := 1105) (by decide +kernel)) rfl, qn_X8_isWay, ql_X8_isWay, qi_X8, qc_X8_isWay, ⟨by decide, by decide, by decide +kernel⟩⟩
theorem sL_118 : SV RL 118 yX8_holds cX8_holds 7 (some .int) 5 := ⟨gw_in (List.mem_of_getElem? (i := 1109) (by decide +kernel)) rfl, qn_X8_holds, ql_X8_holds, qi_X8, qc_X8_holds, ⟨by decide, by decide, by decide +kernel⟩⟩
theorem sL_122 : SV RL 122 yX8_sheet cX8_sheet 5 (some .int) 3 := ⟨gw_in (List.mem_of_getElem? (i := 1113) (by decide +kernel)) rfl, qn_X8_sheet, ql_X8_sheet, qi_X8, qc_X8_sheet, ⟨by decide, by decide, by decide +kernel⟩⟩
theorem sX8_256 : SS RX8 256 yX8_isSheet cX8_isSheet 1 (some .boolean) 1 := ⟨gw_in (List.mem_of_getElem? (i := 1117) (by decide +kernel)) rfl, qt_X8_isSheet, qi_X8, qc_X8_isSheet, ⟨by decide, by decide, by decide +kernel⟩⟩
theorem sL_129 : SV RL 129 yX8_write cX8_write 7 (some .long) 3 := ⟨gw_in (List.mem_of_getElem? (i := 1122) (by decide +kernel)) rfl, qn_X8_write, ql_X8_write, qi_X8, qc_X8_write, ⟨by decide, by decide, by decide +kernel⟩⟩
theorem sX8_261 : SS RX8 261 yX8_lowest cX8_lowest 3 (some .long) 2 := ⟨gw_in (List.mem_of_getElem? (i := 1127) (by decide +kernel)) rfl, qt_X8_lowest, qi_X8, qc_X8_lowest, ⟨by decide, by decide, by decide +kernel⟩⟩
theorem sL_133 : SV RL 133 yX8_copy cX8_copy 7 (some .int) 5 := ⟨gw_in (List.mem_of_getElem? (i := 1130) (by decide +kernel)) rfl, qn_X8_copy, ql_X8_copy, qi_X8, qc_X8_copy, ⟨by decide, by decide, by decide +kernel⟩⟩
theorem sL_137 : SV RL 137 yX8_film cX8_film 7 (some .int) 3 := ⟨gw_in (List.mem_of_getElem? (i := 1134) (by decide +kernel)) rfl, qn_X8_film, ql_X8_film, qi_X8, qc_X8_film, ⟨by decide, by decide, by decide +kernel⟩⟩
theorem sX8_265 : SV RX8 265 yX8_whyNot cX8_whyNot 4 (some .int) 3 := ⟨gw_in (List.mem_of_getElem? (i := 1138) (by decide +kernel)) rfl, qn_X8_whyNot, ql_X8_whyNot, qi_X8, qc_X8_whyNot, ⟨by decide, by decide, by decide +kernel⟩⟩
theorem sL_141 : SV RL 141 yX8_read cX8_read 7 (some .int) 3 := ⟨gw_in (List.mem_of_getElem? (i := 1142) (by decide +kernel)) rfl, qn_X8_read, ql_X8_read, qi_X8, qc_X8_read, ⟨by decide, by decide, by decide +kernel⟩⟩
theorem sL_145 : SV RL 145 yX8_image cX8_image 1 (some .int) 0 := ⟨gw_in (List.mem_of_getElem? (i := 1146) (by decide +kernel)) rfl, qn_X8_image, ql_X8_image, qi_X8, qc_X8_image, ⟨by decide, by decide, by decide +kernel⟩⟩
theorem sL_149 : SV RL 149 yX8_undo cX8_undo 1 (some .int) 0 := ⟨gw_in (List.mem_of_getElem? (i := 1150) (by decide +kernel)) rfl, qn_X8_undo, ql_X8_undo, qi_X8, qc_X8_undo, ⟨by decide, by decide, by decide +kernel⟩⟩
theorem sL_153 : SV RL 153 yX8_tear cX8_tear 2 (some .int) 0 := ⟨gw_in (List.mem_of_getElem? (i := 1154) (by decide +kernel)) rfl, qn_X8_tear, ql_X8_tear, qi_X8, qc_X8_tear, ⟨by decide, by decide, by decide +kernel⟩⟩
theorem sL_157 : SV RL 157 yX8_count cX8_count 2 (some .int) 1 := ⟨gw_in (List.mem_of_getElem? (i := 1158) (by decide +kernel)) rfl, qn_X8_count, ql_X8_count, qi_X8, qc_X8_count, ⟨by decide, by decide, by decide +kernel⟩⟩
theorem sX8_271 : SV RX8 271 yX8_allFalls cX8_allFalls 3 (some .int) 0 := ⟨gw_in (List.mem_of_getElem? (i := 1162) (by decide +kernel)) rfl, qn_X8_allFalls, ql_X8_allFalls, qi_X8, qc_X8_allFalls, ⟨by decide, by decide, by decide +kernel⟩⟩
theorem sL_161 : SV RL 161 yX8_status cX8_status 4 (some .int) 1 := ⟨gw_in (List.mem_of_getElem? (i := 1166) (by decide +kernel)) rfl, qn_X8_status, ql_X8_status, qi_X8, qc_X8_status, ⟨by decide, by decide, by decide +kernel⟩⟩
theorem sX0_17 : SIn RX0 17 yX3_init cX3_init 1 0 := ⟨List.mem_of_getElem? (i := 0) (by decide +kernel), qn_X3_init, rfl, qi_X3, qc_X3_init, ⟨by decide, by decide, by decide +kernel⟩⟩
theorem sX6_64 : SIn RX6 64 yX1_init cX1_init 1 0 := ⟨List.mem_of_getElem? (i := 1) (by decide +kernel), qn_X1_init, rfl, qi_X1, qc_X1_init, ⟨by decide, by decide, by decide +kernel⟩⟩
theorem sX7_42 : SIn RX7 42 yX1_init cX1_init 1 0 := ⟨List.mem_of_getElem? (i := 2) (by decide +kernel), qn_X1_init, rfl, qi_X1, qc_X1_init, ⟨by decide, by decide, by decide +kernel⟩⟩
theorem sX7_49 : SIn RX7 49 yX4_init cX4_init 1 0 := ⟨List.mem_of_getElem? (i := 3) (by decide +kernel), qn_X4_init, rfl, qi_X4, qc_X4_init, ⟨by decide, by decide, by decide +kernel⟩⟩
theorem sX7_63 : SIn RX7 63 yX2_init cX2_init 1 0 := ⟨List.mem_of_getElem? (i := 4) (by decide +kernel), qn_X2_init, rfl, qi_X2, qc_X2_init, ⟨by decide, by decide, by decide +kernel⟩⟩
theorem sX6_72 : SNs RX6 72 yX7_within cX7_within 3 (some .boolean) 3 := ⟨List.mem_of_getElem? (i := 5) (by decide +kernel), qt_X7_within, qi_X7, qc_X7_within, ⟨by decide, by decide, by decide +kernel⟩⟩
theorem sX1_33 : SNs RX1 33 yX7_atMost cX7_atMost 2 (some .int) 2 := ⟨List.mem_of_getElem? (i := 6) (by decide +kernel), qt_X7_atMost, qi_X7, qc_X7_atMost, ⟨by decide, by decide, by decide +kernel⟩⟩
theorem sX5_28 : SNs RX5 28 yX7_within cX7_within 3 (some .boolean) 3 := ⟨List.mem_of_getElem? (i := 7) (by decide +kernel), qt_X7_within, qi_X7, qc_X7_within, ⟨by decide, by decide, by decide +kernel⟩⟩
theorem sX0_110 : SNs RX0 110 yX7_within cX7_within 3 (some .boolean) 3 := ⟨List.mem_of_getElem? (i := 8) (by decide +kernel), qt_X7_within, qi_X7, qc_X7_within, ⟨by decide, by decide, by decide +kernel⟩⟩
theorem sX3_34 : SNs RX3 34 yX7_atMost cX7_atMost 2 (some .int) 2 := ⟨List.mem_of_getElem? (i := 9) (by decide +kernel), qt_X7_atMost, qi_X7, qc_X7_atMost, ⟨by decide, by decide, by decide +kernel⟩⟩
theorem sX4_33 : SIn RX4 33 yX5_init cX5_init 1 0 := ⟨List.mem_of_getElem? (i := 10) (by decide +kernel), qn_X5_init, rfl, qi_X5, qc_X5_init, ⟨by decide, by decide, by decide +kernel⟩⟩
theorem sX2_22 : SNs RX2 22 yX7_within cX7_within 3 (some .boolean) 3 := ⟨List.mem_of_getElem? (i := 11) (by decide +kernel), qt_X7_within, qi_X7, qc_X7_within, ⟨by decide, by decide, by decide +kernel⟩⟩
theorem fX3_7 : FS RX3 7 3 0 RX3 TX3 5 := ⟨rfl, u_X3, by decide, gw_in (List.mem_of_getElem? (i := 94) (by decide +kernel)) rfl⟩
theorem fX7_172 : FS RX7 172 3 0 RX3 TX3 5 := ⟨rfl, u_X3, by decide, gw_in (List.mem_of_getElem? (i := 95) (by decide +kernel)) rfl⟩
theorem fX3_13 : FS RX3 13 3 1 RX3 TX3 5 := ⟨rfl, u_X3, by decide, gw_in (List.mem_of_getElem? (i := 96) (by decide +kernel)) rfl⟩
theorem fX0_82 : FS RX0 82 3 1 RX3 TX3 5 := ⟨rfl, u_X3, by decide, gw_in (List.mem_of_getElem? (i := 97) (by decide +kernel)) rfl⟩
theorem fX7_177 : FS RX7 177 3 1 RX3 TX3 5 := ⟨rfl, u_X3, by decide, gw_in (List.mem_of_getElem? (i := 98) (by decide +kernel)) rfl⟩
theorem fX3_16 : FS RX3 16 3 2 RX3 TX3 5 := ⟨rfl, u_X3, by decide, gw_in (List.mem_of_getElem? (i := 99) (by decide +kernel)) rfl⟩
theorem fX0_114 : FS RX0 114 3 2 RX3 TX3 5 := ⟨rfl, u_X3, by decide, gw_in (List.mem_of_getElem? (i := 100) (by decide +kernel)) rfl⟩
theorem fX7_180 : FS RX7 180 3 2 RX3 TX3 5 := ⟨rfl, u_X3, by decide, gw_in (List.mem_of_getElem? (i := 101) (by decide +kernel)) rfl⟩
theorem fX3_25 : FS RX3 25 3 3 RX3 TX3 5 := ⟨rfl, u_X3, by decide, gw_in (List.mem_of_getElem? (i := 102) (by decide +kernel)) rfl⟩
theorem fX3_28 : FS RX3 28 3 4 RX3 TX3 5 := ⟨rfl, u_X3, by decide, gw_in (List.mem_of_getElem? (i := 103) (by decide +kernel)) rfl⟩
theorem fX0_94 : FS RX0 94 3 4 RX3 TX3 5 := ⟨rfl, u_X3, by decide, gw_in (List.mem_of_getElem? (i := 104) (by decide +kernel)) rfl⟩
theorem fX0_35 : FS RX0 35 0 0 RX0 TX0 8 := ⟨rfl, u_X0, by decide, gw_in (List.mem_of_getElem? (i := 117) (by decide +kernel)) rfl⟩
theorem fX0_38 : FS RX0 38 0 1 RX0 TX0 8 := ⟨rfl, u_X0, by decide, gw_in (List.mem_of_getElem? (i := 118) (by decide +kernel)) rfl⟩
theorem fX0_11 : FS RX0 11 0 2 RX0 TX0 8 := ⟨rfl, u_X0, by decide, gw_in (List.mem_of_getElem? (i := 119) (by decide +kernel)) rfl⟩
theorem fX0_18 : FS RX0 18 0 3 RX0 TX0 8 := ⟨rfl, u_X0, by decide, gw_in (List.mem_of_getElem? (i := 120) (by decide +kernel)) rfl⟩
theorem fX7_167 : FS RX7 167 0 3 RX0 TX0 8 := ⟨rfl, u_X0, by decide, gw_in (List.mem_of_getElem? (i := 121) (by decide +kernel)) rfl⟩
theorem fX0_22 : FS RX0 22 0 4 RX0 TX0 8 := ⟨rfl, u_X0, by decide, gw_in (List.mem_of_getElem? (i := 122) (by decide +kernel)) rfl⟩
theorem fX7_170 : FS RX7 170 0 4 RX0 TX0 8 := ⟨rfl, u_X0, by decide, gw_in (List.mem_of_getElem? (i := 123) (by decide +kernel)) rfl⟩
theorem fX0_25 : FS RX0 25 0 5 RX0 TX0 8 := ⟨rfl, u_X0, by decide, gw_in (List.mem_of_getElem? (i := 124) (by decide +kernel)) rfl⟩
theorem fX7_191 : FS RX7 191 0 5 RX0 TX0 8 := ⟨rfl, u_X0, by decide, gw_in (List.mem_of_getElem? (i := 125) (by decide +kernel)) rfl⟩
theorem fX0_29 : FS RX0 29 0 6 RX0 TX0 8 := ⟨rfl, u_X0, by decide, gw_in (List.mem_of_getElem? (i := 126) (by decide +kernel)) rfl⟩
theorem fX7_156 : FS RX7 156 0 6 RX0 TX0 8 := ⟨rfl, u_X0, by decide, gw_in (List.mem_of_getElem? (i := 127) (by decide +kernel)) rfl⟩
theorem fX0_32 : FS RX0 32 0 7 RX0 TX0 8 := ⟨rfl, u_X0, by decide, gw_in (List.mem_of_getElem? (i := 128) (by decide +kernel)) rfl⟩
theorem fX7_197 : FS RX7 197 0 7 RX0 TX0 8 := ⟨rfl, u_X0, by decide, gw_in (List.mem_of_getElem? (i := 129) (by decide +kernel)) rfl⟩
theorem fX1_9 : FS RX1 9 1 0 RX1 TX1 7 := ⟨rfl, u_X1, by decide, gw_in (List.mem_of_getElem? (i := 152) (by decide +kernel)) rfl⟩
theorem fX7_107 : FS RX7 107 1 0 RX1 TX1 7 := ⟨rfl, u_X1, by decide, gw_in (List.mem_of_getElem? (i := 153) (by decide +kernel)) rfl⟩
theorem fX1_15 : FS RX1 15 1 1 RX1 TX1 7 := ⟨rfl, u_X1, by decide, gw_in (List.mem_of_getElem? (i := 154) (by decide +kernel)) rfl⟩
theorem fX0_91 : FS RX0 91 1 1 RX1 TX1 7 := ⟨rfl, u_X1, by decide, gw_in (List.mem_of_getElem? (i := 155) (by decide +kernel)) rfl⟩
theorem fX7_208 : FS RX7 208 1 1 RX1 TX1 7 := ⟨rfl, u_X1, by decide, gw_in (List.mem_of_getElem? (i := 156) (by decide +kernel)) rfl⟩
theorem fX1_18 : FS RX1 18 1 2 RX1 TX1 7 := ⟨rfl, u_X1, by decide, gw_in (List.mem_of_getElem? (i := 157) (by decide +kernel)) rfl⟩
theorem fX0_104 : FS RX0 104 1 2 RX1 TX1 7 := ⟨rfl, u_X1, by decide, gw_in (List.mem_of_getElem? (i := 158) (by decide +kernel)) rfl⟩
theorem fX7_211 : FS RX7 211 1 2 RX1 TX1 7 := ⟨rfl, u_X1, by decide, gw_in (List.mem_of_getElem? (i := 159) (by decide +kernel)) rfl⟩
theorem fX1_21 : FS RX1 21 1 3 RX1 TX1 7 := ⟨rfl, u_X1, by decide, gw_in (List.mem_of_getElem? (i := 160) (by decide +kernel)) rfl⟩
theorem fX0_98 : FS RX0 98 1 3 RX1 TX1 7 := ⟨rfl, u_X1, by decide, gw_in (List.mem_of_getElem? (i := 161) (by decide +kernel)) rfl⟩
theorem fX1_24 : FS RX1 24 1 4 RX1 TX1 7 := ⟨rfl, u_X1, by decide, gw_in (List.mem_of_getElem? (i := 162) (by decide +kernel)) rfl⟩
theorem fX0_46 : FS RX0 46 1 4 RX1 TX1 7 := ⟨rfl, u_X1, by decide, gw_in (List.mem_of_getElem? (i := 163) (by decide +kernel)) rfl⟩
theorem fX1_27 : FS RX1 27 1 5 RX1 TX1 7 := ⟨rfl, u_X1, by decide, gw_in (List.mem_of_getElem? (i := 164) (by decide +kernel)) rfl⟩
theorem fX6_76 : FS RX6 76 1 5 RX1 TX1 7 := ⟨rfl, u_X1, by decide, gw_in (List.mem_of_getElem? (i := 165) (by decide +kernel)) rfl⟩
theorem fX7_114 : FS RX7 114 1 5 RX1 TX1 7 := ⟨rfl, u_X1, by decide, gw_in (List.mem_of_getElem? (i := 166) (by decide +kernel)) rfl⟩
theorem fX1_30 : FS RX1 30 1 6 RX1 TX1 7 := ⟨rfl, u_X1, by decide, gw_in (List.mem_of_getElem? (i := 167) (by decide +kernel)) rfl⟩
theorem fX7_127 : FS RX7 127 1 6 RX1 TX1 7 := ⟨rfl, u_X1, by decide, gw_in (List.mem_of_getElem? (i := 168) (by decide +kernel)) rfl⟩
theorem fX0_107 : FS RX0 107 1 6 RX1 TX1 7 := ⟨rfl, u_X1, by decide, gw_in (List.mem_of_getElem? (i := 169) (by decide +kernel)) rfl⟩
theorem fX6_11 : FS RX6 11 6 0 RX6 TX6 10 := ⟨rfl, u_X6, by decide, gw_in (List.mem_of_getElem? (i := 185) (by decide +kernel)) rfl⟩
theorem fX7_82 : FS RX7 82 6 0 RX6 TX6 10 := ⟨rfl, u_X6, by decide, gw_in (List.mem_of_getElem? (i := 186) (by decide +kernel)) rfl⟩
theorem fX6_17 : FS RX6 17 6 1 RX6 TX6 10 := ⟨rfl, u_X6, by decide, gw_in (List.mem_of_getElem? (i := 187) (by decide +kernel)) rfl⟩
theorem fX7_77 : FS RX7 77 6 1 RX6 TX6 10 := ⟨rfl, u_X6, by decide, gw_in (List.mem_of_getElem? (i := 188) (by decide +kernel)) rfl⟩
theorem fX6_23 : FS RX6 23 6 2 RX6 TX6 10 := ⟨rfl, u_X6, by decide, gw_in (List.mem_of_getElem? (i := 189) (by decide +kernel)) rfl⟩
theorem fX7_29 : FS RX7 29 6 2 RX6 TX6 10 := ⟨rfl, u_X6, by decide, gw_in (List.mem_of_getElem? (i := 190) (by decide +kernel)) rfl⟩
theorem fX6_27 : FS RX6 27 6 3 RX6 TX6 10 := ⟨rfl, u_X6, by decide, gw_in (List.mem_of_getElem? (i := 191) (by decide +kernel)) rfl⟩
theorem fX7_242 : FS RX7 242 6 3 RX6 TX6 10 := ⟨rfl, u_X6, by decide, gw_in (List.mem_of_getElem? (i := 192) (by decide +kernel)) rfl⟩
theorem fX7_25 : FS RX7 25 6 4 RX6 TX6 10 := ⟨rfl, u_X6, by decide, gw_in (List.mem_of_getElem? (i := 193) (by decide +kernel)) rfl⟩
theorem fX6_39 : FS RX6 39 6 4 RX6 TX6 10 := ⟨rfl, u_X6, by decide, gw_in (List.mem_of_getElem? (i := 194) (by decide +kernel)) rfl⟩
theorem fX6_47 : FS RX6 47 6 5 RX6 TX6 10 := ⟨rfl, u_X6, by decide, gw_in (List.mem_of_getElem? (i := 195) (by decide +kernel)) rfl⟩
theorem fX7_150 : FS RX7 150 6 5 RX6 TX6 10 := ⟨rfl, u_X6, by decide, gw_in (List.mem_of_getElem? (i := 196) (by decide +kernel)) rfl⟩
theorem fX6_51 : FS RX6 51 6 6 RX6 TX6 10 := ⟨rfl, u_X6, by decide, gw_in (List.mem_of_getElem? (i := 197) (by decide +kernel)) rfl⟩
theorem fX7_141 : FS RX7 141 6 6 RX6 TX6 10 := ⟨rfl, u_X6, by decide, gw_in (List.mem_of_getElem? (i := 198) (by decide +kernel)) rfl⟩
theorem fX6_55 : FS RX6 55 6 7 RX6 TX6 10 := ⟨rfl, u_X6, by decide, gw_in (List.mem_of_getElem? (i := 199) (by decide +kernel)) rfl⟩
theorem fX7_144 : FS RX7 144 6 7 RX6 TX6 10 := ⟨rfl, u_X6, by decide, gw_in (List.mem_of_getElem? (i := 200) (by decide +kernel)) rfl⟩
theorem fX6_58 : FS RX6 58 6 8 RX6 TX6 10 := ⟨rfl, u_X6, by decide, gw_in (List.mem_of_getElem? (i := 201) (by decide +kernel)) rfl⟩
theorem fX7_147 : FS RX7 147 6 8 RX6 TX6 10 := ⟨rfl, u_X6, by decide, gw_in (List.mem_of_getElem? (i := 202) (by decide +kernel)) rfl⟩
theorem fX6_61 : FS RX6 61 6 9 RX6 TX6 10 := ⟨rfl, u_X6, by decide, gw_in (List.mem_of_getElem? (i := 203) (by decide +kernel)) rfl⟩
theorem fX7_194 : FS RX7 194 6 9 RX6 TX6 10 := ⟨rfl, u_X6, by decide, gw_in (List.mem_of_getElem? (i := 204) (by decide +kernel)) rfl⟩
theorem fX4_9 : FS RX4 9 4 0 RX4 TX4 6 := ⟨rfl, u_X4, by decide, gw_in (List.mem_of_getElem? (i := 236) (by decide +kernel)) rfl⟩
theorem fX4_15 : FS RX4 15 4 1 RX4 TX4 6 := ⟨rfl, u_X4, by decide, gw_in (List.mem_of_getElem? (i := 237) (by decide +kernel)) rfl⟩
theorem fX7_235 : FS RX7 235 4 1 RX4 TX4 6 := ⟨rfl, u_X4, by decide, gw_in (List.mem_of_getElem? (i := 238) (by decide +kernel)) rfl⟩
theorem fX4_19 : FS RX4 19 4 2 RX4 TX4 6 := ⟨rfl, u_X4, by decide, gw_in (List.mem_of_getElem? (i := 239) (by decide +kernel)) rfl⟩
theorem fX7_249 : FS RX7 249 4 2 RX4 TX4 6 := ⟨rfl, u_X4, by decide, gw_in (List.mem_of_getElem? (i := 240) (by decide +kernel)) rfl⟩
theorem fX4_22 : FS RX4 22 4 3 RX4 TX4 6 := ⟨rfl, u_X4, by decide, gw_in (List.mem_of_getElem? (i := 241) (by decide +kernel)) rfl⟩
theorem fX4_25 : FS RX4 25 4 4 RX4 TX4 6 := ⟨rfl, u_X4, by decide, gw_in (List.mem_of_getElem? (i := 242) (by decide +kernel)) rfl⟩
theorem fX4_28 : FS RX4 28 4 5 RX4 TX4 6 := ⟨rfl, u_X4, by decide, gw_in (List.mem_of_getElem? (i := 243) (by decide +kernel)) rfl⟩
theorem fX2_9 : FS RX2 9 2 0 RX2 TX2 3 := ⟨rfl, u_X2, by decide, gw_in (List.mem_of_getElem? (i := 264) (by decide +kernel)) rfl⟩
theorem fX7_278 : FS RX7 278 2 0 RX2 TX2 3 := ⟨rfl, u_X2, by decide, gw_in (List.mem_of_getElem? (i := 265) (by decide +kernel)) rfl⟩
theorem fX2_15 : FS RX2 15 2 1 RX2 TX2 3 := ⟨rfl, u_X2, by decide, gw_in (List.mem_of_getElem? (i := 266) (by decide +kernel)) rfl⟩
theorem fX7_264 : FS RX7 264 2 1 RX2 TX2 3 := ⟨rfl, u_X2, by decide, gw_in (List.mem_of_getElem? (i := 267) (by decide +kernel)) rfl⟩
theorem fX2_18 : FS RX2 18 2 2 RX2 TX2 3 := ⟨rfl, u_X2, by decide, gw_in (List.mem_of_getElem? (i := 268) (by decide +kernel)) rfl⟩
theorem fX7_270 : FS RX7 270 2 2 RX2 TX2 3 := ⟨rfl, u_X2, by decide, gw_in (List.mem_of_getElem? (i := 269) (by decide +kernel)) rfl⟩
theorem fX7_10 : FS RX7 10 7 0 RX7 TX7 8 := ⟨rfl, u_X7, by decide, gw_in (List.mem_of_getElem? (i := 278) (by decide +kernel)) rfl⟩
theorem fX7_16 : FS RX7 16 7 1 RX7 TX7 8 := ⟨rfl, u_X7, by decide, gw_in (List.mem_of_getElem? (i := 279) (by decide +kernel)) rfl⟩
theorem fX7_19 : FS RX7 19 7 2 RX7 TX7 8 := ⟨rfl, u_X7, by decide, gw_in (List.mem_of_getElem? (i := 280) (by decide +kernel)) rfl⟩
theorem fX7_36 : FS RX7 36 7 3 RX7 TX7 8 := ⟨rfl, u_X7, by decide, gw_in (List.mem_of_getElem? (i := 281) (by decide +kernel)) rfl⟩
theorem fX7_43 : FS RX7 43 7 4 RX7 TX7 8 := ⟨rfl, u_X7, by decide, gw_in (List.mem_of_getElem? (i := 282) (by decide +kernel)) rfl⟩
theorem fX7_50 : FS RX7 50 7 5 RX7 TX7 8 := ⟨rfl, u_X7, by decide, gw_in (List.mem_of_getElem? (i := 283) (by decide +kernel)) rfl⟩
theorem fX7_56 : FS RX7 56 7 6 RX7 TX7 8 := ⟨rfl, u_X7, by decide, gw_in (List.mem_of_getElem? (i := 284) (by decide +kernel)) rfl⟩
theorem fX7_60 : FS RX7 60 7 7 RX7 TX7 8 := ⟨rfl, u_X7, by decide, gw_in (List.mem_of_getElem? (i := 285) (by decide +kernel)) rfl⟩
theorem gX7_301 : Cond.fieldLink RX7 301 "LogRollers" "KIND_ABOVE" "[I" ∈ GW := gw_in (List.mem_of_getElem? (i := 359) (by decide +kernel)) rfl
theorem gX7_117 : Cond.fieldLink RX7 117 "LogRollers" "PART_LEAST" "[I" ∈ GW := gw_in (List.mem_of_getElem? (i := 366) (by decide +kernel)) rfl
theorem gX7_120 : Cond.fieldLink RX7 120 "LogRollers" "PART_MOST" "[I" ∈ GW := gw_in (List.mem_of_getElem? (i := 368) (by decide +kernel)) rfl
theorem fX5_9 : FS RX5 9 5 0 RX5 TX5 5 := ⟨rfl, u_X5, by decide, gw_in (List.mem_of_getElem? (i := 578) (by decide +kernel)) rfl⟩
theorem fX7_252 : FS RX7 252 5 0 RX5 TX5 5 := ⟨rfl, u_X5, by decide, gw_in (List.mem_of_getElem? (i := 579) (by decide +kernel)) rfl⟩
theorem fX5_15 : FS RX5 15 5 1 RX5 TX5 5 := ⟨rfl, u_X5, by decide, gw_in (List.mem_of_getElem? (i := 580) (by decide +kernel)) rfl⟩
theorem fX5_19 : FS RX5 19 5 2 RX5 TX5 5 := ⟨rfl, u_X5, by decide, gw_in (List.mem_of_getElem? (i := 581) (by decide +kernel)) rfl⟩
theorem fX5_22 : FS RX5 22 5 3 RX5 TX5 5 := ⟨rfl, u_X5, by decide, gw_in (List.mem_of_getElem? (i := 582) (by decide +kernel)) rfl⟩
theorem fX5_25 : FS RX5 25 5 4 RX5 TX5 5 := ⟨rfl, u_X5, by decide, gw_in (List.mem_of_getElem? (i := 583) (by decide +kernel)) rfl⟩
theorem gJ0_38 : Cond.fieldLink RJ0 38 "java/lang/String" "COMPACT_STRINGS" "Z" ∈ GW := gw_in (List.mem_of_getElem? (i := 640) (by decide +kernel)) rfl
theorem gJ0_1053 : Cond.fieldLink RJ0 1053 "jdk/internal/util/Preconditions" "SIOOBE_FORMATTER" "Ljava/util/function/BiFunction;" ∈ GW := gw_in (List.mem_of_getElem? (i := 656) (by decide +kernel)) rfl
theorem gJ2_44 : Cond.fieldLink RJ2 44 "java/lang/StringUTF16" "$assertionsDisabled" "Z" ∈ GW := gw_in (List.mem_of_getElem? (i := 674) (by decide +kernel)) rfl
theorem gJ2_59 : Cond.fieldLink RJ2 59 "java/lang/StringUTF16" "HI_BYTE_SHIFT" "I" ∈ GW := gw_in (List.mem_of_getElem? (i := 676) (by decide +kernel)) rfl
theorem gJ2_63 : Cond.fieldLink RJ2 63 "java/lang/StringUTF16" "LO_BYTE_SHIFT" "I" ∈ GW := gw_in (List.mem_of_getElem? (i := 678) (by decide +kernel)) rfl
theorem fX8_9 : FS RX8 9 8 0 RX8 TX8 19 := ⟨rfl, u_X8, by decide, gw_in (List.mem_of_getElem? (i := 803) (by decide +kernel)) rfl⟩
theorem fX8_13 : FS RX8 13 8 1 RX8 TX8 19 := ⟨rfl, u_X8, by decide, gw_in (List.mem_of_getElem? (i := 804) (by decide +kernel)) rfl⟩
theorem fX8_16 : FS RX8 16 8 2 RX8 TX8 19 := ⟨rfl, u_X8, by decide, gw_in (List.mem_of_getElem? (i := 805) (by decide +kernel)) rfl⟩
theorem fX8_268 : FS RX8 268 8 3 RX8 TX8 19 := ⟨rfl, u_X8, by decide, gw_in (List.mem_of_getElem? (i := 806) (by decide +kernel)) rfl⟩
theorem fX8_19 : FS RX8 19 8 4 RX8 TX8 19 := ⟨rfl, u_X8, by decide, gw_in (List.mem_of_getElem? (i := 807) (by decide +kernel)) rfl⟩
theorem fX8_141 : FS RX8 141 8 5 RX8 TX8 19 := ⟨rfl, u_X8, by decide, gw_in (List.mem_of_getElem? (i := 808) (by decide +kernel)) rfl⟩
theorem fX8_145 : FS RX8 145 8 6 RX8 TX8 19 := ⟨rfl, u_X8, by decide, gw_in (List.mem_of_getElem? (i := 809) (by decide +kernel)) rfl⟩
theorem fX8_22 : FS RX8 22 8 7 RX8 TX8 19 := ⟨rfl, u_X8, by decide, gw_in (List.mem_of_getElem? (i := 810) (by decide +kernel)) rfl⟩
theorem fX8_166 : FS RX8 166 8 8 RX8 TX8 19 := ⟨rfl, u_X8, by decide, gw_in (List.mem_of_getElem? (i := 811) (by decide +kernel)) rfl⟩
theorem fX8_169 : FS RX8 169 8 9 RX8 TX8 19 := ⟨rfl, u_X8, by decide, gw_in (List.mem_of_getElem? (i := 812) (by decide +kernel)) rfl⟩
theorem fX8_172 : FS RX8 172 8 10 RX8 TX8 19 := ⟨rfl, u_X8, by decide, gw_in (List.mem_of_getElem? (i := 813) (by decide +kernel)) rfl⟩
theorem fX8_181 : FS RX8 181 8 11 RX8 TX8 19 := ⟨rfl, u_X8, by decide, gw_in (List.mem_of_getElem? (i := 814) (by decide +kernel)) rfl⟩
theorem fX8_175 : FS RX8 175 8 12 RX8 TX8 19 := ⟨rfl, u_X8, by decide, gw_in (List.mem_of_getElem? (i := 815) (by decide +kernel)) rfl⟩
theorem fX8_178 : FS RX8 178 8 13 RX8 TX8 19 := ⟨rfl, u_X8, by decide, gw_in (List.mem_of_getElem? (i := 816) (by decide +kernel)) rfl⟩
theorem fX8_200 : FS RX8 200 8 14 RX8 TX8 19 := ⟨rfl, u_X8, by decide, gw_in (List.mem_of_getElem? (i := 817) (by decide +kernel)) rfl⟩
theorem fX8_25 : FS RX8 25 8 15 RX8 TX8 19 := ⟨rfl, u_X8, by decide, gw_in (List.mem_of_getElem? (i := 818) (by decide +kernel)) rfl⟩
theorem fX8_28 : FS RX8 28 8 16 RX8 TX8 19 := ⟨rfl, u_X8, by decide, gw_in (List.mem_of_getElem? (i := 819) (by decide +kernel)) rfl⟩
theorem fX8_31 : FS RX8 31 8 17 RX8 TX8 19 := ⟨rfl, u_X8, by decide, gw_in (List.mem_of_getElem? (i := 820) (by decide +kernel)) rfl⟩
theorem fX8_35 : FS RX8 35 8 18 RX8 TX8 19 := ⟨rfl, u_X8, by decide, gw_in (List.mem_of_getElem? (i := 821) (by decide +kernel)) rfl⟩
theorem gJ0_9 : Cond.fieldLink RJ0 9 "java/lang/String" "value" "[B" ∈ GW := gw_in (List.mem_of_getElem? (i := 1171) (by decide +kernel)) rfl
theorem gJ0_15 : Cond.fieldLink RJ0 15 "java/lang/String" "coder" "B" ∈ GW := gw_in (List.mem_of_getElem? (i := 1172) (by decide +kernel)) rfl
theorem kX7_72 : Cond.constant RX7 72 (-1000000001) ∈ GW := gw_in (List.mem_of_getElem? (i := 313) (by decide +kernel)) rfl
theorem kX7_81 : Cond.constant RX7 81 (-1000000002) ∈ GW := gw_in (List.mem_of_getElem? (i := 318) (by decide +kernel)) rfl
theorem kX7_103 : Cond.constant RX7 103 (-1000000005) ∈ GW := gw_in (List.mem_of_getElem? (i := 347) (by decide +kernel)) rfl
theorem kX7_113 : Cond.constant RX7 113 (-1000000003) ∈ GW := gw_in (List.mem_of_getElem? (i := 361) (by decide +kernel)) rfl
theorem kX0_97 : Cond.constant RX0 97 (1103515245) ∈ GW := gw_in (List.mem_of_getElem? (i := 467) (by decide +kernel)) rfl
theorem kX7_207 : Cond.constant RX7 207 (-1000000004) ∈ GW := gw_in (List.mem_of_getElem? (i := 512) (by decide +kernel)) rfl
theorem kJ6_265 : Cond.constant RJ6 265 (1431655765) ∈ GW := gw_in (List.mem_of_getElem? (i := 549) (by decide +kernel)) rfl
theorem kJ6_266 : Cond.constant RJ6 266 (858993459) ∈ GW := gw_in (List.mem_of_getElem? (i := 550) (by decide +kernel)) rfl
theorem kJ6_267 : Cond.constant RJ6 267 (252645135) ∈ GW := gw_in (List.mem_of_getElem? (i := 551) (by decide +kernel)) rfl
theorem kX7_262 : Cond.constant RX7 262 (-1000000007) ∈ GW := gw_in (List.mem_of_getElem? (i := 718) (by decide +kernel)) rfl
theorem kX7_269 : Cond.constant RX7 269 (-1000000006) ∈ GW := gw_in (List.mem_of_getElem? (i := 731) (by decide +kernel)) rfl
theorem kX8_47 : Cond.constantLong RX8 47 (5) ∈ GW := gw_in (List.mem_of_getElem? (i := 865) (by decide +kernel)) rfl
theorem kX8_49 : Cond.constantLong RX8 49 (299) ∈ GW := gw_in (List.mem_of_getElem? (i := 869) (by decide +kernel)) rfl
theorem kX8_38 : Cond.constant RX8 38 (-1000000001) ∈ GW := gw_in (List.mem_of_getElem? (i := 870) (by decide +kernel)) rfl
theorem kX8_55 : Cond.constant RX8 55 (-1000000002) ∈ GW := gw_in (List.mem_of_getElem? (i := 875) (by decide +kernel)) rfl
theorem kX8_56 : Cond.constantLong RX8 56 (6) ∈ GW := gw_in (List.mem_of_getElem? (i := 884) (by decide +kernel)) rfl
theorem kX8_58 : Cond.constantLong RX8 58 (9) ∈ GW := gw_in (List.mem_of_getElem? (i := 893) (by decide +kernel)) rfl
theorem kX8_60 : Cond.constantLong RX8 60 (99) ∈ GW := gw_in (List.mem_of_getElem? (i := 894) (by decide +kernel)) rfl
theorem kX8_62 : Cond.constantLong RX8 62 (999) ∈ GW := gw_in (List.mem_of_getElem? (i := 895) (by decide +kernel)) rfl
theorem kX8_64 : Cond.constantLong RX8 64 (-1) ∈ GW := gw_in (List.mem_of_getElem? (i := 896) (by decide +kernel)) rfl
theorem kX8_73 : Cond.constant RX8 73 (-1000000005) ∈ GW := gw_in (List.mem_of_getElem? (i := 901) (by decide +kernel)) rfl
theorem kX8_81 : Cond.constant RX8 81 (-1000000003) ∈ GW := gw_in (List.mem_of_getElem? (i := 912) (by decide +kernel)) rfl
theorem kX8_82 : Cond.constantLong RX8 82 (4) ∈ GW := gw_in (List.mem_of_getElem? (i := 917) (by decide +kernel)) rfl
theorem kX8_95 : Cond.constantLong RX8 95 (-9999) ∈ GW := gw_in (List.mem_of_getElem? (i := 922) (by decide +kernel)) rfl
theorem kX8_97 : Cond.constantLong RX8 97 (9999) ∈ GW := gw_in (List.mem_of_getElem? (i := 923) (by decide +kernel)) rfl
theorem kX8_99 : Cond.constantLong RX8 99 (-999) ∈ GW := gw_in (List.mem_of_getElem? (i := 924) (by decide +kernel)) rfl
theorem kX8_133 : Cond.constantLong RX8 133 (400) ∈ GW := gw_in (List.mem_of_getElem? (i := 956) (by decide +kernel)) rfl
theorem kX8_111 : Cond.constant RX8 111 (1103515245) ∈ GW := gw_in (List.mem_of_getElem? (i := 975) (by decide +kernel)) rfl
theorem kX8_139 : Cond.constantLong RX8 139 (2) ∈ GW := gw_in (List.mem_of_getElem? (i := 987) (by decide +kernel)) rfl
theorem kX8_148 : Cond.constantLong RX8 148 (200) ∈ GW := gw_in (List.mem_of_getElem? (i := 996) (by decide +kernel)) rfl
theorem kX8_158 : Cond.constant RX8 158 (-1000000004) ∈ GW := gw_in (List.mem_of_getElem? (i := 1008) (by decide +kernel)) rfl
theorem kX8_159 : Cond.constantLong RX8 159 (100) ∈ GW := gw_in (List.mem_of_getElem? (i := 1013) (by decide +kernel)) rfl
theorem kX8_164 : Cond.constantLong RX8 164 (50) ∈ GW := gw_in (List.mem_of_getElem? (i := 1038) (by decide +kernel)) rfl
theorem kX8_254 : Cond.constantLong RX8 254 (3) ∈ GW := gw_in (List.mem_of_getElem? (i := 1120) (by decide +kernel)) rfl
theorem kX8_259 : Cond.constant RX8 259 (-1000000007) ∈ GW := gw_in (List.mem_of_getElem? (i := 1121) (by decide +kernel)) rfl
theorem kX8_260 : Cond.constant RX8 260 (-1000000006) ∈ GW := gw_in (List.mem_of_getElem? (i := 1126) (by decide +kernel)) rfl
theorem kL_123 : Cond.constantLong RL 123 (4294967295) ∈ GW := gw_in (List.mem_of_getElem? (i := 1170) (by decide +kernel)) rfl
theorem cL_7_l : Cond.classLink RL 7 RX7 ∈ GW := gw_in (List.mem_of_getElem? (i := 55) (by decide +kernel)) rfl
theorem cX7_7_l : Cond.classLink RX7 7 RX6 ∈ GW := gw_in (List.mem_of_getElem? (i := 63) (by decide +kernel)) rfl
theorem cX6_9_l : Cond.classLink RX6 9 RX1 ∈ GW := gw_in (List.mem_of_getElem? (i := 69) (by decide +kernel)) rfl
theorem cX6_21_l : Cond.classLink RX6 21 RX5 ∈ GW := gw_in (List.mem_of_getElem? (i := 71) (by decide +kernel)) rfl
theorem cX6_35_l : Cond.classLink RX6 35 "[I" ∈ GW := gw_in (List.mem_of_getElem? (i := 81) (by decide +kernel)) rfl
theorem cX6_42_l : Cond.classLink RX6 42 RX0 ∈ GW := gw_in (List.mem_of_getElem? (i := 82) (by decide +kernel)) rfl
theorem cX0_15_l : Cond.classLink RX0 15 RX3 ∈ GW := gw_in (List.mem_of_getElem? (i := 88) (by decide +kernel)) rfl
theorem cX7_23_l : Cond.classLink RX7 23 RX0 ∈ GW := gw_in (List.mem_of_getElem? (i := 226) (by decide +kernel)) rfl
theorem cX7_40_l : Cond.classLink RX7 40 RX1 ∈ GW := gw_in (List.mem_of_getElem? (i := 228) (by decide +kernel)) rfl
theorem cX7_47_l : Cond.classLink RX7 47 RX4 ∈ GW := gw_in (List.mem_of_getElem? (i := 230) (by decide +kernel)) rfl
theorem cX7_54_l : Cond.classLink RX7 54 RX2 ∈ GW := gw_in (List.mem_of_getElem? (i := 257) (by decide +kernel)) rfl
theorem cX4_31_l : Cond.classLink RX4 31 RX5 ∈ GW := gw_in (List.mem_of_getElem? (i := 572) (by decide +kernel)) rfl
theorem cL_10_l : Cond.classLink RL 10 RX8 ∈ GW := gw_in (List.mem_of_getElem? (i := 797) (by decide +kernel)) rfl
theorem qx_X7 : Cond.instantiable RX7 8 ∈ GW := gw_in (List.mem_of_getElem? (i := 56) (by decide +kernel)) rfl
theorem qx_X6 : Cond.instantiable RX6 10 ∈ GW := gw_in (List.mem_of_getElem? (i := 64) (by decide +kernel)) rfl
theorem qx_X0 : Cond.instantiable RX0 8 ∈ GW := gw_in (List.mem_of_getElem? (i := 83) (by decide +kernel)) rfl
theorem qx_X3 : Cond.instantiable RX3 5 ∈ GW := gw_in (List.mem_of_getElem? (i := 89) (by decide +kernel)) rfl
theorem qx_X1 : Cond.instantiable RX1 7 ∈ GW := gw_in (List.mem_of_getElem? (i := 147) (by decide +kernel)) rfl
theorem qx_X4 : Cond.instantiable RX4 6 ∈ GW := gw_in (List.mem_of_getElem? (i := 231) (by decide +kernel)) rfl
theorem qx_X2 : Cond.instantiable RX2 3 ∈ GW := gw_in (List.mem_of_getElem? (i := 259) (by decide +kernel)) rfl
theorem qx_X5 : Cond.instantiable RX5 5 ∈ GW := gw_in (List.mem_of_getElem? (i := 573) (by decide +kernel)) rfl
theorem qx_X8 : Cond.instantiable RX8 19 ∈ GW := gw_in (List.mem_of_getElem? (i := 798) (by decide +kernel)) rfl
end
section
/-! ===== small rows on top: named numbers, booleans, explicit heaps ===== -/
abbrev wi (v a b : Int32) : Prop := a ≤ v ∧ v ≤ b
def bI (P : Prop) [Decidable P] : Int32 := if P then 1 else 0
theorem bI_t {P : Prop} [Decidable P] (h : P) : bI P = 1 := if_pos h
theorem bI_f {P : Prop} [Decidable P] (h : ¬ P) : bI P = 0 := if_neg h
theorem bI_nar (P : Prop) [Decidable P] : narrow .boolean (.int (bI P)) = .int (bI P) := by
  unfold bI; split <;> rfl
theorem bI_fit (P : Prop) [Decidable P] : fits .boolean (.int (bI P)) = true := by
  unfold bI; split <;> rfl
theorem bI_0 {P : Prop} [Decidable P] : bI P = 0 ↔ ¬ P := by
  unfold bI; split <;> simp_all
theorem bI_1 {P : Prop} [Decidable P] : bI P = 1 ↔ P := by
  unfold bI; split <;> simp_all
theorem bI_congr {P Q : Prop} [Decidable P] [Decidable Q] (h : P ↔ Q) : bI P = bI Q := by
  unfold bI; by_cases hp : P
  · rw [if_pos hp, if_pos (h.mp hp)]
  · rw [if_neg hp, if_neg (fun q => hp (h.mpr q))]
theorem ix_add {a b : Int32} {m n : Nat} (ha : a = nI m) (hb : b = nI n) : a + b = nI (m + n) := by rw [ha, hb, nI_add]
theorem ix_mul {a b : Int32} {m n : Nat} (ha : a = nI m) (hb : b = nI n) : a * b = nI (m * n) := by rw [ha, hb, pk_mul]
theorem ix_sub {a b : Int32} {m n : Nat} (ha : a = nI m) (hb : b = nI n) (h : n ≤ m) : a - b = nI (m - n) := by rw [ha, hb, pk_sub h]
theorem ix_rem {a b : Int32} {m n : Nat} (ha : a = nI m) (hb : b = nI n) (hm : m < 2 ^ 31) (h0 : 0 < n) (hn : n < 2 ^ 31) : a - a / b * b = nI (m % n) := by rw [ha, hb, pk_rem hm h0 hn]
theorem ix_in {i : Int32} {j N : Nat} (hi : i = nI j) (hj : j < N) (hN : N < 2 ^ 31) : vp_in i N := by rw [hi]; exact vp_in_nI hj hN
theorem ix_cl {i : Int32} {j : Nat} (hi : i = nI j) (hj : j < 2 ^ 31) : i.toNatClampNeg = j := by rw [hi]; exact nI_clamp hj
theorem pd_I : parseFieldDescriptor "I" = some .int := by decide +kernel
theorem pd_Z : parseFieldDescriptor "Z" = some .boolean := by decide +kernel
theorem hU_u2 {h : Hp} {a b : Nat} {c d e : va_E} (n1 : b ≠ a) : hU (hU (hU h a c) b d) a e = hU (hU h a e) b d := by rw [hU_w n1, hU_u]
theorem hU_u3 {h : Hp} {a b1 b2 : Nat} {c d1 d2 e : va_E} (n1 : b1 ≠ a) (n2 : b2 ≠ a) : hU (hU (hU (hU h a c) b1 d1) b2 d2) a e = hU (hU (hU h a e) b1 d1) b2 d2 := by rw [hU_w n2, hU_u2 n1]
theorem hU_u4 {h : Hp} {a b1 b2 b3 : Nat} {c d1 d2 d3 e : va_E} (n1 : b1 ≠ a) (n2 : b2 ≠ a) (n3 : b3 ≠ a) : hU (hU (hU (hU (hU h a c) b1 d1) b2 d2) b3 d3) a e = hU (hU (hU (hU h a e) b1 d1) b2 d2) b3 d3 := by rw [hU_w n3, hU_u3 n1 n2]
theorem hU_u5 {h : Hp} {a b1 b2 b3 b4 : Nat} {c d1 d2 d3 d4 e : va_E} (n1 : b1 ≠ a) (n2 : b2 ≠ a) (n3 : b3 ≠ a) (n4 : b4 ≠ a) : hU (hU (hU (hU (hU (hU h a c) b1 d1) b2 d2) b3 d3) b4 d4) a e = hU (hU (hU (hU (hU h a e) b1 d1) b2 d2) b3 d3) b4 d4 := by rw [hU_w n4, hU_u4 n1 n2 n3]
theorem hne {h : Hp} {a b : Nat} {c d : va_E} (ha : h a = some c) (hb : h b = some d) (hcd : c = d → False) : a ≠ b := fun e => by
  subst e
  rw [ha] at hb
  exact hcd (Option.some.inj hb)
abbrev ob (ci : Nat) (fs : List Value) : va_E := .inr (ci, fs)
abbrev ai (g : GT) (N : Nat) (f : Nat → Int32) : va_E := .inl (g.2.1 0, N, .inl f)
abbrev al (g : GT) (N : Nat) (f : Nat → Int64) : va_E := .inl (g.2.1 1, N, .inr (.inl f))
abbrev ar (g : GT) (t N : Nat) (f : Nat → Option Nat) : va_E := .inl (g.2.1 t, N, .inr (.inr (.inr (.inr f))))
section VB
variable {K : KT} {l0 : Launch} {g0 : GT} {cc : ByteArray} {own : String} {nL0 : Nat} {rm : Room} {k n : Nat} {h : Hp} {pc pc1 : Nat} {lv : List (Nat × Value)} {st st0 : List Value}
theorem v_putE (X : Cx K l0 g0 cc own nL0 rm) {a idx ci j : Nat} {C : String} {T : u_T} {N : Nat} {fs : List Value} {v : Value} {ty0 : Nat → FieldType} {ty : FieldType} {h2 : Hp} (hs : FS own idx ci j C T N) (hty : ∀ k, k < N → parseFieldDescriptor (T k).2.2.1 = some (ty0 k)) (hnm : ∀ a, a < N → ∀ b, b < N → a ≠ b → (T a).2.1 ≠ (T b).2.1) (hfin : (T j).2.2.2 = false) (hpd : parseFieldDescriptor (T j).2.2.1 = some ty) (hh : h a = some (ob ci fs)) (hnr : narrow ty v = v) (hft : fits ty v = true) (hl : j < fs.length) (hd : DD cc pc (.putfield idx) 3 pc1) (he : hU h a (ob ci (fs.set j v)) = h2) (kk : VJ K k n h2 pc1 lv st) : VJ K k n h pc lv (v :: .ref a :: st) :=
  v_put X hs hty hnm hfin hpd hh hnr hft hl hd (he ▸ kk)
theorem v_ialdK (X : Cx K l0 g0 cc own nL0 rm) {a N : Nat} {f : Nat → Int32} {i : Int32} (j : Nat) (hh : h a = some (ai g0 N f)) (hi : i = nI j) (hj : j < N) (hN : N < 2 ^ 31) (hd : DD cc pc (.iaload) 1 pc1) (kk : VJ K k n h pc1 lv (.int (f j) :: st)) : VJ K k n h pc lv (.int i :: .ref a :: st) :=
  v_iald X hh (ix_in hi hj hN) hd (by rw [ix_cl hi (Nat.lt_trans hj hN)]; exact kk)
theorem v_laldK (X : Cx K l0 g0 cc own nL0 rm) {a N : Nat} {f : Nat → Int64} {i : Int32} (j : Nat) (hh : h a = some (al g0 N f)) (hi : i = nI j) (hj : j < N) (hN : N < 2 ^ 31) (hd : DD cc pc (.laload) 1 pc1) (kk : VJ K k n h pc1 lv (.long (f j) :: st)) : VJ K k n h pc lv (.int i :: .ref a :: st) :=
  v_lald X hh (ix_in hi hj hN) hd (by rw [ix_cl hi (Nat.lt_trans hj hN)]; exact kk)
theorem v_aaldK (X : Cx K l0 g0 cc own nL0 rm) {a N : Nat} {f : Nat → Option Nat} {i : Int32} (t : Nat) {C : String} (ht : (gtys g0)[t]? = some (g0.2.1 t, .object C)) (j : Nat) {v : Value} (hh : h a = some (ar g0 t N f)) (hi : i = nI j) (hj : j < N) (hN : N < 2 ^ 31) (hv : va_rf (f j) = v) (hd : DD cc pc (.aaload) 1 pc1) (kk : VJ K k n h pc1 lv (v :: st)) : VJ K k n h pc lv (.int i :: .ref a :: st) :=
  v_aald X t ht hh (ix_in hi hj hN) hd (by rw [ix_cl hi (Nat.lt_trans hj hN), hv]; exact kk)
theorem v_iastK (X : Cx K l0 g0 cc own nL0 rm) {a N : Nat} {f : Nat → Int32} {i x : Int32} {h2 : Hp} (j : Nat) (hh : h a = some (ai g0 N f)) (hi : i = nI j) (hj : j < N) (hN : N < 2 ^ 31) (hd : DD cc pc (.iastore) 1 pc1) (he : hU h a (ai g0 N (upd f j x)) = h2) (kk : VJ K k n h2 pc1 lv st) : VJ K k n h pc lv (.int x :: .int i :: .ref a :: st) :=
  v_iast X hh (ix_in hi hj hN) hd (by rw [ix_cl hi (Nat.lt_trans hj hN), he]; exact kk)
theorem v_lastK (X : Cx K l0 g0 cc own nL0 rm) {a N : Nat} {f : Nat → Int64} {i : Int32} {x : Int64} {h2 : Hp} (j : Nat) (hh : h a = some (al g0 N f)) (hi : i = nI j) (hj : j < N) (hN : N < 2 ^ 31) (hd : DD cc pc (.lastore) 1 pc1) (he : hU h a (al g0 N (vp_updL f j x)) = h2) (kk : VJ K k n h2 pc1 lv st) : VJ K k n h pc lv (.long x :: .int i :: .ref a :: st) :=
  v_last X hh (ix_in hi hj hN) hd (by rw [ix_cl hi (Nat.lt_trans hj hN), he]; exact kk)
theorem v_ifb_eq (X : Cx K l0 g0 cc own nL0 rm) {P : Prop} [Decidable P] {off : Int} {tgt : Nat} (hd : DD cc pc (.ifCond .eq off) 3 pc1) (ht : (pc : Int) + off = (tgt : Int)) (kt : ¬ P → VJ K k n h tgt lv st) (kf : P → VJ K k n h pc1 lv st) : VJ K k n h pc lv (.int (bI P) :: st) :=
  v_if_eq X hd ht (fun q => kt (bI_0.mp q)) (fun q => kf (Classical.byContradiction fun z => q (bI_0.mpr z)))
theorem v_ifb_ne (X : Cx K l0 g0 cc own nL0 rm) {P : Prop} [Decidable P] {off : Int} {tgt : Nat} (hd : DD cc pc (.ifCond .ne off) 3 pc1) (ht : (pc : Int) + off = (tgt : Int)) (kt : P → VJ K k n h tgt lv st) (kf : ¬ P → VJ K k n h pc1 lv st) : VJ K k n h pc lv (.int (bI P) :: st) :=
  v_if_ne X hd ht (fun q => kt (Classical.byContradiction fun z => q (bI_0.mpr z))) (fun q => kf (bI_0.mp q))
/-- two arrays that agree in their places are one cell -/
theorem ai_ext {g : GT} {N : Nat} {f f2 : Nat → Int32} (e : ∀ j, j < N → f j = f2 j) (cA : ClassId) : vp_cell cA (N, .inl f) = vp_cell cA (N, .inl f2) := by
  rw [vp_cell_i, vp_cell_i]
  unfold arrV
  congr 1
  refine congrArg _ (funext fun j => ?_)
  show Value.int (f j.val) = Value.int (f2 j.val)
  rw [e j.val j.isLt]
theorem al_ext {N : Nat} {f f2 : Nat → Int64} (e : ∀ j, j < N → f j = f2 j) (cA : ClassId) : vp_cell cA (N, .inr (.inl f)) = vp_cell cA (N, .inr (.inl f2)) := by
  rw [vp_cell_l, vp_cell_l]
  unfold arrV
  congr 1
  refine congrArg _ (funext fun j => ?_)
  show Value.long (f j.val) = Value.long (f2 j.val)
  rw [e j.val j.isLt]
theorem ar_ext {N : Nat} {f f2 : Nat → Option Nat} (e : ∀ j, j < N → f j = f2 j) (cA : ClassId) : vp_cell cA (N, .inr (.inr (.inr (.inr f)))) = vp_cell cA (N, .inr (.inr (.inr (.inr f2)))) := by
  rw [vp_cell_q, vp_cell_q]
  unfold arrV
  congr 1
  refine congrArg _ (funext fun j => ?_)
  show va_rf (f j.val) = va_rf (f2 j.val)
  rw [e j.val j.isLt]
theorem HP.same {g : GT} {h h2 : Hp} {H : Heap} (hp : HP g h H) (e : ∀ a, h2 a = h a ∨ ∃ cA x y, h a = some (.inl (cA, x)) ∧ h2 a = some (.inl (cA, y)) ∧ vp_cell cA x = vp_cell cA y) : HP g h2 H := by
  intro a c hc
  rcases e a with q | ⟨cA, x, y, q1, q2, q3⟩
  · exact hp a c (by rw [← q]; exact hc)
  · rw [q2] at hc
    cases hc
    have := hp a _ q1
    show H[a]? = some (vp_cell cA y)
    rw [← q3]
    exact this
theorem v_ext {h2 : Hp} (ee : ∀ a, h2 a = h a ∨ ∃ cA x y, h a = some (.inl (cA, x)) ∧ h2 a = some (.inl (cA, y)) ∧ vp_cell cA x = vp_cell cA y) (kk : VJ K k n h2 pc lv st) : VJ K k n h pc lv st := by
  obtain ⟨p, l, e, R, s, m, args, below, meth, c, Q, nL, g, A⟩ := K
  refine fun H locs ls h1 hh h3 h4 => kk H locs ls (h1.same ee) (fun a ha => ?_) h3 h4
  rcases ee a with q | ⟨cA, x, y, q1, q2, q3⟩
  · exact hh a (by rw [← q]; exact ha)
  · exact hh a (hsome q1)
theorem v_extU {a : Nat} {cA : ClassId} {x y : vp_A} (e : vp_cell cA x = vp_cell cA y) (kk : VJ K k n (hU h a (.inl (cA, y))) pc lv st) : VJ K k n (hU h a (.inl (cA, x))) pc lv st := by
  refine v_ext (fun b => ?_) kk
  by_cases hb : b = a
  · subst hb
    exact Or.inr ⟨cA, x, y, hU_s, hU_s, e⟩
  · exact Or.inl (by rw [hU_n hb, hU_n hb])
end VB
end
section
/-! ===== Math's three, by the kit's rows ===== -/
theorem ltb {a b : Nat} (h : Nat.blt a b = true) : a < b := Nat.le_of_ble_eq_true h
theorem ri {v w : Int32} (e : v = w) : (some (Value.int v) : Option Value) = some (.int w) := by rw [e]
theorem rl_ {v w : Int64} (e : v = w) : (some (Value.long v) : Option Value) = some (.long w) := by rw [e]
theorem rr {v w : Value} (e : v = w) : (some v : Option Value) = some w := by rw [e]
def iabs (x : Int32) : Int32 := if 0 ≤ x then x else 0 - x
def imax (x y : Int32) : Int32 := if x < y then y else x
def imin (x y : Int32) : Int32 := if y < x then y else x
theorem mA_n : Lib.Math.abs.name = yJ9_abs_0f7a4 := rfl
theorem mA_c : Cond.code yJ9_abs_0f7a4 cJ9_abs_0f7a4 1 (some .int) = Cond.code Lib.Math.abs.name Lib.Math.abs.code 1 (some .int) := by decide +kernel
theorem mX_n : Lib.Math.max.name = yJ9_max_7cf53 := rfl
theorem mX_c : Cond.code yJ9_max_7cf53 cJ9_max_7cf53 2 (some .int) = Cond.code Lib.Math.max.name Lib.Math.max.code 2 (some .int) := by decide +kernel
theorem mI_n : Lib.Math.min.name = yJ9_min_7cf53 := rfl
theorem mI_c : Cond.code yJ9_min_7cf53 cJ9_min_7cf53 2 (some .int) = Cond.code Lib.Math.min.name Lib.Math.min.code 2 (some .int) := by decide +kernel
section VM
variable {K : KT} {l0 : Launch} {g0 : GT} {cc : ByteArray} {own : String} {nL0 : Nat} {rm : Room} {k n : Nat} {h : Hp} {pc pc1 : Nat} {lv : List (Nat × Value)} {st st0 : List Value}
theorem v_mabs (X : Cx K l0 g0 cc own nL0 rm) {idx : Nat} {x : Int32} (hs : SS own idx yJ9_abs_0f7a4 cJ9_abs_0f7a4 1 (some .int) 1) (hf : 1 ≤ rm.frames) (hl : (st.map fun v => v.category).sum + 13 ≤ rm.locals) (hc : k ≤ rm.cells) (hn : n ≤ rm.slots) (hd : DD cc pc (.invokestatic idx) 3 pc1) (kk : VJ K k n h pc1 lv (.int (iabs x) :: st)) : VJ K k n h pc lv (.int x :: st) := by
  obtain ⟨p, l, e, R, s, m, args, below, meth, c, Q, nL, g, A⟩ := K
  obtain ⟨hx, hb, hml, hown, hts, hE, hA, hlk, rfl, rfl, rfl, rfl⟩ := X
  obtain ⟨hd, rfl⟩ := hd
  exact fun H locs ls h1 h2 h3 h4 => va_mabs hx hb (hml.trans h4.1.symm) hown (hts _ hs.1) (hts _ hs.2.1) (hts _ hs.2.2.1) (mA_c ▸ hts _ hs.2.2.2.1) hf hl hc hn hd (kk H locs ls h1 h2 h3 h4)
theorem v_mmax (X : Cx K l0 g0 cc own nL0 rm) {idx : Nat} {x y : Int32} (hs : SS own idx yJ9_max_7cf53 cJ9_max_7cf53 2 (some .int) 2) (hf : 1 ≤ rm.frames) (hl : (st.map fun v => v.category).sum + 13 ≤ rm.locals) (hc : k ≤ rm.cells) (hn : n ≤ rm.slots) (hd : DD cc pc (.invokestatic idx) 3 pc1) (kk : VJ K k n h pc1 lv (.int (imax x y) :: st)) : VJ K k n h pc lv (.int y :: .int x :: st) := by
  obtain ⟨p, l, e, R, s, m, args, below, meth, c, Q, nL, g, A⟩ := K
  obtain ⟨hx, hb, hml, hown, hts, hE, hA, hlk, rfl, rfl, rfl, rfl⟩ := X
  obtain ⟨hd, rfl⟩ := hd
  exact fun H locs ls h1 h2 h3 h4 => va_mmax hx hb (hml.trans h4.1.symm) hown (hts _ hs.1) (hts _ hs.2.1) (hts _ hs.2.2.1) (mX_c ▸ hts _ hs.2.2.2.1) hf hl hc hn hd (kk H locs ls h1 h2 h3 h4)
theorem v_mmin (X : Cx K l0 g0 cc own nL0 rm) {idx : Nat} {x y : Int32} (hs : SS own idx yJ9_min_7cf53 cJ9_min_7cf53 2 (some .int) 2) (hf : 1 ≤ rm.frames) (hl : (st.map fun v => v.category).sum + 13 ≤ rm.locals) (hc : k ≤ rm.cells) (hn : n ≤ rm.slots) (hd : DD cc pc (.invokestatic idx) 3 pc1) (kk : VJ K k n h pc1 lv (.int (imin x y) :: st)) : VJ K k n h pc lv (.int y :: .int x :: st) := by
  obtain ⟨p, l, e, R, s, m, args, below, meth, c, Q, nL, g, A⟩ := K
  obtain ⟨hx, hb, hml, hown, hts, hE, hA, hlk, rfl, rfl, rfl, rfl⟩ := X
  obtain ⟨hd, rfl⟩ := hd
  exact fun H locs ls h1 h2 h3 h4 => va_mmin hx hb (hml.trans h4.1.symm) hown (hts _ hs.1) (hts _ hs.2.1) (hts _ hs.2.2.1) (mI_c ▸ hts _ hs.2.2.2.1) hf hl hc hn hd (kk H locs ls h1 h2 h3 h4)
end VM
end
section
/-! ===== leaf methods: numbers, standers, people ===== -/
def hold (v m : Int32) : Int32 := if m < v then m else if v < -m then -m else v
def costS (p : Int32) : Int32 := if p = 0 then 0 else iabs p / 10 + 1
def swayS (lean turn feet : Int32) : Int32 := (lean + (turn - feet) / 4) - (lean + (turn - feet) / 4) / 8
set_option maxHeartbeats 4000000 in
set_option maxRecDepth 100000 in
theorem ct_X7_within (ll : Launch) (g : GT) {h : Hp} (v a b : Int32)  : MF ll g yX7_within cX7_within 3 (some .boolean) (k2_rm 0 0) [.int v, .int a, .int b] h (some (.int (bI (wi v a b)))) h := by
  refine mc_of (by decide) (Nat.le_of_ble_eq_true rfl) ?_
  intro K X r
  refine v_eqv (lv2 := [(0, .int v), (1, .int a), (2, .int b)]) rfl ?_
  refine v_iload_n X dX7_within_0 0 rfl ?_
  refine v_iload_n X dX7_within_1 1 rfl ?_
  refine v_icmp_lt X dX7_within_2 (tgt := 14) (by decide) (fun c1 => ?_) (fun c1 => ?_)
  · refine v_iconst X dX7_within_14 (v := 0) (by decide) ?_
    exact v_zret X r dX7_within_15 rfl (Nat.le_refl _) (Nat.le_refl _) ⟨ri (by simp [bI, wi, c1, Int32.not_le.mpr c1]), rfl⟩
  · refine v_iload_n X dX7_within_5 0 rfl ?_
    refine v_iload_n X dX7_within_6 2 rfl ?_
    refine v_icmp_gt X dX7_within_7 (tgt := 14) (by decide) (fun c2 => ?_) (fun c2 => ?_)
    · refine v_iconst X dX7_within_14 (v := 0) (by decide) ?_
      exact v_zret X r dX7_within_15 rfl (Nat.le_refl _) (Nat.le_refl _) ⟨ri (by simp [bI, wi, c1, Int32.not_lt.mp c1, c2, Int32.not_le.mpr c2]), rfl⟩
    · refine v_iconst X dX7_within_10 (v := 1) (by decide) ?_
      refine v_goto X dX7_within_11 (tgt := 15) (by decide) ?_
      exact v_zret X r dX7_within_15 rfl (Nat.le_refl _) (Nat.le_refl _) ⟨ri (by simp [bI, wi, c1, Int32.not_lt.mp c1, c2, Int32.not_lt.mp c2]), rfl⟩
set_option maxHeartbeats 4000000 in
set_option maxRecDepth 100000 in
theorem ct_X7_atMost (ll : Launch) (g : GT) {h : Hp} (v m : Int32)  : MF ll g yX7_atMost cX7_atMost 2 (some .int) (k2_rm 0 0) [.int v, .int m] h (some (.int (hold v m))) h := by
  refine mc_of (by decide) (Nat.le_of_ble_eq_true rfl) ?_
  intro K X r
  refine v_eqv (lv2 := [(0, .int v), (1, .int m)]) rfl ?_
  refine v_iload_n X dX7_atMost_0 0 rfl ?_
  refine v_iload_n X dX7_atMost_1 1 rfl ?_
  refine v_icmp_le X dX7_atMost_2 (tgt := 7) (by decide) (fun c1 => ?_) (fun c1 => ?_)
  · refine v_iload_n X dX7_atMost_7 0 rfl ?_
    refine v_iload_n X dX7_atMost_8 1 rfl ?_
    refine v_ineg X dX7_atMost_9 ?_
    refine v_icmp_ge X dX7_atMost_10 (tgt := 18) (by decide) (fun c2 => ?_) (fun c2 => ?_)
    · refine v_iload_n X dX7_atMost_18 0 rfl ?_
      exact v_iret X r dX7_atMost_19 (Nat.le_refl _) (Nat.le_refl _) ⟨ri (by simp [hold, c1, Int32.not_lt.mpr c1, c2, Int32.not_lt.mpr c2]), rfl⟩
    · refine v_iload_n X dX7_atMost_13 1 rfl ?_
      refine v_ineg X dX7_atMost_14 ?_
      refine v_goto X dX7_atMost_15 (tgt := 19) (by decide) ?_
      exact v_iret X r dX7_atMost_19 (Nat.le_refl _) (Nat.le_refl _) ⟨ri (by simp [hold, c1, Int32.not_lt.mpr c1, c2, Int32.not_le.mp c2]), rfl⟩
  · refine v_iload_n X dX7_atMost_5 1 rfl ?_
    exact v_iret X r dX7_atMost_6 (Nat.le_refl _) (Nat.le_refl _) ⟨ri (by simp [hold, c1, Int32.not_le.mp c1]), rfl⟩
set_option maxHeartbeats 4000000 in
set_option maxRecDepth 100000 in
theorem ct_X3_cost (ll : Launch) (g : GT) {h : Hp} (p : Int32)  : MF ll g yX3_cost cX3_cost 1 (some .int) (k2_rm 1 30) [.int p] h (some (.int (costS p))) h := by
  refine mc_of (by decide) (Nat.le_of_ble_eq_true rfl) ?_
  intro K X r
  refine v_eqv (lv2 := [(0, .int p)]) rfl ?_
  refine v_iload_n X dX3_cost_0 0 rfl ?_
  refine v_if_ne X dX3_cost_1 (tgt := 8) (by decide) (fun c1 => ?_) (fun c1 => ?_)
  · refine v_iload_n X dX3_cost_8 0 rfl ?_
    refine v_mabs X sX3_19 (Nat.le_of_ble_eq_true rfl) (Nat.le_of_ble_eq_true rfl) (Nat.zero_le _) (Nat.zero_le _) dX3_cost_9 ?_
    refine v_bipush X dX3_cost_12 (v := 10) (by decide) ?_
    refine v_idiv X dX3_cost_14 (by decide) ?_
    refine v_iconst X dX3_cost_15 (v := 1) (by decide) ?_
    refine v_iadd X dX3_cost_16 ?_
    exact v_iret X r dX3_cost_17 (Nat.le_refl _) (Nat.le_refl _) ⟨ri (by simp [costS, c1]), rfl⟩
  · refine v_iconst X dX3_cost_4 (v := 0) (by decide) ?_
    refine v_goto X dX3_cost_5 (tgt := 17) (by decide) ?_
    exact v_iret X r dX3_cost_17 (Nat.le_refl _) (Nat.le_refl _) ⟨ri (by simp [costS, c1]), rfl⟩
set_option maxHeartbeats 4000000 in
set_option maxRecDepth 100000 in
theorem ct_X3_begin (ll : Launch) (g : GT) {h : Hp} {a : Nat} {feet lean left sight shove : Int32} (strength : Int32) (ha : h a = some (ob 3 [.int feet, .int lean, .int left, .int sight, .int shove])) : MF ll g yX3_begin cX3_begin 2 none (k2_rm 0 0) [.ref a, .int strength] h none (hU h a (ob 3 [.int 0, .int 0, .int strength, .int sight, .int shove])) := by
  refine mc_of (by decide) (Nat.le_of_ble_eq_true rfl) ?_
  intro K X r
  refine v_eqv (lv2 := [(0, .ref a), (1, .int strength)]) rfl ?_
  refine v_aload_n X dX3_begin_0 0 rfl ?_
  refine v_iconst X dX3_begin_1 (v := 0) (by decide) ?_
  refine v_putE (h2 := (hU h a (ob 3 [.int 0, .int lean, .int left, .int sight, .int shove]))) X fX3_7 tyX3_ok nmX3 rfl pd_I ha rfl rfl (ltb rfl) dX3_begin_2 rfl ?_
  refine v_aload_n X dX3_begin_5 0 rfl ?_
  refine v_iconst X dX3_begin_6 (v := 0) (by decide) ?_
  refine v_putE (h2 := (hU h a (ob 3 [.int 0, .int 0, .int left, .int sight, .int shove]))) X fX3_13 tyX3_ok nmX3 rfl pd_I hU_s rfl rfl (ltb rfl) dX3_begin_7 hU_u ?_
  refine v_aload_n X dX3_begin_10 0 rfl ?_
  refine v_iload_n X dX3_begin_11 1 rfl ?_
  refine v_putE (h2 := (hU h a (ob 3 [.int 0, .int 0, .int strength, .int sight, .int shove]))) X fX3_16 tyX3_ok nmX3 rfl pd_I hU_s rfl rfl (ltb rfl) dX3_begin_12 hU_u ?_
  exact v_vret X r dX3_begin_15 (Nat.le_refl _) (Nat.le_refl _) ⟨rfl, rfl⟩
set_option maxHeartbeats 4000000 in
set_option maxRecDepth 100000 in
theorem ct_X3_takeFrom (ll : Launch) (g : GT) {h : Hp} {a : Nat} {feet lean left sight shove : Int32} {b : Nat} {feet2 lean2 left2 sight2 shove2 : Int32}  (ha : h a = some (ob 3 [.int feet, .int lean, .int left, .int sight, .int shove])) (hb : h b = some (ob 3 [.int feet2, .int lean2, .int left2, .int sight2, .int shove2])) (hab : a ≠ b) : MF ll g yX3_takeFrom cX3_takeFrom 2 none (k2_rm 0 0) [.ref a, .ref b] h none (hU h a (ob 3 [.int feet2, .int lean2, .int left2, .int sight, .int shove])) := by
  refine mc_of (by decide) (Nat.le_of_ble_eq_true rfl) ?_
  intro K X r
  refine v_eqv (lv2 := [(0, .ref a), (1, .ref b)]) rfl ?_
  refine v_aload_n X dX3_takeFrom_0 0 rfl ?_
  refine v_aload_n X dX3_takeFrom_1 1 rfl ?_
  refine v_get X fX3_7 hb rfl dX3_takeFrom_2 ?_
  refine v_putE (h2 := (hU h a (ob 3 [.int feet2, .int lean, .int left, .int sight, .int shove]))) X fX3_7 tyX3_ok nmX3 rfl pd_I ha rfl rfl (ltb rfl) dX3_takeFrom_5 rfl ?_
  refine v_aload_n X dX3_takeFrom_8 0 rfl ?_
  refine v_aload_n X dX3_takeFrom_9 1 rfl ?_
  refine v_get X fX3_13 ((hU_n (Ne.symm hab)).trans hb) rfl dX3_takeFrom_10 ?_
  refine v_putE (h2 := (hU h a (ob 3 [.int feet2, .int lean2, .int left, .int sight, .int shove]))) X fX3_13 tyX3_ok nmX3 rfl pd_I hU_s rfl rfl (ltb rfl) dX3_takeFrom_13 hU_u ?_
  refine v_aload_n X dX3_takeFrom_16 0 rfl ?_
  refine v_aload_n X dX3_takeFrom_17 1 rfl ?_
  refine v_get X fX3_16 ((hU_n (Ne.symm hab)).trans hb) rfl dX3_takeFrom_18 ?_
  refine v_putE (h2 := (hU h a (ob 3 [.int feet2, .int lean2, .int left2, .int sight, .int shove]))) X fX3_16 tyX3_ok nmX3 rfl pd_I hU_s rfl rfl (ltb rfl) dX3_takeFrom_21 hU_u ?_
  exact v_vret X r dX3_takeFrom_24 (Nat.le_refl _) (Nat.le_refl _) ⟨rfl, rfl⟩
set_option maxHeartbeats 4000000 in
set_option maxRecDepth 100000 in
theorem ct_X3_decide (ll : Launch) (g : GT) {h : Hp} {a : Nat} {feet lean left sight shove : Int32} (s p : Int32) (ha : h a = some (ob 3 [.int feet, .int lean, .int left, .int sight, .int shove])) : MF ll g yX3_decide cX3_decide 3 none (k2_rm 2 60) [.ref a, .int s, .int p] h none (hU h a (ob 3 [.int feet, .int lean, .int (left - costS p), .int s, .int p])) := by
  refine mc_of (by decide) (Nat.le_of_ble_eq_true rfl) ?_
  intro K X r
  refine v_eqv (lv2 := [(0, .ref a), (1, .int s), (2, .int p)]) rfl ?_
  refine v_aload_n X dX3_decide_0 0 rfl ?_
  refine v_iload_n X dX3_decide_1 1 rfl ?_
  refine v_putE (h2 := (hU h a (ob 3 [.int feet, .int lean, .int left, .int s, .int shove]))) X fX3_25 tyX3_ok nmX3 rfl pd_I ha rfl rfl (ltb rfl) dX3_decide_2 rfl ?_
  refine v_aload_n X dX3_decide_5 0 rfl ?_
  refine v_iload_n X dX3_decide_6 2 rfl ?_
  refine v_putE (h2 := (hU h a (ob 3 [.int feet, .int lean, .int left, .int s, .int p]))) X fX3_28 tyX3_ok nmX3 rfl pd_I hU_s rfl rfl (ltb rfl) dX3_decide_7 hU_u ?_
  refine v_aload_n X dX3_decide_10 0 rfl ?_
  refine v_dup X dX3_decide_11 rfl ?_
  refine v_get X fX3_16 hU_s rfl dX3_decide_12 ?_
  refine v_iload_n X dX3_decide_15 2 rfl ?_
  refine v_cSi X [.int p] sX3_31 (ct_X3_cost ll g p) dX3_decide_16 rfl rfl ⟨rfl, rfl⟩ ⟨(Nat.le_of_ble_eq_true rfl), (Nat.le_of_ble_eq_true rfl)⟩ ⟨Nat.zero_le _, Nat.zero_le _⟩ (Nat.le_of_ble_eq_true rfl) ?_
  refine v_isub X dX3_decide_19 ?_
  refine v_putE (h2 := (hU h a (ob 3 [.int feet, .int lean, .int (left - (costS p)), .int s, .int p]))) X fX3_16 tyX3_ok nmX3 rfl pd_I hU_s rfl rfl (ltb rfl) dX3_decide_20 hU_u ?_
  exact v_vret X r dX3_decide_23 (Nat.le_refl _) (Nat.le_refl _) ⟨rfl, rfl⟩
set_option maxHeartbeats 4000000 in
set_option maxRecDepth 100000 in
theorem ct_X3_step (ll : Launch) (g : GT) {h : Hp} {a : Nat} {feet lean left sight shove : Int32} (reach : Int32) (ha : h a = some (ob 3 [.int feet, .int lean, .int left, .int sight, .int shove])) : MF ll g yX3_step cX3_step 2 none (k2_rm 1 30) [.ref a, .int reach] h none (hU h a (ob 3 [.int (feet + hold (sight - feet) reach), .int lean, .int left, .int sight, .int shove])) := by
  refine mc_of (by decide) (Nat.le_of_ble_eq_true rfl) ?_
  intro K X r
  refine v_eqv (lv2 := [(0, .ref a), (1, .int reach)]) rfl ?_
  refine v_aload_n X dX3_step_0 0 rfl ?_
  refine v_dup X dX3_step_1 rfl ?_
  refine v_get X fX3_7 ha rfl dX3_step_2 ?_
  refine v_aload_n X dX3_step_5 0 rfl ?_
  refine v_get X fX3_25 ha rfl dX3_step_6 ?_
  refine v_aload_n X dX3_step_9 0 rfl ?_
  refine v_get X fX3_7 ha rfl dX3_step_10 ?_
  refine v_isub X dX3_step_13 ?_
  refine v_iload_n X dX3_step_14 1 rfl ?_
  refine v_cSni X [.int (sight - feet), .int reach] sX3_34 (ct_X7_atMost ll g (sight - feet) reach) dX3_step_15 rfl rfl ⟨rfl, rfl⟩ ⟨(Nat.le_of_ble_eq_true rfl), (Nat.le_of_ble_eq_true rfl)⟩ ⟨Nat.zero_le _, Nat.zero_le _⟩ (Nat.le_of_ble_eq_true rfl) ?_
  refine v_iadd X dX3_step_18 ?_
  refine v_putE (h2 := (hU h a (ob 3 [.int (feet + (hold (sight - feet) reach)), .int lean, .int left, .int sight, .int shove]))) X fX3_7 tyX3_ok nmX3 rfl pd_I ha rfl rfl (ltb rfl) dX3_step_19 rfl ?_
  exact v_vret X r dX3_step_22 (Nat.le_refl _) (Nat.le_refl _) ⟨rfl, rfl⟩
set_option maxHeartbeats 4000000 in
set_option maxRecDepth 100000 in
theorem ct_X3_sway (ll : Launch) (g : GT) {h : Hp} {a : Nat} {feet lean left sight shove : Int32} (turn : Int32) (ha : h a = some (ob 3 [.int feet, .int lean, .int left, .int sight, .int shove])) : MF ll g yX3_sway cX3_sway 2 none (k2_rm 0 0) [.ref a, .int turn] h none (hU h a (ob 3 [.int feet, .int (swayS lean turn feet), .int left, .int sight, .int shove])) := by
  refine mc_of (by decide) (Nat.le_of_ble_eq_true rfl) ?_
  intro K X r
  refine v_eqv (lv2 := [(0, .ref a), (1, .int turn)]) rfl ?_
  refine v_aload_n X dX3_sway_0 0 rfl ?_
  refine v_dup X dX3_sway_1 rfl ?_
  refine v_get X fX3_13 ha rfl dX3_sway_2 ?_
  refine v_iload_n X dX3_sway_5 1 rfl ?_
  refine v_aload_n X dX3_sway_6 0 rfl ?_
  refine v_get X fX3_7 ha rfl dX3_sway_7 ?_
  refine v_isub X dX3_sway_10 ?_
  refine v_iconst X dX3_sway_11 (v := 4) (by decide) ?_
  refine v_idiv X dX3_sway_12 (by decide) ?_
  refine v_iadd X dX3_sway_13 ?_
  refine v_putE (h2 := (hU h a (ob 3 [.int feet, .int (lean + ((turn - feet) / 4)), .int left, .int sight, .int shove]))) X fX3_13 tyX3_ok nmX3 rfl pd_I ha rfl rfl (ltb rfl) dX3_sway_14 rfl ?_
  refine v_aload_n X dX3_sway_17 0 rfl ?_
  refine v_dup X dX3_sway_18 rfl ?_
  refine v_get X fX3_13 hU_s rfl dX3_sway_19 ?_
  refine v_aload_n X dX3_sway_22 0 rfl ?_
  refine v_get X fX3_13 hU_s rfl dX3_sway_23 ?_
  refine v_bipush X dX3_sway_26 (v := 8) (by decide) ?_
  refine v_idiv X dX3_sway_28 (by decide) ?_
  refine v_isub X dX3_sway_29 ?_
  refine v_putE (h2 := (hU h a (ob 3 [.int feet, .int ((lean + ((turn - feet) / 4)) - ((lean + ((turn - feet) / 4)) / 8)), .int left, .int sight, .int shove]))) X fX3_13 tyX3_ok nmX3 rfl pd_I hU_s rfl rfl (ltb rfl) dX3_sway_30 hU_u ?_
  exact v_vret X r dX3_sway_33 (Nat.le_refl _) (Nat.le_refl _) ⟨rfl, rfl⟩
end
section
/-! ===== the reference's bout, as functions of its row of numbers ===== -/
def told (m : Nat → Int32) (p w : Nat) : Int32 := m (40 + 8 * p + w)
def szS (v : Int32) : Int32 := if v < 0 then -v else v
def heldS (v m : Int32) : Int32 := if v < -m then -m else if m < v then m else v
def costM (p : Int32) : Int32 := if p = 0 then 0 else szS p / 10 + 1
def valS (nm s l e t : Int32) : Int32 := if nm = 0 then s else if nm = 1 then l else if nm = 2 then e else t
abbrev rhS (nm sg bd s l e t : Int32) : Prop := nm = 4 ∨ (sg = 1 ∧ valS nm s l e t < bd) ∨ (¬ sg = 1 ∧ bd < valS nm s l e t)
def fk (P : Nat → Prop) [DecidablePred P] : Nat → Nat → Int32
  | _, 0 => -1
  | k, n + 1 => if P k then nI k else fk P (k + 1) n
abbrev rP (m : Nat → Int32) (w : Nat) (s l e t : Int32) (k : Nat) : Prop := rhS (m (110 + 25 * w + 1 + 4 * k)) (m (110 + 25 * w + 1 + 4 * k + 1)) (m (110 + 25 * w + 1 + 4 * k + 2)) s l e t
def ruleS (m : Nat → Int32) (w c : Nat) (s l e t : Int32) : Int32 := fk (rP m w s l e t) 0 c
theorem fk_step {P : Nat → Prop} [DecidablePred P] {k c : Nat} {r : Int32} (h : r = fk P k (c - k)) (hk : k < c) : (P k → r = nI k) ∧ (¬ P k → r = fk P (k + 1) (c - (k + 1))) := by
  have e : c - k = (c - (k + 1)) + 1 := by omega
  rw [e] at h
  exact ⟨fun q => by rw [h]; exact if_pos q, fun q => by rw [h]; exact if_neg q⟩
theorem fk_end {P : Nat → Prop} [DecidablePred P] {k c : Nat} {r : Int32} (h : r = fk P k (c - k)) (hk : ¬ k < c) : r = -1 := by
  rw [h, show c - k = 0 by omega]; rfl
set_option maxHeartbeats 4000000 in
set_option maxRecDepth 100000 in
theorem ct_X8_held (ll : Launch) (g : GT) {h : Hp} (v m : Int32)  : MF ll g yX8_held cX8_held 2 (some .int) (k2_rm 0 0) [.int v, .int m] h (some (.int (heldS v m))) h := by
  refine mc_of (by decide) (Nat.le_of_ble_eq_true rfl) ?_
  intro K X r
  refine v_eqv (lv2 := [(0, .int v), (1, .int m)]) rfl ?_
  refine v_iload_n X dX8_held_0 0 rfl ?_
  refine v_iload_n X dX8_held_1 1 rfl ?_
  refine v_ineg X dX8_held_2 ?_
  refine v_icmp_ge X dX8_held_3 (tgt := 11) (by decide) (fun c1 => ?_) (fun c1 => ?_)
  · refine v_iload_n X dX8_held_11 0 rfl ?_
    refine v_iload_n X dX8_held_12 1 rfl ?_
    refine v_icmp_le X dX8_held_13 (tgt := 20) (by decide) (fun c2 => ?_) (fun c2 => ?_)
    · refine v_iload_n X dX8_held_20 0 rfl ?_
      exact v_iret X r dX8_held_21 (Nat.le_refl _) (Nat.le_refl _) ⟨ri (by simp [heldS, c1, Int32.not_lt.mpr c1, c2, Int32.not_lt.mpr c2]), rfl⟩
    · refine v_iload_n X dX8_held_16 1 rfl ?_
      refine v_goto X dX8_held_17 (tgt := 21) (by decide) ?_
      exact v_iret X r dX8_held_21 (Nat.le_refl _) (Nat.le_refl _) ⟨ri (by simp [heldS, c1, Int32.not_lt.mpr c1, c2, Int32.not_le.mp c2]), rfl⟩
  · refine v_iload_n X dX8_held_6 1 rfl ?_
    refine v_ineg X dX8_held_7 ?_
    refine v_goto X dX8_held_8 (tgt := 21) (by decide) ?_
    exact v_iret X r dX8_held_21 (Nat.le_refl _) (Nat.le_refl _) ⟨ri (by simp [heldS, c1, Int32.not_le.mp c1]), rfl⟩
set_option maxHeartbeats 4000000 in
set_option maxRecDepth 100000 in
theorem ct_X8_size (ll : Launch) (g : GT) {h : Hp} (v : Int32)  : MF ll g yX8_size cX8_size 1 (some .int) (k2_rm 0 0) [.int v] h (some (.int (szS v))) h := by
  refine mc_of (by decide) (Nat.le_of_ble_eq_true rfl) ?_
  intro K X r
  refine v_eqv (lv2 := [(0, .int v)]) rfl ?_
  refine v_iload_n X dX8_size_0 0 rfl ?_
  refine v_if_ge X dX8_size_1 (tgt := 9) (by decide) (fun c1 => ?_) (fun c1 => ?_)
  · refine v_iload_n X dX8_size_9 0 rfl ?_
    exact v_iret X r dX8_size_10 (Nat.le_refl _) (Nat.le_refl _) ⟨ri (by simp [szS, c1, Int32.not_lt.mpr c1]), rfl⟩
  · refine v_iload_n X dX8_size_4 0 rfl ?_
    refine v_ineg X dX8_size_5 ?_
    refine v_goto X dX8_size_6 (tgt := 10) (by decide) ?_
    exact v_iret X r dX8_size_10 (Nat.le_refl _) (Nat.le_refl _) ⟨ri (by simp [szS, c1, Int32.not_le.mp c1]), rfl⟩
set_option maxHeartbeats 4000000 in
set_option maxRecDepth 100000 in
theorem ct_X8_costOf (ll : Launch) (g : GT) {h : Hp} (p : Int32)  : MF ll g yX8_costOf cX8_costOf 1 (some .int) (k2_rm 1 30) [.int p] h (some (.int (costM p))) h := by
  refine mc_of (by decide) (Nat.le_of_ble_eq_true rfl) ?_
  intro K X r
  refine v_eqv (lv2 := [(0, .int p)]) rfl ?_
  refine v_iload_n X dX8_costOf_0 0 rfl ?_
  refine v_if_ne X dX8_costOf_1 (tgt := 8) (by decide) (fun c1 => ?_) (fun c1 => ?_)
  · refine v_iload_n X dX8_costOf_8 0 rfl ?_
    refine v_cSi X [.int p] sX8_88 (ct_X8_size ll g p) dX8_costOf_9 rfl rfl ⟨rfl, rfl⟩ ⟨(Nat.le_of_ble_eq_true rfl), (Nat.le_of_ble_eq_true rfl)⟩ ⟨Nat.zero_le _, Nat.zero_le _⟩ (Nat.le_of_ble_eq_true rfl) ?_
    refine v_bipush X dX8_costOf_12 (v := 10) (by decide) ?_
    refine v_idiv X dX8_costOf_14 (by decide) ?_
    refine v_iconst X dX8_costOf_15 (v := 1) (by decide) ?_
    refine v_iadd X dX8_costOf_16 ?_
    exact v_iret X r dX8_costOf_17 (Nat.le_refl _) (Nat.le_refl _) ⟨ri (by simp [costM, c1]), rfl⟩
  · refine v_iconst X dX8_costOf_4 (v := 0) (by decide) ?_
    refine v_goto X dX8_costOf_5 (tgt := 17) (by decide) ?_
    exact v_iret X r dX8_costOf_17 (Nat.le_refl _) (Nat.le_refl _) ⟨ri (by simp [costM, c1]), rfl⟩
set_option maxHeartbeats 4000000 in
set_option maxRecDepth 100000 in
theorem ct_X8_told (ll : Launch) (g : GT) {h : Hp} {a : Nat} {m : Nat → Int32} {x y : Int32} {p w : Nat} (ha : h a = some (ai g 260 m)) (hx : x = nI p) (hy : y = nI w) (hb : 40 + 8 * p + w < 260) : MF ll g yX8_told cX8_told 3 (some .int) (k2_rm 0 0) [.ref a, .int x, .int y] h (some (.int (told m p w))) h := by
  refine mc_of (by decide) (Nat.le_of_ble_eq_true rfl) ?_
  intro K X r
  refine v_eqv (lv2 := [(0, .ref a), (1, .int x), (2, .int y)]) rfl ?_
  refine v_aload_n X dX8_told_0 0 rfl ?_
  refine v_bipush X dX8_told_1 (v := 40) (by decide) ?_
  refine v_bipush X dX8_told_3 (v := 8) (by decide) ?_
  refine v_iload_n X dX8_told_5 1 rfl ?_
  refine v_imul X dX8_told_6 ?_
  refine v_iadd X dX8_told_7 ?_
  refine v_iload_n X dX8_told_8 2 rfl ?_
  refine v_iadd X dX8_told_9 ?_
  refine v_ialdK X ((40 + (8 * p)) + w) ha (ix_add (ix_add (rfl : (40 : Int32) = nI 40) (ix_mul (rfl : (8 : Int32) = nI 8) hx)) hy) (by omega) (by decide) dX8_told_10 ?_
  exact v_iret X r dX8_told_11 (Nat.le_refl _) (Nat.le_refl _) ⟨ri (by rfl), rfl⟩
set_option maxHeartbeats 4000000 in
set_option maxRecDepth 100000 in
theorem ct_X8_ruleOf (ll : Launch) (g : GT) {h : Hp} {a : Nat} {m : Nat → Int32} {x : Int32} {w c : Nat} (s l e t : Int32) (ha : h a = some (ai g 260 m)) (hx : x = nI w) (hw : w < 6) (hc : m (110 + 25 * w) = nI c) (hc6 : c ≤ 6) : MF ll g yX8_ruleOf cX8_ruleOf 10 (some .int) (k2_rm 0 0) [.ref a, .int x, .int s, .int l, .int e, .int t] h (some (.int (ruleS m w c s l e t))) h := by
  refine mc_of (by decide) (Nat.le_of_ble_eq_true rfl) ?_
  intro K X r
  refine v_eqv (lv2 := [(0, .ref a), (1, .int x), (2, .int s), (3, .int l), (4, .int e), (5, .int t)]) rfl ?_
  refine v_bipush X dX8_ruleOf_0 (v := 110) (by decide) ?_
  refine v_bipush X dX8_ruleOf_2 (v := 25) (by decide) ?_
  refine v_iload_n X dX8_ruleOf_4 1 rfl ?_
  refine v_imul X dX8_ruleOf_5 ?_
  refine v_iadd X dX8_ruleOf_6 ?_
  refine v_istore (lv1 := [(6, .int (110 + (25 * x))), (0, .ref a), (1, .int x), (2, .int s), (3, .int l), (4, .int e), (5, .int t)]) X dX8_ruleOf_7 (by decide) rfl ?_
  refine v_iconst X dX8_ruleOf_9 (v := 0) (by decide) ?_
  refine v_istore (lv1 := [(7, .int 0), (6, .int (110 + (25 * x))), (0, .ref a), (1, .int x), (2, .int s), (3, .int l), (4, .int e), (5, .int t)]) X dX8_ruleOf_10 (by decide) rfl ?_
  have L12 : ∀ (N : Nat) (k : Nat), k ≤ c → ruleS m w c s l e t = fk (rP m w s l e t) k (c - k) → c - k < N → VJ K 0 0 h 12 [(0, .ref a), (1, .int x), (2, .int s), (3, .int l), (4, .int e), (5, .int t), (6, .int (110 + 25 * x)), (7, .int (nI k))] [] := by
    intro N
    induction N with
    | zero => intro k _ _ hm; exact absurd hm (Nat.not_lt_zero _)
    | succ N ih =>
      intro k hk hq hm
      refine v_iload X dX8_ruleOf_12 7 rfl ?_
      refine v_aload_n X dX8_ruleOf_14 0 rfl ?_
      refine v_iload X dX8_ruleOf_15 6 rfl ?_
      refine v_ialdK X (110 + 25 * w) ha (ix_add (rfl : (110 : Int32) = nI 110) (ix_mul (rfl : (25 : Int32) = nI 25) hx)) (by omega) (by decide) dX8_ruleOf_17 ?_
      refine v_icmp_ge X dX8_ruleOf_18 (tgt := 124) (by decide) (fun c1 => ?_) (fun c1 => ?_)
      · refine v_iconst X dX8_ruleOf_124 (v := (-1)) (by decide) ?_
        exact v_iret X r dX8_ruleOf_125 (Nat.le_refl _) (Nat.le_refl _) ⟨ri (fk_end hq (fun q => absurd (nI_lt q (by omega)) (Int32.not_lt.mpr (by rw [← hc]; exact c1)))).symm, rfl⟩
      · have hkc : k < c := by
          rcases Nat.lt_or_ge k c with q | q
          · exact q
          · exact absurd (by rw [hc]; exact nI_le q (by omega)) c1
        refine v_iload X dX8_ruleOf_21 6 rfl ?_
        refine v_iconst X dX8_ruleOf_23 (v := 1) (by decide) ?_
        refine v_iadd X dX8_ruleOf_24 ?_
        refine v_iconst X dX8_ruleOf_25 (v := 4) (by decide) ?_
        refine v_iload X dX8_ruleOf_26 7 rfl ?_
        refine v_imul X dX8_ruleOf_28 ?_
        refine v_iadd X dX8_ruleOf_29 ?_
        refine v_istore (lv1 := [(8, .int (((110 + 25 * x) + 1) + (4 * (nI k)))), (0, .ref a), (1, .int x), (2, .int s), (3, .int l), (4, .int e), (5, .int t), (6, .int (110 + 25 * x)), (7, .int (nI k))]) X dX8_ruleOf_30 (by decide) rfl ?_
        refine v_aload_n X dX8_ruleOf_32 1 rfl ?_
        refine v_iload X dX8_ruleOf_33 0 rfl ?_
        refine v_ialdK X (((110 + 25 * w) + 1) + (4 * k)) ha (ix_add (ix_add (ix_add (rfl : (110 : Int32) = nI 110) (ix_mul (rfl : (25 : Int32) = nI 25) hx)) (rfl : (1 : Int32) = nI 1)) (ix_mul (rfl : (4 : Int32) = nI 4) rfl)) (by omega) (by decide) dX8_ruleOf_35 ?_
        have J1 : VJ K 0 0 h 70 [(8, .int (((110 + 25 * x) + 1) + (4 * (nI k)))), (0, .ref a), (1, .int x), (2, .int s), (3, .int l), (4, .int e), (5, .int t), (6, .int (110 + 25 * x)), (7, .int (nI k))] [.int (valS (m (110 + 25 * w + 1 + 4 * k)) s l e t)] := by
          refine v_istore (lv1 := [(9, .int (valS (m (110 + 25 * w + 1 + 4 * k)) s l e t)), (8, .int (((110 + 25 * x) + 1) + (4 * (nI k)))), (0, .ref a), (1, .int x), (2, .int s), (3, .int l), (4, .int e), (5, .int t), (6, .int (110 + 25 * x)), (7, .int (nI k))]) X dX8_ruleOf_70 (by decide) rfl ?_
          refine v_aload_n X dX8_ruleOf_72 2 rfl ?_
          refine v_iload X dX8_ruleOf_73 1 rfl ?_
          refine v_ialdK X (((110 + 25 * w) + 1) + (4 * k)) ha (ix_add (ix_add (ix_add (rfl : (110 : Int32) = nI 110) (ix_mul (rfl : (25 : Int32) = nI 25) hx)) (rfl : (1 : Int32) = nI 1)) (ix_mul (rfl : (4 : Int32) = nI 4) rfl)) (by omega) (by decide) dX8_ruleOf_75 ?_
          refine v_iconst X dX8_ruleOf_76 (v := 4) (by decide) ?_
          refine v_icmp_eq X dX8_ruleOf_77 (tgt := 115) (by decide) (fun c2 => ?_) (fun c2 => ?_)
          · refine v_iload X dX8_ruleOf_115 9 rfl ?_
            exact v_iret X r dX8_ruleOf_117 (Nat.le_refl _) (Nat.le_refl _) ⟨ri ((fk_step hq hkc).1 (by simp [rP, rhS, c1, Int32.not_le.mp c1, c2])).symm, rfl⟩
          · refine v_aload_n X dX8_ruleOf_80 2 rfl ?_
            refine v_iload X dX8_ruleOf_81 1 rfl ?_
            refine v_iconst X dX8_ruleOf_83 (v := 1) (by decide) ?_
            refine v_iadd X dX8_ruleOf_84 ?_
            refine v_ialdK X ((((110 + 25 * w) + 1) + (4 * k)) + 1) ha (ix_add (ix_add (ix_add (ix_add (rfl : (110 : Int32) = nI 110) (ix_mul (rfl : (25 : Int32) = nI 25) hx)) (rfl : (1 : Int32) = nI 1)) (ix_mul (rfl : (4 : Int32) = nI 4) rfl)) (rfl : (1 : Int32) = nI 1)) (by omega) (by decide) dX8_ruleOf_85 ?_
            refine v_iconst X dX8_ruleOf_86 (v := 1) (by decide) ?_
            refine v_icmp_ne X dX8_ruleOf_87 (tgt := 104) (by decide) (fun c3 => ?_) (fun c3 => ?_)
            · refine v_iload X dX8_ruleOf_104 0 rfl ?_
              refine v_aload_n X dX8_ruleOf_106 2 rfl ?_
              refine v_iload X dX8_ruleOf_107 1 rfl ?_
              refine v_iconst X dX8_ruleOf_109 (v := 2) (by decide) ?_
              refine v_iadd X dX8_ruleOf_110 ?_
              refine v_ialdK X ((((110 + 25 * w) + 1) + (4 * k)) + 2) ha (ix_add (ix_add (ix_add (ix_add (rfl : (110 : Int32) = nI 110) (ix_mul (rfl : (25 : Int32) = nI 25) hx)) (rfl : (1 : Int32) = nI 1)) (ix_mul (rfl : (4 : Int32) = nI 4) rfl)) (rfl : (2 : Int32) = nI 2)) (by omega) (by decide) dX8_ruleOf_111 ?_
              refine v_icmp_le X dX8_ruleOf_112 (tgt := 118) (by decide) (fun c4 => ?_) (fun c4 => ?_)
              · refine v_iinc (v := (nI k) + 1) (lv1 := [(7, .int ((nI k) + 1)), (9, .int (valS (m (110 + 25 * w + 1 + 4 * k)) s l e t)), (8, .int (((110 + 25 * x) + 1) + (4 * (nI k)))), (0, .ref a), (1, .int x), (2, .int s), (3, .int l), (4, .int e), (5, .int t), (6, .int (110 + 25 * x))]) X dX8_ruleOf_118 9 rfl rfl (by decide) rfl ?_
                refine v_goto X dX8_ruleOf_121 (tgt := 12) (by decide) ?_
                refine v_lv (lv2 := [(0, .ref a), (1, .int x), (2, .int s), (3, .int l), (4, .int e), (5, .int t), (6, .int (110 + 25 * x)), (7, .int ((nI k) + 1))]) [3, 4, 5, 6, 7, 8, 9, 0] rfl ?_
                refine v_eqv (lv2 := [(0, .ref a), (1, .int x), (2, .int s), (3, .int l), (4, .int e), (5, .int t), (6, .int (110 + 25 * x)), (7, .int (nI (k + 1)))]) (by rw [nI_1]) ?_
                exact ih (k + 1) (by omega) ((fk_step hq (by omega)).2 (by simp [rP, rhS, c1, Int32.not_le.mp c1, c2, c3, c4, Int32.not_lt.mpr c4])) (by omega)
              · refine v_iload X dX8_ruleOf_115 9 rfl ?_
                exact v_iret X r dX8_ruleOf_117 (Nat.le_refl _) (Nat.le_refl _) ⟨ri ((fk_step hq hkc).1 (by simp [rP, rhS, c1, Int32.not_le.mp c1, c2, c3, c4, Int32.not_le.mp c4])).symm, rfl⟩
            · refine v_iload X dX8_ruleOf_90 0 rfl ?_
              refine v_aload_n X dX8_ruleOf_92 2 rfl ?_
              refine v_iload X dX8_ruleOf_93 1 rfl ?_
              refine v_iconst X dX8_ruleOf_95 (v := 2) (by decide) ?_
              refine v_iadd X dX8_ruleOf_96 ?_
              refine v_ialdK X ((((110 + 25 * w) + 1) + (4 * k)) + 2) ha (ix_add (ix_add (ix_add (ix_add (rfl : (110 : Int32) = nI 110) (ix_mul (rfl : (25 : Int32) = nI 25) hx)) (rfl : (1 : Int32) = nI 1)) (ix_mul (rfl : (4 : Int32) = nI 4) rfl)) (rfl : (2 : Int32) = nI 2)) (by omega) (by decide) dX8_ruleOf_97 ?_
              refine v_icmp_ge X dX8_ruleOf_98 (tgt := 118) (by decide) (fun c5 => ?_) (fun c5 => ?_)
              · refine v_iinc (v := (nI k) + 1) (lv1 := [(7, .int ((nI k) + 1)), (9, .int (valS (m (110 + 25 * w + 1 + 4 * k)) s l e t)), (8, .int (((110 + 25 * x) + 1) + (4 * (nI k)))), (0, .ref a), (1, .int x), (2, .int s), (3, .int l), (4, .int e), (5, .int t), (6, .int (110 + 25 * x))]) X dX8_ruleOf_118 9 rfl rfl (by decide) rfl ?_
                refine v_goto X dX8_ruleOf_121 (tgt := 12) (by decide) ?_
                refine v_lv (lv2 := [(0, .ref a), (1, .int x), (2, .int s), (3, .int l), (4, .int e), (5, .int t), (6, .int (110 + 25 * x)), (7, .int ((nI k) + 1))]) [3, 4, 5, 6, 7, 8, 9, 0] rfl ?_
                refine v_eqv (lv2 := [(0, .ref a), (1, .int x), (2, .int s), (3, .int l), (4, .int e), (5, .int t), (6, .int (110 + 25 * x)), (7, .int (nI (k + 1)))]) (by rw [nI_1]) ?_
                exact ih (k + 1) (by omega) ((fk_step hq (by omega)).2 (by simp [rP, rhS, c1, Int32.not_le.mp c1, c2, c3, c5, Int32.not_lt.mpr c5])) (by omega)
              · refine v_goto X dX8_ruleOf_101 (tgt := 115) (by decide) ?_
                refine v_iload X dX8_ruleOf_115 9 rfl ?_
                exact v_iret X r dX8_ruleOf_117 (Nat.le_refl _) (Nat.le_refl _) ⟨ri ((fk_step hq hkc).1 (by simp [rP, rhS, c1, Int32.not_le.mp c1, c2, c3, c5, Int32.not_le.mp c5])).symm, rfl⟩
        refine v_if_ne X dX8_ruleOf_36 (tgt := 43) (by decide) (fun c6 => ?_) (fun c6 => ?_)
        · refine v_aload_n X dX8_ruleOf_43 1 rfl ?_
          refine v_iload X dX8_ruleOf_44 0 rfl ?_
          refine v_ialdK X (((110 + 25 * w) + 1) + (4 * k)) ha (ix_add (ix_add (ix_add (rfl : (110 : Int32) = nI 110) (ix_mul (rfl : (25 : Int32) = nI 25) hx)) (rfl : (1 : Int32) = nI 1)) (ix_mul (rfl : (4 : Int32) = nI 4) rfl)) (by omega) (by decide) dX8_ruleOf_46 ?_
          refine v_iconst X dX8_ruleOf_47 (v := 1) (by decide) ?_
          refine v_icmp_ne X dX8_ruleOf_48 (tgt := 55) (by decide) (fun c7 => ?_) (fun c7 => ?_)
          · refine v_aload_n X dX8_ruleOf_55 1 rfl ?_
            refine v_iload X dX8_ruleOf_56 0 rfl ?_
            refine v_ialdK X (((110 + 25 * w) + 1) + (4 * k)) ha (ix_add (ix_add (ix_add (rfl : (110 : Int32) = nI 110) (ix_mul (rfl : (25 : Int32) = nI 25) hx)) (rfl : (1 : Int32) = nI 1)) (ix_mul (rfl : (4 : Int32) = nI 4) rfl)) (by omega) (by decide) dX8_ruleOf_58 ?_
            refine v_iconst X dX8_ruleOf_59 (v := 2) (by decide) ?_
            refine v_icmp_ne X dX8_ruleOf_60 (tgt := 68) (by decide) (fun c8 => ?_) (fun c8 => ?_)
            · refine v_iload X dX8_ruleOf_68 6 rfl ?_
              exact v_eqi (by simp [valS, c1, Int32.not_le.mp c1, c6, c7, c8]) J1
            · refine v_iload X dX8_ruleOf_63 5 rfl ?_
              refine v_goto X dX8_ruleOf_65 (tgt := 70) (by decide) ?_
              exact v_eqi (by simp [valS, c1, Int32.not_le.mp c1, c6, c7, c8]) J1
          · refine v_iload_n X dX8_ruleOf_51 4 rfl ?_
            refine v_goto X dX8_ruleOf_52 (tgt := 70) (by decide) ?_
            exact v_eqi (by simp [valS, c1, Int32.not_le.mp c1, c6, c7]) J1
        · refine v_iload_n X dX8_ruleOf_39 3 rfl ?_
          refine v_goto X dX8_ruleOf_40 (tgt := 70) (by decide) ?_
          exact v_eqi (by simp [valS, c1, Int32.not_le.mp c1, c6]) J1
  refine v_lv (lv2 := [(0, .ref a), (1, .int x), (2, .int s), (3, .int l), (4, .int e), (5, .int t), (6, .int (110 + (25 * x))), (7, .int 0)]) [2, 3, 4, 5, 6, 7, 1, 0] rfl ?_
  exact L12 _ 0 (Nat.zero_le _) rfl (Nat.lt_succ_self _)
end
