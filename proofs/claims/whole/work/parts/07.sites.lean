theorem gw_in1 {w : Cond} {i : Nat} (hi : tables_1_1[i]? = some w) (hg : goodWord w = true) : w ∈ GW := gw_in (List.mem_append_right _ (have h := List.mem_of_getElem? hi; List.mem_append_left _ h)) hg
theorem gw_in2 {w : Cond} {i : Nat} (hi : tables_1_2[i]? = some w) (hg : goodWord w = true) : w ∈ GW := gw_in (List.mem_append_right _ (have h := List.mem_of_getElem? hi; List.mem_append_right _ (List.mem_append_left _ h))) hg
theorem gw_in3 {w : Cond} {i : Nat} (hi : tables_1_3[i]? = some w) (hg : goodWord w = true) : w ∈ GW := gw_in (List.mem_append_right _ (have h := List.mem_of_getElem? hi; List.mem_append_right _ (List.mem_append_right _ (List.mem_append_left _ h)))) hg
theorem gw_in4 {w : Cond} {i : Nat} (hi : tables_1_4[i]? = some w) (hg : goodWord w = true) : w ∈ GW := gw_in (List.mem_append_right _ (have h := List.mem_of_getElem? hi; List.mem_append_right _ (List.mem_append_right _ (List.mem_append_right _ (List.mem_append_left _ h))))) hg
theorem gw_in5 {w : Cond} {i : Nat} (hi : tables_1_5[i]? = some w) (hg : goodWord w = true) : w ∈ GW := gw_in (List.mem_append_right _ (have h := List.mem_of_getElem? hi; List.mem_append_right _ (List.mem_append_right _ (List.mem_append_right _ (List.mem_append_right _ (h)))))) hg
theorem u_X0 : ∀ w ∈ u_ws RX0 TX0 8, w ∈ GW := by
  have h : (u_ws RX0 TX0 8).all (fun w => decide (w ∈ lw_tbl) && goodWord w) = true := by decide +kernel
  intro w hw
  have h1 := List.all_eq_true.mp h w hw
  simp only [Bool.and_eq_true, decide_eq_true_eq] at h1
  exact gw_in h1.1 h1.2
theorem u_X1 : ∀ w ∈ u_ws RX1 TX1 7, w ∈ GW := by
  have h : (u_ws RX1 TX1 7).all (fun w => decide (w ∈ lw_tbl) && goodWord w) = true := by decide +kernel
  intro w hw
  have h1 := List.all_eq_true.mp h w hw
  simp only [Bool.and_eq_true, decide_eq_true_eq] at h1
  exact gw_in h1.1 h1.2
theorem u_X2 : ∀ w ∈ u_ws RX2 TX2 3, w ∈ GW := by
  have h : (u_ws RX2 TX2 3).all (fun w => decide (w ∈ lw_tbl) && goodWord w) = true := by decide +kernel
  intro w hw
  have h1 := List.all_eq_true.mp h w hw
  simp only [Bool.and_eq_true, decide_eq_true_eq] at h1
  exact gw_in h1.1 h1.2
theorem u_X3 : ∀ w ∈ u_ws RX3 TX3 5, w ∈ GW := by
  have h : (u_ws RX3 TX3 5).all (fun w => decide (w ∈ lw_tbl) && goodWord w) = true := by decide +kernel
  intro w hw
  have h1 := List.all_eq_true.mp h w hw
  simp only [Bool.and_eq_true, decide_eq_true_eq] at h1
  exact gw_in h1.1 h1.2
theorem u_X4 : ∀ w ∈ u_ws RX4 TX4 6, w ∈ GW := by
  have h : (u_ws RX4 TX4 6).all (fun w => decide (w ∈ lw_tbl) && goodWord w) = true := by decide +kernel
  intro w hw
  have h1 := List.all_eq_true.mp h w hw
  simp only [Bool.and_eq_true, decide_eq_true_eq] at h1
  exact gw_in h1.1 h1.2
theorem u_X5 : ∀ w ∈ u_ws RX5 TX5 5, w ∈ GW := by
  have h : (u_ws RX5 TX5 5).all (fun w => decide (w ∈ lw_tbl) && goodWord w) = true := by decide +kernel
  intro w hw
  have h1 := List.all_eq_true.mp h w hw
  simp only [Bool.and_eq_true, decide_eq_true_eq] at h1
  exact gw_in h1.1 h1.2
theorem u_X6 : ∀ w ∈ u_ws RX6 TX6 10, w ∈ GW := by
  have h : (u_ws RX6 TX6 10).all (fun w => decide (w ∈ lw_tbl) && goodWord w) = true := by decide +kernel
  intro w hw
  have h1 := List.all_eq_true.mp h w hw
  simp only [Bool.and_eq_true, decide_eq_true_eq] at h1
  exact gw_in h1.1 h1.2
theorem u_X7 : ∀ w ∈ u_ws RX7 TX7 8, w ∈ GW := by
  have h : (u_ws RX7 TX7 8).all (fun w => decide (w ∈ lw_tbl) && goodWord w) = true := by decide +kernel
  intro w hw
  have h1 := List.all_eq_true.mp h w hw
  simp only [Bool.and_eq_true, decide_eq_true_eq] at h1
  exact gw_in h1.1 h1.2
theorem u_X8 : ∀ w ∈ u_ws RX8 TX8 19, w ∈ GW := by
  have h : (u_ws RX8 TX8 19).all (fun w => decide (w ∈ lw_tbl) && goodWord w) = true := by decide +kernel
  intro w hw
  have h1 := List.all_eq_true.mp h w hw
  simp only [Bool.and_eq_true, decide_eq_true_eq] at h1
  exact gw_in h1.1 h1.2
theorem qi_L : Cond.initialized RL ∈ GW := gw_in1 (i := 0) rfl rfl
theorem qi_X7 : Cond.initialized RX7 ∈ GW := gw_in1 (i := 1) rfl rfl
theorem qi_X6 : Cond.initialized RX6 ∈ GW := gw_in1 (i := 2) rfl rfl
theorem qi_X0 : Cond.initialized RX0 ∈ GW := gw_in1 (i := 3) rfl rfl
theorem qi_X3 : Cond.initialized RX3 ∈ GW := gw_in1 (i := 4) rfl rfl
theorem qi_X1 : Cond.initialized RX1 ∈ GW := gw_in1 (i := 5) rfl rfl
theorem qi_X4 : Cond.initialized RX4 ∈ GW := gw_in1 (i := 6) rfl rfl
theorem qi_X2 : Cond.initialized RX2 ∈ GW := gw_in1 (i := 7) rfl rfl
theorem qi_X8 : Cond.initialized RX8 ∈ GW := gw_in1 (i := 8) rfl rfl
theorem qi_J9 : Cond.initialized RJ9 ∈ GW := gw_in1 (i := 9) rfl rfl
theorem qi_J6 : Cond.initialized RJ6 ∈ GW := gw_in1 (i := 10) rfl rfl
theorem qi_X5 : Cond.initialized RX5 ∈ GW := gw_in1 (i := 11) rfl rfl
theorem qi_J0 : Cond.initialized RJ0 ∈ GW := gw_in1 (i := 12) rfl rfl
theorem qi_J1 : Cond.initialized RJ1 ∈ GW := gw_in1 (i := 13) rfl rfl
theorem qi_J3 : Cond.initialized RJ3 ∈ GW := gw_in1 (i := 14) rfl rfl
theorem qi_J2 : Cond.initialized RJ2 ∈ GW := gw_in1 (i := 15) rfl rfl
theorem qi_J10 : Cond.initialized RJ10 ∈ GW := gw_in1 (i := 16) rfl rfl
theorem qc_X7_init : Cond.code yX7_init cX7_init 2 none ∈ GW := gw_in1 (i := 21) rfl rfl
theorem qn_X7_init : Cond.instanceMethod yX7_init ∈ GW := gw_in1 (i := 20) rfl rfl
theorem qc_X6_init : Cond.code yX6_init cX6_init 2 none ∈ GW := gw_in1 (i := 29) rfl rfl
theorem qn_X6_init : Cond.instanceMethod yX6_init ∈ GW := gw_in1 (i := 28) rfl rfl
theorem qc_X0_init : Cond.code yX0_init cX0_init 3 none ∈ GW := gw_in1 (i := 48) rfl rfl
theorem qn_X0_init : Cond.instanceMethod yX0_init ∈ GW := gw_in1 (i := 47) rfl rfl
theorem qc_X3_init : Cond.code yX3_init cX3_init 1 none ∈ GW := gw_in1 (i := 54) rfl rfl
theorem qn_X3_init : Cond.instanceMethod yX3_init ∈ GW := gw_in1 (i := 53) rfl rfl
theorem qc_X1_init : Cond.code yX1_init cX1_init 1 none ∈ GW := gw_in1 (i := 112) rfl rfl
theorem qn_X1_init : Cond.instanceMethod yX1_init ∈ GW := gw_in1 (i := 111) rfl rfl
theorem qc_X4_init : Cond.code yX4_init cX4_init 1 none ∈ GW := gw_in1 (i := 196) rfl rfl
theorem qn_X4_init : Cond.instanceMethod yX4_init ∈ GW := gw_in1 (i := 195) rfl rfl
theorem qc_X2_init : Cond.code yX2_init cX2_init 1 none ∈ GW := gw_in1 (i := 224) rfl rfl
theorem qn_X2_init : Cond.instanceMethod yX2_init ∈ GW := gw_in1 (i := 223) rfl rfl
theorem qc_X7_roller : Cond.code yX7_roller cX7_roller 4 (some .int) ∈ GW := gw_in2 (i := 28) rfl rfl
theorem qn_X7_roller : Cond.instanceMethod yX7_roller ∈ GW := gw_in2 (i := 26) rfl rfl
theorem ql_X7_roller : Cond.selects yX7_roller.cls yX7_roller yX7_roller ∈ GW := gw_in2 (i := 27) rfl rfl
theorem qc_X7_isKind : Cond.code yX7_isKind cX7_isKind 1 (some .boolean) ∈ GW := gw_in2 (i := 31) rfl rfl
theorem qt_X7_isKind : Cond.static yX7_isKind ∈ GW := gw_in2 (i := 30) rfl rfl
theorem qc_X7_within : Cond.code yX7_within cX7_within 3 (some .boolean) ∈ GW := gw_in2 (i := 34) rfl rfl
theorem qt_X7_within : Cond.static yX7_within ∈ GW := gw_in2 (i := 33) rfl rfl
theorem qc_X7_finding : Cond.code yX7_finding cX7_finding 3 (some .int) ∈ GW := gw_in2 (i := 39) rfl rfl
theorem qn_X7_finding : Cond.instanceMethod yX7_finding ∈ GW := gw_in2 (i := 38) rfl rfl
theorem ql_X7_finding : Cond.selects yX7_finding.cls yX7_finding yX7_finding ∈ GW := gw_in (List.mem_of_getElem? (i := 0) (by decide +kernel)) rfl
theorem qc_X1_begin : Cond.code yX1_begin cX1_begin 3 none ∈ GW := gw_in2 (i := 44) rfl rfl
theorem qn_X1_begin : Cond.instanceMethod yX1_begin ∈ GW := gw_in2 (i := 42) rfl rfl
theorem ql_X1_begin : Cond.selects yX1_begin.cls yX1_begin yX1_begin ∈ GW := gw_in2 (i := 43) rfl rfl
theorem qc_X7_of : Cond.code yX7_of cX7_of 3 (some .int) ∈ GW := gw_in2 (i := 48) rfl rfl
theorem qn_X7_of : Cond.instanceMethod yX7_of ∈ GW := gw_in2 (i := 46) rfl rfl
theorem ql_X7_of : Cond.selects yX7_of.cls yX7_of yX7_of ∈ GW := gw_in2 (i := 47) rfl rfl
theorem qc_X7_isPerson : Cond.code yX7_isPerson cX7_isPerson 2 (some .boolean) ∈ GW := gw_in2 (i := 52) rfl rfl
theorem qn_X7_isPerson : Cond.instanceMethod yX7_isPerson ∈ GW := gw_in2 (i := 51) rfl rfl
theorem ql_X7_isPerson : Cond.selects yX7_isPerson.cls yX7_isPerson yX7_isPerson ∈ GW := gw_in (List.mem_of_getElem? (i := 1) (by decide +kernel)) rfl
theorem qc_X1_trait : Cond.code yX1_trait cX1_trait 2 (some .int) ∈ GW := gw_in2 (i := 56) rfl rfl
theorem qn_X1_trait : Cond.instanceMethod yX1_trait ∈ GW := gw_in2 (i := 54) rfl rfl
theorem ql_X1_trait : Cond.selects yX1_trait.cls yX1_trait yX1_trait ∈ GW := gw_in2 (i := 55) rfl rfl
theorem qc_X7_set : Cond.code yX7_set cX7_set 5 (some .int) ∈ GW := gw_in2 (i := 60) rfl rfl
theorem qn_X7_set : Cond.instanceMethod yX7_set ∈ GW := gw_in2 (i := 58) rfl rfl
theorem ql_X7_set : Cond.selects yX7_set.cls yX7_set yX7_set ∈ GW := gw_in2 (i := 59) rfl rfl
theorem qc_X7_maySet : Cond.code yX7_maySet cX7_maySet 3 (some .boolean) ∈ GW := gw_in2 (i := 64) rfl rfl
theorem qn_X7_maySet : Cond.instanceMethod yX7_maySet ∈ GW := gw_in2 (i := 63) rfl rfl
theorem ql_X7_maySet : Cond.selects yX7_maySet.cls yX7_maySet yX7_maySet ∈ GW := gw_in (List.mem_of_getElem? (i := 2) (by decide +kernel)) rfl
theorem qc_X6_isOnLog : Cond.code yX6_isOnLog cX6_isOnLog 2 (some .boolean) ∈ GW := gw_in2 (i := 68) rfl rfl
theorem qn_X6_isOnLog : Cond.instanceMethod yX6_isOnLog ∈ GW := gw_in2 (i := 66) rfl rfl
theorem ql_X6_isOnLog : Cond.selects yX6_isOnLog.cls yX6_isOnLog yX6_isOnLog ∈ GW := gw_in2 (i := 67) rfl rfl
theorem qc_X1_change : Cond.code yX1_change cX1_change 3 none ∈ GW := gw_in2 (i := 73) rfl rfl
theorem qn_X1_change : Cond.instanceMethod yX1_change ∈ GW := gw_in2 (i := 71) rfl rfl
theorem ql_X1_change : Cond.selects yX1_change.cls yX1_change yX1_change ∈ GW := gw_in2 (i := 72) rfl rfl
theorem qc_X7_as : Cond.code yX7_as cX7_as 3 (some .int) ∈ GW := gw_in2 (i := 77) rfl rfl
theorem qn_X7_as : Cond.instanceMethod yX7_as ∈ GW := gw_in2 (i := 75) rfl rfl
theorem ql_X7_as : Cond.selects yX7_as.cls yX7_as yX7_as ∈ GW := gw_in2 (i := 76) rfl rfl
theorem qc_X7_isUnder : Cond.code yX7_isUnder cX7_isUnder 4 (some .boolean) ∈ GW := gw_in2 (i := 80) rfl rfl
theorem qt_X7_isUnder : Cond.static yX7_isUnder ∈ GW := gw_in2 (i := 79) rfl rfl
theorem qc_X7_log : Cond.code yX7_log cX7_log 4 (some .int) ∈ GW := gw_in2 (i := 87) rfl rfl
theorem qn_X7_log : Cond.instanceMethod yX7_log ∈ GW := gw_in2 (i := 85) rfl rfl
theorem ql_X7_log : Cond.selects yX7_log.cls yX7_log yX7_log ∈ GW := gw_in2 (i := 86) rfl rfl
theorem qc_X7_push : Cond.code yX7_push cX7_push 7 (some .int) ∈ GW := gw_in2 (i := 95) rfl rfl
theorem qn_X7_push : Cond.instanceMethod yX7_push ∈ GW := gw_in2 (i := 93) rfl rfl
theorem ql_X7_push : Cond.selects yX7_push.cls yX7_push yX7_push ∈ GW := gw_in2 (i := 94) rfl rfl
theorem qc_X7_isSituation : Cond.code yX7_isSituation cX7_isSituation 4 (some .boolean) ∈ GW := gw_in2 (i := 98) rfl rfl
theorem qt_X7_isSituation : Cond.static yX7_isSituation ∈ GW := gw_in2 (i := 97) rfl rfl
theorem qc_X6_wayAt : Cond.code yX6_wayAt cX6_wayAt 2 (some (.object "LogRollers$Way")) ∈ GW := gw_in2 (i := 102) rfl rfl
theorem qn_X6_wayAt : Cond.instanceMethod yX6_wayAt ∈ GW := gw_in2 (i := 100) rfl rfl
theorem ql_X6_wayAt : Cond.selects yX6_wayAt.cls yX6_wayAt yX6_wayAt ∈ GW := gw_in2 (i := 101) rfl rfl
theorem qc_X1_shove : Cond.code yX1_shove cX1_shove 6 (some .int) ∈ GW := gw_in2 (i := 107) rfl rfl
theorem qn_X1_shove : Cond.instanceMethod yX1_shove ∈ GW := gw_in2 (i := 105) rfl rfl
theorem ql_X1_shove : Cond.selects yX1_shove.cls yX1_shove yX1_shove ∈ GW := gw_in2 (i := 106) rfl rfl
theorem qc_X7_atMost : Cond.code yX7_atMost cX7_atMost 2 (some .int) ∈ GW := gw_in2 (i := 110) rfl rfl
theorem qt_X7_atMost : Cond.static yX7_atMost ∈ GW := gw_in2 (i := 109) rfl rfl
theorem qc_X1_waiterShove : Cond.code yX1_waiterShove cX1_waiterShove 3 (some .int) ∈ GW := gw_in2 (i := 114) rfl rfl
theorem qn_X1_waiterShove : Cond.instanceMethod yX1_waiterShove ∈ GW := gw_in2 (i := 113) rfl rfl
theorem ql_X1_waiterShove : Cond.selects yX1_waiterShove.cls yX1_waiterShove yX1_waiterShove ∈ GW := gw_in (List.mem_of_getElem? (i := 3) (by decide +kernel)) rfl
theorem qc_X5_firstThat : Cond.code yX5_firstThat cX5_firstThat 9 (some .int) ∈ GW := gw_in2 (i := 118) rfl rfl
theorem qn_X5_firstThat : Cond.instanceMethod yX5_firstThat ∈ GW := gw_in2 (i := 116) rfl rfl
theorem ql_X5_firstThat : Cond.selects yX5_firstThat.cls yX5_firstThat yX5_firstThat ∈ GW := gw_in2 (i := 117) rfl rfl
theorem qc_X5_deedOf : Cond.code yX5_deedOf cX5_deedOf 2 (some .int) ∈ GW := gw_in2 (i := 122) rfl rfl
theorem qn_X5_deedOf : Cond.instanceMethod yX5_deedOf ∈ GW := gw_in2 (i := 120) rfl rfl
theorem ql_X5_deedOf : Cond.selects yX5_deedOf.cls yX5_deedOf yX5_deedOf ∈ GW := gw_in2 (i := 121) rfl rfl
theorem qc_X1_deedShove : Cond.code yX1_deedShove cX1_deedShove 4 (some .int) ∈ GW := gw_in2 (i := 127) rfl rfl
theorem qn_X1_deedShove : Cond.instanceMethod yX1_deedShove ∈ GW := gw_in2 (i := 126) rfl rfl
theorem ql_X1_deedShove : Cond.selects yX1_deedShove.cls yX1_deedShove yX1_deedShove ∈ GW := gw_in (List.mem_of_getElem? (i := 4) (by decide +kernel)) rfl
theorem qc_X7_mount : Cond.code yX7_mount cX7_mount 3 (some .int) ∈ GW := gw_in2 (i := 131) rfl rfl
theorem qn_X7_mount : Cond.instanceMethod yX7_mount ∈ GW := gw_in2 (i := 129) rfl rfl
theorem ql_X7_mount : Cond.selects yX7_mount.cls yX7_mount yX7_mount ∈ GW := gw_in2 (i := 130) rfl rfl
theorem qc_X7_isPair : Cond.code yX7_isPair cX7_isPair 3 (some .boolean) ∈ GW := gw_in2 (i := 135) rfl rfl
theorem qn_X7_isPair : Cond.instanceMethod yX7_isPair ∈ GW := gw_in2 (i := 134) rfl rfl
theorem ql_X7_isPair : Cond.selects yX7_isPair.cls yX7_isPair yX7_isPair ∈ GW := gw_in (List.mem_of_getElem? (i := 5) (by decide +kernel)) rfl
theorem qc_X0_begin : Cond.code yX0_begin cX0_begin 3 none ∈ GW := gw_in2 (i := 139) rfl rfl
theorem qn_X0_begin : Cond.instanceMethod yX0_begin ∈ GW := gw_in2 (i := 137) rfl rfl
theorem ql_X0_begin : Cond.selects yX0_begin.cls yX0_begin yX0_begin ∈ GW := gw_in2 (i := 138) rfl rfl
theorem qc_X3_begin : Cond.code yX3_begin cX3_begin 2 none ∈ GW := gw_in2 (i := 143) rfl rfl
theorem qn_X3_begin : Cond.instanceMethod yX3_begin ∈ GW := gw_in2 (i := 141) rfl rfl
theorem ql_X3_begin : Cond.selects yX3_begin.cls yX3_begin yX3_begin ∈ GW := gw_in2 (i := 142) rfl rfl
theorem qc_X7_off : Cond.code yX7_off cX7_off 1 (some .int) ∈ GW := gw_in2 (i := 147) rfl rfl
theorem qn_X7_off : Cond.instanceMethod yX7_off ∈ GW := gw_in2 (i := 145) rfl rfl
theorem ql_X7_off : Cond.selects yX7_off.cls yX7_off yX7_off ∈ GW := gw_in2 (i := 146) rfl rfl
theorem qc_X7_bout : Cond.code yX7_bout cX7_bout 5 (some .int) ∈ GW := gw_in2 (i := 151) rfl rfl
theorem qn_X7_bout : Cond.instanceMethod yX7_bout ∈ GW := gw_in2 (i := 149) rfl rfl
theorem ql_X7_bout : Cond.selects yX7_bout.cls yX7_bout yX7_bout ∈ GW := gw_in2 (i := 150) rfl rfl
theorem qc_X0_go : Cond.code yX0_go cX0_go 6 (some .int) ∈ GW := gw_in2 (i := 155) rfl rfl
theorem qn_X0_go : Cond.instanceMethod yX0_go ∈ GW := gw_in2 (i := 153) rfl rfl
theorem ql_X0_go : Cond.selects yX0_go.cls yX0_go yX0_go ∈ GW := gw_in2 (i := 154) rfl rfl
theorem qc_X0_tick : Cond.code yX0_tick cX0_tick 5 (some .int) ∈ GW := gw_in2 (i := 159) rfl rfl
theorem qn_X0_tick : Cond.instanceMethod yX0_tick ∈ GW := gw_in2 (i := 157) rfl rfl
theorem ql_X0_tick : Cond.selects yX0_tick.cls yX0_tick yX0_tick ∈ GW := gw_in2 (i := 158) rfl rfl
theorem qc_X0_seenBy : Cond.code yX0_seenBy cX0_seenBy 3 (some .int) ∈ GW := gw_in2 (i := 163) rfl rfl
theorem qn_X0_seenBy : Cond.instanceMethod yX0_seenBy ∈ GW := gw_in2 (i := 161) rfl rfl
theorem ql_X0_seenBy : Cond.selects yX0_seenBy.cls yX0_seenBy yX0_seenBy ∈ GW := gw_in2 (i := 162) rfl rfl
theorem qc_X0_nextShove : Cond.code yX0_nextShove cX0_nextShove 5 (some .int) ∈ GW := gw_in2 (i := 167) rfl rfl
theorem qn_X0_nextShove : Cond.instanceMethod yX0_nextShove ∈ GW := gw_in2 (i := 165) rfl rfl
theorem ql_X0_nextShove : Cond.selects yX0_nextShove.cls yX0_nextShove yX0_nextShove ∈ GW := gw_in2 (i := 166) rfl rfl
theorem qc_X3_cost : Cond.code yX3_cost cX3_cost 1 (some .int) ∈ GW := gw_in2 (i := 172) rfl rfl
theorem qt_X3_cost : Cond.static yX3_cost ∈ GW := gw_in2 (i := 171) rfl rfl
theorem qc_J9_abs_0f7a4 : Cond.code yJ9_abs_0f7a4 cJ9_abs_0f7a4 1 (some .int) ∈ GW := gw_in2 (i := 175) rfl rfl
theorem qt_J9_abs_0f7a4 : Cond.static yJ9_abs_0f7a4 ∈ GW := gw_in2 (i := 174) rfl rfl
theorem qc_X3_decide : Cond.code yX3_decide cX3_decide 3 none ∈ GW := gw_in2 (i := 179) rfl rfl
theorem qn_X3_decide : Cond.instanceMethod yX3_decide ∈ GW := gw_in2 (i := 177) rfl rfl
theorem ql_X3_decide : Cond.selects yX3_decide.cls yX3_decide yX3_decide ∈ GW := gw_in2 (i := 178) rfl rfl
theorem qc_X0_roll : Cond.code yX0_roll cX0_roll 4 none ∈ GW := gw_in2 (i := 184) rfl rfl
theorem qn_X0_roll : Cond.instanceMethod yX0_roll ∈ GW := gw_in2 (i := 183) rfl rfl
theorem ql_X0_roll : Cond.selects yX0_roll.cls yX0_roll yX0_roll ∈ GW := gw_in (List.mem_of_getElem? (i := 6) (by decide +kernel)) rfl
theorem qc_X0_stepUnlessSlipping : Cond.code yX0_stepUnlessSlipping cX0_stepUnlessSlipping 3 none ∈ GW := gw_in2 (i := 188) rfl rfl
theorem qn_X0_stepUnlessSlipping : Cond.instanceMethod yX0_stepUnlessSlipping ∈ GW := gw_in2 (i := 187) rfl rfl
theorem ql_X0_stepUnlessSlipping : Cond.selects yX0_stepUnlessSlipping.cls yX0_stepUnlessSlipping yX0_stepUnlessSlipping ∈ GW := gw_in (List.mem_of_getElem? (i := 7) (by decide +kernel)) rfl
theorem qc_X3_step : Cond.code yX3_step cX3_step 2 none ∈ GW := gw_in2 (i := 193) rfl rfl
theorem qn_X3_step : Cond.instanceMethod yX3_step ∈ GW := gw_in2 (i := 191) rfl rfl
theorem ql_X3_step : Cond.selects yX3_step.cls yX3_step yX3_step ∈ GW := gw_in2 (i := 192) rfl rfl
theorem qc_X3_sway : Cond.code yX3_sway cX3_sway 2 none ∈ GW := gw_in2 (i := 198) rfl rfl
theorem qn_X3_sway : Cond.instanceMethod yX3_sway ∈ GW := gw_in2 (i := 196) rfl rfl
theorem ql_X3_sway : Cond.selects yX3_sway.cls yX3_sway yX3_sway ∈ GW := gw_in2 (i := 197) rfl rfl
theorem qc_J9_floorMod_7cf53 : Cond.code yJ9_floorMod_7cf53 cJ9_floorMod_7cf53 3 (some .int) ∈ GW := gw_in2 (i := 201) rfl rfl
theorem qt_J9_floorMod_7cf53 : Cond.static yJ9_floorMod_7cf53 ∈ GW := gw_in2 (i := 200) rfl rfl
theorem qc_X7_endBout : Cond.code yX7_endBout cX7_endBout 4 none ∈ GW := gw_in2 (i := 206) rfl rfl
theorem qn_X7_endBout : Cond.instanceMethod yX7_endBout ∈ GW := gw_in2 (i := 205) rfl rfl
theorem ql_X7_endBout : Cond.selects yX7_endBout.cls yX7_endBout yX7_endBout ∈ GW := gw_in (List.mem_of_getElem? (i := 8) (by decide +kernel)) rfl
theorem qc_X7_stands : Cond.code yX7_stands cX7_stands 6 (some .int) ∈ GW := gw_in2 (i := 210) rfl rfl
theorem qn_X7_stands : Cond.instanceMethod yX7_stands ∈ GW := gw_in2 (i := 208) rfl rfl
theorem ql_X7_stands : Cond.selects yX7_stands.cls yX7_stands yX7_stands ∈ GW := gw_in2 (i := 209) rfl rfl
theorem qc_X7_now : Cond.code yX7_now cX7_now 2 (some .int) ∈ GW := gw_in2 (i := 216) rfl rfl
theorem qn_X7_now : Cond.instanceMethod yX7_now ∈ GW := gw_in2 (i := 214) rfl rfl
theorem ql_X7_now : Cond.selects yX7_now.cls yX7_now yX7_now ∈ GW := gw_in2 (i := 215) rfl rfl
theorem qc_X7_seed : Cond.code yX7_seed cX7_seed 3 (some .int) ∈ GW := gw_in2 (i := 220) rfl rfl
theorem qn_X7_seed : Cond.instanceMethod yX7_seed ∈ GW := gw_in2 (i := 218) rfl rfl
theorem ql_X7_seed : Cond.selects yX7_seed.cls yX7_seed yX7_seed ∈ GW := gw_in2 (i := 219) rfl rfl
theorem qc_X7_ahead : Cond.code yX7_ahead cX7_ahead 6 (some .int) ∈ GW := gw_in2 (i := 224) rfl rfl
theorem qn_X7_ahead : Cond.instanceMethod yX7_ahead ∈ GW := gw_in2 (i := 222) rfl rfl
theorem ql_X7_ahead : Cond.selects yX7_ahead.cls yX7_ahead yX7_ahead ∈ GW := gw_in2 (i := 223) rfl rfl
theorem qc_X7_startAhead : Cond.code yX7_startAhead cX7_startAhead 3 none ∈ GW := gw_in2 (i := 228) rfl rfl
theorem qn_X7_startAhead : Cond.instanceMethod yX7_startAhead ∈ GW := gw_in2 (i := 227) rfl rfl
theorem ql_X7_startAhead : Cond.selects yX7_startAhead.cls yX7_startAhead yX7_startAhead ∈ GW := gw_in (List.mem_of_getElem? (i := 9) (by decide +kernel)) rfl
theorem qc_X7_best : Cond.code yX7_best cX7_best 8 (some .int) ∈ GW := gw_in2 (i := 232) rfl rfl
theorem qn_X7_best : Cond.instanceMethod yX7_best ∈ GW := gw_in2 (i := 230) rfl rfl
theorem ql_X7_best : Cond.selects yX7_best.cls yX7_best yX7_best ∈ GW := gw_in2 (i := 231) rfl rfl
theorem qc_X1_takeFrom : Cond.code yX1_takeFrom cX1_takeFrom 2 none ∈ GW := gw_in2 (i := 236) rfl rfl
theorem qn_X1_takeFrom : Cond.instanceMethod yX1_takeFrom ∈ GW := gw_in2 (i := 234) rfl rfl
theorem ql_X1_takeFrom : Cond.selects yX1_takeFrom.cls yX1_takeFrom yX1_takeFrom ∈ GW := gw_in2 (i := 235) rfl rfl
theorem qc_X7_light : Cond.code yX7_light cX7_light 5 (some .int) ∈ GW := gw_in3 (i := 1) rfl rfl
theorem qn_X7_light : Cond.instanceMethod yX7_light ∈ GW := gw_in2 (i := 239) rfl rfl
theorem ql_X7_light : Cond.selects yX7_light.cls yX7_light yX7_light ∈ GW := gw_in3 (i := 0) rfl rfl
theorem qc_X7_late : Cond.code yX7_late cX7_late 6 (some .int) ∈ GW := gw_in3 (i := 5) rfl rfl
theorem qn_X7_late : Cond.instanceMethod yX7_late ∈ GW := gw_in3 (i := 3) rfl rfl
theorem ql_X7_late : Cond.selects yX7_late.cls yX7_late yX7_late ∈ GW := gw_in3 (i := 4) rfl rfl
theorem qc_X7_swing : Cond.code yX7_swing cX7_swing 11 (some .int) ∈ GW := gw_in3 (i := 9) rfl rfl
theorem qn_X7_swing : Cond.instanceMethod yX7_swing ∈ GW := gw_in3 (i := 7) rfl rfl
theorem ql_X7_swing : Cond.selects yX7_swing.cls yX7_swing yX7_swing ∈ GW := gw_in3 (i := 8) rfl rfl
theorem qc_J9_max_7cf53 : Cond.code yJ9_max_7cf53 cJ9_max_7cf53 2 (some .int) ∈ GW := gw_in3 (i := 14) rfl rfl
theorem qt_J9_max_7cf53 : Cond.static yJ9_max_7cf53 ∈ GW := gw_in3 (i := 13) rfl rfl
theorem qc_X7_beats : Cond.code yX7_beats cX7_beats 3 (some .int) ∈ GW := gw_in3 (i := 18) rfl rfl
theorem qn_X7_beats : Cond.instanceMethod yX7_beats ∈ GW := gw_in3 (i := 16) rfl rfl
theorem ql_X7_beats : Cond.selects yX7_beats.cls yX7_beats yX7_beats ∈ GW := gw_in3 (i := 17) rfl rfl
theorem qc_X7_beatenBy : Cond.code yX7_beatenBy cX7_beatenBy 7 (some .int) ∈ GW := gw_in3 (i := 22) rfl rfl
theorem qn_X7_beatenBy : Cond.instanceMethod yX7_beatenBy ∈ GW := gw_in3 (i := 21) rfl rfl
theorem ql_X7_beatenBy : Cond.selects yX7_beatenBy.cls yX7_beatenBy yX7_beatenBy ∈ GW := gw_in (List.mem_of_getElem? (i := 10) (by decide +kernel)) rfl
theorem qc_X7_five : Cond.code yX7_five cX7_five 8 (some .int) ∈ GW := gw_in3 (i := 26) rfl rfl
theorem qn_X7_five : Cond.instanceMethod yX7_five ∈ GW := gw_in3 (i := 24) rfl rfl
theorem ql_X7_five : Cond.selects yX7_five.cls yX7_five yX7_five ∈ GW := gw_in3 (i := 25) rfl rfl
theorem qc_X7_champion : Cond.code yX7_champion cX7_champion 6 (some .int) ∈ GW := gw_in3 (i := 30) rfl rfl
theorem qn_X7_champion : Cond.instanceMethod yX7_champion ∈ GW := gw_in3 (i := 28) rfl rfl
theorem ql_X7_champion : Cond.selects yX7_champion.cls yX7_champion yX7_champion ∈ GW := gw_in3 (i := 29) rfl rfl
theorem qc_J6_bitCount_0f7a4 : Cond.code yJ6_bitCount_0f7a4 cJ6_bitCount_0f7a4 1 (some .int) ∈ GW := gw_in3 (i := 33) rfl rfl
theorem qt_J6_bitCount_0f7a4 : Cond.static yJ6_bitCount_0f7a4 ∈ GW := gw_in3 (i := 32) rfl rfl
theorem qc_X7_feed : Cond.code yX7_feed cX7_feed 4 (some .int) ∈ GW := gw_in3 (i := 40) rfl rfl
theorem qn_X7_feed : Cond.instanceMethod yX7_feed ∈ GW := gw_in3 (i := 38) rfl rfl
theorem ql_X7_feed : Cond.selects yX7_feed.cls yX7_feed yX7_feed ∈ GW := gw_in3 (i := 39) rfl rfl
theorem qc_X4_addByte : Cond.code yX4_addByte cX4_addByte 2 none ∈ GW := gw_in3 (i := 44) rfl rfl
theorem qn_X4_addByte : Cond.instanceMethod yX4_addByte ∈ GW := gw_in3 (i := 42) rfl rfl
theorem ql_X4_addByte : Cond.selects yX4_addByte.cls yX4_addByte yX4_addByte ∈ GW := gw_in3 (i := 43) rfl rfl
theorem qc_X7_wipe : Cond.code yX7_wipe cX7_wipe 2 (some .int) ∈ GW := gw_in3 (i := 48) rfl rfl
theorem qn_X7_wipe : Cond.instanceMethod yX7_wipe ∈ GW := gw_in3 (i := 46) rfl rfl
theorem ql_X7_wipe : Cond.selects yX7_wipe.cls yX7_wipe yX7_wipe ∈ GW := gw_in3 (i := 47) rfl rfl
theorem qc_X7_way : Cond.code yX7_way cX7_way 3 (some .int) ∈ GW := gw_in3 (i := 52) rfl rfl
theorem qn_X7_way : Cond.instanceMethod yX7_way ∈ GW := gw_in3 (i := 50) rfl rfl
theorem ql_X7_way : Cond.selects yX7_way.cls yX7_way yX7_way ∈ GW := gw_in3 (i := 51) rfl rfl
theorem qc_X4_toWay : Cond.code yX4_toWay cX4_toWay 3 (some (.object "LogRollers$Way")) ∈ GW := gw_in3 (i := 56) rfl rfl
theorem qn_X4_toWay : Cond.instanceMethod yX4_toWay ∈ GW := gw_in3 (i := 54) rfl rfl
theorem ql_X4_toWay : Cond.selects yX4_toWay.cls yX4_toWay yX4_toWay ∈ GW := gw_in3 (i := 55) rfl rfl
theorem qc_X5_init : Cond.code yX5_init cX5_init 1 none ∈ GW := gw_in3 (i := 61) rfl rfl
theorem qn_X5_init : Cond.instanceMethod yX5_init ∈ GW := gw_in3 (i := 60) rfl rfl
theorem qc_X4_nextToken : Cond.code yX4_nextToken cX4_nextToken 1 none ∈ GW := gw_in3 (i := 83) rfl rfl
theorem qn_X4_nextToken : Cond.instanceMethod yX4_nextToken ∈ GW := gw_in3 (i := 82) rfl rfl
theorem ql_X4_nextToken : Cond.selects yX4_nextToken.cls yX4_nextToken yX4_nextToken ∈ GW := gw_in (List.mem_of_getElem? (i := 11) (by decide +kernel)) rfl
theorem qc_X4_isLetter : Cond.code yX4_isLetter cX4_isLetter 1 (some .boolean) ∈ GW := gw_in3 (i := 86) rfl rfl
theorem qt_X4_isLetter : Cond.static yX4_isLetter ∈ GW := gw_in3 (i := 85) rfl rfl
theorem qc_X4_takeWord : Cond.code yX4_takeWord cX4_takeWord 1 none ∈ GW := gw_in3 (i := 90) rfl rfl
theorem qn_X4_takeWord : Cond.instanceMethod yX4_takeWord ∈ GW := gw_in3 (i := 89) rfl rfl
theorem ql_X4_takeWord : Cond.selects yX4_takeWord.cls yX4_takeWord yX4_takeWord ∈ GW := gw_in (List.mem_of_getElem? (i := 12) (by decide +kernel)) rfl
theorem qc_X4_isDigit : Cond.code yX4_isDigit cX4_isDigit 1 (some .boolean) ∈ GW := gw_in3 (i := 93) rfl rfl
theorem qt_X4_isDigit : Cond.static yX4_isDigit ∈ GW := gw_in3 (i := 92) rfl rfl
theorem qc_X4_takeNumber : Cond.code yX4_takeNumber cX4_takeNumber 2 none ∈ GW := gw_in3 (i := 97) rfl rfl
theorem qn_X4_takeNumber : Cond.instanceMethod yX4_takeNumber ∈ GW := gw_in3 (i := 96) rfl rfl
theorem ql_X4_takeNumber : Cond.selects yX4_takeNumber.cls yX4_takeNumber yX4_takeNumber ∈ GW := gw_in (List.mem_of_getElem? (i := 13) (by decide +kernel)) rfl
theorem qc_J9_min_7cf53 : Cond.code yJ9_min_7cf53 cJ9_min_7cf53 2 (some .int) ∈ GW := gw_in3 (i := 100) rfl rfl
theorem qt_J9_min_7cf53 : Cond.static yJ9_min_7cf53 ∈ GW := gw_in3 (i := 99) rfl rfl
theorem qc_X4_isSign : Cond.code yX4_isSign cX4_isSign 1 (some .boolean) ∈ GW := gw_in3 (i := 103) rfl rfl
theorem qt_X4_isSign : Cond.static yX4_isSign ∈ GW := gw_in3 (i := 102) rfl rfl
theorem qc_X4_takeRule : Cond.code yX4_takeRule cX4_takeRule 6 (some .boolean) ∈ GW := gw_in3 (i := 107) rfl rfl
theorem qn_X4_takeRule : Cond.instanceMethod yX4_takeRule ∈ GW := gw_in3 (i := 106) rfl rfl
theorem ql_X4_takeRule : Cond.selects yX4_takeRule.cls yX4_takeRule yX4_takeRule ∈ GW := gw_in (List.mem_of_getElem? (i := 14) (by decide +kernel)) rfl
theorem qc_X4_nameHere : Cond.code yX4_nameHere cX4_nameHere 1 (some .int) ∈ GW := gw_in3 (i := 111) rfl rfl
theorem qn_X4_nameHere : Cond.instanceMethod yX4_nameHere ∈ GW := gw_in3 (i := 110) rfl rfl
theorem ql_X4_nameHere : Cond.selects yX4_nameHere.cls yX4_nameHere yX4_nameHere ∈ GW := gw_in (List.mem_of_getElem? (i := 15) (by decide +kernel)) rfl
theorem qc_X4_isWord : Cond.code yX4_isWord cX4_isWord 3 (some .boolean) ∈ GW := gw_in3 (i := 116) rfl rfl
theorem qn_X4_isWord : Cond.instanceMethod yX4_isWord ∈ GW := gw_in3 (i := 115) rfl rfl
theorem ql_X4_isWord : Cond.selects yX4_isWord.cls yX4_isWord yX4_isWord ∈ GW := gw_in (List.mem_of_getElem? (i := 16) (by decide +kernel)) rfl
theorem qc_J0_length_8abf5 : Cond.code yJ0_length_8abf5 cJ0_length_8abf5 1 (some .int) ∈ GW := gw_in3 (i := 120) rfl rfl
theorem qn_J0_length_8abf5 : Cond.instanceMethod yJ0_length_8abf5 ∈ GW := gw_in3 (i := 118) rfl rfl
theorem ql_J0_length_8abf5 : Cond.selects yJ0_length_8abf5.cls yJ0_length_8abf5 yJ0_length_8abf5 ∈ GW := gw_in3 (i := 119) rfl rfl
theorem qc_J0_coder_7d493 : Cond.code yJ0_coder_7d493 cJ0_coder_7d493 1 (some .byte) ∈ GW := gw_in3 (i := 124) rfl rfl
theorem qn_J0_coder_7d493 : Cond.instanceMethod yJ0_coder_7d493 ∈ GW := gw_in3 (i := 122) rfl rfl
theorem ql_J0_coder_7d493 : Cond.selects yJ0_coder_7d493.cls yJ0_coder_7d493 yJ0_coder_7d493 ∈ GW := gw_in3 (i := 123) rfl rfl
theorem qc_J0_charAt_5068e : Cond.code yJ0_charAt_5068e cJ0_charAt_5068e 2 (some .char) ∈ GW := gw_in3 (i := 130) rfl rfl
theorem qn_J0_charAt_5068e : Cond.instanceMethod yJ0_charAt_5068e ∈ GW := gw_in3 (i := 128) rfl rfl
theorem ql_J0_charAt_5068e : Cond.selects yJ0_charAt_5068e.cls yJ0_charAt_5068e yJ0_charAt_5068e ∈ GW := gw_in3 (i := 129) rfl rfl
theorem qc_J0_isLatin1_aae02 : Cond.code yJ0_isLatin1_aae02 cJ0_isLatin1_aae02 1 (some .boolean) ∈ GW := gw_in3 (i := 134) rfl rfl
theorem qn_J0_isLatin1_aae02 : Cond.instanceMethod yJ0_isLatin1_aae02 ∈ GW := gw_in3 (i := 132) rfl rfl
theorem ql_J0_isLatin1_aae02 : Cond.selects yJ0_isLatin1_aae02.cls yJ0_isLatin1_aae02 yJ0_isLatin1_aae02 ∈ GW := gw_in3 (i := 133) rfl rfl
theorem qc_J1_charAt_3b067 : Cond.code yJ1_charAt_3b067 cJ1_charAt_3b067 2 (some .char) ∈ GW := gw_in3 (i := 137) rfl rfl
theorem qt_J1_charAt_3b067 : Cond.static yJ1_charAt_3b067 ∈ GW := gw_in3 (i := 136) rfl rfl
theorem qc_J0_checkIndex_df160 : Cond.code yJ0_checkIndex_df160 cJ0_checkIndex_df160 2 none ∈ GW := gw_in3 (i := 140) rfl rfl
theorem qt_J0_checkIndex_df160 : Cond.static yJ0_checkIndex_df160 ∈ GW := gw_in3 (i := 139) rfl rfl
theorem qc_J3_checkIndex_8e157 : Cond.code yJ3_checkIndex_8e157 cJ3_checkIndex_8e157 3 (some .int) ∈ GW := gw_in3 (i := 145) rfl rfl
theorem qt_J3_checkIndex_8e157 : Cond.static yJ3_checkIndex_8e157 ∈ GW := gw_in3 (i := 144) rfl rfl
theorem qc_J2_charAt_3b067 : Cond.code yJ2_charAt_3b067 cJ2_charAt_3b067 2 (some .char) ∈ GW := gw_in3 (i := 148) rfl rfl
theorem qt_J2_charAt_3b067 : Cond.static yJ2_charAt_3b067 ∈ GW := gw_in3 (i := 147) rfl rfl
theorem qc_J2_checkIndex_2214a : Cond.code yJ2_checkIndex_2214a cJ2_checkIndex_2214a 2 none ∈ GW := gw_in3 (i := 151) rfl rfl
theorem qt_J2_checkIndex_2214a : Cond.static yJ2_checkIndex_2214a ∈ GW := gw_in3 (i := 150) rfl rfl
theorem qc_J2_length_9d52b : Cond.code yJ2_length_9d52b cJ2_length_9d52b 1 (some .int) ∈ GW := gw_in3 (i := 154) rfl rfl
theorem qt_J2_length_9d52b : Cond.static yJ2_length_9d52b ∈ GW := gw_in3 (i := 153) rfl rfl
theorem qc_J2_getChar_3b067 : Cond.code yJ2_getChar_3b067 cJ2_getChar_3b067 2 (some .char) ∈ GW := gw_in3 (i := 158) rfl rfl
theorem qt_J2_getChar_3b067 : Cond.static yJ2_getChar_3b067 ∈ GW := gw_in3 (i := 157) rfl rfl
theorem qc_X4_takeComparison : Cond.code yX4_takeComparison cX4_takeComparison 3 (some .boolean) ∈ GW := gw_in3 (i := 172) rfl rfl
theorem qn_X4_takeComparison : Cond.instanceMethod yX4_takeComparison ∈ GW := gw_in3 (i := 171) rfl rfl
theorem ql_X4_takeComparison : Cond.selects yX4_takeComparison.cls yX4_takeComparison yX4_takeComparison ∈ GW := gw_in (List.mem_of_getElem? (i := 17) (by decide +kernel)) rfl
theorem qc_X4_deedHere : Cond.code yX4_deedHere cX4_deedHere 1 (some .int) ∈ GW := gw_in3 (i := 176) rfl rfl
theorem qn_X4_deedHere : Cond.instanceMethod yX4_deedHere ∈ GW := gw_in3 (i := 175) rfl rfl
theorem ql_X4_deedHere : Cond.selects yX4_deedHere.cls yX4_deedHere yX4_deedHere ∈ GW := gw_in (List.mem_of_getElem? (i := 18) (by decide +kernel)) rfl
theorem qc_X5_addRule : Cond.code yX5_addRule cX5_addRule 5 none ∈ GW := gw_in3 (i := 185) rfl rfl
theorem qn_X5_addRule : Cond.instanceMethod yX5_addRule ∈ GW := gw_in3 (i := 183) rfl rfl
theorem ql_X5_addRule : Cond.selects yX5_addRule.cls yX5_addRule yX5_addRule ∈ GW := gw_in3 (i := 184) rfl rfl
theorem qc_X7_rules : Cond.code yX7_rules cX7_rules 3 (some .int) ∈ GW := gw_in3 (i := 190) rfl rfl
theorem qn_X7_rules : Cond.instanceMethod yX7_rules ∈ GW := gw_in3 (i := 188) rfl rfl
theorem ql_X7_rules : Cond.selects yX7_rules.cls yX7_rules yX7_rules ∈ GW := gw_in3 (i := 189) rfl rfl
theorem qc_X7_holds : Cond.code yX7_holds cX7_holds 8 (some .int) ∈ GW := gw_in3 (i := 194) rfl rfl
theorem qn_X7_holds : Cond.instanceMethod yX7_holds ∈ GW := gw_in3 (i := 192) rfl rfl
theorem ql_X7_holds : Cond.selects yX7_holds.cls yX7_holds yX7_holds ∈ GW := gw_in3 (i := 193) rfl rfl
theorem qc_X7_sheet : Cond.code yX7_sheet cX7_sheet 5 (some .int) ∈ GW := gw_in3 (i := 199) rfl rfl
theorem qn_X7_sheet : Cond.instanceMethod yX7_sheet ∈ GW := gw_in3 (i := 197) rfl rfl
theorem ql_X7_sheet : Cond.selects yX7_sheet.cls yX7_sheet yX7_sheet ∈ GW := gw_in3 (i := 198) rfl rfl
theorem qc_X7_isSheet : Cond.code yX7_isSheet cX7_isSheet 1 (some .boolean) ∈ GW := gw_in3 (i := 202) rfl rfl
theorem qt_X7_isSheet : Cond.static yX7_isSheet ∈ GW := gw_in3 (i := 201) rfl rfl
theorem qc_X2_begin : Cond.code yX2_begin cX2_begin 4 none ∈ GW := gw_in3 (i := 207) rfl rfl
theorem qn_X2_begin : Cond.instanceMethod yX2_begin ∈ GW := gw_in3 (i := 205) rfl rfl
theorem ql_X2_begin : Cond.selects yX2_begin.cls yX2_begin yX2_begin ∈ GW := gw_in3 (i := 206) rfl rfl
theorem qc_X7_write : Cond.code yX7_write cX7_write 7 (some .long) ∈ GW := gw_in3 (i := 211) rfl rfl
theorem qn_X7_write : Cond.instanceMethod yX7_write ∈ GW := gw_in3 (i := 209) rfl rfl
theorem ql_X7_write : Cond.selects yX7_write.cls yX7_write yX7_write ∈ GW := gw_in3 (i := 210) rfl rfl
theorem qc_X2_isMissing : Cond.code yX2_isMissing cX2_isMissing 1 (some .boolean) ∈ GW := gw_in3 (i := 215) rfl rfl
theorem qn_X2_isMissing : Cond.instanceMethod yX2_isMissing ∈ GW := gw_in3 (i := 213) rfl rfl
theorem ql_X2_isMissing : Cond.selects yX2_isMissing.cls yX2_isMissing yX2_isMissing ∈ GW := gw_in3 (i := 214) rfl rfl
theorem qc_X2_put : Cond.code yX2_put cX2_put 4 none ∈ GW := gw_in3 (i := 220) rfl rfl
theorem qn_X2_put : Cond.instanceMethod yX2_put ∈ GW := gw_in3 (i := 218) rfl rfl
theorem ql_X2_put : Cond.selects yX2_put.cls yX2_put yX2_put ∈ GW := gw_in3 (i := 219) rfl rfl
theorem qc_X7_copy : Cond.code yX7_copy cX7_copy 6 (some .int) ∈ GW := gw_in3 (i := 225) rfl rfl
theorem qn_X7_copy : Cond.instanceMethod yX7_copy ∈ GW := gw_in3 (i := 223) rfl rfl
theorem ql_X7_copy : Cond.selects yX7_copy.cls yX7_copy yX7_copy ∈ GW := gw_in3 (i := 224) rfl rfl
theorem qc_X2_hasRow : Cond.code yX2_hasRow cX2_hasRow 3 (some .boolean) ∈ GW := gw_in3 (i := 229) rfl rfl
theorem qn_X2_hasRow : Cond.instanceMethod yX2_hasRow ∈ GW := gw_in3 (i := 227) rfl rfl
theorem ql_X2_hasRow : Cond.selects yX2_hasRow.cls yX2_hasRow yX2_hasRow ∈ GW := gw_in3 (i := 228) rfl rfl
theorem qc_X7_film : Cond.code yX7_film cX7_film 8 (some .int) ∈ GW := gw_in3 (i := 236) rfl rfl
theorem qn_X7_film : Cond.instanceMethod yX7_film ∈ GW := gw_in3 (i := 234) rfl rfl
theorem ql_X7_film : Cond.selects yX7_film.cls yX7_film yX7_film ∈ GW := gw_in3 (i := 235) rfl rfl
theorem qc_X7_sheetFinding : Cond.code yX7_sheetFinding cX7_sheetFinding 4 (some .int) ∈ GW := gw_in4 (i := 0) rfl rfl
theorem qn_X7_sheetFinding : Cond.instanceMethod yX7_sheetFinding ∈ GW := gw_in3 (i := 239) rfl rfl
theorem ql_X7_sheetFinding : Cond.selects yX7_sheetFinding.cls yX7_sheetFinding yX7_sheetFinding ∈ GW := gw_in (List.mem_of_getElem? (i := 19) (by decide +kernel)) rfl
theorem qc_X7_read : Cond.code yX7_read cX7_read 8 (some .int) ∈ GW := gw_in4 (i := 4) rfl rfl
theorem qn_X7_read : Cond.instanceMethod yX7_read ∈ GW := gw_in4 (i := 2) rfl rfl
theorem ql_X7_read : Cond.selects yX7_read.cls yX7_read yX7_read ∈ GW := gw_in4 (i := 3) rfl rfl
theorem qc_X7_image : Cond.code yX7_image cX7_image 1 (some .int) ∈ GW := gw_in4 (i := 8) rfl rfl
theorem qn_X7_image : Cond.instanceMethod yX7_image ∈ GW := gw_in4 (i := 6) rfl rfl
theorem ql_X7_image : Cond.selects yX7_image.cls yX7_image yX7_image ∈ GW := gw_in4 (i := 7) rfl rfl
theorem qc_X6_takeFrom : Cond.code yX6_takeFrom cX6_takeFrom 3 none ∈ GW := gw_in4 (i := 12) rfl rfl
theorem qn_X6_takeFrom : Cond.instanceMethod yX6_takeFrom ∈ GW := gw_in4 (i := 10) rfl rfl
theorem ql_X6_takeFrom : Cond.selects yX6_takeFrom.cls yX6_takeFrom yX6_takeFrom ∈ GW := gw_in4 (i := 11) rfl rfl
theorem qc_X0_takeFrom : Cond.code yX0_takeFrom cX0_takeFrom 3 none ∈ GW := gw_in4 (i := 17) rfl rfl
theorem qn_X0_takeFrom : Cond.instanceMethod yX0_takeFrom ∈ GW := gw_in4 (i := 15) rfl rfl
theorem ql_X0_takeFrom : Cond.selects yX0_takeFrom.cls yX0_takeFrom yX0_takeFrom ∈ GW := gw_in4 (i := 16) rfl rfl
theorem qc_X3_takeFrom : Cond.code yX3_takeFrom cX3_takeFrom 2 none ∈ GW := gw_in4 (i := 21) rfl rfl
theorem qn_X3_takeFrom : Cond.instanceMethod yX3_takeFrom ∈ GW := gw_in4 (i := 19) rfl rfl
theorem ql_X3_takeFrom : Cond.selects yX3_takeFrom.cls yX3_takeFrom yX3_takeFrom ∈ GW := gw_in4 (i := 20) rfl rfl
theorem qc_X7_undo : Cond.code yX7_undo cX7_undo 1 (some .int) ∈ GW := gw_in4 (i := 25) rfl rfl
theorem qn_X7_undo : Cond.instanceMethod yX7_undo ∈ GW := gw_in4 (i := 23) rfl rfl
theorem ql_X7_undo : Cond.selects yX7_undo.cls yX7_undo yX7_undo ∈ GW := gw_in4 (i := 24) rfl rfl
theorem qc_X7_tear : Cond.code yX7_tear cX7_tear 2 (some .int) ∈ GW := gw_in4 (i := 29) rfl rfl
theorem qn_X7_tear : Cond.instanceMethod yX7_tear ∈ GW := gw_in4 (i := 27) rfl rfl
theorem ql_X7_tear : Cond.selects yX7_tear.cls yX7_tear yX7_tear ∈ GW := gw_in4 (i := 28) rfl rfl
theorem qc_X7_count : Cond.code yX7_count cX7_count 2 (some .int) ∈ GW := gw_in4 (i := 33) rfl rfl
theorem qn_X7_count : Cond.instanceMethod yX7_count ∈ GW := gw_in4 (i := 31) rfl rfl
theorem ql_X7_count : Cond.selects yX7_count.cls yX7_count yX7_count ∈ GW := gw_in4 (i := 32) rfl rfl
theorem qc_X6_allFalls : Cond.code yX6_allFalls cX6_allFalls 3 (some .int) ∈ GW := gw_in4 (i := 37) rfl rfl
theorem qn_X6_allFalls : Cond.instanceMethod yX6_allFalls ∈ GW := gw_in4 (i := 35) rfl rfl
theorem ql_X6_allFalls : Cond.selects yX6_allFalls.cls yX6_allFalls yX6_allFalls ∈ GW := gw_in4 (i := 36) rfl rfl
theorem qc_X7_status : Cond.code yX7_status cX7_status 4 (some .int) ∈ GW := gw_in4 (i := 41) rfl rfl
theorem qn_X7_status : Cond.instanceMethod yX7_status ∈ GW := gw_in4 (i := 39) rfl rfl
theorem ql_X7_status : Cond.selects yX7_status.cls yX7_status yX7_status ∈ GW := gw_in4 (i := 40) rfl rfl
theorem qc_X8_init : Cond.code yX8_init cX8_init 1 none ∈ GW := gw_in4 (i := 46) rfl rfl
theorem qn_X8_init : Cond.instanceMethod yX8_init ∈ GW := gw_in4 (i := 45) rfl rfl
theorem qc_X8_roller : Cond.code yX8_roller cX8_roller 4 (some .int) ∈ GW := gw_in4 (i := 109) rfl rfl
theorem qn_X8_roller : Cond.instanceMethod yX8_roller ∈ GW := gw_in4 (i := 107) rfl rfl
theorem ql_X8_roller : Cond.selects yX8_roller.cls yX8_roller yX8_roller ∈ GW := gw_in4 (i := 108) rfl rfl
theorem qc_X8_in : Cond.code yX8_in cX8_in 6 (some .boolean) ∈ GW := gw_in4 (i := 113) rfl rfl
theorem qt_X8_in : Cond.static yX8_in ∈ GW := gw_in4 (i := 112) rfl rfl
theorem qc_X8_finds : Cond.code yX8_finds cX8_finds 2 (some .int) ∈ GW := gw_in4 (i := 119) rfl rfl
theorem qn_X8_finds : Cond.instanceMethod yX8_finds ∈ GW := gw_in4 (i := 118) rfl rfl
theorem ql_X8_finds : Cond.selects yX8_finds.cls yX8_finds yX8_finds ∈ GW := gw_in (List.mem_of_getElem? (i := 20) (by decide +kernel)) rfl
theorem qc_X8_of : Cond.code yX8_of cX8_of 3 (some .int) ∈ GW := gw_in4 (i := 124) rfl rfl
theorem qn_X8_of : Cond.instanceMethod yX8_of ∈ GW := gw_in4 (i := 122) rfl rfl
theorem ql_X8_of : Cond.selects yX8_of.cls yX8_of yX8_of ∈ GW := gw_in4 (i := 123) rfl rfl
theorem qc_X8_isPerson : Cond.code yX8_isPerson cX8_isPerson 2 (some .boolean) ∈ GW := gw_in4 (i := 128) rfl rfl
theorem qn_X8_isPerson : Cond.instanceMethod yX8_isPerson ∈ GW := gw_in4 (i := 127) rfl rfl
theorem ql_X8_isPerson : Cond.selects yX8_isPerson.cls yX8_isPerson yX8_isPerson ∈ GW := gw_in (List.mem_of_getElem? (i := 21) (by decide +kernel)) rfl
theorem qc_X8_set : Cond.code yX8_set cX8_set 5 (some .int) ∈ GW := gw_in4 (i := 133) rfl rfl
theorem qn_X8_set : Cond.instanceMethod yX8_set ∈ GW := gw_in4 (i := 131) rfl rfl
theorem ql_X8_set : Cond.selects yX8_set.cls yX8_set yX8_set ∈ GW := gw_in4 (i := 132) rfl rfl
theorem qc_X8_mayBe : Cond.code yX8_mayBe cX8_mayBe 3 (some .boolean) ∈ GW := gw_in4 (i := 137) rfl rfl
theorem qn_X8_mayBe : Cond.instanceMethod yX8_mayBe ∈ GW := gw_in4 (i := 136) rfl rfl
theorem ql_X8_mayBe : Cond.selects yX8_mayBe.cls yX8_mayBe yX8_mayBe ∈ GW := gw_in (List.mem_of_getElem? (i := 22) (by decide +kernel)) rfl
theorem qc_X8_isOnLog : Cond.code yX8_isOnLog cX8_isOnLog 2 (some .boolean) ∈ GW := gw_in4 (i := 145) rfl rfl
theorem qn_X8_isOnLog : Cond.instanceMethod yX8_isOnLog ∈ GW := gw_in4 (i := 144) rfl rfl
theorem ql_X8_isOnLog : Cond.selects yX8_isOnLog.cls yX8_isOnLog yX8_isOnLog ∈ GW := gw_in (List.mem_of_getElem? (i := 23) (by decide +kernel)) rfl
theorem qc_X8_as : Cond.code yX8_as cX8_as 3 (some .int) ∈ GW := gw_in4 (i := 150) rfl rfl
theorem qn_X8_as : Cond.instanceMethod yX8_as ∈ GW := gw_in4 (i := 148) rfl rfl
theorem ql_X8_as : Cond.selects yX8_as.cls yX8_as yX8_as ∈ GW := gw_in4 (i := 149) rfl rfl
theorem qc_X8_told : Cond.code yX8_told cX8_told 3 (some .int) ∈ GW := gw_in4 (i := 153) rfl rfl
theorem qt_X8_told : Cond.static yX8_told ∈ GW := gw_in4 (i := 152) rfl rfl
theorem qc_X8_isOf : Cond.code yX8_isOf cX8_isOf 2 (some .boolean) ∈ GW := gw_in4 (i := 156) rfl rfl
theorem qt_X8_isOf : Cond.static yX8_isOf ∈ GW := gw_in4 (i := 155) rfl rfl
theorem qc_X8_log : Cond.code yX8_log cX8_log 6 (some .int) ∈ GW := gw_in4 (i := 161) rfl rfl
theorem qn_X8_log : Cond.instanceMethod yX8_log ∈ GW := gw_in4 (i := 159) rfl rfl
theorem ql_X8_log : Cond.selects yX8_log.cls yX8_log yX8_log ∈ GW := gw_in4 (i := 160) rfl rfl
theorem qc_X8_push : Cond.code yX8_push cX8_push 6 (some .int) ∈ GW := gw_in4 (i := 166) rfl rfl
theorem qn_X8_push : Cond.instanceMethod yX8_push ∈ GW := gw_in4 (i := 164) rfl rfl
theorem ql_X8_push : Cond.selects yX8_push.cls yX8_push yX8_push ∈ GW := gw_in4 (i := 165) rfl rfl
theorem qc_X8_pushOf : Cond.code yX8_pushOf cX8_pushOf 10 (some .int) ∈ GW := gw_in4 (i := 172) rfl rfl
theorem qt_X8_pushOf : Cond.static yX8_pushOf ∈ GW := gw_in4 (i := 171) rfl rfl
theorem qc_X8_held : Cond.code yX8_held cX8_held 2 (some .int) ∈ GW := gw_in4 (i := 175) rfl rfl
theorem qt_X8_held : Cond.static yX8_held ∈ GW := gw_in4 (i := 174) rfl rfl
theorem qc_X8_size : Cond.code yX8_size cX8_size 1 (some .int) ∈ GW := gw_in4 (i := 178) rfl rfl
theorem qt_X8_size : Cond.static yX8_size ∈ GW := gw_in4 (i := 177) rfl rfl
theorem qc_X8_ruleOf : Cond.code yX8_ruleOf cX8_ruleOf 10 (some .int) ∈ GW := gw_in4 (i := 181) rfl rfl
theorem qt_X8_ruleOf : Cond.static yX8_ruleOf ∈ GW := gw_in4 (i := 180) rfl rfl
theorem qc_X8_mount : Cond.code yX8_mount cX8_mount 3 (some .int) ∈ GW := gw_in4 (i := 185) rfl rfl
theorem qn_X8_mount : Cond.instanceMethod yX8_mount ∈ GW := gw_in4 (i := 183) rfl rfl
theorem ql_X8_mount : Cond.selects yX8_mount.cls yX8_mount yX8_mount ∈ GW := gw_in4 (i := 184) rfl rfl
theorem qc_X8_areTwo : Cond.code yX8_areTwo cX8_areTwo 3 (some .boolean) ∈ GW := gw_in4 (i := 189) rfl rfl
theorem qn_X8_areTwo : Cond.instanceMethod yX8_areTwo ∈ GW := gw_in4 (i := 188) rfl rfl
theorem ql_X8_areTwo : Cond.selects yX8_areTwo.cls yX8_areTwo yX8_areTwo ∈ GW := gw_in (List.mem_of_getElem? (i := 24) (by decide +kernel)) rfl
theorem qc_X8_getsOn : Cond.code yX8_getsOn cX8_getsOn 4 none ∈ GW := gw_in4 (i := 192) rfl rfl
theorem qt_X8_getsOn : Cond.static yX8_getsOn ∈ GW := gw_in4 (i := 191) rfl rfl
theorem qc_X8_off : Cond.code yX8_off cX8_off 1 (some .int) ∈ GW := gw_in4 (i := 196) rfl rfl
theorem qn_X8_off : Cond.instanceMethod yX8_off ∈ GW := gw_in4 (i := 194) rfl rfl
theorem ql_X8_off : Cond.selects yX8_off.cls yX8_off yX8_off ∈ GW := gw_in4 (i := 195) rfl rfl
theorem qc_X8_bout : Cond.code yX8_bout cX8_bout 4 (some .int) ∈ GW := gw_in4 (i := 200) rfl rfl
theorem qn_X8_bout : Cond.instanceMethod yX8_bout ∈ GW := gw_in4 (i := 198) rfl rfl
theorem ql_X8_bout : Cond.selects yX8_bout.cls yX8_bout yX8_bout ∈ GW := gw_in4 (i := 199) rfl rfl
theorem qc_X8_goesBy : Cond.code yX8_goesBy cX8_goesBy 8 (some .int) ∈ GW := gw_in4 (i := 204) rfl rfl
theorem qt_X8_goesBy : Cond.static yX8_goesBy ∈ GW := gw_in4 (i := 203) rfl rfl
theorem qc_X8_sees : Cond.code yX8_sees cX8_sees 3 (some .int) ∈ GW := gw_in4 (i := 207) rfl rfl
theorem qt_X8_sees : Cond.static yX8_sees ∈ GW := gw_in4 (i := 206) rfl rfl
theorem qc_X8_pushes : Cond.code yX8_pushes cX8_pushes 3 (some .int) ∈ GW := gw_in4 (i := 210) rfl rfl
theorem qt_X8_pushes : Cond.static yX8_pushes ∈ GW := gw_in4 (i := 209) rfl rfl
theorem qc_X8_costOf : Cond.code yX8_costOf cX8_costOf 1 (some .int) ∈ GW := gw_in4 (i := 213) rfl rfl
theorem qt_X8_costOf : Cond.static yX8_costOf ∈ GW := gw_in4 (i := 212) rfl rfl
theorem qc_X8_steps : Cond.code yX8_steps cX8_steps 3 none ∈ GW := gw_in4 (i := 216) rfl rfl
theorem qt_X8_steps : Cond.static yX8_steps ∈ GW := gw_in4 (i := 215) rfl rfl
theorem qc_X8_slips : Cond.code yX8_slips cX8_slips 1 (some .boolean) ∈ GW := gw_in4 (i := 219) rfl rfl
theorem qt_X8_slips : Cond.static yX8_slips ∈ GW := gw_in4 (i := 218) rfl rfl
theorem qc_X8_falls : Cond.code yX8_falls cX8_falls 2 (some .boolean) ∈ GW := gw_in4 (i := 223) rfl rfl
theorem qt_X8_falls : Cond.static yX8_falls ∈ GW := gw_in4 (i := 222) rfl rfl
theorem qc_X8_stands : Cond.code yX8_stands cX8_stands 3 (some .int) ∈ GW := gw_in4 (i := 227) rfl rfl
theorem qn_X8_stands : Cond.instanceMethod yX8_stands ∈ GW := gw_in4 (i := 225) rfl rfl
theorem ql_X8_stands : Cond.selects yX8_stands.cls yX8_stands yX8_stands ∈ GW := gw_in4 (i := 226) rfl rfl
theorem qc_X8_now : Cond.code yX8_now cX8_now 2 (some .int) ∈ GW := gw_in4 (i := 231) rfl rfl
theorem qn_X8_now : Cond.instanceMethod yX8_now ∈ GW := gw_in4 (i := 229) rfl rfl
theorem ql_X8_now : Cond.selects yX8_now.cls yX8_now yX8_now ∈ GW := gw_in4 (i := 230) rfl rfl
theorem qc_X8_seed : Cond.code yX8_seed cX8_seed 3 (some .int) ∈ GW := gw_in4 (i := 236) rfl rfl
theorem qn_X8_seed : Cond.instanceMethod yX8_seed ∈ GW := gw_in4 (i := 234) rfl rfl
theorem ql_X8_seed : Cond.selects yX8_seed.cls yX8_seed yX8_seed ∈ GW := gw_in4 (i := 235) rfl rfl
theorem qc_X8_ahead : Cond.code yX8_ahead cX8_ahead 6 (some .int) ∈ GW := gw_in5 (i := 0) rfl rfl
theorem qn_X8_ahead : Cond.instanceMethod yX8_ahead ∈ GW := gw_in4 (i := 238) rfl rfl
theorem ql_X8_ahead : Cond.selects yX8_ahead.cls yX8_ahead yX8_ahead ∈ GW := gw_in4 (i := 239) rfl rfl
theorem qc_X8_copies : Cond.code yX8_copies cX8_copies 3 none ∈ GW := gw_in5 (i := 4) rfl rfl
theorem qt_X8_copies : Cond.static yX8_copies ∈ GW := gw_in5 (i := 3) rfl rfl
theorem qc_X8_boutAhead : Cond.code yX8_boutAhead cX8_boutAhead 7 (some .int) ∈ GW := gw_in5 (i := 8) rfl rfl
theorem qn_X8_boutAhead : Cond.instanceMethod yX8_boutAhead ∈ GW := gw_in5 (i := 7) rfl rfl
theorem ql_X8_boutAhead : Cond.selects yX8_boutAhead.cls yX8_boutAhead yX8_boutAhead ∈ GW := gw_in (List.mem_of_getElem? (i := 25) (by decide +kernel)) rfl
theorem qc_X8_best : Cond.code yX8_best cX8_best 8 (some .int) ∈ GW := gw_in5 (i := 12) rfl rfl
theorem qn_X8_best : Cond.instanceMethod yX8_best ∈ GW := gw_in5 (i := 10) rfl rfl
theorem ql_X8_best : Cond.selects yX8_best.cls yX8_best yX8_best ∈ GW := gw_in5 (i := 11) rfl rfl
theorem qc_X8_light : Cond.code yX8_light cX8_light 5 (some .int) ∈ GW := gw_in5 (i := 17) rfl rfl
theorem qn_X8_light : Cond.instanceMethod yX8_light ∈ GW := gw_in5 (i := 15) rfl rfl
theorem ql_X8_light : Cond.selects yX8_light.cls yX8_light yX8_light ∈ GW := gw_in5 (i := 16) rfl rfl
theorem qc_X8_late : Cond.code yX8_late cX8_late 5 (some .int) ∈ GW := gw_in5 (i := 22) rfl rfl
theorem qn_X8_late : Cond.instanceMethod yX8_late ∈ GW := gw_in5 (i := 20) rfl rfl
theorem ql_X8_late : Cond.selects yX8_late.cls yX8_late yX8_late ∈ GW := gw_in5 (i := 21) rfl rfl
theorem qc_X8_swing : Cond.code yX8_swing cX8_swing 6 (some .int) ∈ GW := gw_in5 (i := 26) rfl rfl
theorem qn_X8_swing : Cond.instanceMethod yX8_swing ∈ GW := gw_in5 (i := 24) rfl rfl
theorem ql_X8_swing : Cond.selects yX8_swing.cls yX8_swing yX8_swing ∈ GW := gw_in5 (i := 25) rfl rfl
theorem qc_X8_beats : Cond.code yX8_beats cX8_beats 3 (some .int) ∈ GW := gw_in5 (i := 30) rfl rfl
theorem qn_X8_beats : Cond.instanceMethod yX8_beats ∈ GW := gw_in5 (i := 28) rfl rfl
theorem ql_X8_beats : Cond.selects yX8_beats.cls yX8_beats yX8_beats ∈ GW := gw_in5 (i := 29) rfl rfl
theorem qc_X8_beatenBy : Cond.code yX8_beatenBy cX8_beatenBy 5 (some .int) ∈ GW := gw_in5 (i := 34) rfl rfl
theorem qn_X8_beatenBy : Cond.instanceMethod yX8_beatenBy ∈ GW := gw_in5 (i := 33) rfl rfl
theorem ql_X8_beatenBy : Cond.selects yX8_beatenBy.cls yX8_beatenBy yX8_beatenBy ∈ GW := gw_in (List.mem_of_getElem? (i := 26) (by decide +kernel)) rfl
theorem qc_X8_five : Cond.code yX8_five cX8_five 8 (some .int) ∈ GW := gw_in5 (i := 38) rfl rfl
theorem qn_X8_five : Cond.instanceMethod yX8_five ∈ GW := gw_in5 (i := 36) rfl rfl
theorem ql_X8_five : Cond.selects yX8_five.cls yX8_five yX8_five ∈ GW := gw_in5 (i := 37) rfl rfl
theorem qc_X8_champion : Cond.code yX8_champion cX8_champion 7 (some .int) ∈ GW := gw_in5 (i := 42) rfl rfl
theorem qn_X8_champion : Cond.instanceMethod yX8_champion ∈ GW := gw_in5 (i := 40) rfl rfl
theorem ql_X8_champion : Cond.selects yX8_champion.cls yX8_champion yX8_champion ∈ GW := gw_in5 (i := 41) rfl rfl
theorem qc_X8_feed : Cond.code yX8_feed cX8_feed 4 (some .int) ∈ GW := gw_in5 (i := 47) rfl rfl
theorem qn_X8_feed : Cond.instanceMethod yX8_feed ∈ GW := gw_in5 (i := 45) rfl rfl
theorem ql_X8_feed : Cond.selects yX8_feed.cls yX8_feed yX8_feed ∈ GW := gw_in5 (i := 46) rfl rfl
theorem qc_X8_wipe : Cond.code yX8_wipe cX8_wipe 2 (some .int) ∈ GW := gw_in5 (i := 51) rfl rfl
theorem qn_X8_wipe : Cond.instanceMethod yX8_wipe ∈ GW := gw_in5 (i := 49) rfl rfl
theorem ql_X8_wipe : Cond.selects yX8_wipe.cls yX8_wipe yX8_wipe ∈ GW := gw_in5 (i := 50) rfl rfl
theorem qc_X8_way : Cond.code yX8_way cX8_way 2 (some .int) ∈ GW := gw_in5 (i := 55) rfl rfl
theorem qn_X8_way : Cond.instanceMethod yX8_way ∈ GW := gw_in5 (i := 53) rfl rfl
theorem ql_X8_way : Cond.selects yX8_way.cls yX8_way yX8_way ∈ GW := gw_in5 (i := 54) rfl rfl
theorem qc_X8_look : Cond.code yX8_look cX8_look 2 none ∈ GW := gw_in5 (i := 59) rfl rfl
theorem qn_X8_look : Cond.instanceMethod yX8_look ∈ GW := gw_in5 (i := 58) rfl rfl
theorem ql_X8_look : Cond.selects yX8_look.cls yX8_look yX8_look ∈ GW := gw_in (List.mem_of_getElem? (i := 27) (by decide +kernel)) rfl
theorem qc_X8_isLetter : Cond.code yX8_isLetter cX8_isLetter 1 (some .boolean) ∈ GW := gw_in5 (i := 62) rfl rfl
theorem qt_X8_isLetter : Cond.static yX8_isLetter ∈ GW := gw_in5 (i := 61) rfl rfl
theorem qc_X8_isDigit : Cond.code yX8_isDigit cX8_isDigit 1 (some .boolean) ∈ GW := gw_in5 (i := 65) rfl rfl
theorem qt_X8_isDigit : Cond.static yX8_isDigit ∈ GW := gw_in5 (i := 64) rfl rfl
theorem qc_X8_reads : Cond.code yX8_reads cX8_reads 4 none ∈ GW := gw_in5 (i := 69) rfl rfl
theorem qn_X8_reads : Cond.instanceMethod yX8_reads ∈ GW := gw_in5 (i := 68) rfl rfl
theorem ql_X8_reads : Cond.selects yX8_reads.cls yX8_reads yX8_reads ∈ GW := gw_in (List.mem_of_getElem? (i := 28) (by decide +kernel)) rfl
theorem qc_X8_name : Cond.code yX8_name cX8_name 1 (some .int) ∈ GW := gw_in5 (i := 73) rfl rfl
theorem qn_X8_name : Cond.instanceMethod yX8_name ∈ GW := gw_in5 (i := 72) rfl rfl
theorem ql_X8_name : Cond.selects yX8_name.cls yX8_name yX8_name ∈ GW := gw_in (List.mem_of_getElem? (i := 29) (by decide +kernel)) rfl
theorem qc_X8_isWord : Cond.code yX8_isWord cX8_isWord 4 (some .boolean) ∈ GW := gw_in5 (i := 78) rfl rfl
theorem qn_X8_isWord : Cond.instanceMethod yX8_isWord ∈ GW := gw_in5 (i := 77) rfl rfl
theorem ql_X8_isWord : Cond.selects yX8_isWord.cls yX8_isWord yX8_isWord ∈ GW := gw_in (List.mem_of_getElem? (i := 30) (by decide +kernel)) rfl
theorem qc_X8_must : Cond.code yX8_must cX8_must 2 none ∈ GW := gw_in5 (i := 88) rfl rfl
theorem qn_X8_must : Cond.instanceMethod yX8_must ∈ GW := gw_in5 (i := 87) rfl rfl
theorem ql_X8_must : Cond.selects yX8_must.cls yX8_must yX8_must ∈ GW := gw_in (List.mem_of_getElem? (i := 31) (by decide +kernel)) rfl
theorem qc_X8_compares : Cond.code yX8_compares cX8_compares 3 none ∈ GW := gw_in5 (i := 92) rfl rfl
theorem qn_X8_compares : Cond.instanceMethod yX8_compares ∈ GW := gw_in5 (i := 91) rfl rfl
theorem ql_X8_compares : Cond.selects yX8_compares.cls yX8_compares yX8_compares ∈ GW := gw_in (List.mem_of_getElem? (i := 32) (by decide +kernel)) rfl
theorem qc_X8_isSign : Cond.code yX8_isSign cX8_isSign 2 (some .boolean) ∈ GW := gw_in5 (i := 96) rfl rfl
theorem qn_X8_isSign : Cond.instanceMethod yX8_isSign ∈ GW := gw_in5 (i := 95) rfl rfl
theorem ql_X8_isSign : Cond.selects yX8_isSign.cls yX8_isSign yX8_isSign ∈ GW := gw_in (List.mem_of_getElem? (i := 33) (by decide +kernel)) rfl
theorem qc_X8_deed : Cond.code yX8_deed cX8_deed 1 (some .int) ∈ GW := gw_in5 (i := 100) rfl rfl
theorem qn_X8_deed : Cond.instanceMethod yX8_deed ∈ GW := gw_in5 (i := 99) rfl rfl
theorem ql_X8_deed : Cond.selects yX8_deed.cls yX8_deed yX8_deed ∈ GW := gw_in (List.mem_of_getElem? (i := 34) (by decide +kernel)) rfl
theorem qc_X8_rules : Cond.code yX8_rules cX8_rules 2 (some .int) ∈ GW := gw_in5 (i := 109) rfl rfl
theorem qn_X8_rules : Cond.instanceMethod yX8_rules ∈ GW := gw_in5 (i := 107) rfl rfl
theorem ql_X8_rules : Cond.selects yX8_rules.cls yX8_rules yX8_rules ∈ GW := gw_in5 (i := 108) rfl rfl
theorem qc_X8_isWay : Cond.code yX8_isWay cX8_isWay 2 (some .boolean) ∈ GW := gw_in5 (i := 113) rfl rfl
theorem qn_X8_isWay : Cond.instanceMethod yX8_isWay ∈ GW := gw_in5 (i := 112) rfl rfl
theorem ql_X8_isWay : Cond.selects yX8_isWay.cls yX8_isWay yX8_isWay ∈ GW := gw_in (List.mem_of_getElem? (i := 35) (by decide +kernel)) rfl
theorem qc_X8_holds : Cond.code yX8_holds cX8_holds 7 (some .int) ∈ GW := gw_in5 (i := 117) rfl rfl
theorem qn_X8_holds : Cond.instanceMethod yX8_holds ∈ GW := gw_in5 (i := 115) rfl rfl
theorem ql_X8_holds : Cond.selects yX8_holds.cls yX8_holds yX8_holds ∈ GW := gw_in5 (i := 116) rfl rfl
theorem qc_X8_sheet : Cond.code yX8_sheet cX8_sheet 5 (some .int) ∈ GW := gw_in5 (i := 121) rfl rfl
theorem qn_X8_sheet : Cond.instanceMethod yX8_sheet ∈ GW := gw_in5 (i := 119) rfl rfl
theorem ql_X8_sheet : Cond.selects yX8_sheet.cls yX8_sheet yX8_sheet ∈ GW := gw_in5 (i := 120) rfl rfl
theorem qc_X8_isSheet : Cond.code yX8_isSheet cX8_isSheet 1 (some .boolean) ∈ GW := gw_in5 (i := 124) rfl rfl
theorem qt_X8_isSheet : Cond.static yX8_isSheet ∈ GW := gw_in5 (i := 123) rfl rfl
theorem qc_X8_write : Cond.code yX8_write cX8_write 7 (some .long) ∈ GW := gw_in5 (i := 130) rfl rfl
theorem qn_X8_write : Cond.instanceMethod yX8_write ∈ GW := gw_in5 (i := 128) rfl rfl
theorem ql_X8_write : Cond.selects yX8_write.cls yX8_write yX8_write ∈ GW := gw_in5 (i := 129) rfl rfl
theorem qc_X8_lowest : Cond.code yX8_lowest cX8_lowest 3 (some .long) ∈ GW := gw_in5 (i := 134) rfl rfl
theorem qt_X8_lowest : Cond.static yX8_lowest ∈ GW := gw_in5 (i := 133) rfl rfl
theorem qc_X8_copy : Cond.code yX8_copy cX8_copy 7 (some .int) ∈ GW := gw_in5 (i := 138) rfl rfl
theorem qn_X8_copy : Cond.instanceMethod yX8_copy ∈ GW := gw_in5 (i := 136) rfl rfl
theorem ql_X8_copy : Cond.selects yX8_copy.cls yX8_copy yX8_copy ∈ GW := gw_in5 (i := 137) rfl rfl
theorem qc_X8_film : Cond.code yX8_film cX8_film 7 (some .int) ∈ GW := gw_in5 (i := 142) rfl rfl
theorem qn_X8_film : Cond.instanceMethod yX8_film ∈ GW := gw_in5 (i := 140) rfl rfl
theorem ql_X8_film : Cond.selects yX8_film.cls yX8_film yX8_film ∈ GW := gw_in5 (i := 141) rfl rfl
theorem qc_X8_whyNot : Cond.code yX8_whyNot cX8_whyNot 4 (some .int) ∈ GW := gw_in5 (i := 146) rfl rfl
theorem qn_X8_whyNot : Cond.instanceMethod yX8_whyNot ∈ GW := gw_in5 (i := 145) rfl rfl
theorem ql_X8_whyNot : Cond.selects yX8_whyNot.cls yX8_whyNot yX8_whyNot ∈ GW := gw_in (List.mem_of_getElem? (i := 36) (by decide +kernel)) rfl
theorem qc_X8_read : Cond.code yX8_read cX8_read 7 (some .int) ∈ GW := gw_in5 (i := 150) rfl rfl
theorem qn_X8_read : Cond.instanceMethod yX8_read ∈ GW := gw_in5 (i := 148) rfl rfl
theorem ql_X8_read : Cond.selects yX8_read.cls yX8_read yX8_read ∈ GW := gw_in5 (i := 149) rfl rfl
theorem qc_X8_image : Cond.code yX8_image cX8_image 1 (some .int) ∈ GW := gw_in5 (i := 154) rfl rfl
theorem qn_X8_image : Cond.instanceMethod yX8_image ∈ GW := gw_in5 (i := 152) rfl rfl
theorem ql_X8_image : Cond.selects yX8_image.cls yX8_image yX8_image ∈ GW := gw_in5 (i := 153) rfl rfl
theorem qc_X8_undo : Cond.code yX8_undo cX8_undo 1 (some .int) ∈ GW := gw_in5 (i := 158) rfl rfl
theorem qn_X8_undo : Cond.instanceMethod yX8_undo ∈ GW := gw_in5 (i := 156) rfl rfl
theorem ql_X8_undo : Cond.selects yX8_undo.cls yX8_undo yX8_undo ∈ GW := gw_in5 (i := 157) rfl rfl
theorem qc_X8_tear : Cond.code yX8_tear cX8_tear 2 (some .int) ∈ GW := gw_in5 (i := 162) rfl rfl
theorem qn_X8_tear : Cond.instanceMethod yX8_tear ∈ GW := gw_in5 (i := 160) rfl rfl
theorem ql_X8_tear : Cond.selects yX8_tear.cls yX8_tear yX8_tear ∈ GW := gw_in5 (i := 161) rfl rfl
theorem qc_X8_count : Cond.code yX8_count cX8_count 2 (some .int) ∈ GW := gw_in5 (i := 166) rfl rfl
theorem qn_X8_count : Cond.instanceMethod yX8_count ∈ GW := gw_in5 (i := 164) rfl rfl
theorem ql_X8_count : Cond.selects yX8_count.cls yX8_count yX8_count ∈ GW := gw_in5 (i := 165) rfl rfl
theorem qc_X8_allFalls : Cond.code yX8_allFalls cX8_allFalls 3 (some .int) ∈ GW := gw_in5 (i := 170) rfl rfl
theorem qn_X8_allFalls : Cond.instanceMethod yX8_allFalls ∈ GW := gw_in5 (i := 169) rfl rfl
theorem ql_X8_allFalls : Cond.selects yX8_allFalls.cls yX8_allFalls yX8_allFalls ∈ GW := gw_in (List.mem_of_getElem? (i := 37) (by decide +kernel)) rfl
theorem qc_X8_status : Cond.code yX8_status cX8_status 4 (some .int) ∈ GW := gw_in5 (i := 174) rfl rfl
theorem qn_X8_status : Cond.instanceMethod yX8_status ∈ GW := gw_in5 (i := 172) rfl rfl
theorem ql_X8_status : Cond.selects yX8_status.cls yX8_status yX8_status ∈ GW := gw_in5 (i := 173) rfl rfl
theorem sL_9 : SI RL 9 yX7_init cX7_init 2 0 := ⟨gw_in1 (i := 19) rfl rfl, qn_X7_init, rfl, qi_X7, qc_X7_init, ⟨by decide, by decide, by decide +kernel⟩⟩
theorem sX7_9 : SI RX7 9 yX6_init cX6_init 2 0 := ⟨gw_in1 (i := 27) rfl rfl, qn_X6_init, rfl, qi_X6, qc_X6_init, ⟨by decide, by decide, by decide +kernel⟩⟩
theorem sX6_44 : SI RX6 44 yX0_init cX0_init 3 2 := ⟨gw_in1 (i := 46) rfl rfl, qn_X0_init, rfl, qi_X0, qc_X0_init, ⟨by decide, by decide, by decide +kernel⟩⟩
theorem sX7_33 : SI RX7 33 yX0_init cX0_init 3 2 := ⟨gw_in1 (i := 189) rfl rfl, qn_X0_init, rfl, qi_X0, qc_X0_init, ⟨by decide, by decide, by decide +kernel⟩⟩
theorem sL_13 : SV RL 13 yX7_roller cX7_roller 4 (some .int) 2 := ⟨gw_in2 (i := 25) rfl rfl, qn_X7_roller, ql_X7_roller, qi_X7, qc_X7_roller, ⟨by decide, by decide, by decide +kernel⟩⟩
theorem sX7_64 : SS RX7 64 yX7_isKind cX7_isKind 1 (some .boolean) 1 := ⟨gw_in2 (i := 29) rfl rfl, qt_X7_isKind, qi_X7, qc_X7_isKind, ⟨by decide, by decide, by decide +kernel⟩⟩
theorem sX7_68 : SS RX7 68 yX7_within cX7_within 3 (some .boolean) 3 := ⟨gw_in2 (i := 32) rfl rfl, qt_X7_within, qi_X7, qc_X7_within, ⟨by decide, by decide, by decide +kernel⟩⟩
theorem sX7_73 : SV RX7 73 yX7_finding cX7_finding 3 (some .int) 1 := ⟨gw_in2 (i := 36) rfl rfl, qn_X7_finding, ql_X7_finding, qi_X7, qc_X7_finding, ⟨by decide, by decide, by decide +kernel⟩⟩
theorem sX7_86 : SV RX7 86 yX1_begin cX1_begin 3 none 2 := ⟨gw_in2 (i := 41) rfl rfl, qn_X1_begin, ql_X1_begin, qi_X1, qc_X1_begin, ⟨by decide, by decide, by decide +kernel⟩⟩
theorem sL_18 : SV RL 18 yX7_of cX7_of 3 (some .int) 2 := ⟨gw_in2 (i := 45) rfl rfl, qn_X7_of, ql_X7_of, qi_X7, qc_X7_of, ⟨by decide, by decide, by decide +kernel⟩⟩
theorem sX7_90 : SV RX7 90 yX7_isPerson cX7_isPerson 2 (some .boolean) 1 := ⟨gw_in2 (i := 49) rfl rfl, qn_X7_isPerson, ql_X7_isPerson, qi_X7, qc_X7_isPerson, ⟨by decide, by decide, by decide +kernel⟩⟩
theorem sX7_93 : SV RX7 93 yX1_trait cX1_trait 2 (some .int) 1 := ⟨gw_in2 (i := 53) rfl rfl, qn_X1_trait, ql_X1_trait, qi_X1, qc_X1_trait, ⟨by decide, by decide, by decide +kernel⟩⟩
theorem sL_22 : SV RL 22 yX7_set cX7_set 5 (some .int) 3 := ⟨gw_in2 (i := 57) rfl rfl, qn_X7_set, ql_X7_set, qi_X7, qc_X7_set, ⟨by decide, by decide, by decide +kernel⟩⟩
theorem sX7_96 : SV RX7 96 yX7_maySet cX7_maySet 3 (some .boolean) 2 := ⟨gw_in2 (i := 61) rfl rfl, qn_X7_maySet, ql_X7_maySet, qi_X7, qc_X7_maySet, ⟨by decide, by decide, by decide +kernel⟩⟩
theorem sX7_100 : SV RX7 100 yX6_isOnLog cX6_isOnLog 2 (some .boolean) 1 := ⟨gw_in2 (i := 65) rfl rfl, qn_X6_isOnLog, ql_X6_isOnLog, qi_X6, qc_X6_isOnLog, ⟨by decide, by decide, by decide +kernel⟩⟩
theorem sX7_104 : SV RX7 104 yX1_change cX1_change 3 none 2 := ⟨gw_in2 (i := 70) rfl rfl, qn_X1_change, ql_X1_change, qi_X1, qc_X1_change, ⟨by decide, by decide, by decide +kernel⟩⟩
theorem sL_27 : SV RL 27 yX7_as cX7_as 3 (some .int) 2 := ⟨gw_in2 (i := 74) rfl rfl, qn_X7_as, ql_X7_as, qi_X7, qc_X7_as, ⟨by decide, by decide, by decide +kernel⟩⟩
theorem sX7_110 : SS RX7 110 yX7_isUnder cX7_isUnder 4 (some .boolean) 2 := ⟨gw_in2 (i := 78) rfl rfl, qt_X7_isUnder, qi_X7, qc_X7_isUnder, ⟨by decide, by decide, by decide +kernel⟩⟩
theorem sL_31 : SV RL 31 yX7_log cX7_log 4 (some .int) 2 := ⟨gw_in2 (i := 84) rfl rfl, qn_X7_log, ql_X7_log, qi_X7, qc_X7_log, ⟨by decide, by decide, by decide +kernel⟩⟩
theorem sL_35 : SV RL 35 yX7_push cX7_push 7 (some .int) 5 := ⟨gw_in2 (i := 92) rfl rfl, qn_X7_push, ql_X7_push, qi_X7, qc_X7_push, ⟨by decide, by decide, by decide +kernel⟩⟩
theorem sX7_123 : SS RX7 123 yX7_isSituation cX7_isSituation 4 (some .boolean) 4 := ⟨gw_in2 (i := 96) rfl rfl, qt_X7_isSituation, qi_X7, qc_X7_isSituation, ⟨by decide, by decide, by decide +kernel⟩⟩
theorem sX7_130 : SV RX7 130 yX6_wayAt cX6_wayAt 2 (some (.object "LogRollers$Way")) 1 := ⟨gw_in2 (i := 99) rfl rfl, qn_X6_wayAt, ql_X6_wayAt, qi_X6, qc_X6_wayAt, ⟨by decide, by decide, by decide +kernel⟩⟩
theorem sX7_134 : SV RX7 134 yX1_shove cX1_shove 6 (some .int) 5 := ⟨gw_in2 (i := 104) rfl rfl, qn_X1_shove, ql_X1_shove, qi_X1, qc_X1_shove, ⟨by decide, by decide, by decide +kernel⟩⟩
theorem sX1_37 : SV RX1 37 yX1_waiterShove cX1_waiterShove 3 (some .int) 2 := ⟨gw_in2 (i := 111) rfl rfl, qn_X1_waiterShove, ql_X1_waiterShove, qi_X1, qc_X1_waiterShove, ⟨by decide, by decide, by decide +kernel⟩⟩
theorem sX1_40 : SV RX1 40 yX5_firstThat cX5_firstThat 9 (some .int) 4 := ⟨gw_in2 (i := 115) rfl rfl, qn_X5_firstThat, ql_X5_firstThat, qi_X5, qc_X5_firstThat, ⟨by decide, by decide, by decide +kernel⟩⟩
theorem sX1_46 : SV RX1 46 yX5_deedOf cX5_deedOf 2 (some .int) 1 := ⟨gw_in2 (i := 119) rfl rfl, qn_X5_deedOf, ql_X5_deedOf, qi_X5, qc_X5_deedOf, ⟨by decide, by decide, by decide +kernel⟩⟩
theorem sX1_50 : SV RX1 50 yX1_deedShove cX1_deedShove 4 (some .int) 3 := ⟨gw_in2 (i := 124) rfl rfl, qn_X1_deedShove, ql_X1_deedShove, qi_X1, qc_X1_deedShove, ⟨by decide, by decide, by decide +kernel⟩⟩
theorem sL_40 : SV RL 40 yX7_mount cX7_mount 3 (some .int) 2 := ⟨gw_in2 (i := 128) rfl rfl, qn_X7_mount, ql_X7_mount, qi_X7, qc_X7_mount, ⟨by decide, by decide, by decide +kernel⟩⟩
theorem sX7_138 : SV RX7 138 yX7_isPair cX7_isPair 3 (some .boolean) 2 := ⟨gw_in2 (i := 132) rfl rfl, qn_X7_isPair, ql_X7_isPair, qi_X7, qc_X7_isPair, ⟨by decide, by decide, by decide +kernel⟩⟩
theorem sX7_153 : SV RX7 153 yX0_begin cX0_begin 3 none 2 := ⟨gw_in2 (i := 136) rfl rfl, qn_X0_begin, ql_X0_begin, qi_X0, qc_X0_begin, ⟨by decide, by decide, by decide +kernel⟩⟩
theorem sX0_51 : SV RX0 51 yX3_begin cX3_begin 2 none 1 := ⟨gw_in2 (i := 140) rfl rfl, qn_X3_begin, ql_X3_begin, qi_X3, qc_X3_begin, ⟨by decide, by decide, by decide +kernel⟩⟩
theorem sL_44 : SV RL 44 yX7_off cX7_off 1 (some .int) 0 := ⟨gw_in2 (i := 144) rfl rfl, qn_X7_off, ql_X7_off, qi_X7, qc_X7_off, ⟨by decide, by decide, by decide +kernel⟩⟩
theorem sL_49 : SV RL 49 yX7_bout cX7_bout 5 (some .int) 1 := ⟨gw_in2 (i := 148) rfl rfl, qn_X7_bout, ql_X7_bout, qi_X7, qc_X7_bout, ⟨by decide, by decide, by decide +kernel⟩⟩
theorem sX7_159 : SV RX7 159 yX0_go cX0_go 6 (some .int) 3 := ⟨gw_in2 (i := 152) rfl rfl, qn_X0_go, ql_X0_go, qi_X0, qc_X0_go, ⟨by decide, by decide, by decide +kernel⟩⟩
theorem sX0_55 : SV RX0 55 yX0_tick cX0_tick 5 (some .int) 2 := ⟨gw_in2 (i := 156) rfl rfl, qn_X0_tick, ql_X0_tick, qi_X0, qc_X0_tick, ⟨by decide, by decide, by decide +kernel⟩⟩
theorem sX0_59 : SV RX0 59 yX0_seenBy cX0_seenBy 3 (some .int) 1 := ⟨gw_in2 (i := 160) rfl rfl, qn_X0_seenBy, ql_X0_seenBy, qi_X0, qc_X0_seenBy, ⟨by decide, by decide, by decide +kernel⟩⟩
theorem sX0_63 : SV RX0 63 yX0_nextShove cX0_nextShove 5 (some .int) 2 := ⟨gw_in2 (i := 164) rfl rfl, qn_X0_nextShove, ql_X0_nextShove, qi_X0, qc_X0_nextShove, ⟨by decide, by decide, by decide +kernel⟩⟩
theorem sX0_121 : SV RX0 121 yX1_shove cX1_shove 6 (some .int) 5 := ⟨gw_in2 (i := 169) rfl rfl, qn_X1_shove, ql_X1_shove, qi_X1, qc_X1_shove, ⟨by decide, by decide, by decide +kernel⟩⟩
theorem sX0_124 : SS RX0 124 yX3_cost cX3_cost 1 (some .int) 1 := ⟨gw_in2 (i := 170) rfl rfl, qt_X3_cost, qi_X3, qc_X3_cost, ⟨by decide, by decide, by decide +kernel⟩⟩
theorem sX3_19 : SS RX3 19 yJ9_abs_0f7a4 cJ9_abs_0f7a4 1 (some .int) 1 := ⟨gw_in2 (i := 173) rfl rfl, qt_J9_abs_0f7a4, qi_J9, qc_J9_abs_0f7a4, ⟨by decide, by decide, by decide +kernel⟩⟩
theorem sX0_67 : SV RX0 67 yX3_decide cX3_decide 3 none 2 := ⟨gw_in2 (i := 176) rfl rfl, qn_X3_decide, ql_X3_decide, qi_X3, qc_X3_decide, ⟨by decide, by decide, by decide +kernel⟩⟩
theorem sX3_31 : SS RX3 31 yX3_cost cX3_cost 1 (some .int) 1 := ⟨gw_in2 (i := 180) rfl rfl, qt_X3_cost, qi_X3, qc_X3_cost, ⟨by decide, by decide, by decide +kernel⟩⟩
theorem sX0_71 : SV RX0 71 yX0_roll cX0_roll 4 none 2 := ⟨gw_in2 (i := 181) rfl rfl, qn_X0_roll, ql_X0_roll, qi_X0, qc_X0_roll, ⟨by decide, by decide, by decide +kernel⟩⟩
theorem sX0_75 : SV RX0 75 yX0_stepUnlessSlipping cX0_stepUnlessSlipping 3 none 2 := ⟨gw_in2 (i := 185) rfl rfl, qn_X0_stepUnlessSlipping, ql_X0_stepUnlessSlipping, qi_X0, qc_X0_stepUnlessSlipping, ⟨by decide, by decide, by decide +kernel⟩⟩
theorem sX0_105 : SV RX0 105 yX3_step cX3_step 2 none 1 := ⟨gw_in2 (i := 190) rfl rfl, qn_X3_step, ql_X3_step, qi_X3, qc_X3_step, ⟨by decide, by decide, by decide +kernel⟩⟩
theorem sX0_79 : SV RX0 79 yX3_sway cX3_sway 2 none 1 := ⟨gw_in2 (i := 195) rfl rfl, qn_X3_sway, ql_X3_sway, qi_X3, qc_X3_sway, ⟨by decide, by decide, by decide +kernel⟩⟩
theorem sX0_82 : SS RX0 82 yJ9_floorMod_7cf53 cJ9_floorMod_7cf53 3 (some .int) 2 := ⟨gw_in2 (i := 199) rfl rfl, qt_J9_floorMod_7cf53, qi_J9, qc_J9_floorMod_7cf53, ⟨by decide, by decide, by decide +kernel⟩⟩
theorem sX0_91 : SS RX0 91 yJ9_abs_0f7a4 cJ9_abs_0f7a4 1 (some .int) 1 := ⟨gw_in2 (i := 202) rfl rfl, qt_J9_abs_0f7a4, qi_J9, qc_J9_abs_0f7a4, ⟨by decide, by decide, by decide +kernel⟩⟩
theorem sX7_163 : SV RX7 163 yX7_endBout cX7_endBout 4 none 3 := ⟨gw_in2 (i := 203) rfl rfl, qn_X7_endBout, ql_X7_endBout, qi_X7, qc_X7_endBout, ⟨by decide, by decide, by decide +kernel⟩⟩
theorem sL_54 : SV RL 54 yX7_stands cX7_stands 6 (some .int) 2 := ⟨gw_in2 (i := 207) rfl rfl, qn_X7_stands, ql_X7_stands, qi_X7, qc_X7_stands, ⟨by decide, by decide, by decide +kernel⟩⟩
theorem sX7_183 : SV RX7 183 yX0_seenBy cX0_seenBy 3 (some .int) 1 := ⟨gw_in2 (i := 211) rfl rfl, qn_X0_seenBy, ql_X0_seenBy, qi_X0, qc_X0_seenBy, ⟨by decide, by decide, by decide +kernel⟩⟩
theorem sX7_187 : SV RX7 187 yX0_nextShove cX0_nextShove 5 (some .int) 2 := ⟨gw_in2 (i := 212) rfl rfl, qn_X0_nextShove, ql_X0_nextShove, qi_X0, qc_X0_nextShove, ⟨by decide, by decide, by decide +kernel⟩⟩
theorem sL_58 : SV RL 58 yX7_now cX7_now 2 (some .int) 1 := ⟨gw_in2 (i := 213) rfl rfl, qn_X7_now, ql_X7_now, qi_X7, qc_X7_now, ⟨by decide, by decide, by decide +kernel⟩⟩
theorem sL_62 : SV RL 62 yX7_seed cX7_seed 3 (some .int) 1 := ⟨gw_in2 (i := 217) rfl rfl, qn_X7_seed, ql_X7_seed, qi_X7, qc_X7_seed, ⟨by decide, by decide, by decide +kernel⟩⟩
theorem sL_66 : SV RL 66 yX7_ahead cX7_ahead 6 (some .int) 4 := ⟨gw_in2 (i := 221) rfl rfl, qn_X7_ahead, ql_X7_ahead, qi_X7, qc_X7_ahead, ⟨by decide, by decide, by decide +kernel⟩⟩
theorem sX7_200 : SV RX7 200 yX7_startAhead cX7_startAhead 3 none 2 := ⟨gw_in2 (i := 225) rfl rfl, qn_X7_startAhead, ql_X7_startAhead, qi_X7, qc_X7_startAhead, ⟨by decide, by decide, by decide +kernel⟩⟩
theorem sL_71 : SV RL 71 yX7_best cX7_best 8 (some .int) 3 := ⟨gw_in2 (i := 229) rfl rfl, qn_X7_best, ql_X7_best, qi_X7, qc_X7_best, ⟨by decide, by decide, by decide +kernel⟩⟩
theorem sX7_203 : SV RX7 203 yX1_takeFrom cX1_takeFrom 2 none 1 := ⟨gw_in2 (i := 233) rfl rfl, qn_X1_takeFrom, ql_X1_takeFrom, qi_X1, qc_X1_takeFrom, ⟨by decide, by decide, by decide +kernel⟩⟩
theorem sL_75 : SV RL 75 yX7_light cX7_light 5 (some .int) 3 := ⟨gw_in2 (i := 238) rfl rfl, qn_X7_light, ql_X7_light, qi_X7, qc_X7_light, ⟨by decide, by decide, by decide +kernel⟩⟩
theorem sL_79 : SV RL 79 yX7_late cX7_late 6 (some .int) 3 := ⟨gw_in3 (i := 2) rfl rfl, qn_X7_late, ql_X7_late, qi_X7, qc_X7_late, ⟨by decide, by decide, by decide +kernel⟩⟩
theorem sL_83 : SV RL 83 yX7_swing cX7_swing 11 (some .int) 4 := ⟨gw_in3 (i := 6) rfl rfl, qn_X7_swing, ql_X7_swing, qi_X7, qc_X7_swing, ⟨by decide, by decide, by decide +kernel⟩⟩
theorem sX7_214 : SV RX7 214 yX0_tick cX0_tick 5 (some .int) 2 := ⟨gw_in3 (i := 10) rfl rfl, qn_X0_tick, ql_X0_tick, qi_X0, qc_X0_tick, ⟨by decide, by decide, by decide +kernel⟩⟩
theorem sX7_218 : SS RX7 218 yJ9_abs_0f7a4 cJ9_abs_0f7a4 1 (some .int) 1 := ⟨gw_in3 (i := 11) rfl rfl, qt_J9_abs_0f7a4, qi_J9, qc_J9_abs_0f7a4, ⟨by decide, by decide, by decide +kernel⟩⟩
theorem sX7_223 : SS RX7 223 yJ9_max_7cf53 cJ9_max_7cf53 2 (some .int) 2 := ⟨gw_in3 (i := 12) rfl rfl, qt_J9_max_7cf53, qi_J9, qc_J9_max_7cf53, ⟨by decide, by decide, by decide +kernel⟩⟩
theorem sL_87 : SV RL 87 yX7_beats cX7_beats 3 (some .int) 2 := ⟨gw_in3 (i := 15) rfl rfl, qn_X7_beats, ql_X7_beats, qi_X7, qc_X7_beats, ⟨by decide, by decide, by decide +kernel⟩⟩
theorem sX7_227 : SV RX7 227 yX7_beatenBy cX7_beatenBy 7 (some .int) 2 := ⟨gw_in3 (i := 19) rfl rfl, qn_X7_beatenBy, ql_X7_beatenBy, qi_X7, qc_X7_beatenBy, ⟨by decide, by decide, by decide +kernel⟩⟩
theorem sL_91 : SV RL 91 yX7_five cX7_five 8 (some .int) 3 := ⟨gw_in3 (i := 23) rfl rfl, qn_X7_five, ql_X7_five, qi_X7, qc_X7_five, ⟨by decide, by decide, by decide +kernel⟩⟩
theorem sL_95 : SV RL 95 yX7_champion cX7_champion 6 (some .int) 1 := ⟨gw_in3 (i := 27) rfl rfl, qn_X7_champion, ql_X7_champion, qi_X7, qc_X7_champion, ⟨by decide, by decide, by decide +kernel⟩⟩
theorem sX7_230 : SS RX7 230 yJ6_bitCount_0f7a4 cJ6_bitCount_0f7a4 1 (some .int) 1 := ⟨gw_in3 (i := 31) rfl rfl, qt_J6_bitCount_0f7a4, qi_J6, qc_J6_bitCount_0f7a4, ⟨by decide, by decide, by decide +kernel⟩⟩
theorem sL_99 : SV RL 99 yX7_feed cX7_feed 4 (some .int) 2 := ⟨gw_in3 (i := 37) rfl rfl, qn_X7_feed, ql_X7_feed, qi_X7, qc_X7_feed, ⟨by decide, by decide, by decide +kernel⟩⟩
theorem sX7_238 : SV RX7 238 yX4_addByte cX4_addByte 2 none 1 := ⟨gw_in3 (i := 41) rfl rfl, qn_X4_addByte, ql_X4_addByte, qi_X4, qc_X4_addByte, ⟨by decide, by decide, by decide +kernel⟩⟩
theorem sL_103 : SV RL 103 yX7_wipe cX7_wipe 2 (some .int) 0 := ⟨gw_in3 (i := 45) rfl rfl, qn_X7_wipe, ql_X7_wipe, qi_X7, qc_X7_wipe, ⟨by decide, by decide, by decide +kernel⟩⟩
theorem sL_107 : SV RL 107 yX7_way cX7_way 3 (some .int) 0 := ⟨gw_in3 (i := 49) rfl rfl, qn_X7_way, ql_X7_way, qi_X7, qc_X7_way, ⟨by decide, by decide, by decide +kernel⟩⟩
theorem sX7_245 : SV RX7 245 yX4_toWay cX4_toWay 3 (some (.object "LogRollers$Way")) 0 := ⟨gw_in3 (i := 53) rfl rfl, qn_X4_toWay, ql_X4_toWay, qi_X4, qc_X4_toWay, ⟨by decide, by decide, by decide +kernel⟩⟩
theorem sX4_34 : SV RX4 34 yX4_nextToken cX4_nextToken 1 none 0 := ⟨gw_in3 (i := 80) rfl rfl, qn_X4_nextToken, ql_X4_nextToken, qi_X4, qc_X4_nextToken, ⟨by decide, by decide, by decide +kernel⟩⟩
theorem sX4_56 : SS RX4 56 yX4_isLetter cX4_isLetter 1 (some .boolean) 1 := ⟨gw_in3 (i := 84) rfl rfl, qt_X4_isLetter, qi_X4, qc_X4_isLetter, ⟨by decide, by decide, by decide +kernel⟩⟩
theorem sX4_60 : SV RX4 60 yX4_takeWord cX4_takeWord 1 none 0 := ⟨gw_in3 (i := 87) rfl rfl, qn_X4_takeWord, ql_X4_takeWord, qi_X4, qc_X4_takeWord, ⟨by decide, by decide, by decide +kernel⟩⟩
theorem sX4_63 : SS RX4 63 yX4_isDigit cX4_isDigit 1 (some .boolean) 1 := ⟨gw_in3 (i := 91) rfl rfl, qt_X4_isDigit, qi_X4, qc_X4_isDigit, ⟨by decide, by decide, by decide +kernel⟩⟩
theorem sX4_66 : SV RX4 66 yX4_takeNumber cX4_takeNumber 2 none 0 := ⟨gw_in3 (i := 94) rfl rfl, qn_X4_takeNumber, ql_X4_takeNumber, qi_X4, qc_X4_takeNumber, ⟨by decide, by decide, by decide +kernel⟩⟩
theorem sX4_72 : SS RX4 72 yJ9_min_7cf53 cJ9_min_7cf53 2 (some .int) 2 := ⟨gw_in3 (i := 98) rfl rfl, qt_J9_min_7cf53, qi_J9, qc_J9_min_7cf53, ⟨by decide, by decide, by decide +kernel⟩⟩
theorem sX4_69 : SS RX4 69 yX4_isSign cX4_isSign 1 (some .boolean) 1 := ⟨gw_in3 (i := 101) rfl rfl, qt_X4_isSign, qi_X4, qc_X4_isSign, ⟨by decide, by decide, by decide +kernel⟩⟩
theorem sX4_37 : SV RX4 37 yX4_takeRule cX4_takeRule 6 (some .boolean) 1 := ⟨gw_in3 (i := 104) rfl rfl, qn_X4_takeRule, ql_X4_takeRule, qi_X4, qc_X4_takeRule, ⟨by decide, by decide, by decide +kernel⟩⟩
theorem sX4_41 : SV RX4 41 yX4_nameHere cX4_nameHere 1 (some .int) 0 := ⟨gw_in3 (i := 108) rfl rfl, qn_X4_nameHere, ql_X4_nameHere, qi_X4, qc_X4_nameHere, ⟨by decide, by decide, by decide +kernel⟩⟩
theorem sX4_80 : SV RX4 80 yX4_isWord cX4_isWord 3 (some .boolean) 1 := ⟨gw_in3 (i := 113) rfl rfl, qn_X4_isWord, ql_X4_isWord, qi_X4, qc_X4_isWord, ⟨by decide, by decide, by decide +kernel⟩⟩
theorem sX4_102 : SV RX4 102 yJ0_length_8abf5 cJ0_length_8abf5 1 (some .int) 0 := ⟨gw_in3 (i := 117) rfl rfl, qn_J0_length_8abf5, ql_J0_length_8abf5, qi_J0, qc_J0_length_8abf5, ⟨by decide, by decide, by decide +kernel⟩⟩
theorem sJ0_335 : SV RJ0 335 yJ0_coder_7d493 cJ0_coder_7d493 1 (some .byte) 0 := ⟨gw_in3 (i := 121) rfl rfl, qn_J0_coder_7d493, ql_J0_coder_7d493, qi_J0, qc_J0_coder_7d493, ⟨by decide, by decide, by decide +kernel⟩⟩
theorem sX4_107 : SV RX4 107 yJ0_charAt_5068e cJ0_charAt_5068e 2 (some .char) 1 := ⟨gw_in3 (i := 127) rfl rfl, qn_J0_charAt_5068e, ql_J0_charAt_5068e, qi_J0, qc_J0_charAt_5068e, ⟨by decide, by decide, by decide +kernel⟩⟩
theorem sJ0_492 : SV RJ0 492 yJ0_isLatin1_aae02 cJ0_isLatin1_aae02 1 (some .boolean) 0 := ⟨gw_in3 (i := 131) rfl rfl, qn_J0_isLatin1_aae02, ql_J0_isLatin1_aae02, qi_J0, qc_J0_isLatin1_aae02, ⟨by decide, by decide, by decide +kernel⟩⟩
theorem sJ0_495 : SS RJ0 495 yJ1_charAt_3b067 cJ1_charAt_3b067 2 (some .char) 2 := ⟨gw_in3 (i := 135) rfl rfl, qt_J1_charAt_3b067, qi_J1, qc_J1_charAt_3b067, ⟨by decide, by decide, by decide +kernel⟩⟩
theorem sJ1_9 : SS RJ1 9 yJ0_checkIndex_df160 cJ0_checkIndex_df160 2 none 2 := ⟨gw_in3 (i := 138) rfl rfl, qt_J0_checkIndex_df160, qi_J0, qc_J0_checkIndex_df160, ⟨by decide, by decide, by decide +kernel⟩⟩
theorem sJ0_1059 : SS RJ0 1059 yJ3_checkIndex_8e157 cJ3_checkIndex_8e157 3 (some .int) 3 := ⟨gw_in3 (i := 143) rfl rfl, qt_J3_checkIndex_8e157, qi_J3, qc_J3_checkIndex_8e157, ⟨by decide, by decide, by decide +kernel⟩⟩
theorem sJ0_498 : SS RJ0 498 yJ2_charAt_3b067 cJ2_charAt_3b067 2 (some .char) 2 := ⟨gw_in3 (i := 146) rfl rfl, qt_J2_charAt_3b067, qi_J2, qc_J2_charAt_3b067, ⟨by decide, by decide, by decide +kernel⟩⟩
theorem sJ2_67 : SS RJ2 67 yJ2_checkIndex_2214a cJ2_checkIndex_2214a 2 none 2 := ⟨gw_in3 (i := 149) rfl rfl, qt_J2_checkIndex_2214a, qi_J2, qc_J2_checkIndex_2214a, ⟨by decide, by decide, by decide +kernel⟩⟩
theorem sJ2_48 : SS RJ2 48 yJ2_length_9d52b cJ2_length_9d52b 1 (some .int) 1 := ⟨gw_in3 (i := 152) rfl rfl, qt_J2_length_9d52b, qi_J2, qc_J2_length_9d52b, ⟨by decide, by decide, by decide +kernel⟩⟩
theorem sJ2_414 : SS RJ2 414 yJ0_checkIndex_df160 cJ0_checkIndex_df160 2 none 2 := ⟨gw_in3 (i := 155) rfl rfl, qt_J0_checkIndex_df160, qi_J0, qc_J0_checkIndex_df160, ⟨by decide, by decide, by decide +kernel⟩⟩
theorem sJ2_71 : SS RJ2 71 yJ2_getChar_3b067 cJ2_getChar_3b067 2 (some .char) 2 := ⟨gw_in3 (i := 156) rfl rfl, qt_J2_getChar_3b067, qi_J2, qc_J2_getChar_3b067, ⟨by decide, by decide, by decide +kernel⟩⟩
theorem sX4_45 : SV RX4 45 yX4_takeComparison cX4_takeComparison 3 (some .boolean) 0 := ⟨gw_in3 (i := 169) rfl rfl, qn_X4_takeComparison, ql_X4_takeComparison, qi_X4, qc_X4_takeComparison, ⟨by decide, by decide, by decide +kernel⟩⟩
theorem sX4_49 : SV RX4 49 yX4_deedHere cX4_deedHere 1 (some .int) 0 := ⟨gw_in3 (i := 173) rfl rfl, qn_X4_deedHere, ql_X4_deedHere, qi_X4, qc_X4_deedHere, ⟨by decide, by decide, by decide +kernel⟩⟩
theorem sX4_52 : SV RX4 52 yX5_addRule cX5_addRule 5 none 4 := ⟨gw_in3 (i := 182) rfl rfl, qn_X5_addRule, ql_X5_addRule, qi_X5, qc_X5_addRule, ⟨by decide, by decide, by decide +kernel⟩⟩
theorem sL_111 : SV RL 111 yX7_rules cX7_rules 3 (some .int) 1 := ⟨gw_in3 (i := 187) rfl rfl, qn_X7_rules, ql_X7_rules, qi_X7, qc_X7_rules, ⟨by decide, by decide, by decide +kernel⟩⟩
theorem sL_115 : SV RL 115 yX7_holds cX7_holds 8 (some .int) 5 := ⟨gw_in3 (i := 191) rfl rfl, qn_X7_holds, ql_X7_holds, qi_X7, qc_X7_holds, ⟨by decide, by decide, by decide +kernel⟩⟩
theorem sX7_255 : SV RX7 255 yX5_firstThat cX5_firstThat 9 (some .int) 4 := ⟨gw_in3 (i := 195) rfl rfl, qn_X5_firstThat, ql_X5_firstThat, qi_X5, qc_X5_firstThat, ⟨by decide, by decide, by decide +kernel⟩⟩
theorem sL_119 : SV RL 119 yX7_sheet cX7_sheet 5 (some .int) 3 := ⟨gw_in3 (i := 196) rfl rfl, qn_X7_sheet, ql_X7_sheet, qi_X7, qc_X7_sheet, ⟨by decide, by decide, by decide +kernel⟩⟩
theorem sX7_259 : SS RX7 259 yX7_isSheet cX7_isSheet 1 (some .boolean) 1 := ⟨gw_in3 (i := 200) rfl rfl, qt_X7_isSheet, qi_X7, qc_X7_isSheet, ⟨by decide, by decide, by decide +kernel⟩⟩
theorem sX7_263 : SV RX7 263 yX2_begin cX2_begin 4 none 2 := ⟨gw_in3 (i := 204) rfl rfl, qn_X2_begin, ql_X2_begin, qi_X2, qc_X2_begin, ⟨by decide, by decide, by decide +kernel⟩⟩
theorem sL_125 : SV RL 125 yX7_write cX7_write 7 (some .long) 3 := ⟨gw_in3 (i := 208) rfl rfl, qn_X7_write, ql_X7_write, qi_X7, qc_X7_write, ⟨by decide, by decide, by decide +kernel⟩⟩
theorem sX7_265 : SV RX7 265 yX2_isMissing cX2_isMissing 1 (some .boolean) 0 := ⟨gw_in3 (i := 212) rfl rfl, qn_X2_isMissing, ql_X2_isMissing, qi_X2, qc_X2_isMissing, ⟨by decide, by decide, by decide +kernel⟩⟩
theorem sX7_274 : SV RX7 274 yX2_put cX2_put 4 none 2 := ⟨gw_in3 (i := 217) rfl rfl, qn_X2_put, ql_X2_put, qi_X2, qc_X2_put, ⟨by decide, by decide, by decide +kernel⟩⟩
theorem sL_130 : SV RL 130 yX7_copy cX7_copy 6 (some .int) 5 := ⟨gw_in3 (i := 222) rfl rfl, qn_X7_copy, ql_X7_copy, qi_X7, qc_X7_copy, ⟨by decide, by decide, by decide +kernel⟩⟩
theorem sX7_281 : SV RX7 281 yX2_hasRow cX2_hasRow 3 (some .boolean) 2 := ⟨gw_in3 (i := 226) rfl rfl, qn_X2_hasRow, ql_X2_hasRow, qi_X2, qc_X2_hasRow, ⟨by decide, by decide, by decide +kernel⟩⟩
theorem sL_134 : SV RL 134 yX7_film cX7_film 8 (some .int) 3 := ⟨gw_in3 (i := 233) rfl rfl, qn_X7_film, ql_X7_film, qi_X7, qc_X7_film, ⟨by decide, by decide, by decide +kernel⟩⟩
theorem sX7_290 : SV RX7 290 yX7_sheetFinding cX7_sheetFinding 4 (some .int) 3 := ⟨gw_in3 (i := 237) rfl rfl, qn_X7_sheetFinding, ql_X7_sheetFinding, qi_X7, qc_X7_sheetFinding, ⟨by decide, by decide, by decide +kernel⟩⟩
theorem sL_138 : SV RL 138 yX7_read cX7_read 8 (some .int) 3 := ⟨gw_in4 (i := 1) rfl rfl, qn_X7_read, ql_X7_read, qi_X7, qc_X7_read, ⟨by decide, by decide, by decide +kernel⟩⟩
theorem sL_142 : SV RL 142 yX7_image cX7_image 1 (some .int) 0 := ⟨gw_in4 (i := 5) rfl rfl, qn_X7_image, ql_X7_image, qi_X7, qc_X7_image, ⟨by decide, by decide, by decide +kernel⟩⟩
theorem sX7_294 : SV RX7 294 yX6_takeFrom cX6_takeFrom 3 none 1 := ⟨gw_in4 (i := 9) rfl rfl, qn_X6_takeFrom, ql_X6_takeFrom, qi_X6, qc_X6_takeFrom, ⟨by decide, by decide, by decide +kernel⟩⟩
theorem sX6_65 : SV RX6 65 yX1_takeFrom cX1_takeFrom 2 none 1 := ⟨gw_in4 (i := 13) rfl rfl, qn_X1_takeFrom, ql_X1_takeFrom, qi_X1, qc_X1_takeFrom, ⟨by decide, by decide, by decide +kernel⟩⟩
theorem sX6_69 : SV RX6 69 yX0_takeFrom cX0_takeFrom 3 none 1 := ⟨gw_in4 (i := 14) rfl rfl, qn_X0_takeFrom, ql_X0_takeFrom, qi_X0, qc_X0_takeFrom, ⟨by decide, by decide, by decide +kernel⟩⟩
theorem sX0_42 : SV RX0 42 yX3_takeFrom cX3_takeFrom 2 none 1 := ⟨gw_in4 (i := 18) rfl rfl, qn_X3_takeFrom, ql_X3_takeFrom, qi_X3, qc_X3_takeFrom, ⟨by decide, by decide, by decide +kernel⟩⟩
theorem sL_146 : SV RL 146 yX7_undo cX7_undo 1 (some .int) 0 := ⟨gw_in4 (i := 22) rfl rfl, qn_X7_undo, ql_X7_undo, qi_X7, qc_X7_undo, ⟨by decide, by decide, by decide +kernel⟩⟩
theorem sL_150 : SV RL 150 yX7_tear cX7_tear 2 (some .int) 0 := ⟨gw_in4 (i := 26) rfl rfl, qn_X7_tear, ql_X7_tear, qi_X7, qc_X7_tear, ⟨by decide, by decide, by decide +kernel⟩⟩
theorem sL_154 : SV RL 154 yX7_count cX7_count 2 (some .int) 1 := ⟨gw_in4 (i := 30) rfl rfl, qn_X7_count, ql_X7_count, qi_X7, qc_X7_count, ⟨by decide, by decide, by decide +kernel⟩⟩
theorem sX7_297 : SV RX7 297 yX6_allFalls cX6_allFalls 3 (some .int) 0 := ⟨gw_in4 (i := 34) rfl rfl, qn_X6_allFalls, ql_X6_allFalls, qi_X6, qc_X6_allFalls, ⟨by decide, by decide, by decide +kernel⟩⟩
theorem sL_158 : SV RL 158 yX7_status cX7_status 4 (some .int) 1 := ⟨gw_in4 (i := 38) rfl rfl, qn_X7_status, ql_X7_status, qi_X7, qc_X7_status, ⟨by decide, by decide, by decide +kernel⟩⟩
theorem sL_12 : SI RL 12 yX8_init cX8_init 1 0 := ⟨gw_in4 (i := 44) rfl rfl, qn_X8_init, rfl, qi_X8, qc_X8_init, ⟨by decide, by decide, by decide +kernel⟩⟩
theorem sL_17 : SV RL 17 yX8_roller cX8_roller 4 (some .int) 2 := ⟨gw_in4 (i := 106) rfl rfl, qn_X8_roller, ql_X8_roller, qi_X8, qc_X8_roller, ⟨by decide, by decide, by decide +kernel⟩⟩
theorem sX8_39 : SS RX8 39 yX8_in cX8_in 6 (some .boolean) 3 := ⟨gw_in4 (i := 111) rfl rfl, qt_X8_in, qi_X8, qc_X8_in, ⟨by decide, by decide, by decide +kernel⟩⟩
theorem sX8_51 : SV RX8 51 yX8_finds cX8_finds 2 (some .int) 1 := ⟨gw_in4 (i := 116) rfl rfl, qn_X8_finds, ql_X8_finds, qi_X8, qc_X8_finds, ⟨by decide, by decide, by decide +kernel⟩⟩
theorem sL_21 : SV RL 21 yX8_of cX8_of 3 (some .int) 2 := ⟨gw_in4 (i := 121) rfl rfl, qn_X8_of, ql_X8_of, qi_X8, qc_X8_of, ⟨by decide, by decide, by decide +kernel⟩⟩
theorem sX8_43 : SV RX8 43 yX8_isPerson cX8_isPerson 2 (some .boolean) 1 := ⟨gw_in4 (i := 125) rfl rfl, qn_X8_isPerson, ql_X8_isPerson, qi_X8, qc_X8_isPerson, ⟨by decide, by decide, by decide +kernel⟩⟩
theorem sL_26 : SV RL 26 yX8_set cX8_set 5 (some .int) 3 := ⟨gw_in4 (i := 130) rfl rfl, qn_X8_set, ql_X8_set, qi_X8, qc_X8_set, ⟨by decide, by decide, by decide +kernel⟩⟩
theorem sX8_66 : SV RX8 66 yX8_mayBe cX8_mayBe 3 (some .boolean) 2 := ⟨gw_in4 (i := 134) rfl rfl, qn_X8_mayBe, ql_X8_mayBe, qi_X8, qc_X8_mayBe, ⟨by decide, by decide, by decide +kernel⟩⟩
theorem sX8_70 : SV RX8 70 yX8_isOnLog cX8_isOnLog 2 (some .boolean) 1 := ⟨gw_in4 (i := 142) rfl rfl, qn_X8_isOnLog, ql_X8_isOnLog, qi_X8, qc_X8_isOnLog, ⟨by decide, by decide, by decide +kernel⟩⟩
theorem sL_30 : SV RL 30 yX8_as cX8_as 3 (some .int) 2 := ⟨gw_in4 (i := 147) rfl rfl, qn_X8_as, ql_X8_as, qi_X8, qc_X8_as, ⟨by decide, by decide, by decide +kernel⟩⟩
theorem sX8_74 : SS RX8 74 yX8_told cX8_told 3 (some .int) 3 := ⟨gw_in4 (i := 151) rfl rfl, qt_X8_told, qi_X8, qc_X8_told, ⟨by decide, by decide, by decide +kernel⟩⟩
theorem sX8_78 : SS RX8 78 yX8_isOf cX8_isOf 2 (some .boolean) 2 := ⟨gw_in4 (i := 154) rfl rfl, qt_X8_isOf, qi_X8, qc_X8_isOf, ⟨by decide, by decide, by decide +kernel⟩⟩
theorem sL_34 : SV RL 34 yX8_log cX8_log 6 (some .int) 2 := ⟨gw_in4 (i := 158) rfl rfl, qn_X8_log, ql_X8_log, qi_X8, qc_X8_log, ⟨by decide, by decide, by decide +kernel⟩⟩
theorem sL_39 : SV RL 39 yX8_push cX8_push 6 (some .int) 5 := ⟨gw_in4 (i := 163) rfl rfl, qn_X8_push, ql_X8_push, qi_X8, qc_X8_push, ⟨by decide, by decide, by decide +kernel⟩⟩
theorem sX8_101 : SS RX8 101 yX8_pushOf cX8_pushOf 10 (some .int) 6 := ⟨gw_in4 (i := 170) rfl rfl, qt_X8_pushOf, qi_X8, qc_X8_pushOf, ⟨by decide, by decide, by decide +kernel⟩⟩
theorem sX8_84 : SS RX8 84 yX8_held cX8_held 2 (some .int) 2 := ⟨gw_in4 (i := 173) rfl rfl, qt_X8_held, qi_X8, qc_X8_held, ⟨by decide, by decide, by decide +kernel⟩⟩
theorem sX8_88 : SS RX8 88 yX8_size cX8_size 1 (some .int) 1 := ⟨gw_in4 (i := 176) rfl rfl, qt_X8_size, qi_X8, qc_X8_size, ⟨by decide, by decide, by decide +kernel⟩⟩
theorem sX8_91 : SS RX8 91 yX8_ruleOf cX8_ruleOf 10 (some .int) 6 := ⟨gw_in4 (i := 179) rfl rfl, qt_X8_ruleOf, qi_X8, qc_X8_ruleOf, ⟨by decide, by decide, by decide +kernel⟩⟩
theorem sL_43 : SV RL 43 yX8_mount cX8_mount 3 (some .int) 2 := ⟨gw_in4 (i := 182) rfl rfl, qn_X8_mount, ql_X8_mount, qi_X8, qc_X8_mount, ⟨by decide, by decide, by decide +kernel⟩⟩
theorem sX8_127 : SV RX8 127 yX8_areTwo cX8_areTwo 3 (some .boolean) 2 := ⟨gw_in4 (i := 186) rfl rfl, qn_X8_areTwo, ql_X8_areTwo, qi_X8, qc_X8_areTwo, ⟨by decide, by decide, by decide +kernel⟩⟩
theorem sX8_130 : SS RX8 130 yX8_getsOn cX8_getsOn 4 none 3 := ⟨gw_in4 (i := 190) rfl rfl, qt_X8_getsOn, qi_X8, qc_X8_getsOn, ⟨by decide, by decide, by decide +kernel⟩⟩
theorem sL_48 : SV RL 48 yX8_off cX8_off 1 (some .int) 0 := ⟨gw_in4 (i := 193) rfl rfl, qn_X8_off, ql_X8_off, qi_X8, qc_X8_off, ⟨by decide, by decide, by decide +kernel⟩⟩
theorem sL_53 : SV RL 53 yX8_bout cX8_bout 4 (some .int) 1 := ⟨gw_in4 (i := 197) rfl rfl, qn_X8_bout, ql_X8_bout, qi_X8, qc_X8_bout, ⟨by decide, by decide, by decide +kernel⟩⟩
theorem sX8_135 : SS RX8 135 yX8_goesBy cX8_goesBy 8 (some .int) 1 := ⟨gw_in4 (i := 202) rfl rfl, qt_X8_goesBy, qi_X8, qc_X8_goesBy, ⟨by decide, by decide, by decide +kernel⟩⟩
theorem sX8_104 : SS RX8 104 yX8_sees cX8_sees 3 (some .int) 2 := ⟨gw_in4 (i := 205) rfl rfl, qt_X8_sees, qi_X8, qc_X8_sees, ⟨by decide, by decide, by decide +kernel⟩⟩
theorem sX8_116 : SS RX8 116 yX8_pushes cX8_pushes 3 (some .int) 2 := ⟨gw_in4 (i := 208) rfl rfl, qt_X8_pushes, qi_X8, qc_X8_pushes, ⟨by decide, by decide, by decide +kernel⟩⟩
theorem sX8_108 : SS RX8 108 yX8_costOf cX8_costOf 1 (some .int) 1 := ⟨gw_in4 (i := 211) rfl rfl, qt_X8_costOf, qi_X8, qc_X8_costOf, ⟨by decide, by decide, by decide +kernel⟩⟩
theorem sX8_119 : SS RX8 119 yX8_steps cX8_steps 3 none 3 := ⟨gw_in4 (i := 214) rfl rfl, qt_X8_steps, qi_X8, qc_X8_steps, ⟨by decide, by decide, by decide +kernel⟩⟩
theorem sX8_112 : SS RX8 112 yX8_slips cX8_slips 1 (some .boolean) 1 := ⟨gw_in4 (i := 217) rfl rfl, qt_X8_slips, qi_X8, qc_X8_slips, ⟨by decide, by decide, by decide +kernel⟩⟩
theorem sX8_123 : SS RX8 123 yX8_falls cX8_falls 2 (some .boolean) 2 := ⟨gw_in4 (i := 221) rfl rfl, qt_X8_falls, qi_X8, qc_X8_falls, ⟨by decide, by decide, by decide +kernel⟩⟩
theorem sL_57 : SV RL 57 yX8_stands cX8_stands 3 (some .int) 2 := ⟨gw_in4 (i := 224) rfl rfl, qn_X8_stands, ql_X8_stands, qi_X8, qc_X8_stands, ⟨by decide, by decide, by decide +kernel⟩⟩
theorem sL_61 : SV RL 61 yX8_now cX8_now 2 (some .int) 1 := ⟨gw_in4 (i := 228) rfl rfl, qn_X8_now, ql_X8_now, qi_X8, qc_X8_now, ⟨by decide, by decide, by decide +kernel⟩⟩
theorem sL_65 : SV RL 65 yX8_seed cX8_seed 3 (some .int) 1 := ⟨gw_in4 (i := 233) rfl rfl, qn_X8_seed, ql_X8_seed, qi_X8, qc_X8_seed, ⟨by decide, by decide, by decide +kernel⟩⟩
theorem sL_70 : SV RL 70 yX8_ahead cX8_ahead 6 (some .int) 4 := ⟨gw_in4 (i := 237) rfl rfl, qn_X8_ahead, ql_X8_ahead, qi_X8, qc_X8_ahead, ⟨by decide, by decide, by decide +kernel⟩⟩
theorem sX8_150 : SS RX8 150 yX8_copies cX8_copies 3 none 2 := ⟨gw_in5 (i := 2) rfl rfl, qt_X8_copies, qi_X8, qc_X8_copies, ⟨by decide, by decide, by decide +kernel⟩⟩
theorem sX8_154 : SV RX8 154 yX8_boutAhead cX8_boutAhead 7 (some .int) 3 := ⟨gw_in5 (i := 5) rfl rfl, qn_X8_boutAhead, ql_X8_boutAhead, qi_X8, qc_X8_boutAhead, ⟨by decide, by decide, by decide +kernel⟩⟩
theorem sL_74 : SV RL 74 yX8_best cX8_best 8 (some .int) 3 := ⟨gw_in5 (i := 9) rfl rfl, qn_X8_best, ql_X8_best, qi_X8, qc_X8_best, ⟨by decide, by decide, by decide +kernel⟩⟩
theorem sL_78 : SV RL 78 yX8_light cX8_light 5 (some .int) 3 := ⟨gw_in5 (i := 14) rfl rfl, qn_X8_light, ql_X8_light, qi_X8, qc_X8_light, ⟨by decide, by decide, by decide +kernel⟩⟩
theorem sL_82 : SV RL 82 yX8_late cX8_late 5 (some .int) 3 := ⟨gw_in5 (i := 19) rfl rfl, qn_X8_late, ql_X8_late, qi_X8, qc_X8_late, ⟨by decide, by decide, by decide +kernel⟩⟩
theorem sL_86 : SV RL 86 yX8_swing cX8_swing 6 (some .int) 4 := ⟨gw_in5 (i := 23) rfl rfl, qn_X8_swing, ql_X8_swing, qi_X8, qc_X8_swing, ⟨by decide, by decide, by decide +kernel⟩⟩
theorem sL_90 : SV RL 90 yX8_beats cX8_beats 3 (some .int) 2 := ⟨gw_in5 (i := 27) rfl rfl, qn_X8_beats, ql_X8_beats, qi_X8, qc_X8_beats, ⟨by decide, by decide, by decide +kernel⟩⟩
theorem sX8_161 : SV RX8 161 yX8_beatenBy cX8_beatenBy 5 (some .int) 2 := ⟨gw_in5 (i := 31) rfl rfl, qn_X8_beatenBy, ql_X8_beatenBy, qi_X8, qc_X8_beatenBy, ⟨by decide, by decide, by decide +kernel⟩⟩
theorem sL_94 : SV RL 94 yX8_five cX8_five 8 (some .int) 3 := ⟨gw_in5 (i := 35) rfl rfl, qn_X8_five, ql_X8_five, qi_X8, qc_X8_five, ⟨by decide, by decide, by decide +kernel⟩⟩
theorem sL_98 : SV RL 98 yX8_champion cX8_champion 7 (some .int) 1 := ⟨gw_in5 (i := 39) rfl rfl, qn_X8_champion, ql_X8_champion, qi_X8, qc_X8_champion, ⟨by decide, by decide, by decide +kernel⟩⟩
theorem sL_102 : SV RL 102 yX8_feed cX8_feed 4 (some .int) 2 := ⟨gw_in5 (i := 44) rfl rfl, qn_X8_feed, ql_X8_feed, qi_X8, qc_X8_feed, ⟨by decide, by decide, by decide +kernel⟩⟩
theorem sL_106 : SV RL 106 yX8_wipe cX8_wipe 2 (some .int) 0 := ⟨gw_in5 (i := 48) rfl rfl, qn_X8_wipe, ql_X8_wipe, qi_X8, qc_X8_wipe, ⟨by decide, by decide, by decide +kernel⟩⟩
theorem sL_110 : SV RL 110 yX8_way cX8_way 2 (some .int) 0 := ⟨gw_in5 (i := 52) rfl rfl, qn_X8_way, ql_X8_way, qi_X8, qc_X8_way, ⟨by decide, by decide, by decide +kernel⟩⟩
theorem sX8_235 : SV RX8 235 yX8_look cX8_look 2 none 0 := ⟨gw_in5 (i := 56) rfl rfl, qn_X8_look, ql_X8_look, qi_X8, qc_X8_look, ⟨by decide, by decide, by decide +kernel⟩⟩
theorem sX8_184 : SS RX8 184 yX8_isLetter cX8_isLetter 1 (some .boolean) 1 := ⟨gw_in5 (i := 60) rfl rfl, qt_X8_isLetter, qi_X8, qc_X8_isLetter, ⟨by decide, by decide, by decide +kernel⟩⟩
theorem sX8_187 : SS RX8 187 yX8_isDigit cX8_isDigit 1 (some .boolean) 1 := ⟨gw_in5 (i := 63) rfl rfl, qt_X8_isDigit, qi_X8, qc_X8_isDigit, ⟨by decide, by decide, by decide +kernel⟩⟩
theorem sX8_248 : SV RX8 248 yX8_reads cX8_reads 4 none 1 := ⟨gw_in5 (i := 66) rfl rfl, qn_X8_reads, ql_X8_reads, qi_X8, qc_X8_reads, ⟨by decide, by decide, by decide +kernel⟩⟩
theorem sX8_238 : SV RX8 238 yX8_name cX8_name 1 (some .int) 0 := ⟨gw_in5 (i := 70) rfl rfl, qn_X8_name, ql_X8_name, qi_X8, qc_X8_name, ⟨by decide, by decide, by decide +kernel⟩⟩
theorem sX8_206 : SV RX8 206 yX8_isWord cX8_isWord 4 (some .boolean) 1 := ⟨gw_in5 (i := 75) rfl rfl, qn_X8_isWord, ql_X8_isWord, qi_X8, qc_X8_isWord, ⟨by decide, by decide, by decide +kernel⟩⟩
theorem sX8_190 : SV RX8 190 yJ0_length_8abf5 cJ0_length_8abf5 1 (some .int) 0 := ⟨gw_in5 (i := 79) rfl rfl, qn_J0_length_8abf5, ql_J0_length_8abf5, qi_J0, qc_J0_length_8abf5, ⟨by decide, by decide, by decide +kernel⟩⟩
theorem sX8_196 : SV RX8 196 yJ0_charAt_5068e cJ0_charAt_5068e 2 (some .char) 1 := ⟨gw_in5 (i := 80) rfl rfl, qn_J0_charAt_5068e, ql_J0_charAt_5068e, qi_J0, qc_J0_charAt_5068e, ⟨by decide, by decide, by decide +kernel⟩⟩
theorem sX8_231 : SV RX8 231 yX8_must cX8_must 2 none 1 := ⟨gw_in5 (i := 85) rfl rfl, qn_X8_must, ql_X8_must, qi_X8, qc_X8_must, ⟨by decide, by decide, by decide +kernel⟩⟩
theorem sX8_241 : SV RX8 241 yX8_compares cX8_compares 3 none 1 := ⟨gw_in5 (i := 89) rfl rfl, qn_X8_compares, ql_X8_compares, qi_X8, qc_X8_compares, ⟨by decide, by decide, by decide +kernel⟩⟩
theorem sX8_228 : SV RX8 228 yX8_isSign cX8_isSign 2 (some .boolean) 1 := ⟨gw_in5 (i := 93) rfl rfl, qn_X8_isSign, ql_X8_isSign, qi_X8, qc_X8_isSign, ⟨by decide, by decide, by decide +kernel⟩⟩
theorem sX8_245 : SV RX8 245 yX8_deed cX8_deed 1 (some .int) 0 := ⟨gw_in5 (i := 97) rfl rfl, qn_X8_deed, ql_X8_deed, qi_X8, qc_X8_deed, ⟨by decide, by decide, by decide +kernel⟩⟩
theorem sL_114 : SV RL 114 yX8_rules cX8_rules 2 (some .int) 1 := ⟨gw_in5 (i := 106) rfl rfl, qn_X8_rules, ql_X8_rules, qi_X8, qc_X8_rules, ⟨by decide, by decide, by decide +kernel⟩⟩
theorem sX8_251 : SV RX8 251 yX8_isWay cX8_isWay 2 (some .boolean) 1 := ⟨gw_in5 (i := 110) rfl rfl, qn_X8_isWay, ql_X8_isWay, qi_X8, qc_X8_isWay, ⟨by decide, by decide, by decide +kernel⟩⟩
theorem sL_118 : SV RL 118 yX8_holds cX8_holds 7 (some .int) 5 := ⟨gw_in5 (i := 114) rfl rfl, qn_X8_holds, ql_X8_holds, qi_X8, qc_X8_holds, ⟨by decide, by decide, by decide +kernel⟩⟩
theorem sL_122 : SV RL 122 yX8_sheet cX8_sheet 5 (some .int) 3 := ⟨gw_in5 (i := 118) rfl rfl, qn_X8_sheet, ql_X8_sheet, qi_X8, qc_X8_sheet, ⟨by decide, by decide, by decide +kernel⟩⟩
theorem sX8_256 : SS RX8 256 yX8_isSheet cX8_isSheet 1 (some .boolean) 1 := ⟨gw_in5 (i := 122) rfl rfl, qt_X8_isSheet, qi_X8, qc_X8_isSheet, ⟨by decide, by decide, by decide +kernel⟩⟩
theorem sL_129 : SV RL 129 yX8_write cX8_write 7 (some .long) 3 := ⟨gw_in5 (i := 127) rfl rfl, qn_X8_write, ql_X8_write, qi_X8, qc_X8_write, ⟨by decide, by decide, by decide +kernel⟩⟩
theorem sX8_261 : SS RX8 261 yX8_lowest cX8_lowest 3 (some .long) 2 := ⟨gw_in5 (i := 132) rfl rfl, qt_X8_lowest, qi_X8, qc_X8_lowest, ⟨by decide, by decide, by decide +kernel⟩⟩
theorem sL_133 : SV RL 133 yX8_copy cX8_copy 7 (some .int) 5 := ⟨gw_in5 (i := 135) rfl rfl, qn_X8_copy, ql_X8_copy, qi_X8, qc_X8_copy, ⟨by decide, by decide, by decide +kernel⟩⟩
theorem sL_137 : SV RL 137 yX8_film cX8_film 7 (some .int) 3 := ⟨gw_in5 (i := 139) rfl rfl, qn_X8_film, ql_X8_film, qi_X8, qc_X8_film, ⟨by decide, by decide, by decide +kernel⟩⟩
theorem sX8_265 : SV RX8 265 yX8_whyNot cX8_whyNot 4 (some .int) 3 := ⟨gw_in5 (i := 143) rfl rfl, qn_X8_whyNot, ql_X8_whyNot, qi_X8, qc_X8_whyNot, ⟨by decide, by decide, by decide +kernel⟩⟩
theorem sL_141 : SV RL 141 yX8_read cX8_read 7 (some .int) 3 := ⟨gw_in5 (i := 147) rfl rfl, qn_X8_read, ql_X8_read, qi_X8, qc_X8_read, ⟨by decide, by decide, by decide +kernel⟩⟩
theorem sL_145 : SV RL 145 yX8_image cX8_image 1 (some .int) 0 := ⟨gw_in5 (i := 151) rfl rfl, qn_X8_image, ql_X8_image, qi_X8, qc_X8_image, ⟨by decide, by decide, by decide +kernel⟩⟩
theorem sL_149 : SV RL 149 yX8_undo cX8_undo 1 (some .int) 0 := ⟨gw_in5 (i := 155) rfl rfl, qn_X8_undo, ql_X8_undo, qi_X8, qc_X8_undo, ⟨by decide, by decide, by decide +kernel⟩⟩
theorem sL_153 : SV RL 153 yX8_tear cX8_tear 2 (some .int) 0 := ⟨gw_in5 (i := 159) rfl rfl, qn_X8_tear, ql_X8_tear, qi_X8, qc_X8_tear, ⟨by decide, by decide, by decide +kernel⟩⟩
theorem sL_157 : SV RL 157 yX8_count cX8_count 2 (some .int) 1 := ⟨gw_in5 (i := 163) rfl rfl, qn_X8_count, ql_X8_count, qi_X8, qc_X8_count, ⟨by decide, by decide, by decide +kernel⟩⟩
theorem sX8_271 : SV RX8 271 yX8_allFalls cX8_allFalls 3 (some .int) 0 := ⟨gw_in5 (i := 167) rfl rfl, qn_X8_allFalls, ql_X8_allFalls, qi_X8, qc_X8_allFalls, ⟨by decide, by decide, by decide +kernel⟩⟩
theorem sL_161 : SV RL 161 yX8_status cX8_status 4 (some .int) 1 := ⟨gw_in5 (i := 171) rfl rfl, qn_X8_status, ql_X8_status, qi_X8, qc_X8_status, ⟨by decide, by decide, by decide +kernel⟩⟩
theorem sX0_17 : SIn RX0 17 yX3_init cX3_init 1 0 := ⟨List.mem_of_getElem? (i := 0) (by decide +kernel), qn_X3_init, rfl, qi_X3, qc_X3_init, ⟨by decide, by decide, by decide +kernel⟩⟩
theorem sX6_64 : SIn RX6 64 yX1_init cX1_init 1 0 := ⟨List.mem_of_getElem? (i := 1) (by decide +kernel), qn_X1_init, rfl, qi_X1, qc_X1_init, ⟨by decide, by decide, by decide +kernel⟩⟩
theorem sX7_42 : SIn RX7 42 yX1_init cX1_init 1 0 := ⟨List.mem_of_getElem? (i := 2) (by decide +kernel), qn_X1_init, rfl, qi_X1, qc_X1_init, ⟨by decide, by decide, by decide +kernel⟩⟩
theorem sX7_49 : SIn RX7 49 yX4_init cX4_init 1 0 := ⟨List.mem_of_getElem? (i := 3) (by decide +kernel), qn_X4_init, rfl, qi_X4, qc_X4_init, ⟨by decide, by decide, by decide +kernel⟩⟩
theorem sX7_63 : SIn RX7 63 yX2_init cX2_init 1 0 := ⟨List.mem_of_getElem? (i := 4) (by decide +kernel), qn_X2_init, rfl, qi_X2, qc_X2_init, ⟨by decide, by decide, by decide +kernel⟩⟩
theorem sX6_72 : SNs RX6 72 yX7_within cX7_within 3 (some .boolean) 3 := ⟨List.mem_of_getElem? (i := 5) (by decide +kernel), qt_X7_within, qi_X7, qc_X7_within, ⟨by decide, by decide, by decide +kernel⟩⟩
theorem sX1_33 : SNs RX1 33 yX7_atMost cX7_atMost 2 (some .int) 2 := ⟨List.mem_of_getElem? (i := 6) (by decide +kernel), qt_X7_atMost, qi_X7, qc_X7_atMost, ⟨by decide, by decide, by decide +kernel⟩⟩
theorem sX5_28 : SNs RX5 28 yX7_within cX7_within 3 (some .boolean) 3 := ⟨List.mem_of_getElem? (i := 7) (by decide +kernel), qt_X7_within, qi_X7, qc_X7_within, ⟨by decide, by decide, by decide +kernel⟩⟩
theorem sX0_114 : SNs RX0 114 yX7_within cX7_within 3 (some .boolean) 3 := ⟨List.mem_of_getElem? (i := 8) (by decide +kernel), qt_X7_within, qi_X7, qc_X7_within, ⟨by decide, by decide, by decide +kernel⟩⟩
theorem sX3_34 : SNs RX3 34 yX7_atMost cX7_atMost 2 (some .int) 2 := ⟨List.mem_of_getElem? (i := 9) (by decide +kernel), qt_X7_atMost, qi_X7, qc_X7_atMost, ⟨by decide, by decide, by decide +kernel⟩⟩
theorem sX4_33 : SIn RX4 33 yX5_init cX5_init 1 0 := ⟨List.mem_of_getElem? (i := 10) (by decide +kernel), qn_X5_init, rfl, qi_X5, qc_X5_init, ⟨by decide, by decide, by decide +kernel⟩⟩
theorem sX2_22 : SNs RX2 22 yX7_within cX7_within 3 (some .boolean) 3 := ⟨List.mem_of_getElem? (i := 11) (by decide +kernel), qt_X7_within, qi_X7, qc_X7_within, ⟨by decide, by decide, by decide +kernel⟩⟩
theorem fX3_7 : FS RX3 7 3 0 RX3 TX3 5 := ⟨rfl, u_X3, by decide, gw_in1 (i := 56) rfl rfl⟩
theorem fX7_172 : FS RX7 172 3 0 RX3 TX3 5 := ⟨rfl, u_X3, by decide, gw_in1 (i := 57) rfl rfl⟩
theorem fX3_13 : FS RX3 13 3 1 RX3 TX3 5 := ⟨rfl, u_X3, by decide, gw_in1 (i := 58) rfl rfl⟩
theorem fX0_88 : FS RX0 88 3 1 RX3 TX3 5 := ⟨rfl, u_X3, by decide, gw_in1 (i := 59) rfl rfl⟩
theorem fX7_177 : FS RX7 177 3 1 RX3 TX3 5 := ⟨rfl, u_X3, by decide, gw_in1 (i := 60) rfl rfl⟩
theorem fX3_16 : FS RX3 16 3 2 RX3 TX3 5 := ⟨rfl, u_X3, by decide, gw_in1 (i := 61) rfl rfl⟩
theorem fX0_118 : FS RX0 118 3 2 RX3 TX3 5 := ⟨rfl, u_X3, by decide, gw_in1 (i := 62) rfl rfl⟩
theorem fX7_180 : FS RX7 180 3 2 RX3 TX3 5 := ⟨rfl, u_X3, by decide, gw_in1 (i := 63) rfl rfl⟩
theorem fX3_25 : FS RX3 25 3 3 RX3 TX3 5 := ⟨rfl, u_X3, by decide, gw_in1 (i := 64) rfl rfl⟩
theorem fX3_28 : FS RX3 28 3 4 RX3 TX3 5 := ⟨rfl, u_X3, by decide, gw_in1 (i := 65) rfl rfl⟩
theorem fX0_98 : FS RX0 98 3 4 RX3 TX3 5 := ⟨rfl, u_X3, by decide, gw_in1 (i := 66) rfl rfl⟩
theorem fX0_35 : FS RX0 35 0 0 RX0 TX0 8 := ⟨rfl, u_X0, by decide, gw_in1 (i := 79) rfl rfl⟩
theorem fX0_38 : FS RX0 38 0 1 RX0 TX0 8 := ⟨rfl, u_X0, by decide, gw_in1 (i := 80) rfl rfl⟩
theorem fX0_11 : FS RX0 11 0 2 RX0 TX0 8 := ⟨rfl, u_X0, by decide, gw_in1 (i := 81) rfl rfl⟩
theorem fX0_18 : FS RX0 18 0 3 RX0 TX0 8 := ⟨rfl, u_X0, by decide, gw_in1 (i := 82) rfl rfl⟩
theorem fX7_167 : FS RX7 167 0 3 RX0 TX0 8 := ⟨rfl, u_X0, by decide, gw_in1 (i := 83) rfl rfl⟩
theorem fX0_22 : FS RX0 22 0 4 RX0 TX0 8 := ⟨rfl, u_X0, by decide, gw_in1 (i := 84) rfl rfl⟩
theorem fX7_170 : FS RX7 170 0 4 RX0 TX0 8 := ⟨rfl, u_X0, by decide, gw_in1 (i := 85) rfl rfl⟩
theorem fX0_25 : FS RX0 25 0 5 RX0 TX0 8 := ⟨rfl, u_X0, by decide, gw_in1 (i := 86) rfl rfl⟩
theorem fX7_191 : FS RX7 191 0 5 RX0 TX0 8 := ⟨rfl, u_X0, by decide, gw_in1 (i := 87) rfl rfl⟩
theorem fX0_29 : FS RX0 29 0 6 RX0 TX0 8 := ⟨rfl, u_X0, by decide, gw_in1 (i := 88) rfl rfl⟩
theorem fX7_156 : FS RX7 156 0 6 RX0 TX0 8 := ⟨rfl, u_X0, by decide, gw_in1 (i := 89) rfl rfl⟩
theorem fX0_32 : FS RX0 32 0 7 RX0 TX0 8 := ⟨rfl, u_X0, by decide, gw_in1 (i := 90) rfl rfl⟩
theorem fX7_197 : FS RX7 197 0 7 RX0 TX0 8 := ⟨rfl, u_X0, by decide, gw_in1 (i := 91) rfl rfl⟩
theorem fX1_9 : FS RX1 9 1 0 RX1 TX1 7 := ⟨rfl, u_X1, by decide, gw_in1 (i := 114) rfl rfl⟩
theorem fX7_107 : FS RX7 107 1 0 RX1 TX1 7 := ⟨rfl, u_X1, by decide, gw_in1 (i := 115) rfl rfl⟩
theorem fX1_15 : FS RX1 15 1 1 RX1 TX1 7 := ⟨rfl, u_X1, by decide, gw_in1 (i := 116) rfl rfl⟩
theorem fX0_95 : FS RX0 95 1 1 RX1 TX1 7 := ⟨rfl, u_X1, by decide, gw_in1 (i := 117) rfl rfl⟩
theorem fX7_208 : FS RX7 208 1 1 RX1 TX1 7 := ⟨rfl, u_X1, by decide, gw_in1 (i := 118) rfl rfl⟩
theorem fX1_18 : FS RX1 18 1 2 RX1 TX1 7 := ⟨rfl, u_X1, by decide, gw_in1 (i := 119) rfl rfl⟩
theorem fX0_108 : FS RX0 108 1 2 RX1 TX1 7 := ⟨rfl, u_X1, by decide, gw_in1 (i := 120) rfl rfl⟩
theorem fX7_211 : FS RX7 211 1 2 RX1 TX1 7 := ⟨rfl, u_X1, by decide, gw_in1 (i := 121) rfl rfl⟩
theorem fX1_21 : FS RX1 21 1 3 RX1 TX1 7 := ⟨rfl, u_X1, by decide, gw_in1 (i := 122) rfl rfl⟩
theorem fX0_102 : FS RX0 102 1 3 RX1 TX1 7 := ⟨rfl, u_X1, by decide, gw_in1 (i := 123) rfl rfl⟩
theorem fX1_24 : FS RX1 24 1 4 RX1 TX1 7 := ⟨rfl, u_X1, by decide, gw_in1 (i := 124) rfl rfl⟩
theorem fX0_46 : FS RX0 46 1 4 RX1 TX1 7 := ⟨rfl, u_X1, by decide, gw_in1 (i := 125) rfl rfl⟩
theorem fX1_27 : FS RX1 27 1 5 RX1 TX1 7 := ⟨rfl, u_X1, by decide, gw_in1 (i := 126) rfl rfl⟩
theorem fX6_76 : FS RX6 76 1 5 RX1 TX1 7 := ⟨rfl, u_X1, by decide, gw_in1 (i := 127) rfl rfl⟩
theorem fX7_114 : FS RX7 114 1 5 RX1 TX1 7 := ⟨rfl, u_X1, by decide, gw_in1 (i := 128) rfl rfl⟩
theorem fX1_30 : FS RX1 30 1 6 RX1 TX1 7 := ⟨rfl, u_X1, by decide, gw_in1 (i := 129) rfl rfl⟩
theorem fX7_127 : FS RX7 127 1 6 RX1 TX1 7 := ⟨rfl, u_X1, by decide, gw_in1 (i := 130) rfl rfl⟩
theorem fX0_111 : FS RX0 111 1 6 RX1 TX1 7 := ⟨rfl, u_X1, by decide, gw_in1 (i := 131) rfl rfl⟩
theorem fX6_11 : FS RX6 11 6 0 RX6 TX6 10 := ⟨rfl, u_X6, by decide, gw_in1 (i := 147) rfl rfl⟩
theorem fX7_82 : FS RX7 82 6 0 RX6 TX6 10 := ⟨rfl, u_X6, by decide, gw_in1 (i := 148) rfl rfl⟩
theorem fX6_17 : FS RX6 17 6 1 RX6 TX6 10 := ⟨rfl, u_X6, by decide, gw_in1 (i := 149) rfl rfl⟩
theorem fX7_77 : FS RX7 77 6 1 RX6 TX6 10 := ⟨rfl, u_X6, by decide, gw_in1 (i := 150) rfl rfl⟩
theorem fX6_23 : FS RX6 23 6 2 RX6 TX6 10 := ⟨rfl, u_X6, by decide, gw_in1 (i := 151) rfl rfl⟩
theorem fX7_29 : FS RX7 29 6 2 RX6 TX6 10 := ⟨rfl, u_X6, by decide, gw_in1 (i := 152) rfl rfl⟩
theorem fX6_27 : FS RX6 27 6 3 RX6 TX6 10 := ⟨rfl, u_X6, by decide, gw_in1 (i := 153) rfl rfl⟩
theorem fX7_242 : FS RX7 242 6 3 RX6 TX6 10 := ⟨rfl, u_X6, by decide, gw_in1 (i := 154) rfl rfl⟩
theorem fX7_25 : FS RX7 25 6 4 RX6 TX6 10 := ⟨rfl, u_X6, by decide, gw_in1 (i := 155) rfl rfl⟩
theorem fX6_39 : FS RX6 39 6 4 RX6 TX6 10 := ⟨rfl, u_X6, by decide, gw_in1 (i := 156) rfl rfl⟩
theorem fX6_47 : FS RX6 47 6 5 RX6 TX6 10 := ⟨rfl, u_X6, by decide, gw_in1 (i := 157) rfl rfl⟩
theorem fX7_150 : FS RX7 150 6 5 RX6 TX6 10 := ⟨rfl, u_X6, by decide, gw_in1 (i := 158) rfl rfl⟩
theorem fX6_51 : FS RX6 51 6 6 RX6 TX6 10 := ⟨rfl, u_X6, by decide, gw_in1 (i := 159) rfl rfl⟩
theorem fX7_141 : FS RX7 141 6 6 RX6 TX6 10 := ⟨rfl, u_X6, by decide, gw_in1 (i := 160) rfl rfl⟩
theorem fX6_55 : FS RX6 55 6 7 RX6 TX6 10 := ⟨rfl, u_X6, by decide, gw_in1 (i := 161) rfl rfl⟩
theorem fX7_144 : FS RX7 144 6 7 RX6 TX6 10 := ⟨rfl, u_X6, by decide, gw_in1 (i := 162) rfl rfl⟩
theorem fX6_58 : FS RX6 58 6 8 RX6 TX6 10 := ⟨rfl, u_X6, by decide, gw_in1 (i := 163) rfl rfl⟩
theorem fX7_147 : FS RX7 147 6 8 RX6 TX6 10 := ⟨rfl, u_X6, by decide, gw_in1 (i := 164) rfl rfl⟩
theorem fX6_61 : FS RX6 61 6 9 RX6 TX6 10 := ⟨rfl, u_X6, by decide, gw_in1 (i := 165) rfl rfl⟩
theorem fX7_194 : FS RX7 194 6 9 RX6 TX6 10 := ⟨rfl, u_X6, by decide, gw_in1 (i := 166) rfl rfl⟩
theorem fX4_9 : FS RX4 9 4 0 RX4 TX4 6 := ⟨rfl, u_X4, by decide, gw_in1 (i := 198) rfl rfl⟩
theorem fX4_15 : FS RX4 15 4 1 RX4 TX4 6 := ⟨rfl, u_X4, by decide, gw_in1 (i := 199) rfl rfl⟩
theorem fX7_235 : FS RX7 235 4 1 RX4 TX4 6 := ⟨rfl, u_X4, by decide, gw_in1 (i := 200) rfl rfl⟩
theorem fX4_19 : FS RX4 19 4 2 RX4 TX4 6 := ⟨rfl, u_X4, by decide, gw_in1 (i := 201) rfl rfl⟩
theorem fX7_249 : FS RX7 249 4 2 RX4 TX4 6 := ⟨rfl, u_X4, by decide, gw_in1 (i := 202) rfl rfl⟩
theorem fX4_22 : FS RX4 22 4 3 RX4 TX4 6 := ⟨rfl, u_X4, by decide, gw_in1 (i := 203) rfl rfl⟩
theorem fX4_25 : FS RX4 25 4 4 RX4 TX4 6 := ⟨rfl, u_X4, by decide, gw_in1 (i := 204) rfl rfl⟩
theorem fX4_28 : FS RX4 28 4 5 RX4 TX4 6 := ⟨rfl, u_X4, by decide, gw_in1 (i := 205) rfl rfl⟩
theorem fX2_9 : FS RX2 9 2 0 RX2 TX2 3 := ⟨rfl, u_X2, by decide, gw_in1 (i := 226) rfl rfl⟩
theorem fX7_278 : FS RX7 278 2 0 RX2 TX2 3 := ⟨rfl, u_X2, by decide, gw_in1 (i := 227) rfl rfl⟩
theorem fX2_15 : FS RX2 15 2 1 RX2 TX2 3 := ⟨rfl, u_X2, by decide, gw_in1 (i := 228) rfl rfl⟩
theorem fX7_264 : FS RX7 264 2 1 RX2 TX2 3 := ⟨rfl, u_X2, by decide, gw_in1 (i := 229) rfl rfl⟩
theorem fX2_18 : FS RX2 18 2 2 RX2 TX2 3 := ⟨rfl, u_X2, by decide, gw_in1 (i := 230) rfl rfl⟩
theorem fX7_270 : FS RX7 270 2 2 RX2 TX2 3 := ⟨rfl, u_X2, by decide, gw_in1 (i := 231) rfl rfl⟩
theorem fX7_10 : FS RX7 10 7 0 RX7 TX7 8 := ⟨rfl, u_X7, by decide, gw_in2 (i := 0) rfl rfl⟩
theorem fX7_16 : FS RX7 16 7 1 RX7 TX7 8 := ⟨rfl, u_X7, by decide, gw_in2 (i := 1) rfl rfl⟩
theorem fX7_19 : FS RX7 19 7 2 RX7 TX7 8 := ⟨rfl, u_X7, by decide, gw_in2 (i := 2) rfl rfl⟩
theorem fX7_36 : FS RX7 36 7 3 RX7 TX7 8 := ⟨rfl, u_X7, by decide, gw_in2 (i := 3) rfl rfl⟩
theorem fX7_43 : FS RX7 43 7 4 RX7 TX7 8 := ⟨rfl, u_X7, by decide, gw_in2 (i := 4) rfl rfl⟩
theorem fX7_50 : FS RX7 50 7 5 RX7 TX7 8 := ⟨rfl, u_X7, by decide, gw_in2 (i := 5) rfl rfl⟩
theorem fX7_56 : FS RX7 56 7 6 RX7 TX7 8 := ⟨rfl, u_X7, by decide, gw_in2 (i := 6) rfl rfl⟩
theorem fX7_60 : FS RX7 60 7 7 RX7 TX7 8 := ⟨rfl, u_X7, by decide, gw_in2 (i := 7) rfl rfl⟩
theorem gX7_301 : Cond.fieldLink RX7 301 "LogRollers" "KIND_ABOVE" "[I" ∈ GW := gw_in2 (i := 81) rfl rfl
theorem gX7_117 : Cond.fieldLink RX7 117 "LogRollers" "PART_LEAST" "[I" ∈ GW := gw_in2 (i := 88) rfl rfl
theorem gX7_120 : Cond.fieldLink RX7 120 "LogRollers" "PART_MOST" "[I" ∈ GW := gw_in2 (i := 90) rfl rfl
theorem fX5_9 : FS RX5 9 5 0 RX5 TX5 5 := ⟨rfl, u_X5, by decide, gw_in3 (i := 63) rfl rfl⟩
theorem fX7_252 : FS RX7 252 5 0 RX5 TX5 5 := ⟨rfl, u_X5, by decide, gw_in3 (i := 64) rfl rfl⟩
theorem fX5_15 : FS RX5 15 5 1 RX5 TX5 5 := ⟨rfl, u_X5, by decide, gw_in3 (i := 65) rfl rfl⟩
theorem fX5_19 : FS RX5 19 5 2 RX5 TX5 5 := ⟨rfl, u_X5, by decide, gw_in3 (i := 66) rfl rfl⟩
theorem fX5_22 : FS RX5 22 5 3 RX5 TX5 5 := ⟨rfl, u_X5, by decide, gw_in3 (i := 67) rfl rfl⟩
theorem fX5_25 : FS RX5 25 5 4 RX5 TX5 5 := ⟨rfl, u_X5, by decide, gw_in3 (i := 68) rfl rfl⟩
theorem gJ0_38 : Cond.fieldLink RJ0 38 "java/lang/String" "COMPACT_STRINGS" "Z" ∈ GW := gw_in3 (i := 125) rfl rfl
theorem gJ0_1053 : Cond.fieldLink RJ0 1053 "jdk/internal/util/Preconditions" "SIOOBE_FORMATTER" "Ljava/util/function/BiFunction;" ∈ GW := gw_in3 (i := 141) rfl rfl
theorem gJ2_44 : Cond.fieldLink RJ2 44 "java/lang/StringUTF16" "$assertionsDisabled" "Z" ∈ GW := gw_in3 (i := 159) rfl rfl
theorem gJ2_59 : Cond.fieldLink RJ2 59 "java/lang/StringUTF16" "HI_BYTE_SHIFT" "I" ∈ GW := gw_in3 (i := 161) rfl rfl
theorem gJ2_63 : Cond.fieldLink RJ2 63 "java/lang/StringUTF16" "LO_BYTE_SHIFT" "I" ∈ GW := gw_in3 (i := 163) rfl rfl
theorem fX8_9 : FS RX8 9 8 0 RX8 TX8 19 := ⟨rfl, u_X8, by decide, gw_in4 (i := 48) rfl rfl⟩
theorem fX8_13 : FS RX8 13 8 1 RX8 TX8 19 := ⟨rfl, u_X8, by decide, gw_in4 (i := 49) rfl rfl⟩
theorem fX8_16 : FS RX8 16 8 2 RX8 TX8 19 := ⟨rfl, u_X8, by decide, gw_in4 (i := 50) rfl rfl⟩
theorem fX8_268 : FS RX8 268 8 3 RX8 TX8 19 := ⟨rfl, u_X8, by decide, gw_in4 (i := 51) rfl rfl⟩
theorem fX8_19 : FS RX8 19 8 4 RX8 TX8 19 := ⟨rfl, u_X8, by decide, gw_in4 (i := 52) rfl rfl⟩
theorem fX8_141 : FS RX8 141 8 5 RX8 TX8 19 := ⟨rfl, u_X8, by decide, gw_in4 (i := 53) rfl rfl⟩
theorem fX8_145 : FS RX8 145 8 6 RX8 TX8 19 := ⟨rfl, u_X8, by decide, gw_in4 (i := 54) rfl rfl⟩
theorem fX8_22 : FS RX8 22 8 7 RX8 TX8 19 := ⟨rfl, u_X8, by decide, gw_in4 (i := 55) rfl rfl⟩
theorem fX8_166 : FS RX8 166 8 8 RX8 TX8 19 := ⟨rfl, u_X8, by decide, gw_in4 (i := 56) rfl rfl⟩
theorem fX8_169 : FS RX8 169 8 9 RX8 TX8 19 := ⟨rfl, u_X8, by decide, gw_in4 (i := 57) rfl rfl⟩
theorem fX8_172 : FS RX8 172 8 10 RX8 TX8 19 := ⟨rfl, u_X8, by decide, gw_in4 (i := 58) rfl rfl⟩
theorem fX8_181 : FS RX8 181 8 11 RX8 TX8 19 := ⟨rfl, u_X8, by decide, gw_in4 (i := 59) rfl rfl⟩
theorem fX8_175 : FS RX8 175 8 12 RX8 TX8 19 := ⟨rfl, u_X8, by decide, gw_in4 (i := 60) rfl rfl⟩
theorem fX8_178 : FS RX8 178 8 13 RX8 TX8 19 := ⟨rfl, u_X8, by decide, gw_in4 (i := 61) rfl rfl⟩
theorem fX8_200 : FS RX8 200 8 14 RX8 TX8 19 := ⟨rfl, u_X8, by decide, gw_in4 (i := 62) rfl rfl⟩
theorem fX8_25 : FS RX8 25 8 15 RX8 TX8 19 := ⟨rfl, u_X8, by decide, gw_in4 (i := 63) rfl rfl⟩
theorem fX8_28 : FS RX8 28 8 16 RX8 TX8 19 := ⟨rfl, u_X8, by decide, gw_in4 (i := 64) rfl rfl⟩
theorem fX8_31 : FS RX8 31 8 17 RX8 TX8 19 := ⟨rfl, u_X8, by decide, gw_in4 (i := 65) rfl rfl⟩
theorem fX8_35 : FS RX8 35 8 18 RX8 TX8 19 := ⟨rfl, u_X8, by decide, gw_in4 (i := 66) rfl rfl⟩
theorem gJ0_9 : Cond.fieldLink RJ0 9 "java/lang/String" "value" "[B" ∈ GW := gw_in5 (i := 176) rfl rfl
theorem gJ0_15 : Cond.fieldLink RJ0 15 "java/lang/String" "coder" "B" ∈ GW := gw_in5 (i := 177) rfl rfl
theorem kX7_72 : Cond.constant RX7 72 (-1000000001) ∈ GW := gw_in2 (i := 35) rfl rfl
theorem kX7_81 : Cond.constant RX7 81 (-1000000002) ∈ GW := gw_in2 (i := 40) rfl rfl
theorem kX7_103 : Cond.constant RX7 103 (-1000000005) ∈ GW := gw_in2 (i := 69) rfl rfl
theorem kX7_113 : Cond.constant RX7 113 (-1000000003) ∈ GW := gw_in2 (i := 83) rfl rfl
theorem kX0_101 : Cond.constant RX0 101 (1103515245) ∈ GW := gw_in2 (i := 189) rfl rfl
theorem kX7_207 : Cond.constant RX7 207 (-1000000004) ∈ GW := gw_in2 (i := 237) rfl rfl
theorem kJ6_265 : Cond.constant RJ6 265 (1431655765) ∈ GW := gw_in3 (i := 34) rfl rfl
theorem kJ6_266 : Cond.constant RJ6 266 (858993459) ∈ GW := gw_in3 (i := 35) rfl rfl
theorem kJ6_267 : Cond.constant RJ6 267 (252645135) ∈ GW := gw_in3 (i := 36) rfl rfl
theorem kX7_262 : Cond.constant RX7 262 (-1000000007) ∈ GW := gw_in3 (i := 203) rfl rfl
theorem kX7_269 : Cond.constant RX7 269 (-1000000006) ∈ GW := gw_in3 (i := 216) rfl rfl
theorem kX8_47 : Cond.constantLong RX8 47 (5) ∈ GW := gw_in4 (i := 110) rfl rfl
theorem kX8_49 : Cond.constantLong RX8 49 (299) ∈ GW := gw_in4 (i := 114) rfl rfl
theorem kX8_38 : Cond.constant RX8 38 (-1000000001) ∈ GW := gw_in4 (i := 115) rfl rfl
theorem kX8_55 : Cond.constant RX8 55 (-1000000002) ∈ GW := gw_in4 (i := 120) rfl rfl
theorem kX8_56 : Cond.constantLong RX8 56 (6) ∈ GW := gw_in4 (i := 129) rfl rfl
theorem kX8_58 : Cond.constantLong RX8 58 (9) ∈ GW := gw_in4 (i := 138) rfl rfl
theorem kX8_60 : Cond.constantLong RX8 60 (99) ∈ GW := gw_in4 (i := 139) rfl rfl
theorem kX8_62 : Cond.constantLong RX8 62 (999) ∈ GW := gw_in4 (i := 140) rfl rfl
theorem kX8_64 : Cond.constantLong RX8 64 (-1) ∈ GW := gw_in4 (i := 141) rfl rfl
theorem kX8_73 : Cond.constant RX8 73 (-1000000005) ∈ GW := gw_in4 (i := 146) rfl rfl
theorem kX8_81 : Cond.constant RX8 81 (-1000000003) ∈ GW := gw_in4 (i := 157) rfl rfl
theorem kX8_82 : Cond.constantLong RX8 82 (4) ∈ GW := gw_in4 (i := 162) rfl rfl
theorem kX8_95 : Cond.constantLong RX8 95 (-9999) ∈ GW := gw_in4 (i := 167) rfl rfl
theorem kX8_97 : Cond.constantLong RX8 97 (9999) ∈ GW := gw_in4 (i := 168) rfl rfl
theorem kX8_99 : Cond.constantLong RX8 99 (-999) ∈ GW := gw_in4 (i := 169) rfl rfl
theorem kX8_133 : Cond.constantLong RX8 133 (400) ∈ GW := gw_in4 (i := 201) rfl rfl
theorem kX8_111 : Cond.constant RX8 111 (1103515245) ∈ GW := gw_in4 (i := 220) rfl rfl
theorem kX8_139 : Cond.constantLong RX8 139 (2) ∈ GW := gw_in4 (i := 232) rfl rfl
theorem kX8_148 : Cond.constantLong RX8 148 (200) ∈ GW := gw_in5 (i := 1) rfl rfl
theorem kX8_158 : Cond.constant RX8 158 (-1000000004) ∈ GW := gw_in5 (i := 13) rfl rfl
theorem kX8_159 : Cond.constantLong RX8 159 (100) ∈ GW := gw_in5 (i := 18) rfl rfl
theorem kX8_164 : Cond.constantLong RX8 164 (50) ∈ GW := gw_in5 (i := 43) rfl rfl
theorem kX8_254 : Cond.constantLong RX8 254 (3) ∈ GW := gw_in5 (i := 125) rfl rfl
theorem kX8_259 : Cond.constant RX8 259 (-1000000007) ∈ GW := gw_in5 (i := 126) rfl rfl
theorem kX8_260 : Cond.constant RX8 260 (-1000000006) ∈ GW := gw_in5 (i := 131) rfl rfl
theorem kL_123 : Cond.constantLong RL 123 (4294967295) ∈ GW := gw_in5 (i := 175) rfl rfl
theorem cL_7_l : Cond.classLink RL 7 RX7 ∈ GW := gw_in1 (i := 17) rfl rfl
theorem cX7_7_l : Cond.classLink RX7 7 RX6 ∈ GW := gw_in1 (i := 25) rfl rfl
theorem cX6_9_l : Cond.classLink RX6 9 RX1 ∈ GW := gw_in1 (i := 31) rfl rfl
theorem cX6_21_l : Cond.classLink RX6 21 RX5 ∈ GW := gw_in1 (i := 33) rfl rfl
theorem cX6_35_l : Cond.classLink RX6 35 "[I" ∈ GW := gw_in1 (i := 43) rfl rfl
theorem cX6_42_l : Cond.classLink RX6 42 RX0 ∈ GW := gw_in1 (i := 44) rfl rfl
theorem cX0_15_l : Cond.classLink RX0 15 RX3 ∈ GW := gw_in1 (i := 50) rfl rfl
theorem cX7_23_l : Cond.classLink RX7 23 RX0 ∈ GW := gw_in1 (i := 188) rfl rfl
theorem cX7_40_l : Cond.classLink RX7 40 RX1 ∈ GW := gw_in1 (i := 190) rfl rfl
theorem cX7_47_l : Cond.classLink RX7 47 RX4 ∈ GW := gw_in1 (i := 192) rfl rfl
theorem cX7_54_l : Cond.classLink RX7 54 RX2 ∈ GW := gw_in1 (i := 219) rfl rfl
theorem cX4_31_l : Cond.classLink RX4 31 RX5 ∈ GW := gw_in3 (i := 57) rfl rfl
theorem cL_10_l : Cond.classLink RL 10 RX8 ∈ GW := gw_in4 (i := 42) rfl rfl
theorem qx_X7 : Cond.instantiable RX7 8 ∈ GW := gw_in1 (i := 18) rfl rfl
theorem qx_X6 : Cond.instantiable RX6 10 ∈ GW := gw_in1 (i := 26) rfl rfl
theorem qx_X0 : Cond.instantiable RX0 8 ∈ GW := gw_in1 (i := 45) rfl rfl
theorem qx_X3 : Cond.instantiable RX3 5 ∈ GW := gw_in1 (i := 51) rfl rfl
theorem qx_X1 : Cond.instantiable RX1 7 ∈ GW := gw_in1 (i := 109) rfl rfl
theorem qx_X4 : Cond.instantiable RX4 6 ∈ GW := gw_in1 (i := 193) rfl rfl
theorem qx_X2 : Cond.instantiable RX2 3 ∈ GW := gw_in1 (i := 221) rfl rfl
theorem qx_X5 : Cond.instantiable RX5 5 ∈ GW := gw_in3 (i := 58) rfl rfl
theorem qx_X8 : Cond.instantiable RX8 19 ∈ GW := gw_in4 (i := 43) rfl rfl
