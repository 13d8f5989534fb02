/-! ===== leaf methods: numbers, standers, people ===== -/
def hold (v m : Int32) : Int32 := if m < v then m else if v < -m then -m else v
def costS (p : Int32) : Int32 := if p = 0 then 0 else iabs p / 10 + 1
def swayS (lean turn feet : Int32) : Int32 := (lean + (turn - feet) / 4) - (lean + (turn - feet) / 4) / 8
set_option maxHeartbeats 4000000 in
set_option maxRecDepth 100000 in
theorem ct_X7_within (ll : Launch) (g : GT) {h : Hp} (v a b : Int32)  : MF ll g yX7_within cX7_within 3 (some .boolean) (k2_rm 0 0) [.int v, .int a, .int b] h (some (.int (bI (wi v a b)))) h := by
  refine mc_of (by decide) (Nat.le_of_ble_eq_true rfl) ?_
  intro K X r
  refine v_eqv (lv2 := [(0, .int v), (1, .int a), (2, .int b)]) rfl ?_
  refine v_iload_n X dX7_within_0 0 rfl ?_
  refine v_iload_n X dX7_within_1 1 rfl ?_
  refine v_icmp_lt X dX7_within_2 (tgt := 14) (by decide) (fun c1 => ?_) (fun c1 => ?_)
  · refine v_iconst X dX7_within_14 (v := 0) (by decide) ?_
    exact v_zret X r dX7_within_15 rfl (Nat.le_refl _) (Nat.le_refl _) ⟨ri (by simp [bI, wi, c1, Int32.not_le.mpr c1]), rfl⟩
  · refine v_iload_n X dX7_within_5 0 rfl ?_
    refine v_iload_n X dX7_within_6 2 rfl ?_
    refine v_icmp_gt X dX7_within_7 (tgt := 14) (by decide) (fun c2 => ?_) (fun c2 => ?_)
    · refine v_iconst X dX7_within_14 (v := 0) (by decide) ?_
      exact v_zret X r dX7_within_15 rfl (Nat.le_refl _) (Nat.le_refl _) ⟨ri (by simp [bI, wi, c1, Int32.not_lt.mp c1, c2, Int32.not_le.mpr c2]), rfl⟩
    · refine v_iconst X dX7_within_10 (v := 1) (by decide) ?_
      refine v_goto X dX7_within_11 (tgt := 15) (by decide) ?_
      exact v_zret X r dX7_within_15 rfl (Nat.le_refl _) (Nat.le_refl _) ⟨ri (by simp [bI, wi, c1, Int32.not_lt.mp c1, c2, Int32.not_lt.mp c2]), rfl⟩
set_option maxHeartbeats 4000000 in
set_option maxRecDepth 100000 in
theorem ct_X7_atMost (ll : Launch) (g : GT) {h : Hp} (v m : Int32)  : MF ll g yX7_atMost cX7_atMost 2 (some .int) (k2_rm 0 0) [.int v, .int m] h (some (.int (hold v m))) h := by
  refine mc_of (by decide) (Nat.le_of_ble_eq_true rfl) ?_
  intro K X r
  refine v_eqv (lv2 := [(0, .int v), (1, .int m)]) rfl ?_
  refine v_iload_n X dX7_atMost_0 0 rfl ?_
  refine v_iload_n X dX7_atMost_1 1 rfl ?_
  refine v_icmp_le X dX7_atMost_2 (tgt := 7) (by decide) (fun c1 => ?_) (fun c1 => ?_)
  · refine v_iload_n X dX7_atMost_7 0 rfl ?_
    refine v_iload_n X dX7_atMost_8 1 rfl ?_
    refine v_ineg X dX7_atMost_9 ?_
    refine v_icmp_ge X dX7_atMost_10 (tgt := 18) (by decide) (fun c2 => ?_) (fun c2 => ?_)
    · refine v_iload_n X dX7_atMost_18 0 rfl ?_
      exact v_iret X r dX7_atMost_19 (Nat.le_refl _) (Nat.le_refl _) ⟨ri (by simp [hold, c1, Int32.not_lt.mpr c1, c2, Int32.not_lt.mpr c2]), rfl⟩
    · refine v_iload_n X dX7_atMost_13 1 rfl ?_
      refine v_ineg X dX7_atMost_14 ?_
      refine v_goto X dX7_atMost_15 (tgt := 19) (by decide) ?_
      exact v_iret X r dX7_atMost_19 (Nat.le_refl _) (Nat.le_refl _) ⟨ri (by simp [hold, c1, Int32.not_lt.mpr c1, c2, Int32.not_le.mp c2]), rfl⟩
  · refine v_iload_n X dX7_atMost_5 1 rfl ?_
    exact v_iret X r dX7_atMost_6 (Nat.le_refl _) (Nat.le_refl _) ⟨ri (by simp [hold, c1, Int32.not_le.mp c1]), rfl⟩
set_option maxHeartbeats 4000000 in
set_option maxRecDepth 100000 in
theorem ct_X3_cost (ll : Launch) (g : GT) {h : Hp} (p : Int32)  : MF ll g yX3_cost cX3_cost 1 (some .int) (k2_rm 1 30) [.int p] h (some (.int (costS p))) h := by
  refine mc_of (by decide) (Nat.le_of_ble_eq_true rfl) ?_
  intro K X r
  refine v_eqv (lv2 := [(0, .int p)]) rfl ?_
  refine v_iload_n X dX3_cost_0 0 rfl ?_
  refine v_if_ne X dX3_cost_1 (tgt := 8) (by decide) (fun c1 => ?_) (fun c1 => ?_)
  · refine v_iload_n X dX3_cost_8 0 rfl ?_
    refine v_mabs X sX3_19 (Nat.le_of_ble_eq_true rfl) (Nat.le_of_ble_eq_true rfl) (Nat.zero_le _) (Nat.zero_le _) dX3_cost_9 ?_
    refine v_bipush X dX3_cost_12 (v := 10) (by decide) ?_
    refine v_idiv X dX3_cost_14 (by decide) ?_
    refine v_iconst X dX3_cost_15 (v := 1) (by decide) ?_
    refine v_iadd X dX3_cost_16 ?_
    exact v_iret X r dX3_cost_17 (Nat.le_refl _) (Nat.le_refl _) ⟨ri (by simp [costS, c1]), rfl⟩
  · refine v_iconst X dX3_cost_4 (v := 0) (by decide) ?_
    refine v_goto X dX3_cost_5 (tgt := 17) (by decide) ?_
    exact v_iret X r dX3_cost_17 (Nat.le_refl _) (Nat.le_refl _) ⟨ri (by simp [costS, c1]), rfl⟩
set_option maxHeartbeats 4000000 in
set_option maxRecDepth 100000 in
theorem ct_X3_begin (ll : Launch) (g : GT) {h : Hp} {a : Nat} {feet lean left sight shove : Int32} (strength : Int32) (ha : h a = some (ob 3 [.int feet, .int lean, .int left, .int sight, .int shove])) : MF ll g yX3_begin cX3_begin 2 none (k2_rm 0 0) [.ref a, .int strength] h none (hU h a (ob 3 [.int 0, .int 0, .int strength, .int sight, .int shove])) := by
  refine mc_of (by decide) (Nat.le_of_ble_eq_true rfl) ?_
  intro K X r
  refine v_eqv (lv2 := [(0, .ref a), (1, .int strength)]) rfl ?_
  refine v_aload_n X dX3_begin_0 0 rfl ?_
  refine v_iconst X dX3_begin_1 (v := 0) (by decide) ?_
  refine v_putE (h2 := (hU h a (ob 3 [.int 0, .int lean, .int left, .int sight, .int shove]))) X fX3_7 tyX3_ok nmX3 rfl pd_I ha rfl rfl (ltb rfl) dX3_begin_2 rfl ?_
  refine v_aload_n X dX3_begin_5 0 rfl ?_
  refine v_iconst X dX3_begin_6 (v := 0) (by decide) ?_
  refine v_putE (h2 := (hU h a (ob 3 [.int 0, .int 0, .int left, .int sight, .int shove]))) X fX3_13 tyX3_ok nmX3 rfl pd_I hU_s rfl rfl (ltb rfl) dX3_begin_7 hU_u ?_
  refine v_aload_n X dX3_begin_10 0 rfl ?_
  refine v_iload_n X dX3_begin_11 1 rfl ?_
  refine v_putE (h2 := (hU h a (ob 3 [.int 0, .int 0, .int strength, .int sight, .int shove]))) X fX3_16 tyX3_ok nmX3 rfl pd_I hU_s rfl rfl (ltb rfl) dX3_begin_12 hU_u ?_
  exact v_vret X r dX3_begin_15 (Nat.le_refl _) (Nat.le_refl _) ⟨rfl, rfl⟩
set_option maxHeartbeats 4000000 in
set_option maxRecDepth 100000 in
theorem ct_X3_takeFrom (ll : Launch) (g : GT) {h : Hp} {a : Nat} {feet lean left sight shove : Int32} {b : Nat} {feet2 lean2 left2 sight2 shove2 : Int32}  (ha : h a = some (ob 3 [.int feet, .int lean, .int left, .int sight, .int shove])) (hb : h b = some (ob 3 [.int feet2, .int lean2, .int left2, .int sight2, .int shove2])) (hab : a ≠ b) : MF ll g yX3_takeFrom cX3_takeFrom 2 none (k2_rm 0 0) [.ref a, .ref b] h none (hU h a (ob 3 [.int feet2, .int lean2, .int left2, .int sight, .int shove])) := by
  refine mc_of (by decide) (Nat.le_of_ble_eq_true rfl) ?_
  intro K X r
  refine v_eqv (lv2 := [(0, .ref a), (1, .ref b)]) rfl ?_
  refine v_aload_n X dX3_takeFrom_0 0 rfl ?_
  refine v_aload_n X dX3_takeFrom_1 1 rfl ?_
  refine v_get X fX3_7 hb rfl dX3_takeFrom_2 ?_
  refine v_putE (h2 := (hU h a (ob 3 [.int feet2, .int lean, .int left, .int sight, .int shove]))) X fX3_7 tyX3_ok nmX3 rfl pd_I ha rfl rfl (ltb rfl) dX3_takeFrom_5 rfl ?_
  refine v_aload_n X dX3_takeFrom_8 0 rfl ?_
  refine v_aload_n X dX3_takeFrom_9 1 rfl ?_
  refine v_get X fX3_13 ((hU_n (Ne.symm hab)).trans hb) rfl dX3_takeFrom_10 ?_
  refine v_putE (h2 := (hU h a (ob 3 [.int feet2, .int lean2, .int left, .int sight, .int shove]))) X fX3_13 tyX3_ok nmX3 rfl pd_I hU_s rfl rfl (ltb rfl) dX3_takeFrom_13 hU_u ?_
  refine v_aload_n X dX3_takeFrom_16 0 rfl ?_
  refine v_aload_n X dX3_takeFrom_17 1 rfl ?_
  refine v_get X fX3_16 ((hU_n (Ne.symm hab)).trans hb) rfl dX3_takeFrom_18 ?_
  refine v_putE (h2 := (hU h a (ob 3 [.int feet2, .int lean2, .int left2, .int sight, .int shove]))) X fX3_16 tyX3_ok nmX3 rfl pd_I hU_s rfl rfl (ltb rfl) dX3_takeFrom_21 hU_u ?_
  exact v_vret X r dX3_takeFrom_24 (Nat.le_refl _) (Nat.le_refl _) ⟨rfl, rfl⟩
set_option maxHeartbeats 4000000 in
set_option maxRecDepth 100000 in
theorem ct_X3_decide (ll : Launch) (g : GT) {h : Hp} {a : Nat} {feet lean left sight shove : Int32} (s p : Int32) (ha : h a = some (ob 3 [.int feet, .int lean, .int left, .int sight, .int shove])) : MF ll g yX3_decide cX3_decide 3 none (k2_rm 2 60) [.ref a, .int s, .int p] h none (hU h a (ob 3 [.int feet, .int lean, .int (left - costS p), .int s, .int p])) := by
  refine mc_of (by decide) (Nat.le_of_ble_eq_true rfl) ?_
  intro K X r
  refine v_eqv (lv2 := [(0, .ref a), (1, .int s), (2, .int p)]) rfl ?_
  refine v_aload_n X dX3_decide_0 0 rfl ?_
  refine v_iload_n X dX3_decide_1 1 rfl ?_
  refine v_putE (h2 := (hU h a (ob 3 [.int feet, .int lean, .int left, .int s, .int shove]))) X fX3_25 tyX3_ok nmX3 rfl pd_I ha rfl rfl (ltb rfl) dX3_decide_2 rfl ?_
  refine v_aload_n X dX3_decide_5 0 rfl ?_
  refine v_iload_n X dX3_decide_6 2 rfl ?_
  refine v_putE (h2 := (hU h a (ob 3 [.int feet, .int lean, .int left, .int s, .int p]))) X fX3_28 tyX3_ok nmX3 rfl pd_I hU_s rfl rfl (ltb rfl) dX3_decide_7 hU_u ?_
  refine v_aload_n X dX3_decide_10 0 rfl ?_
  refine v_dup X dX3_decide_11 rfl ?_
  refine v_get X fX3_16 hU_s rfl dX3_decide_12 ?_
  refine v_iload_n X dX3_decide_15 2 rfl ?_
  refine v_cSi X [.int p] sX3_31 (ct_X3_cost ll g p) dX3_decide_16 rfl rfl ⟨rfl, rfl⟩ ⟨(Nat.le_of_ble_eq_true rfl), (Nat.le_of_ble_eq_true rfl)⟩ ⟨Nat.zero_le _, Nat.zero_le _⟩ (Nat.le_of_ble_eq_true rfl) ?_
  refine v_isub X dX3_decide_19 ?_
  refine v_putE (h2 := (hU h a (ob 3 [.int feet, .int lean, .int (left - (costS p)), .int s, .int p]))) X fX3_16 tyX3_ok nmX3 rfl pd_I hU_s rfl rfl (ltb rfl) dX3_decide_20 hU_u ?_
  exact v_vret X r dX3_decide_23 (Nat.le_refl _) (Nat.le_refl _) ⟨rfl, rfl⟩
set_option maxHeartbeats 4000000 in
set_option maxRecDepth 100000 in
theorem ct_X3_step (ll : Launch) (g : GT) {h : Hp} {a : Nat} {feet lean left sight shove : Int32} (reach : Int32) (ha : h a = some (ob 3 [.int feet, .int lean, .int left, .int sight, .int shove])) : MF ll g yX3_step cX3_step 2 none (k2_rm 1 30) [.ref a, .int reach] h none (hU h a (ob 3 [.int (feet + hold (sight - feet) reach), .int lean, .int left, .int sight, .int shove])) := by
  refine mc_of (by decide) (Nat.le_of_ble_eq_true rfl) ?_
  intro K X r
  refine v_eqv (lv2 := [(0, .ref a), (1, .int reach)]) rfl ?_
  refine v_aload_n X dX3_step_0 0 rfl ?_
  refine v_dup X dX3_step_1 rfl ?_
  refine v_get X fX3_7 ha rfl dX3_step_2 ?_
  refine v_aload_n X dX3_step_5 0 rfl ?_
  refine v_get X fX3_25 ha rfl dX3_step_6 ?_
  refine v_aload_n X dX3_step_9 0 rfl ?_
  refine v_get X fX3_7 ha rfl dX3_step_10 ?_
  refine v_isub X dX3_step_13 ?_
  refine v_iload_n X dX3_step_14 1 rfl ?_
  refine v_cSni X [.int (sight - feet), .int reach] sX3_34 (ct_X7_atMost ll g (sight - feet) reach) dX3_step_15 rfl rfl ⟨rfl, rfl⟩ ⟨(Nat.le_of_ble_eq_true rfl), (Nat.le_of_ble_eq_true rfl)⟩ ⟨Nat.zero_le _, Nat.zero_le _⟩ (Nat.le_of_ble_eq_true rfl) ?_
  refine v_iadd X dX3_step_18 ?_
  refine v_putE (h2 := (hU h a (ob 3 [.int (feet + (hold (sight - feet) reach)), .int lean, .int left, .int sight, .int shove]))) X fX3_7 tyX3_ok nmX3 rfl pd_I ha rfl rfl (ltb rfl) dX3_step_19 rfl ?_
  exact v_vret X r dX3_step_22 (Nat.le_refl _) (Nat.le_refl _) ⟨rfl, rfl⟩
set_option maxHeartbeats 4000000 in
set_option maxRecDepth 100000 in
theorem ct_X3_sway (ll : Launch) (g : GT) {h : Hp} {a : Nat} {feet lean left sight shove : Int32} (turn : Int32) (ha : h a = some (ob 3 [.int feet, .int lean, .int left, .int sight, .int shove])) : MF ll g yX3_sway cX3_sway 2 none (k2_rm 0 0) [.ref a, .int turn] h none (hU h a (ob 3 [.int feet, .int (swayS lean turn feet), .int left, .int sight, .int shove])) := by
  refine mc_of (by decide) (Nat.le_of_ble_eq_true rfl) ?_
  intro K X r
  refine v_eqv (lv2 := [(0, .ref a), (1, .int turn)]) rfl ?_
  refine v_aload_n X dX3_sway_0 0 rfl ?_
  refine v_dup X dX3_sway_1 rfl ?_
  refine v_get X fX3_13 ha rfl dX3_sway_2 ?_
  refine v_iload_n X dX3_sway_5 1 rfl ?_
  refine v_aload_n X dX3_sway_6 0 rfl ?_
  refine v_get X fX3_7 ha rfl dX3_sway_7 ?_
  refine v_isub X dX3_sway_10 ?_
  refine v_iconst X dX3_sway_11 (v := 4) (by decide) ?_
  refine v_idiv X dX3_sway_12 (by decide) ?_
  refine v_iadd X dX3_sway_13 ?_
  refine v_putE (h2 := (hU h a (ob 3 [.int feet, .int (lean + ((turn - feet) / 4)), .int left, .int sight, .int shove]))) X fX3_13 tyX3_ok nmX3 rfl pd_I ha rfl rfl (ltb rfl) dX3_sway_14 rfl ?_
  refine v_aload_n X dX3_sway_17 0 rfl ?_
  refine v_dup X dX3_sway_18 rfl ?_
  refine v_get X fX3_13 hU_s rfl dX3_sway_19 ?_
  refine v_aload_n X dX3_sway_22 0 rfl ?_
  refine v_get X fX3_13 hU_s rfl dX3_sway_23 ?_
  refine v_bipush X dX3_sway_26 (v := 8) (by decide) ?_
  refine v_idiv X dX3_sway_28 (by decide) ?_
  refine v_isub X dX3_sway_29 ?_
  refine v_putE (h2 := (hU h a (ob 3 [.int feet, .int ((lean + ((turn - feet) / 4)) - ((lean + ((turn - feet) / 4)) / 8)), .int left, .int sight, .int shove]))) X fX3_13 tyX3_ok nmX3 rfl pd_I hU_s rfl rfl (ltb rfl) dX3_sway_30 hU_u ?_
  exact v_vret X r dX3_sway_33 (Nat.le_refl _) (Nat.le_refl _) ⟨rfl, rfl⟩
