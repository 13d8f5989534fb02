/-! ===== texts: String's own methods ===== -/
/-- the text number w stands at a, its bytes at v -/
def sV (g : GT) (a v w : Nat) : Prop := w < 10 ∧ ((a = g.2.2 (10 + w) ∧ v = g.2.2 (30 + w)) ∨ (a = g.2.2 (50 + w) ∧ v = g.2.2 (70 + w)))
def slN (w : Nat) : Nat := slen.getD w 0
def chS (w j : Nat) : Int32 := (sbyt.getD w []).getD j 0
theorem sV_of {g : GT} {A : Nat → Prop} {U : State} {H : Heap} {a v w : Nat} (hE : ES g A U H) (h : sV g a v w) : va_O "java/lang/String" a A U H ∧ va_OF "java/lang/String" "coder" "B" (.int 0) a A U H ∧ va_OF "java/lang/String" "value" "[B" (.ref v) a A U H ∧ va_T .byte v (slN w) (fun j => .int (chS w j)) A U H := by
  obtain ⟨hw, ⟨rfl, rfl⟩ | ⟨rfl, rfl⟩⟩ := h
  · exact hE.2.2.2.2.2.2.1.1 w hw
  · exact hE.2.2.2.2.2.2.2.1 w hw
theorem chS_ok : ∀ w, w < 10 → ∀ j, j < slN w → ((chS w j &&& 255).toUInt32 % 65536).toInt32 = chS w j ∧ narrow .char (.int (chS w j)) = .int (chS w j) := by decide +kernel
theorem slN_5 : ∀ w, w < 10 → slN w ≤ 5 := by decide +kernel
section VS
variable {K : KT} {l0 : Launch} {g0 : GT} {cc : ByteArray} {own : String} {nL0 : Nat} {rm : Room} {k n : Nat} {h : Hp} {pc pc1 : Nat} {lv : List (Nat × Value)} {st st0 : List Value}
theorem v_sval (X : Cx K l0 g0 cc own nL0 rm) {a v w idx : Nat} (hs : sV g0 a v w) (hw : Cond.fieldLink own idx "java/lang/String" "value" "[B" ∈ GW) (hd : DD cc pc (.getfield idx) 3 pc1) (kk : VJ K k n h pc1 lv (.ref v :: st)) : VJ K k n h pc lv (.ref a :: st) := by
  obtain ⟨p, l, e, R, s, m, args, below, meth, c, Q, nL, g, A⟩ := K
  obtain ⟨hx, hb, hml, hown, hts, hE, hA, hlk, rfl, rfl, rfl, rfl⟩ := X
  obtain ⟨hd, rfl⟩ := hd
  exact fun H locs ls h1 h2 h3 h4 => vk_getf hx hb (sV_of hE.2.2.2.2.2.2 hs).2.2.1 h3 hown (hts _ hw) (fun _ q => q) hd (kk H locs ls h1 h2 h3 h4)
theorem v_scod (X : Cx K l0 g0 cc own nL0 rm) {a v w idx : Nat} (hs : sV g0 a v w) (hw : Cond.fieldLink own idx "java/lang/String" "coder" "B" ∈ GW) (hd : DD cc pc (.getfield idx) 3 pc1) (kk : VJ K k n h pc1 lv (.int 0 :: st)) : VJ K k n h pc lv (.ref a :: st) := by
  obtain ⟨p, l, e, R, s, m, args, below, meth, c, Q, nL, g, A⟩ := K
  obtain ⟨hx, hb, hml, hown, hts, hE, hA, hlk, rfl, rfl, rfl, rfl⟩ := X
  obtain ⟨hd, rfl⟩ := hd
  exact fun H locs ls h1 h2 h3 h4 => vk_getf hx hb (sV_of hE.2.2.2.2.2.2 hs).2.1 h3 hown (hts _ hw) (fun _ q => q) hd (kk H locs ls h1 h2 h3 h4)
theorem v_comp (X : Cx K l0 g0 cc own nL0 rm) {idx : Nat} (hw : Cond.fieldLink own idx "java/lang/String" "COMPACT_STRINGS" "Z" ∈ GW) (hd : DD cc pc (.getstatic idx) 3 pc1) (kk : VJ K k n h pc1 lv (.int 1 :: st)) : VJ K k n h pc lv st := by
  obtain ⟨p, l, e, R, s, m, args, below, meth, c, Q, nL, g, A⟩ := K
  obtain ⟨hx, hb, hml, hown, hts, hE, hA, hlk, rfl, rfl, rfl, rfl⟩ := X
  obtain ⟨hd, rfl⟩ := hd
  exact fun H locs ls h1 h2 h3 h4 => va_gets hx hb hE.2.2.2.2.2.2.2.2.2.2.1 h3 hown (hts _ hw) (fun _ q => q) hd (kk H locs ls h1 h2 h3 h4)
theorem v_sio (X : Cx K l0 g0 cc own nL0 rm) {idx : Nat} (hw : Cond.fieldLink own idx "jdk/internal/util/Preconditions" "SIOOBE_FORMATTER" "Ljava/util/function/BiFunction;" ∈ GW) (hd : DD cc pc (.getstatic idx) 3 pc1) (kk : ∀ v : Value, (v = .null ∨ ∃ t, v = .ref t) → VJ K k n h pc1 lv (v :: st)) : VJ K k n h pc lv st := by
  obtain ⟨p, l, e, R, s, m, args, below, meth, c, Q, nL, g, A⟩ := K
  obtain ⟨hx, hb, hml, hown, hts, hE, hA, hlk, rfl, rfl, rfl, rfl⟩ := X
  obtain ⟨hd, rfl⟩ := hd
  intro H locs ls h1 h2 h3 h4
  rcases hE.2.2.2.2.2.2.2.2.2.2.2.1 with z | ⟨t, z⟩
  · exact va_gets hx hb z h3 hown (hts _ hw) (fun _ q => q) hd (kk _ (Or.inl rfl) H locs ls h1 h2 h3 h4)
  · exact va_gets hx hb z h3 hown (hts _ hw) (fun _ q => q) hd (kk _ (Or.inr ⟨t, rfl⟩) H locs ls h1 h2 h3 h4)
theorem v_slen (X : Cx K l0 g0 cc own nL0 rm) {a v w : Nat} (hs : sV g0 a v w) (hd : DD cc pc (.arraylength) 1 pc1) (kk : VJ K k n h pc1 lv (.int (nI (slN w)) :: st)) : VJ K k n h pc lv (.ref v :: st) := by
  obtain ⟨p, l, e, R, s, m, args, below, meth, c, Q, nL, g, A⟩ := K
  obtain ⟨hx, hb, hml, hown, hts, hE, hA, hlk, rfl, rfl, rfl, rfl⟩ := X
  obtain ⟨hd, rfl⟩ := hd
  exact fun H locs ls h1 h2 h3 h4 => va_tlen hx hb (sV_of hE.2.2.2.2.2.2 hs).2.2.2 h3 rfl hd (kk H locs ls h1 h2 h3 h4)
theorem v_sbyt (X : Cx K l0 g0 cc own nL0 rm) {a v w j : Nat} {x : Int32} (hs : sV g0 a v w) (hj : x = nI j) (hjl : j < slN w) (hd : DD cc pc (.baload) 1 pc1) (kk : VJ K k n h pc1 lv (.int (chS w j) :: st)) : VJ K k n h pc lv (.int x :: .ref v :: st) := by
  obtain ⟨p, l, e, R, s, m, args, below, meth, c, Q, nL, g, A⟩ := K
  obtain ⟨hx, hb, hml, hown, hts, hE, hA, hlk, rfl, rfl, rfl, rfl⟩ := X
  obtain ⟨hd, rfl⟩ := hd
  have h5 := slN_5 w hs.1
  exact fun H locs ls h1 h2 h3 h4 => va_tb hx hb (sV_of hE.2.2.2.2.2.2 hs).2.2.2 h3 (ix_in hj hjl (by omega)) (by rw [ix_cl hj (by omega)]) hd (kk H locs ls h1 h2 h3 h4)
theorem v_cVsi (X : Cx K l0 g0 cc own nL0 rm) {y : MethodName} {cc1 : ByteArray} {nL1 ar idx : Nat} {ret1 : Option FieldType} {rm1 : Room} {r : Int32} {b bv w : Nat} (av : List Value) (hy : y.cls = "java/lang/String") (hs : SV own idx y cc1 nL1 ret1 ar) (hM : MF l0 g0 y cc1 nL1 ret1 rm1 (.ref b :: av) h (some (.int r)) h) (hrc : sV g0 b bv w) (hd : DD cc pc (.invokevirtual idx) 3 pc1) (hst : st0 = av.reverse ++ .ref b :: st) (har : av.length = ar) (hrm : rm1.cells = 0 ∧ rm1.slots = 0) (hR : rm1.frames + 1 ≤ rm.frames ∧ 8 + (nL1 + 11) + rm1.locals ≤ rm.locals) (hf : k ≤ rm.cells ∧ n ≤ rm.slots) (hW : (st.map fun v => v.category).sum ≤ 8) (kk : VJ K k n h pc1 lv (.int r :: st)) : VJ K k n h pc lv st0 := by
  obtain ⟨p, l, e, R, s, m, args, below, meth, c, Q, nL, g, A⟩ := K
  obtain ⟨hx, hb, hml, hown, hts, hE, hA, hlk, rfl, rfl, rfl, rfl⟩ := X
  obtain ⟨hd, rfl⟩ := hd
  refine v_run hA (fun H locs ls h1 h2 h3 h4 => va_runV (C := y.cls) (As := av) (rest := st) ⟨hx, hb, hml, hown, hts⟩ (hM H.size) ⟨callB_of ar hts (gw_cons hs.2.2.2.2.1) rfl hrm.1 hrm.2 (hts _ hs.2.2.2.1) (hts _ hs.1) hs.2.2.2.2.2 hR, hts _ hs.2.1, hts _ hs.2.2.1⟩ ⟨mc_blind, (by
      obtain ⟨cell, q1, q2, q3, -⟩ := (sV_of hE.2.2.2.2.2.2 hrc).1.kept h3.2.1
      exact ⟨cell, q1, q2, by rw [hy]; exact q3⟩), fun U hU hW => ⟨rfl, by rw [hU], by rw [hU]; exact h1, hE.go h3 (fun q hq => by
      rcases hq with hq | hq
      · exact h2 q hq
      · exact hA q (Nat.le_trans h3.1 hq)) hU hW⟩⟩ rfl har h4.1 hst (lv_room hW) hd hf) (fun r hh q => by obtain ⟨rfl, rfl⟩ := q; exact kk)
end VS
set_option maxHeartbeats 4000000 in
set_option maxRecDepth 100000 in
theorem ct_J0_coder_7d493 (ll : Launch) (g : GT) {h : Hp} {a v w : Nat}  (hs : sV g a v w) : MF ll g yJ0_coder_7d493 cJ0_coder_7d493 1 (some .byte) (k2_rm 0 0) [.ref a] h (some (.int 0)) h := by
  refine mc_of (by decide) (Nat.le_of_ble_eq_true rfl) ?_
  intro K X r
  refine v_eqv (lv2 := [(0, .ref a)]) rfl ?_
  refine v_comp X gJ0_38 dJ0_coder_7d493_0 ?_
  refine v_if_eq X dJ0_coder_7d493_3 (tgt := 13) (by decide) (fun c => absurd c (by decide)) (fun _ => ?_)
  refine v_aload_n X dJ0_coder_7d493_6 0 rfl ?_
  refine v_scod X hs gJ0_15 dJ0_coder_7d493_7 ?_
  refine v_goto X dJ0_coder_7d493_10 (tgt := 14) (by decide) ?_
  exact v_zret X r dJ0_coder_7d493_14 rfl (Nat.le_refl _) (Nat.le_refl _) ⟨ri rfl, rfl⟩
set_option maxHeartbeats 4000000 in
set_option maxRecDepth 100000 in
theorem ct_J0_isLatin1_aae02 (ll : Launch) (g : GT) {h : Hp} {a v w : Nat}  (hs : sV g a v w) : MF ll g yJ0_isLatin1_aae02 cJ0_isLatin1_aae02 1 (some .boolean) (k2_rm 0 0) [.ref a] h (some (.int 1)) h := by
  refine mc_of (by decide) (Nat.le_of_ble_eq_true rfl) ?_
  intro K X r
  refine v_eqv (lv2 := [(0, .ref a)]) rfl ?_
  refine v_comp X gJ0_38 dJ0_isLatin1_aae02_0 ?_
  refine v_if_eq X dJ0_isLatin1_aae02_3 (tgt := 17) (by decide) (fun c => absurd c (by decide)) (fun _ => ?_)
  refine v_aload_n X dJ0_isLatin1_aae02_6 0 rfl ?_
  refine v_scod X hs gJ0_15 dJ0_isLatin1_aae02_7 ?_
  refine v_if_ne X dJ0_isLatin1_aae02_10 (tgt := 17) (by decide) (fun c => absurd c (by decide)) (fun _ => ?_)
  refine v_iconst X dJ0_isLatin1_aae02_13 (v := 1) (by decide) ?_
  refine v_goto X dJ0_isLatin1_aae02_14 (tgt := 18) (by decide) ?_
  exact v_zret X r dJ0_isLatin1_aae02_18 rfl (Nat.le_refl _) (Nat.le_refl _) ⟨ri rfl, rfl⟩
set_option maxHeartbeats 4000000 in
set_option maxRecDepth 100000 in
theorem ct_J0_length_8abf5 (ll : Launch) (g : GT) {h : Hp} {a v w : Nat}  (hs : sV g a v w) : MF ll g yJ0_length_8abf5 cJ0_length_8abf5 1 (some .int) (k2_rm 1 30) [.ref a] h (some (.int (nI (slN w)))) h := by
  refine mc_of (by decide) (Nat.le_of_ble_eq_true rfl) ?_
  intro K X r
  refine v_eqv (lv2 := [(0, .ref a)]) rfl ?_
  refine v_aload_n X dJ0_length_8abf5_0 0 rfl ?_
  refine v_sval X hs gJ0_9 dJ0_length_8abf5_1 ?_
  refine v_slen X hs dJ0_length_8abf5_4 ?_
  refine v_aload_n X dJ0_length_8abf5_5 0 rfl ?_
  refine v_cVsi X [] rfl sJ0_335 (ct_J0_coder_7d493 ll g hs) hs dJ0_length_8abf5_6 rfl rfl ⟨rfl, rfl⟩ ⟨(Nat.le_of_ble_eq_true rfl), (Nat.le_of_ble_eq_true rfl)⟩ ⟨Nat.zero_le _, Nat.zero_le _⟩ (Nat.le_of_ble_eq_true rfl) ?_
  refine v_ishr X dJ0_length_8abf5_9 ?_
  exact v_iret X r dJ0_length_8abf5_10 (Nat.le_refl _) (Nat.le_refl _) ⟨ri (sb_shr0 _), rfl⟩
set_option maxHeartbeats 4000000 in
set_option maxRecDepth 100000 in
theorem ct_J3_r (ll : Launch) (g : GT) {h : Hp} {x n : Int32} {z : Nat} (h0 : ¬ x < 0) (h1 : x < n) : MF ll g yJ3_checkIndex_8e157 cJ3_checkIndex_8e157 3 (some .int) (k2_rm 0 0) [.int x, .int n, .ref z] h (some (.int x)) h := by
  refine mc_of (by decide) (Nat.le_of_ble_eq_true rfl) ?_
  intro K X r
  refine v_eqv (lv2 := [(0, .int x), (1, .int n), (2, .ref z)]) rfl ?_
  refine v_iload_n X dJ3_checkIndex_8e157_0 0 rfl ?_
  refine v_if_lt X dJ3_checkIndex_8e157_1 (tgt := 9) (by decide) (fun c1 => ?_) (fun c1 => ?_)
  · exact absurd c1 h0
  · refine v_iload_n X dJ3_checkIndex_8e157_4 0 rfl ?_
    refine v_iload_n X dJ3_checkIndex_8e157_5 1 rfl ?_
    refine v_icmp_lt X dJ3_checkIndex_8e157_6 (tgt := 16) (by decide) (fun c2 => ?_) (fun c2 => ?_)
    · refine v_iload_n X dJ3_checkIndex_8e157_16 0 rfl ?_
      exact v_iret X r dJ3_checkIndex_8e157_17 (Nat.le_refl _) (Nat.le_refl _) ⟨ri rfl, rfl⟩
    · exact absurd h1 c2
set_option maxHeartbeats 4000000 in
set_option maxRecDepth 100000 in
theorem ct_J3_n (ll : Launch) (g : GT) {h : Hp} {x n : Int32}  (h0 : ¬ x < 0) (h1 : x < n) : MF ll g yJ3_checkIndex_8e157 cJ3_checkIndex_8e157 3 (some .int) (k2_rm 0 0) [.int x, .int n, .null] h (some (.int x)) h := by
  refine mc_of (by decide) (Nat.le_of_ble_eq_true rfl) ?_
  intro K X r
  refine v_eqv (lv2 := [(0, .int x), (1, .int n), (2, .null)]) rfl ?_
  refine v_iload_n X dJ3_checkIndex_8e157_0 0 rfl ?_
  refine v_if_lt X dJ3_checkIndex_8e157_1 (tgt := 9) (by decide) (fun c1 => ?_) (fun c1 => ?_)
  · exact absurd c1 h0
  · refine v_iload_n X dJ3_checkIndex_8e157_4 0 rfl ?_
    refine v_iload_n X dJ3_checkIndex_8e157_5 1 rfl ?_
    refine v_icmp_lt X dJ3_checkIndex_8e157_6 (tgt := 16) (by decide) (fun c2 => ?_) (fun c2 => ?_)
    · refine v_iload_n X dJ3_checkIndex_8e157_16 0 rfl ?_
      exact v_iret X r dJ3_checkIndex_8e157_17 (Nat.le_refl _) (Nat.le_refl _) ⟨ri rfl, rfl⟩
    · exact absurd h1 c2
theorem ct_J3_checkIndex_8e157 (ll : Launch) (g : GT) {h : Hp} {x n : Int32} {z : Value} (hz : z = .null ∨ ∃ t, z = .ref t) (h0 : ¬ x < 0) (h1 : x < n) : MF ll g yJ3_checkIndex_8e157 cJ3_checkIndex_8e157 3 (some .int) (k2_rm 0 0) [.int x, .int n, z] h (some (.int x)) h := by
  rcases hz with rfl | ⟨t, rfl⟩
  · exact ct_J3_n ll g h0 h1
  · exact ct_J3_r ll g h0 h1
set_option maxHeartbeats 4000000 in
set_option maxRecDepth 100000 in
theorem ct_J0_checkIndex_df160 (ll : Launch) (g : GT) {h : Hp} {x n : Int32} (h0 : ¬ x < 0) (h1 : x < n) : MF ll g yJ0_checkIndex_df160 cJ0_checkIndex_df160 2 none (k2_rm 1 40) [.int x, .int n] h none h := by
  refine mc_of (by decide) (Nat.le_of_ble_eq_true rfl) ?_
  intro K X r
  refine v_eqv (lv2 := [(0, .int x), (1, .int n)]) rfl ?_
  refine v_iload_n X dJ0_checkIndex_df160_0 0 rfl ?_
  refine v_iload_n X dJ0_checkIndex_df160_1 1 rfl ?_
  refine v_sio X gJ0_1053 dJ0_checkIndex_df160_2 (fun z hz => ?_)
  refine v_cSi X [.int x, .int n, z] sJ0_1059 (ct_J3_checkIndex_8e157 ll g hz h0 h1) dJ0_checkIndex_df160_5 rfl rfl ⟨rfl, rfl⟩ ⟨(Nat.le_of_ble_eq_true rfl), (Nat.le_of_ble_eq_true rfl)⟩ ⟨Nat.zero_le _, Nat.zero_le _⟩ (Nat.le_of_ble_eq_true rfl) ?_
  refine v_pop X dJ0_checkIndex_df160_8 rfl ?_
  exact v_vret X r dJ0_checkIndex_df160_9 (Nat.le_refl _) (Nat.le_refl _) ⟨rfl, rfl⟩
set_option maxHeartbeats 4000000 in
set_option maxRecDepth 100000 in
theorem ct_J1_charAt_3b067 (ll : Launch) (g : GT) {h : Hp} {a v w : Nat} {x : Int32} {j : Nat} (hs : sV g a v w) (hx : x = nI j) (hj : j < slN w) : MF ll g yJ1_charAt_3b067 cJ1_charAt_3b067 2 (some .char) (k2_rm 2 80) [.ref v, .int x] h (some (.int (chS w j))) h := by
  have hw5 := slN_5 w hs.1
  refine mc_of (by decide) (Nat.le_of_ble_eq_true rfl) ?_
  intro K X r
  refine v_eqv (lv2 := [(0, .ref v), (1, .int x)]) rfl ?_
  refine v_iload_n X dJ1_charAt_3b067_0 1 rfl ?_
  refine v_aload_n X dJ1_charAt_3b067_1 0 rfl ?_
  refine v_slen X hs dJ1_charAt_3b067_2 ?_
  refine v_cSv X [.int x, .int (nI (slN w))] sJ1_9 (ct_J0_checkIndex_df160 ll g (by rw [hx]; exact nI_pos (by omega)) (by rw [hx]; exact nI_lt hj (by omega))) dJ1_charAt_3b067_3 rfl rfl ⟨rfl, rfl⟩ ⟨(Nat.le_of_ble_eq_true rfl), (Nat.le_of_ble_eq_true rfl)⟩ ⟨Nat.zero_le _, Nat.zero_le _⟩ (Nat.le_of_ble_eq_true rfl) ?_
  refine v_aload_n X dJ1_charAt_3b067_6 0 rfl ?_
  refine v_iload_n X dJ1_charAt_3b067_7 1 rfl ?_
  refine v_sbyt X hs hx hj dJ1_charAt_3b067_8 ?_
  refine v_sipush X dJ1_charAt_3b067_9 (v := 255) (by decide) ?_
  refine v_iand X dJ1_charAt_3b067_12 ?_
  refine v_i2c X dJ1_charAt_3b067_13 ?_
  refine v_eqi (y := chS w j) (chS_ok w hs.1 j hj).1 ?_
  exact v_zret X r dJ1_charAt_3b067_14 (chS_ok w hs.1 j hj).2 (Nat.le_refl _) (Nat.le_refl _) ⟨ri rfl, rfl⟩
set_option maxHeartbeats 4000000 in
set_option maxRecDepth 100000 in
theorem ct_J0_charAt_5068e (ll : Launch) (g : GT) {h : Hp} {a v w : Nat} {x : Int32} {j : Nat} (hs : sV g a v w) (hx : x = nI j) (hj : j < slN w) : MF ll g yJ0_charAt_5068e cJ0_charAt_5068e 2 (some .char) (k2_rm 3 120) [.ref a, .int x] h (some (.int (chS w j))) h := by
  refine mc_of (by decide) (Nat.le_of_ble_eq_true rfl) ?_
  intro K X r
  refine v_eqv (lv2 := [(0, .ref a), (1, .int x)]) rfl ?_
  refine v_aload_n X dJ0_charAt_5068e_0 0 rfl ?_
  refine v_cVsi X [] rfl sJ0_492 (ct_J0_isLatin1_aae02 ll g hs) hs dJ0_charAt_5068e_1 rfl rfl ⟨rfl, rfl⟩ ⟨(Nat.le_of_ble_eq_true rfl), (Nat.le_of_ble_eq_true rfl)⟩ ⟨Nat.zero_le _, Nat.zero_le _⟩ (Nat.le_of_ble_eq_true rfl) ?_
  refine v_if_eq X dJ0_charAt_5068e_4 (tgt := 16) (by decide) (fun c => absurd c (by decide)) (fun _ => ?_)
  refine v_aload_n X dJ0_charAt_5068e_7 0 rfl ?_
  refine v_sval X hs gJ0_9 dJ0_charAt_5068e_8 ?_
  refine v_iload_n X dJ0_charAt_5068e_11 1 rfl ?_
  refine v_cSi X [.ref v, .int x] sJ0_495 (ct_J1_charAt_3b067 ll g hs hx hj) dJ0_charAt_5068e_12 rfl rfl ⟨rfl, rfl⟩ ⟨(Nat.le_of_ble_eq_true rfl), (Nat.le_of_ble_eq_true rfl)⟩ ⟨Nat.zero_le _, Nat.zero_le _⟩ (Nat.le_of_ble_eq_true rfl) ?_
  exact v_zret X r dJ0_charAt_5068e_15 (chS_ok w hs.1 j hj).2 (Nat.le_refl _) (Nat.le_refl _) ⟨ri rfl, rfl⟩
