/-! ===== a tick of the reference ===== -/
theorem ct_X8_stepsE (ll : Launch) (g : GT) {h : Hp} {a : Nat} {m : Nat → Int32} {x : Int32} {sd p : Nat} (s : Int32) {z ft rc sl : Int32} (ha : h a = some (ai g 260 m)) (hx : x = nI sd) (hs : sd < 2) (hp : m (3 + sd) = nI p) (hp8 : p < 8) (hz : m 8 = z) (hft : m (16 + sd) = ft) (hrc : told m p 3 = rc) (hsl : m 14 = sl) : MF ll g yX8_steps cX8_steps 3 none (k2_rm 2 60) [.ref a, .int x, .int s] h none (hU h a (ai g 260 (upd (upd m 8 (zN z)) (16 + sd) (feetS ft s rc (zN z) sl)))) := by
  subst hz hft hrc hsl; exact ct_X8_steps ll g s ha hx hs hp hp8
theorem ct_X8_fallsE (ll : Launch) (g : GT) {h : Hp} {a : Nat} {m : Nat → Int32} {x : Int32} {sd : Nat} {tn ft ln li : Int32} (ha : h a = some (ai g 260 m)) (hx : x = nI sd) (hs : sd < 2) (htn : m 5 = tn) (hft : m (16 + sd) = ft) (hln : m (18 + sd) = ln) (hli : m 13 = li) : MF ll g yX8_falls cX8_falls 2 (some .boolean) (k2_rm 1 30) [.ref a, .int x] h (some (.int (bI (li < szS (swayS ln tn ft))))) (hU h a (ai g 260 (upd m (18 + sd) (swayS ln tn ft)))) := by
  subst htn hft hln hli; exact ct_X8_falls ll g ha hx hs
set_option maxHeartbeats 4000000 in
set_option maxRecDepth 100000 in
theorem ct_X8_goesBy (ll : Launch) (g : GT) {h : Hp} {a : Nat} {m : Nat → Int32} {p0 p1 T : Nat} (ha : h a = some (ai g 260 m)) (hp0 : m 3 = nI p0) (hp1 : m 4 = nI p1) (h08 : p0 < 8) (h18 : p1 < 8) (hT : m 6 = nI T) (hT31 : T < 2 ^ 31) (hw0 : wayOk m p0) (hw1 : wayOk m p1) (hdv : ¬ m 10 * m 10 + told m p0 1 + told m p1 1 = 0) : MF ll g yX8_goesBy cX8_goesBy 8 (some .int) (k2_rm 3 120) [.ref a] h (some (.int (gbO m p0 p1))) (hU h a (ai g 260 (gbA m p0 p1 T))) := by
  refine mc_of (by decide) (Nat.le_of_ble_eq_true rfl) ?_
  intro K X r
  refine v_eqv (lv2 := [(0, .ref a)]) rfl ?_
  refine v_aload_n X dX8_goesBy_0 0 rfl ?_
  refine v_iconst X dX8_goesBy_1 (v := 0) (by decide) ?_
  refine v_cSi X [.ref a, .int 0] sX8_104 (ct_X8_sees (sd := 0) ll g  ha (rfl : (0 : Int32) = nI 0) (by decide) hp0 h08) dX8_goesBy_2 rfl rfl ⟨rfl, rfl⟩ ⟨(Nat.le_of_ble_eq_true rfl), (Nat.le_of_ble_eq_true rfl)⟩ ⟨Nat.zero_le _, Nat.zero_le _⟩ (Nat.le_of_ble_eq_true rfl) ?_
  refine v_istore_n (lv1 := [(1, .int (seesM m p0)), (0, .ref a)]) X dX8_goesBy_5 (by decide) rfl ?_
  refine v_aload_n X dX8_goesBy_6 1 rfl ?_
  refine v_iconst X dX8_goesBy_7 (v := 1) (by decide) ?_
  refine v_cSi X [.ref a, .int 1] sX8_104 (ct_X8_sees (sd := 1) ll g  ha (rfl : (1 : Int32) = nI 1) (by decide) hp1 h18) dX8_goesBy_8 rfl rfl ⟨rfl, rfl⟩ ⟨(Nat.le_of_ble_eq_true rfl), (Nat.le_of_ble_eq_true rfl)⟩ ⟨Nat.zero_le _, Nat.zero_le _⟩ (Nat.le_of_ble_eq_true rfl) ?_
  refine v_istore_n (lv1 := [(2, .int (seesM m p1)), (1, .int (seesM m p0)), (0, .ref a)]) X dX8_goesBy_11 (by decide) rfl ?_
  refine v_aload_n X dX8_goesBy_12 2 rfl ?_
  refine v_iconst X dX8_goesBy_13 (v := 0) (by decide) ?_
  refine v_cSi X [.ref a, .int 0] sX8_116 (ct_X8_pushes (sd := 0) ll g  ha (rfl : (0 : Int32) = nI 0) (by decide) hp0 h08 hw0) dX8_goesBy_14 rfl rfl ⟨rfl, rfl⟩ ⟨(Nat.le_of_ble_eq_true rfl), (Nat.le_of_ble_eq_true rfl)⟩ ⟨Nat.zero_le _, Nat.zero_le _⟩ (Nat.le_of_ble_eq_true rfl) ?_
  refine v_istore_n (lv1 := [(3, .int (pushesM m p0 0)), (2, .int (seesM m p1)), (1, .int (seesM m p0)), (0, .ref a)]) X dX8_goesBy_17 (by decide) rfl ?_
  refine v_aload_n X dX8_goesBy_18 3 rfl ?_
  refine v_iconst X dX8_goesBy_19 (v := 1) (by decide) ?_
  refine v_cSi X [.ref a, .int 1] sX8_116 (ct_X8_pushes (sd := 1) ll g  ha (rfl : (1 : Int32) = nI 1) (by decide) hp1 h18 hw1) dX8_goesBy_20 rfl rfl ⟨rfl, rfl⟩ ⟨(Nat.le_of_ble_eq_true rfl), (Nat.le_of_ble_eq_true rfl)⟩ ⟨Nat.zero_le _, Nat.zero_le _⟩ (Nat.le_of_ble_eq_true rfl) ?_
  refine v_istore (lv1 := [(4, .int (pushesM m p1 1)), (3, .int (pushesM m p0 0)), (2, .int (seesM m p1)), (1, .int (seesM m p0)), (0, .ref a)]) X dX8_goesBy_23 (by decide) rfl ?_
  refine v_aload_n X dX8_goesBy_25 4 rfl ?_
  refine v_bipush X dX8_goesBy_26 (v := 20) (by decide) ?_
  refine v_dup2 X dX8_goesBy_28 rfl rfl ?_
  refine v_ialdK X 20 ha (rfl : (20 : Int32) = nI 20) (by decide) (by decide) dX8_goesBy_29 ?_
  refine v_iload_n X dX8_goesBy_30 1 rfl ?_
  refine v_cSi X [.int (pushesM m p0 0)] sX8_108 (ct_X8_costOf ll g (pushesM m p0 0)) dX8_goesBy_31 rfl rfl ⟨rfl, rfl⟩ ⟨(Nat.le_of_ble_eq_true rfl), (Nat.le_of_ble_eq_true rfl)⟩ ⟨Nat.zero_le _, Nat.zero_le _⟩ (Nat.le_of_ble_eq_true rfl) ?_
  refine v_isub X dX8_goesBy_34 ?_
  refine v_iastK (h2 := (hU h a (ai g 260 (upd m 20 ((m 20) - (costM (pushesM m p0 0))))))) X 20 ha (rfl : (20 : Int32) = nI 20) (by decide) (by decide) dX8_goesBy_35 rfl ?_
  refine v_aload_n X dX8_goesBy_36 4 rfl ?_
  refine v_bipush X dX8_goesBy_37 (v := 21) (by decide) ?_
  refine v_dup2 X dX8_goesBy_39 rfl rfl ?_
  refine v_ialdK X 21 hU_s (rfl : (21 : Int32) = nI 21) (by decide) (by decide) dX8_goesBy_40 ?_
  refine v_eqi (y := m 21) (pk_un (by decide)) ?_
  refine v_iload X dX8_goesBy_41 0 rfl ?_
  refine v_cSi X [.int (pushesM m p1 1)] sX8_108 (ct_X8_costOf ll g (pushesM m p1 1)) dX8_goesBy_43 rfl rfl ⟨rfl, rfl⟩ ⟨(Nat.le_of_ble_eq_true rfl), (Nat.le_of_ble_eq_true rfl)⟩ ⟨Nat.zero_le _, Nat.zero_le _⟩ (Nat.le_of_ble_eq_true rfl) ?_
  refine v_isub X dX8_goesBy_46 ?_
  refine v_iastK (h2 := (hU h a (ai g 260 (upd (upd m 20 ((m 20) - (costM (pushesM m p0 0)))) 21 ((m 21) - (costM (pushesM m p1 1))))))) X 21 hU_s (rfl : (21 : Int32) = nI 21) (by decide) (by decide) dX8_goesBy_47 hU_u ?_
  refine v_aload_n X dX8_goesBy_48 4 rfl ?_
  refine v_aload_n X dX8_goesBy_49 4 rfl ?_
  refine v_iconst X dX8_goesBy_50 (v := 3) (by decide) ?_
  refine v_ialdK X 3 hU_s (rfl : (3 : Int32) = nI 3) (by decide) (by decide) dX8_goesBy_51 ?_
  refine v_eqi (y := m 3) (Eq.trans (pk_un (by decide)) (pk_un (by decide))) ?_
  refine v_iconst X dX8_goesBy_52 (v := 1) (by decide) ?_
  refine v_cSi X [.ref a, .int (m 3), .int 1] sX8_74 (ct_X8_told (p := p0) (w := 1) ll g  hU_s hp0 (rfl : (1 : Int32) = nI 1) (by omega)) dX8_goesBy_53 rfl rfl ⟨rfl, rfl⟩ ⟨(Nat.le_of_ble_eq_true rfl), (Nat.le_of_ble_eq_true rfl)⟩ ⟨Nat.zero_le _, Nat.zero_le _⟩ (Nat.le_of_ble_eq_true rfl) ?_
  refine v_eqi (y := told (upd m 20 ((m 20) - (costM (pushesM m p0 0)))) p0 1) (told_lo (by omega)) ?_
  refine v_eqi (y := told m p0 1) (told_lo (by omega)) ?_
  refine v_istore (lv1 := [(5, .int (told m p0 1)), (4, .int (pushesM m p1 1)), (3, .int (pushesM m p0 0)), (2, .int (seesM m p1)), (1, .int (seesM m p0)), (0, .ref a)]) X dX8_goesBy_56 (by decide) rfl ?_
  refine v_aload_n X dX8_goesBy_58 5 rfl ?_
  refine v_aload_n X dX8_goesBy_59 5 rfl ?_
  refine v_iconst X dX8_goesBy_60 (v := 4) (by decide) ?_
  refine v_ialdK X 4 hU_s (rfl : (4 : Int32) = nI 4) (by decide) (by decide) dX8_goesBy_61 ?_
  refine v_eqi (y := m 4) (Eq.trans (pk_un (by decide)) (pk_un (by decide))) ?_
  refine v_iconst X dX8_goesBy_62 (v := 1) (by decide) ?_
  refine v_cSi X [.ref a, .int (m 4), .int 1] sX8_74 (ct_X8_told (p := p1) (w := 1) ll g  hU_s hp1 (rfl : (1 : Int32) = nI 1) (by omega)) dX8_goesBy_63 rfl rfl ⟨rfl, rfl⟩ ⟨(Nat.le_of_ble_eq_true rfl), (Nat.le_of_ble_eq_true rfl)⟩ ⟨Nat.zero_le _, Nat.zero_le _⟩ (Nat.le_of_ble_eq_true rfl) ?_
  refine v_eqi (y := told (upd m 20 ((m 20) - (costM (pushesM m p0 0)))) p1 1) (told_lo (by omega)) ?_
  refine v_eqi (y := told m p1 1) (told_lo (by omega)) ?_
  refine v_istore (lv1 := [(6, .int (told m p1 1)), (5, .int (told m p0 1)), (4, .int (pushesM m p1 1)), (3, .int (pushesM m p0 0)), (2, .int (seesM m p1)), (1, .int (seesM m p0)), (0, .ref a)]) X dX8_goesBy_66 (by decide) rfl ?_
  refine v_aload_n X dX8_goesBy_68 6 rfl ?_
  refine v_bipush X dX8_goesBy_69 (v := 24) (by decide) ?_
  refine v_aload_n X dX8_goesBy_71 6 rfl ?_
  refine v_bipush X dX8_goesBy_72 (v := 6) (by decide) ?_
  refine v_ialdK X 6 hU_s (rfl : (6 : Int32) = nI 6) (by decide) (by decide) dX8_goesBy_74 ?_
  refine v_eqi (y := m 6) (Eq.trans (pk_un (by decide)) (pk_un (by decide))) ?_
  refine v_bipush X dX8_goesBy_75 (v := 10) (by decide) ?_
  refine v_irem X dX8_goesBy_77 (by decide) ?_
  refine v_iadd X dX8_goesBy_78 ?_
  refine v_aload_n X dX8_goesBy_79 6 rfl ?_
  refine v_iconst X dX8_goesBy_80 (v := 5) (by decide) ?_
  refine v_ialdK X 5 hU_s (rfl : (5 : Int32) = nI 5) (by decide) (by decide) dX8_goesBy_81 ?_
  refine v_eqi (y := m 5) (Eq.trans (pk_un (by decide)) (pk_un (by decide))) ?_
  refine v_iastK (h2 := (hU h a (ai g 260 (upd (upd (upd m 20 ((m 20) - (costM (pushesM m p0 0)))) 21 ((m 21) - (costM (pushesM m p1 1)))) (24 + (T % 10)) (m 5))))) X (24 + (T % 10)) hU_s (ix_add (rfl : (24 : Int32) = nI 24) (ix_rem hT (rfl : (10 : Int32) = nI 10) hT31 (by decide) (by decide))) (by omega) (by decide) dX8_goesBy_82 hU_u ?_
  refine v_aload_n X dX8_goesBy_83 6 rfl ?_
  refine v_iconst X dX8_goesBy_84 (v := 5) (by decide) ?_
  refine v_dup2 X dX8_goesBy_85 rfl rfl ?_
  refine v_ialdK X 5 hU_s (rfl : (5 : Int32) = nI 5) (by decide) (by decide) dX8_goesBy_86 ?_
  refine v_eqi (y := m 5) (Eq.trans (Eq.trans (pk_un (by omega)) (pk_un (by decide))) (pk_un (by decide))) ?_
  refine v_iload_n X dX8_goesBy_87 3 rfl ?_
  refine v_iload X dX8_goesBy_88 1 rfl ?_
  refine v_imul X dX8_goesBy_90 ?_
  refine v_iload X dX8_goesBy_91 2 rfl ?_
  refine v_iload X dX8_goesBy_93 0 rfl ?_
  refine v_imul X dX8_goesBy_95 ?_
  refine v_iadd X dX8_goesBy_96 ?_
  refine v_aload_n X dX8_goesBy_97 6 rfl ?_
  refine v_bipush X dX8_goesBy_98 (v := 10) (by decide) ?_
  refine v_ialdK X 10 hU_s (rfl : (10 : Int32) = nI 10) (by decide) (by decide) dX8_goesBy_100 ?_
  refine v_eqi (y := m 10) (Eq.trans (Eq.trans (pk_un (by omega)) (pk_un (by decide))) (pk_un (by decide))) ?_
  refine v_aload_n X dX8_goesBy_101 6 rfl ?_
  refine v_bipush X dX8_goesBy_102 (v := 10) (by decide) ?_
  refine v_ialdK X 10 hU_s (rfl : (10 : Int32) = nI 10) (by decide) (by decide) dX8_goesBy_104 ?_
  refine v_eqi (y := m 10) (Eq.trans (Eq.trans (pk_un (by omega)) (pk_un (by decide))) (pk_un (by decide))) ?_
  refine v_imul X dX8_goesBy_105 ?_
  refine v_iload X dX8_goesBy_106 1 rfl ?_
  refine v_iadd X dX8_goesBy_108 ?_
  refine v_iload X dX8_goesBy_109 0 rfl ?_
  refine v_iadd X dX8_goesBy_111 ?_
  refine v_idiv X dX8_goesBy_112 hdv ?_
  refine v_iadd X dX8_goesBy_113 ?_
  refine v_iastK (h2 := (hU h a (ai g 260 (upd (upd (upd (upd m 20 ((m 20) - (costM (pushesM m p0 0)))) 21 ((m 21) - (costM (pushesM m p1 1)))) (24 + (T % 10)) (m 5)) 5 ((m 5) + ((((pushesM m p0 0) * (told m p0 1)) + ((pushesM m p1 1) * (told m p1 1))) / ((((m 10) * (m 10)) + (told m p0 1)) + (told m p1 1)))))))) X 5 hU_s (rfl : (5 : Int32) = nI 5) (by decide) (by decide) dX8_goesBy_114 hU_u ?_
  refine v_aload_n X dX8_goesBy_115 6 rfl ?_
  refine v_iconst X dX8_goesBy_116 (v := 5) (by decide) ?_
  refine v_dup2 X dX8_goesBy_117 rfl rfl ?_
  refine v_ialdK X 5 hU_s (rfl : (5 : Int32) = nI 5) (by decide) (by decide) dX8_goesBy_118 ?_
  refine v_eqi (y := (m 5) + ((((pushesM m p0 0) * (told m p0 1)) + ((pushesM m p1 1) * (told m p1 1))) / ((((m 10) * (m 10)) + (told m p0 1)) + (told m p1 1)))) pk_us ?_
  refine v_aload_n X dX8_goesBy_119 6 rfl ?_
  refine v_iconst X dX8_goesBy_120 (v := 5) (by decide) ?_
  refine v_ialdK X 5 hU_s (rfl : (5 : Int32) = nI 5) (by decide) (by decide) dX8_goesBy_121 ?_
  refine v_eqi (y := (m 5) + ((((pushesM m p0 0) * (told m p0 1)) + ((pushesM m p1 1) * (told m p1 1))) / ((((m 10) * (m 10)) + (told m p0 1)) + (told m p1 1)))) pk_us ?_
  refine v_aload_n X dX8_goesBy_122 6 rfl ?_
  refine v_bipush X dX8_goesBy_123 (v := 11) (by decide) ?_
  refine v_ialdK X 11 hU_s (rfl : (11 : Int32) = nI 11) (by decide) (by decide) dX8_goesBy_125 ?_
  refine v_eqi (y := m 11) (Eq.trans (Eq.trans (Eq.trans (pk_un (by decide)) (pk_un (by omega))) (pk_un (by decide))) (pk_un (by decide))) ?_
  refine v_aload_n X dX8_goesBy_126 6 rfl ?_
  refine v_bipush X dX8_goesBy_127 (v := 12) (by decide) ?_
  refine v_ialdK X 12 hU_s (rfl : (12 : Int32) = nI 12) (by decide) (by decide) dX8_goesBy_129 ?_
  refine v_eqi (y := m 12) (Eq.trans (Eq.trans (Eq.trans (pk_un (by decide)) (pk_un (by omega))) (pk_un (by decide))) (pk_un (by decide))) ?_
  refine v_iadd X dX8_goesBy_130 ?_
  refine v_imul X dX8_goesBy_131 ?_
  refine v_bipush X dX8_goesBy_132 (v := 100) (by decide) ?_
  refine v_idiv X dX8_goesBy_134 (by decide) ?_
  refine v_isub X dX8_goesBy_135 ?_
  refine v_iastK (h2 := (hU h a (ai g 260 (upd (upd (upd (upd m 20 ((m 20) - (costM (pushesM m p0 0)))) 21 ((m 21) - (costM (pushesM m p1 1)))) (24 + (T % 10)) (m 5)) 5 (((m 5) + ((((pushesM m p0 0) * (told m p0 1)) + ((pushesM m p1 1) * (told m p1 1))) / ((((m 10) * (m 10)) + (told m p0 1)) + (told m p1 1)))) - ((((m 5) + ((((pushesM m p0 0) * (told m p0 1)) + ((pushesM m p1 1) * (told m p1 1))) / ((((m 10) * (m 10)) + (told m p0 1)) + (told m p1 1)))) * ((m 11) + (m 12))) / 100)))))) X 5 hU_s (rfl : (5 : Int32) = nI 5) (by decide) (by decide) dX8_goesBy_136 (by rw [upd_uu]; exact hU_u) ?_
  refine v_aload_n X dX8_goesBy_137 6 rfl ?_
  refine v_iconst X dX8_goesBy_138 (v := 0) (by decide) ?_
  refine v_iload_n X dX8_goesBy_139 5 rfl ?_
  refine v_cSv X [.ref a, .int 0, .int (seesM m p0)] sX8_119 (ct_X8_stepsE (sd := 0) (p := p0) ll g (seesM m p0) hU_s (rfl : (0 : Int32) = nI 0) (by decide) (Eq.trans (Eq.trans (Eq.trans (Eq.trans (pk_un (by decide)) (pk_un (by omega))) (pk_un (by decide))) (pk_un (by decide))) hp0) (by omega) (Eq.trans (Eq.trans (Eq.trans (pk_un (by decide)) (pk_un (by omega))) (pk_un (by decide))) (pk_un (by decide))) (Eq.trans (Eq.trans (Eq.trans (pk_un (by decide)) (pk_un (by omega))) (pk_un (by decide))) (pk_un (by decide))) (Eq.trans (Eq.trans (Eq.trans (told_lo (by omega)) (told_lo (by omega))) (told_lo (by omega))) (told_lo (by omega))) (Eq.trans (Eq.trans (Eq.trans (pk_un (by decide)) (pk_un (by omega))) (pk_un (by decide))) (pk_un (by decide)))) dX8_goesBy_140 rfl rfl ⟨rfl, rfl⟩ ⟨(Nat.le_of_ble_eq_true rfl), (Nat.le_of_ble_eq_true rfl)⟩ ⟨Nat.zero_le _, Nat.zero_le _⟩ (Nat.le_of_ble_eq_true rfl) ?_
  refine v_eqh (h2 := (hU h a (ai g 260 (upd (upd (upd (upd (upd (upd m 20 ((m 20) - (costM (pushesM m p0 0)))) 21 ((m 21) - (costM (pushesM m p1 1)))) (24 + (T % 10)) (m 5)) 5 (((m 5) + ((((pushesM m p0 0) * (told m p0 1)) + ((pushesM m p1 1) * (told m p1 1))) / ((((m 10) * (m 10)) + (told m p0 1)) + (told m p1 1)))) - ((((m 5) + ((((pushesM m p0 0) * (told m p0 1)) + ((pushesM m p1 1) * (told m p1 1))) / ((((m 10) * (m 10)) + (told m p0 1)) + (told m p1 1)))) * ((m 11) + (m 12))) / 100))) 8 (zN (m 8))) 16 (feetS (m 16) (seesM m p0) (told m p0 3) (zN (m 8)) (m 14)))))) hU_u ?_
  refine v_aload_n X dX8_goesBy_143 6 rfl ?_
  refine v_iconst X dX8_goesBy_144 (v := 1) (by decide) ?_
  refine v_iload_n X dX8_goesBy_145 4 rfl ?_
  refine v_cSv X [.ref a, .int 1, .int (seesM m p1)] sX8_119 (ct_X8_stepsE (sd := 1) (p := p1) ll g (seesM m p1) hU_s (rfl : (1 : Int32) = nI 1) (by decide) (Eq.trans (Eq.trans (Eq.trans (Eq.trans (Eq.trans (Eq.trans (pk_un (by decide)) (pk_un (by decide))) (pk_un (by decide))) (pk_un (by omega))) (pk_un (by decide))) (pk_un (by decide))) hp1) (by omega) (Eq.trans (pk_un (by decide)) pk_us) (Eq.trans (Eq.trans (Eq.trans (Eq.trans (Eq.trans (pk_un (by decide)) (pk_un (by decide))) (pk_un (by decide))) (pk_un (by omega))) (pk_un (by decide))) (pk_un (by decide))) (Eq.trans (Eq.trans (Eq.trans (Eq.trans (Eq.trans (told_lo (by omega)) (told_lo (by omega))) (told_lo (by omega))) (told_lo (by omega))) (told_lo (by omega))) (told_lo (by omega))) (Eq.trans (Eq.trans (Eq.trans (Eq.trans (Eq.trans (pk_un (by decide)) (pk_un (by decide))) (pk_un (by decide))) (pk_un (by omega))) (pk_un (by decide))) (pk_un (by decide)))) dX8_goesBy_146 rfl rfl ⟨rfl, rfl⟩ ⟨(Nat.le_of_ble_eq_true rfl), (Nat.le_of_ble_eq_true rfl)⟩ ⟨Nat.zero_le _, Nat.zero_le _⟩ (Nat.le_of_ble_eq_true rfl) ?_
  refine v_eqh (h2 := (hU h a (ai g 260 (upd (upd (upd (upd (upd (upd (upd (upd m 20 ((m 20) - (costM (pushesM m p0 0)))) 21 ((m 21) - (costM (pushesM m p1 1)))) (24 + (T % 10)) (m 5)) 5 (((m 5) + ((((pushesM m p0 0) * (told m p0 1)) + ((pushesM m p1 1) * (told m p1 1))) / ((((m 10) * (m 10)) + (told m p0 1)) + (told m p1 1)))) - ((((m 5) + ((((pushesM m p0 0) * (told m p0 1)) + ((pushesM m p1 1) * (told m p1 1))) / ((((m 10) * (m 10)) + (told m p0 1)) + (told m p1 1)))) * ((m 11) + (m 12))) / 100))) 8 (zN (m 8))) 16 (feetS (m 16) (seesM m p0) (told m p0 3) (zN (m 8)) (m 14))) 8 (zN (zN (m 8)))) 17 (feetS (m 17) (seesM m p1) (told m p1 3) (zN (zN (m 8))) (m 14)))))) hU_u ?_
  refine v_aload_n X dX8_goesBy_149 6 rfl ?_
  refine v_iconst X dX8_goesBy_150 (v := 0) (by decide) ?_
  refine v_cSi X [.ref a, .int 0] sX8_123 (ct_X8_fallsE (sd := 0) ll g hU_s (rfl : (0 : Int32) = nI 0) (by decide) (Eq.trans (Eq.trans (Eq.trans (Eq.trans (pk_un (by decide)) (pk_un (by decide))) (pk_un (by decide))) (pk_un (by decide))) pk_us) (Eq.trans (Eq.trans (pk_un (by decide)) (pk_un (by decide))) pk_us) (Eq.trans (Eq.trans (Eq.trans (Eq.trans (Eq.trans (Eq.trans (Eq.trans (pk_un (by decide)) (pk_un (by decide))) (pk_un (by decide))) (pk_un (by decide))) (pk_un (by decide))) (pk_un (by omega))) (pk_un (by decide))) (pk_un (by decide))) (Eq.trans (Eq.trans (Eq.trans (Eq.trans (Eq.trans (Eq.trans (Eq.trans (pk_un (by decide)) (pk_un (by decide))) (pk_un (by decide))) (pk_un (by decide))) (pk_un (by decide))) (pk_un (by omega))) (pk_un (by decide))) (pk_un (by decide)))) dX8_goesBy_151 rfl rfl ⟨rfl, rfl⟩ ⟨(Nat.le_of_ble_eq_true rfl), (Nat.le_of_ble_eq_true rfl)⟩ ⟨Nat.zero_le _, Nat.zero_le _⟩ (Nat.le_of_ble_eq_true rfl) ?_
  refine v_eqh (h2 := (hU h a (ai g 260 (upd (upd (upd (upd (upd (upd (upd (upd (upd m 20 ((m 20) - (costM (pushesM m p0 0)))) 21 ((m 21) - (costM (pushesM m p1 1)))) (24 + (T % 10)) (m 5)) 5 (((m 5) + ((((pushesM m p0 0) * (told m p0 1)) + ((pushesM m p1 1) * (told m p1 1))) / ((((m 10) * (m 10)) + (told m p0 1)) + (told m p1 1)))) - ((((m 5) + ((((pushesM m p0 0) * (told m p0 1)) + ((pushesM m p1 1) * (told m p1 1))) / ((((m 10) * (m 10)) + (told m p0 1)) + (told m p1 1)))) * ((m 11) + (m 12))) / 100))) 8 (zN (m 8))) 16 (feetS (m 16) (seesM m p0) (told m p0 3) (zN (m 8)) (m 14))) 8 (zN (zN (m 8)))) 17 (feetS (m 17) (seesM m p1) (told m p1 3) (zN (zN (m 8))) (m 14))) 18 (swayS (m 18) (((m 5) + ((((pushesM m p0 0) * (told m p0 1)) + ((pushesM m p1 1) * (told m p1 1))) / ((((m 10) * (m 10)) + (told m p0 1)) + (told m p1 1)))) - ((((m 5) + ((((pushesM m p0 0) * (told m p0 1)) + ((pushesM m p1 1) * (told m p1 1))) / ((((m 10) * (m 10)) + (told m p0 1)) + (told m p1 1)))) * ((m 11) + (m 12))) / 100)) (feetS (m 16) (seesM m p0) (told m p0 3) (zN (m 8)) (m 14))))))) hU_u ?_
  have J1 : VJ K 0 0 (hU h a (ai g 260 (upd (upd (upd (upd (upd (upd (upd (upd (upd m 20 ((m 20) - (costM (pushesM m p0 0)))) 21 ((m 21) - (costM (pushesM m p1 1)))) (24 + (T % 10)) (m 5)) 5 (((m 5) + ((((pushesM m p0 0) * (told m p0 1)) + ((pushesM m p1 1) * (told m p1 1))) / ((((m 10) * (m 10)) + (told m p0 1)) + (told m p1 1)))) - ((((m 5) + ((((pushesM m p0 0) * (told m p0 1)) + ((pushesM m p1 1) * (told m p1 1))) / ((((m 10) * (m 10)) + (told m p0 1)) + (told m p1 1)))) * ((m 11) + (m 12))) / 100))) 8 (zN (m 8))) 16 (feetS (m 16) (seesM m p0) (told m p0 3) (zN (m 8)) (m 14))) 8 (zN (zN (m 8)))) 17 (feetS (m 17) (seesM m p1) (told m p1 3) (zN (zN (m 8))) (m 14))) 18 (swayS (m 18) (((m 5) + ((((pushesM m p0 0) * (told m p0 1)) + ((pushesM m p1 1) * (told m p1 1))) / ((((m 10) * (m 10)) + (told m p0 1)) + (told m p1 1)))) - ((((m 5) + ((((pushesM m p0 0) * (told m p0 1)) + ((pushesM m p1 1) * (told m p1 1))) / ((((m 10) * (m 10)) + (told m p0 1)) + (told m p1 1)))) * ((m 11) + (m 12))) / 100)) (feetS (m 16) (seesM m p0) (told m p0 3) (zN (m 8)) (m 14)))))) 162 [(6, .int (told m p1 1)), (5, .int (told m p0 1)), (4, .int (pushesM m p1 1)), (3, .int (pushesM m p0 0)), (2, .int (seesM m p1)), (1, .int (seesM m p0)), (0, .ref a)] [.int (bI (m 13 < szS (swayS (m 18) (((m 5) + ((((pushesM m p0 0) * (told m p0 1)) + ((pushesM m p1 1) * (told m p1 1))) / ((((m 10) * (m 10)) + (told m p0 1)) + (told m p1 1)))) - ((((m 5) + ((((pushesM m p0 0) * (told m p0 1)) + ((pushesM m p1 1) * (told m p1 1))) / ((((m 10) * (m 10)) + (told m p0 1)) + (told m p1 1)))) * ((m 11) + (m 12))) / 100)) (feetS (m 16) (seesM m p0) (told m p0 3) (zN (m 8)) (m 14)))))] := by
    refine v_istore (lv1 := [(7, .int (bI (m 13 < szS (swayS (m 18) (((m 5) + ((((pushesM m p0 0) * (told m p0 1)) + ((pushesM m p1 1) * (told m p1 1))) / ((((m 10) * (m 10)) + (told m p0 1)) + (told m p1 1)))) - ((((m 5) + ((((pushesM m p0 0) * (told m p0 1)) + ((pushesM m p1 1) * (told m p1 1))) / ((((m 10) * (m 10)) + (told m p0 1)) + (told m p1 1)))) * ((m 11) + (m 12))) / 100)) (feetS (m 16) (seesM m p0) (told m p0 3) (zN (m 8)) (m 14)))))), (6, .int (told m p1 1)), (5, .int (told m p0 1)), (4, .int (pushesM m p1 1)), (3, .int (pushesM m p0 0)), (2, .int (seesM m p1)), (1, .int (seesM m p0)), (0, .ref a)]) X dX8_goesBy_162 (by decide) rfl ?_
    refine v_iload X dX8_goesBy_164 0 rfl ?_
    refine v_aload_n X dX8_goesBy_166 7 rfl ?_
    refine v_iconst X dX8_goesBy_167 (v := 1) (by decide) ?_
    refine v_cSi X [.ref a, .int 1] sX8_123 (ct_X8_fallsE (sd := 1) ll g hU_s (rfl : (1 : Int32) = nI 1) (by decide) (Eq.trans (Eq.trans (Eq.trans (Eq.trans (Eq.trans (pk_un (by decide)) (pk_un (by decide))) (pk_un (by decide))) (pk_un (by decide))) (pk_un (by decide))) pk_us) (Eq.trans (pk_un (by decide)) pk_us) (Eq.trans (Eq.trans (Eq.trans (Eq.trans (Eq.trans (Eq.trans (Eq.trans (Eq.trans (pk_un (by decide)) (pk_un (by decide))) (pk_un (by decide))) (pk_un (by decide))) (pk_un (by decide))) (pk_un (by decide))) (pk_un (by omega))) (pk_un (by decide))) (pk_un (by decide))) (Eq.trans (Eq.trans (Eq.trans (Eq.trans (Eq.trans (Eq.trans (Eq.trans (Eq.trans (pk_un (by decide)) (pk_un (by decide))) (pk_un (by decide))) (pk_un (by decide))) (pk_un (by decide))) (pk_un (by decide))) (pk_un (by omega))) (pk_un (by decide))) (pk_un (by decide)))) dX8_goesBy_168 rfl rfl ⟨rfl, rfl⟩ ⟨(Nat.le_of_ble_eq_true rfl), (Nat.le_of_ble_eq_true rfl)⟩ ⟨Nat.zero_le _, Nat.zero_le _⟩ (Nat.le_of_ble_eq_true rfl) ?_
    refine v_eqh (h2 := (hU h a (ai g 260 (upd (upd (upd (upd (upd (upd (upd (upd (upd (upd m 20 ((m 20) - (costM (pushesM m p0 0)))) 21 ((m 21) - (costM (pushesM m p1 1)))) (24 + (T % 10)) (m 5)) 5 (((m 5) + ((((pushesM m p0 0) * (told m p0 1)) + ((pushesM m p1 1) * (told m p1 1))) / ((((m 10) * (m 10)) + (told m p0 1)) + (told m p1 1)))) - ((((m 5) + ((((pushesM m p0 0) * (told m p0 1)) + ((pushesM m p1 1) * (told m p1 1))) / ((((m 10) * (m 10)) + (told m p0 1)) + (told m p1 1)))) * ((m 11) + (m 12))) / 100))) 8 (zN (m 8))) 16 (feetS (m 16) (seesM m p0) (told m p0 3) (zN (m 8)) (m 14))) 8 (zN (zN (m 8)))) 17 (feetS (m 17) (seesM m p1) (told m p1 3) (zN (zN (m 8))) (m 14))) 18 (swayS (m 18) (((m 5) + ((((pushesM m p0 0) * (told m p0 1)) + ((pushesM m p1 1) * (told m p1 1))) / ((((m 10) * (m 10)) + (told m p0 1)) + (told m p1 1)))) - ((((m 5) + ((((pushesM m p0 0) * (told m p0 1)) + ((pushesM m p1 1) * (told m p1 1))) / ((((m 10) * (m 10)) + (told m p0 1)) + (told m p1 1)))) * ((m 11) + (m 12))) / 100)) (feetS (m 16) (seesM m p0) (told m p0 3) (zN (m 8)) (m 14)))) 19 (swayS (m 19) (((m 5) + ((((pushesM m p0 0) * (told m p0 1)) + ((pushesM m p1 1) * (told m p1 1))) / ((((m 10) * (m 10)) + (told m p0 1)) + (told m p1 1)))) - ((((m 5) + ((((pushesM m p0 0) * (told m p0 1)) + ((pushesM m p1 1) * (told m p1 1))) / ((((m 10) * (m 10)) + (told m p0 1)) + (told m p1 1)))) * ((m 11) + (m 12))) / 100)) (feetS (m 17) (seesM m p1) (told m p1 3) (zN (zN (m 8))) (m 14))))))) hU_u ?_
    have J2 : VJ K 0 0 (hU h a (ai g 260 (upd (upd (upd (upd (upd (upd (upd (upd (upd (upd m 20 ((m 20) - (costM (pushesM m p0 0)))) 21 ((m 21) - (costM (pushesM m p1 1)))) (24 + (T % 10)) (m 5)) 5 (((m 5) + ((((pushesM m p0 0) * (told m p0 1)) + ((pushesM m p1 1) * (told m p1 1))) / ((((m 10) * (m 10)) + (told m p0 1)) + (told m p1 1)))) - ((((m 5) + ((((pushesM m p0 0) * (told m p0 1)) + ((pushesM m p1 1) * (told m p1 1))) / ((((m 10) * (m 10)) + (told m p0 1)) + (told m p1 1)))) * ((m 11) + (m 12))) / 100))) 8 (zN (m 8))) 16 (feetS (m 16) (seesM m p0) (told m p0 3) (zN (m 8)) (m 14))) 8 (zN (zN (m 8)))) 17 (feetS (m 17) (seesM m p1) (told m p1 3) (zN (zN (m 8))) (m 14))) 18 (swayS (m 18) (((m 5) + ((((pushesM m p0 0) * (told m p0 1)) + ((pushesM m p1 1) * (told m p1 1))) / ((((m 10) * (m 10)) + (told m p0 1)) + (told m p1 1)))) - ((((m 5) + ((((pushesM m p0 0) * (told m p0 1)) + ((pushesM m p1 1) * (told m p1 1))) / ((((m 10) * (m 10)) + (told m p0 1)) + (told m p1 1)))) * ((m 11) + (m 12))) / 100)) (feetS (m 16) (seesM m p0) (told m p0 3) (zN (m 8)) (m 14)))) 19 (swayS (m 19) (((m 5) + ((((pushesM m p0 0) * (told m p0 1)) + ((pushesM m p1 1) * (told m p1 1))) / ((((m 10) * (m 10)) + (told m p0 1)) + (told m p1 1)))) - ((((m 5) + ((((pushesM m p0 0) * (told m p0 1)) + ((pushesM m p1 1) * (told m p1 1))) / ((((m 10) * (m 10)) + (told m p0 1)) + (told m p1 1)))) * ((m 11) + (m 12))) / 100)) (feetS (m 17) (seesM m p1) (told m p1 3) (zN (zN (m 8))) (m 14)))))) 179 [(7, .int (bI (m 13 < szS (swayS (m 18) (((m 5) + ((((pushesM m p0 0) * (told m p0 1)) + ((pushesM m p1 1) * (told m p1 1))) / ((((m 10) * (m 10)) + (told m p0 1)) + (told m p1 1)))) - ((((m 5) + ((((pushesM m p0 0) * (told m p0 1)) + ((pushesM m p1 1) * (told m p1 1))) / ((((m 10) * (m 10)) + (told m p0 1)) + (told m p1 1)))) * ((m 11) + (m 12))) / 100)) (feetS (m 16) (seesM m p0) (told m p0 3) (zN (m 8)) (m 14)))))), (6, .int (told m p1 1)), (5, .int (told m p0 1)), (4, .int (pushesM m p1 1)), (3, .int (pushesM m p0 0)), (2, .int (seesM m p1)), (1, .int (seesM m p0)), (0, .ref a)] [.int (if m 13 < szS (swayS (m 19) (((m 5) + ((((pushesM m p0 0) * (told m p0 1)) + ((pushesM m p1 1) * (told m p1 1))) / ((((m 10) * (m 10)) + (told m p0 1)) + (told m p1 1)))) - ((((m 5) + ((((pushesM m p0 0) * (told m p0 1)) + ((pushesM m p1 1) * (told m p1 1))) / ((((m 10) * (m 10)) + (told m p0 1)) + (told m p1 1)))) * ((m 11) + (m 12))) / 100)) (feetS (m 17) (seesM m p1) (told m p1 3) (zN (zN (m 8))) (m 14))) then 2 else 0), .int (bI (m 13 < szS (swayS (m 18) (((m 5) + ((((pushesM m p0 0) * (told m p0 1)) + ((pushesM m p1 1) * (told m p1 1))) / ((((m 10) * (m 10)) + (told m p0 1)) + (told m p1 1)))) - ((((m 5) + ((((pushesM m p0 0) * (told m p0 1)) + ((pushesM m p1 1) * (told m p1 1))) / ((((m 10) * (m 10)) + (told m p0 1)) + (told m p1 1)))) * ((m 11) + (m 12))) / 100)) (feetS (m 16) (seesM m p0) (told m p0 3) (zN (m 8)) (m 14)))))] := by
      refine v_iadd X dX8_goesBy_179 ?_
      refine v_istore (lv1 := [(7, .int ((bI (m 13 < szS (swayS (m 18) (((m 5) + ((((pushesM m p0 0) * (told m p0 1)) + ((pushesM m p1 1) * (told m p1 1))) / ((((m 10) * (m 10)) + (told m p0 1)) + (told m p1 1)))) - ((((m 5) + ((((pushesM m p0 0) * (told m p0 1)) + ((pushesM m p1 1) * (told m p1 1))) / ((((m 10) * (m 10)) + (told m p0 1)) + (told m p1 1)))) * ((m 11) + (m 12))) / 100)) (feetS (m 16) (seesM m p0) (told m p0 3) (zN (m 8)) (m 14))))) + (if m 13 < szS (swayS (m 19) (((m 5) + ((((pushesM m p0 0) * (told m p0 1)) + ((pushesM m p1 1) * (told m p1 1))) / ((((m 10) * (m 10)) + (told m p0 1)) + (told m p1 1)))) - ((((m 5) + ((((pushesM m p0 0) * (told m p0 1)) + ((pushesM m p1 1) * (told m p1 1))) / ((((m 10) * (m 10)) + (told m p0 1)) + (told m p1 1)))) * ((m 11) + (m 12))) / 100)) (feetS (m 17) (seesM m p1) (told m p1 3) (zN (zN (m 8))) (m 14))) then 2 else 0))), (6, .int (told m p1 1)), (5, .int (told m p0 1)), (4, .int (pushesM m p1 1)), (3, .int (pushesM m p0 0)), (2, .int (seesM m p1)), (1, .int (seesM m p0)), (0, .ref a)]) X dX8_goesBy_180 (by decide) rfl ?_
      refine v_aload_n X dX8_goesBy_182 7 rfl ?_
      refine v_bipush X dX8_goesBy_183 (v := 6) (by decide) ?_
      refine v_dup2 X dX8_goesBy_185 rfl rfl ?_
      refine v_ialdK X 6 hU_s (rfl : (6 : Int32) = nI 6) (by decide) (by decide) dX8_goesBy_186 ?_
      refine v_eqi (y := m 6) (Eq.trans (Eq.trans (Eq.trans (Eq.trans (Eq.trans (Eq.trans (Eq.trans (Eq.trans (Eq.trans (pk_un (by decide)) (pk_un (by decide))) (pk_un (by decide))) (pk_un (by decide))) (pk_un (by decide))) (pk_un (by decide))) (pk_un (by decide))) (pk_un (by omega))) (pk_un (by decide))) (pk_un (by decide))) ?_
      refine v_iconst X dX8_goesBy_187 (v := 1) (by decide) ?_
      refine v_iadd X dX8_goesBy_188 ?_
      refine v_iastK (h2 := (hU h a (ai g 260 (upd (upd (upd (upd (upd (upd (upd (upd (upd (upd (upd m 20 ((m 20) - (costM (pushesM m p0 0)))) 21 ((m 21) - (costM (pushesM m p1 1)))) (24 + (T % 10)) (m 5)) 5 (((m 5) + ((((pushesM m p0 0) * (told m p0 1)) + ((pushesM m p1 1) * (told m p1 1))) / ((((m 10) * (m 10)) + (told m p0 1)) + (told m p1 1)))) - ((((m 5) + ((((pushesM m p0 0) * (told m p0 1)) + ((pushesM m p1 1) * (told m p1 1))) / ((((m 10) * (m 10)) + (told m p0 1)) + (told m p1 1)))) * ((m 11) + (m 12))) / 100))) 8 (zN (m 8))) 16 (feetS (m 16) (seesM m p0) (told m p0 3) (zN (m 8)) (m 14))) 8 (zN (zN (m 8)))) 17 (feetS (m 17) (seesM m p1) (told m p1 3) (zN (zN (m 8))) (m 14))) 18 (swayS (m 18) (((m 5) + ((((pushesM m p0 0) * (told m p0 1)) + ((pushesM m p1 1) * (told m p1 1))) / ((((m 10) * (m 10)) + (told m p0 1)) + (told m p1 1)))) - ((((m 5) + ((((pushesM m p0 0) * (told m p0 1)) + ((pushesM m p1 1) * (told m p1 1))) / ((((m 10) * (m 10)) + (told m p0 1)) + (told m p1 1)))) * ((m 11) + (m 12))) / 100)) (feetS (m 16) (seesM m p0) (told m p0 3) (zN (m 8)) (m 14)))) 19 (swayS (m 19) (((m 5) + ((((pushesM m p0 0) * (told m p0 1)) + ((pushesM m p1 1) * (told m p1 1))) / ((((m 10) * (m 10)) + (told m p0 1)) + (told m p1 1)))) - ((((m 5) + ((((pushesM m p0 0) * (told m p0 1)) + ((pushesM m p1 1) * (told m p1 1))) / ((((m 10) * (m 10)) + (told m p0 1)) + (told m p1 1)))) * ((m 11) + (m 12))) / 100)) (feetS (m 17) (seesM m p1) (told m p1 3) (zN (zN (m 8))) (m 14)))) 6 ((m 6) + 1))))) X 6 hU_s (rfl : (6 : Int32) = nI 6) (by decide) (by decide) dX8_goesBy_189 hU_u ?_
      refine v_iload X dX8_goesBy_190 0 rfl ?_
      exact v_iret X r dX8_goesBy_192 (Nat.le_refl _) (Nat.le_refl _) ⟨ri rfl, rfl⟩
    refine v_ifb_eq X dX8_goesBy_171 (tgt := 178) (by decide) (fun c1 => ?_) (fun c1 => ?_)
    · refine v_iconst X dX8_goesBy_178 (v := 0) (by decide) ?_
      exact v_eqi (if_neg c1).symm J2
    · refine v_iconst X dX8_goesBy_174 (v := 2) (by decide) ?_
      refine v_goto X dX8_goesBy_175 (tgt := 179) (by decide) ?_
      exact v_eqi (if_pos c1).symm J2
  refine v_ifb_eq X dX8_goesBy_154 (tgt := 161) (by decide) (fun c2 => ?_) (fun c2 => ?_)
  · refine v_iconst X dX8_goesBy_161 (v := 0) (by decide) ?_
    exact v_eqi (bI_f c2).symm J1
  · refine v_iconst X dX8_goesBy_157 (v := 1) (by decide) ?_
    refine v_goto X dX8_goesBy_158 (tgt := 162) (by decide) ?_
    exact v_eqi (bI_t c2).symm J1
