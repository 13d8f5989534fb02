/-! ===== what each call answers and does: people, the log, bouts ===== -/
abbrev okP (d : Nat → Int32) (p : Int32) : Prop := wi p 0 (d 0 - 1)
abbrev pr (x : Int32) : Nat := x.toNatClampNeg
abbrev okSet (d : Nat → Int32) (what v : Int32) : Prop := (what = 1 ∧ wi v 1 299) ∨ (what = 2 ∧ wi v 0 9) ∨ (what = 3 ∧ wi v 1 99) ∨ (what = 4 ∧ wi v 0 999) ∨ (what = 6 ∧ wi v (-1) (d 1 - 1))
abbrev onLog (d : Nat → Int32) (p : Int32) : Prop := d 2 = 1 ∧ (d 3 = p ∨ d 4 = p)
abbrev isOfP (own kind : Int32) : Prop := kind = 0 ∨ kind = own ∨ (kind = 2 ∧ own = 3) ∨ (kind = 4 ∧ own = 5)
abbrev two (d : Nat → Int32) (a b : Int32) : Prop := wi a 0 (d 0 - 1) ∧ wi b 0 (d 0 - 1) ∧ ¬ a = b
abbrev okSit (s l e t : Int32) : Prop := wi s (-9999) 9999 ∧ wi l (-999) 999 ∧ wi e 0 999 ∧ wi t 0 999
def newP (d : Nat → Int32) (n : Nat) (kind weight : Int32) : Nat → Int32 := upd (upd (upd (upd (upd (upd (upd (upd d (40 + 8 * n + 0) kind) (40 + 8 * n + 1) weight) (40 + 8 * n + 2) 2) (40 + 8 * n + 3) 20) (40 + 8 * n + 4) 300) (40 + 8 * n + 5) 0) (40 + 8 * n + 6) (-1)) 0 (d 0 + 1)
def getsA (d : Nat → Int32) (a b : Nat) : Nat → Int32 := upd (upd (upd (upd (upd (upd (upd (upd (upd (upd (upd d 2 1) 3 (nI a)) 4 (nI b)) 5 0) 6 0) 16 0) 18 0) 20 (told d a 4)) 17 0) 19 0) 21 (told d b 4)
def leastS (what : Int32) : Int32 := if what = 0 then 1 else 0
def mostS (what : Int32) : Int32 := if what = 0 then 99 else if what = 3 then 999 else if what = 4 then 100 else 50
def op_roller (S : OS) (kind : Int32) (weight : Int32) : Int32 × OS := match S with
  | (d, k, hk, fo, tape, tp, bits, sz, num) => if wi kind 0 5 ∧ wi weight 1 299 then (if d 0 = 8 then ((-1000000002), (d, k, hk, fnd fo 1, tape, tp, bits, sz, num)) else (d 0, (newP d (pr (d 0)) kind weight, k, hk, fo, tape, tp, bits, sz, num))) else ((-1000000001), (d, k, hk, fnd fo 0, tape, tp, bits, sz, num))
def op_of (S : OS) (p : Int32) (what : Int32) : Int32 × OS := match S with
  | (d, k, hk, fo, tape, tp, bits, sz, num) => if okP d p ∧ wi what 0 6 then (told d (pr p) (pr what), (d, k, hk, fo, tape, tp, bits, sz, num)) else ((-1000000001), (d, k, hk, fnd fo 0, tape, tp, bits, sz, num))
def op_set (S : OS) (p : Int32) (what : Int32) (v : Int32) : Int32 × OS := match S with
  | (d, k, hk, fo, tape, tp, bits, sz, num) => if okP d p ∧ okSet d what v then (if onLog d p then ((-1000000005), (d, k, hk, fnd fo 4, tape, tp, bits, sz, num)) else (told d (pr p) (pr what), (upd d (40 + 8 * pr p + pr what) v, k, hk, fo, tape, tp, bits, sz, num))) else ((-1000000001), (d, k, hk, fnd fo 0, tape, tp, bits, sz, num))
def op_as (S : OS) (p : Int32) (kind : Int32) : Int32 × OS := match S with
  | (d, k, hk, fo, tape, tp, bits, sz, num) => if okP d p ∧ wi kind 0 5 then (if isOfP (told d (pr p) 0) kind then (told d (pr p) 5, (d, k, hk, fo, tape, tp, bits, sz, num)) else ((-1000000003), (d, k, hk, fnd fo 2, tape, tp, bits, sz, num))) else ((-1000000001), (d, k, hk, fnd fo 0, tape, tp, bits, sz, num))
def op_log (S : OS) (what : Int32) (v : Int32) : Int32 × OS := match S with
  | (d, k, hk, fo, tape, tp, bits, sz, num) => if wi what 0 4 then (if wi v (leastS what) (mostS what) then (d (10 + pr what), (upd d (10 + pr what) v, k, hk, fo, tape, tp, bits, sz, num)) else ((-1000000001), (d, k, hk, fnd fo 0, tape, tp, bits, sz, num))) else ((-1000000001), (d, k, hk, fnd fo 0, tape, tp, bits, sz, num))
def op_push (S : OS) (p : Int32) (s : Int32) (l : Int32) (e : Int32) (t : Int32) : Int32 × OS := match S with
  | (d, k, hk, fo, tape, tp, bits, sz, num) => if okP d p ∧ okSit s l e t then (pushM d (pr p) s l e t, (d, k, hk, fo, tape, tp, bits, sz, num)) else ((-1000000001), (d, k, hk, fnd fo 0, tape, tp, bits, sz, num))
def op_mount (S : OS) (a : Int32) (b : Int32) : Int32 × OS := match S with
  | (d, k, hk, fo, tape, tp, bits, sz, num) => if two d a b then (if d 2 = 1 then ((-1000000005), (d, k, hk, fnd fo 4, tape, tp, bits, sz, num)) else (1, (getsA d (pr a) (pr b), k, hk, fo, tape, tp, bits, sz, num))) else ((-1000000001), (d, k, hk, fnd fo 0, tape, tp, bits, sz, num))
def op_off (S : OS) : Int32 × OS := match S with
  | (d, k, hk, fo, tape, tp, bits, sz, num) => if d 2 = 0 then ((-1000000005), (d, k, hk, fnd fo 4, tape, tp, bits, sz, num)) else (d 6, (upd d 2 0, k, hk, fo, tape, tp, bits, sz, num))
def op_stands (S : OS) (who : Int32) (what : Int32) : Int32 × OS := match S with
  | (d, k, hk, fo, tape, tp, bits, sz, num) => if wi who 0 1 ∧ wi what 0 5 then (if d 2 = 0 then ((-1000000005), (d, k, hk, fnd fo 4, tape, tp, bits, sz, num)) else ((if what = 0 then d (3 + pr who) else if what = 1 then d (16 + pr who) else if what = 2 then d (18 + pr who) else if what = 3 then d (20 + pr who) else if what = 4 then seesM d (pr (d (3 + pr who))) else pushesM d (pr (d (3 + pr who))) (pr who)), (d, k, hk, fo, tape, tp, bits, sz, num))) else ((-1000000001), (d, k, hk, fnd fo 0, tape, tp, bits, sz, num))
def op_now (S : OS) (what : Int32) : Int32 × OS := match S with
  | (d, k, hk, fo, tape, tp, bits, sz, num) => if wi what 0 2 then (d (5 + pr what), (d, k, hk, fo, tape, tp, bits, sz, num)) else ((-1000000001), (d, k, hk, fnd fo 0, tape, tp, bits, sz, num))
def op_seed (S : OS) (v : Int32) : Int32 × OS := match S with
  | (d, k, hk, fo, tape, tp, bits, sz, num) => (d 8, (upd d 8 v, k, hk, fo, tape, tp, bits, sz, num))
set_option maxHeartbeats 4000000 in
set_option maxRecDepth 100000 in
theorem ct_X8_roller (ll : Launch) (g : GT) {h : Hp} {t : Nat} {A : Nat → Nat} {d k fo tape bits sz : Nat → Int32} {num : Nat → Int64} {hk tp : Int32} {np : Nat}  (kind : Int32) (weight : Int32) (hM : MW g h t A (d, k, hk, fo, tape, tp, bits, sz, num)) (hn : d 0 = nI np) (hnp : np ≤ 8) : MC ll g yX8_roller cX8_roller 4 (some .int) { frames := 1, cells := 0, slots := 0, locals := 50 } [.ref t, .int kind, .int weight] h (fun r h2 => r = some (.int (op_roller (d, k, hk, fo, tape, tp, bits, sz, num) kind weight).1) ∧ MW g h2 t A (op_roller (d, k, hk, fo, tape, tp, bits, sz, num) kind weight).2) 0 0 := by
  have hM0 := hM
  obtain ⟨e, lf, sw0, sw1, pp, fr, tk, wd, vl, wr, m0, m1, m2, m3, m4, m5, m6, m7, m8, m9, n01, n02, n12, n56⟩ := hM0
  have ne_1 : t ≠ (A 0) := hneb m0 m1 rfl
  refine mc_of (by decide) (Nat.le_of_ble_eq_true rfl) ?_
  intro K X r
  refine v_eqv (lv2 := [(0, .ref t), (1, .int kind), (2, .int weight)]) rfl ?_
  refine v_iload_n X dX8_roller_0 1 rfl ?_
  refine v_i2l X dX8_roller_1 ?_
  refine v_lconst X dX8_roller_2 (v := 0) (by decide) ?_
  refine v_ldc2 X dX8_roller_3 kX8_47 ?_
  refine v_cSi X [.long kind.toInt64, .long (0 : Int64), .long (5 : Int64)] sX8_39 (ct_X8_in (v := kind) (lo := 0) (hi := 5) ll g rfl (by decide) (by decide)) dX8_roller_6 rfl rfl ⟨rfl, rfl⟩ ⟨(Nat.le_of_ble_eq_true rfl), (Nat.le_of_ble_eq_true rfl)⟩ ⟨Nat.zero_le _, Nat.zero_le _⟩ (Nat.le_of_ble_eq_true rfl) ?_
  refine v_ifb_eq X dX8_roller_9 (tgt := 24) (by decide) (fun c1 => ?_) (fun c1 => ?_)
  · refine v_aload_n X dX8_roller_24 0 rfl ?_
    refine v_ldc X dX8_roller_25 kX8_38 ?_
    refine v_cVi X [.int (-1000000001)] sX8_51 (ct_X8_finds (j := 0) ll g m0 m4 (by decide) (by decide)) m0 rfl dX8_roller_27 rfl rfl ⟨rfl, rfl⟩ ⟨(Nat.le_of_ble_eq_true rfl), (Nat.le_of_ble_eq_true rfl)⟩ ⟨Nat.zero_le _, Nat.zero_le _⟩ (Nat.le_of_ble_eq_true rfl) ?_
    have eqr : op_roller (d, k, hk, fo, tape, tp, bits, sz, num) kind weight = ((-1000000001), (d, k, hk, fnd fo 0, tape, tp, bits, sz, num)) := by simp [op_roller, c1]
    exact v_iret X r dX8_roller_30 (Nat.le_refl _) (Nat.le_refl _) ⟨by rw [eqr], by rw [eqr]; exact (MW_fo hM _)⟩
  · refine v_iload_n X dX8_roller_12 2 rfl ?_
    refine v_i2l X dX8_roller_13 ?_
    refine v_lconst X dX8_roller_14 (v := 1) (by decide) ?_
    refine v_ldc2 X dX8_roller_15 kX8_49 ?_
    refine v_cSi X [.long weight.toInt64, .long (1 : Int64), .long (299 : Int64)] sX8_39 (ct_X8_in (v := weight) (lo := 1) (hi := 299) ll g rfl (by decide) (by decide)) dX8_roller_18 rfl rfl ⟨rfl, rfl⟩ ⟨(Nat.le_of_ble_eq_true rfl), (Nat.le_of_ble_eq_true rfl)⟩ ⟨Nat.zero_le _, Nat.zero_le _⟩ (Nat.le_of_ble_eq_true rfl) ?_
    refine v_ifb_ne X dX8_roller_21 (tgt := 31) (by decide) (fun c2 => ?_) (fun c2 => ?_)
    · refine v_aload_n X dX8_roller_31 0 rfl ?_
      refine v_get X fX8_9 m0 rfl dX8_roller_32 ?_
      refine v_iconst X dX8_roller_35 (v := 0) (by decide) ?_
      refine v_ialdK X 0 m1 (rfl : (0 : Int32) = nI 0) (by decide) (by decide) dX8_roller_36 ?_
      refine v_bipush X dX8_roller_37 (v := 8) (by decide) ?_
      refine v_icmp_ne X dX8_roller_39 (tgt := 49) (by decide) (fun c3 => ?_) (fun c3 => ?_)
      · have hne8 : np ≠ 8 := fun z => c3 (by rw [hn, z]; rfl)
        have hin0 : 40 + 8 * np + 0 < 260 := by omega
        have qn : pr (d 0) = np := ix_cl hn (by omega)
        refine v_bipush X dX8_roller_49 (v := 40) (by decide) ?_
        refine v_bipush X dX8_roller_51 (v := 8) (by decide) ?_
        refine v_aload_n X dX8_roller_53 0 rfl ?_
        refine v_get X fX8_9 m0 rfl dX8_roller_54 ?_
        refine v_iconst X dX8_roller_57 (v := 0) (by decide) ?_
        refine v_ialdK X 0 m1 (rfl : (0 : Int32) = nI 0) (by decide) (by decide) dX8_roller_58 ?_
        refine v_imul X dX8_roller_59 ?_
        refine v_iadd X dX8_roller_60 ?_
        refine v_istore_n (lv1 := [(3, .int (40 + (8 * (d 0)))), (0, .ref t), (1, .int kind), (2, .int weight)]) X dX8_roller_61 (by decide) rfl ?_
        refine v_aload_n X dX8_roller_62 1 rfl ?_
        refine v_get X fX8_9 m0 rfl dX8_roller_63 ?_
        refine v_iload_n X dX8_roller_66 0 rfl ?_
        refine v_iconst X dX8_roller_67 (v := 0) (by decide) ?_
        refine v_iadd X dX8_roller_68 ?_
        refine v_iload_n X dX8_roller_69 2 rfl ?_
        refine v_iastK (h2 := (hU h (A 0) (ai g 260 (upd d ((40 + (8 * np)) + 0) kind)))) X ((40 + (8 * np)) + 0) m1 (ix_add (ix_add (rfl : (40 : Int32) = nI 40) (ix_mul (rfl : (8 : Int32) = nI 8) hn)) (rfl : (0 : Int32) = nI 0)) hin0 (by decide) dX8_roller_70 rfl ?_
        refine v_aload_n X dX8_roller_71 1 rfl ?_
        refine v_get X fX8_9 ((hU_n ne_1).trans m0) rfl dX8_roller_72 ?_
        refine v_iload_n X dX8_roller_75 0 rfl ?_
        refine v_iconst X dX8_roller_76 (v := 1) (by decide) ?_
        refine v_iadd X dX8_roller_77 ?_
        refine v_iload_n X dX8_roller_78 3 rfl ?_
        refine v_iastK (h2 := (hU h (A 0) (ai g 260 (upd (upd d ((40 + (8 * np)) + 0) kind) ((40 + (8 * np)) + 1) weight)))) X ((40 + (8 * np)) + 1) hU_s (ix_add (ix_add (rfl : (40 : Int32) = nI 40) (ix_mul (rfl : (8 : Int32) = nI 8) hn)) (rfl : (1 : Int32) = nI 1)) (by omega) (by decide) dX8_roller_79 hU_u ?_
        refine v_aload_n X dX8_roller_80 1 rfl ?_
        refine v_get X fX8_9 ((hU_n ne_1).trans m0) rfl dX8_roller_81 ?_
        refine v_iload_n X dX8_roller_84 0 rfl ?_
        refine v_iconst X dX8_roller_85 (v := 2) (by decide) ?_
        refine v_iadd X dX8_roller_86 ?_
        refine v_iconst X dX8_roller_87 (v := 2) (by decide) ?_
        refine v_iastK (h2 := (hU h (A 0) (ai g 260 (upd (upd (upd d ((40 + (8 * np)) + 0) kind) ((40 + (8 * np)) + 1) weight) ((40 + (8 * np)) + 2) 2)))) X ((40 + (8 * np)) + 2) hU_s (ix_add (ix_add (rfl : (40 : Int32) = nI 40) (ix_mul (rfl : (8 : Int32) = nI 8) hn)) (rfl : (2 : Int32) = nI 2)) (by omega) (by decide) dX8_roller_88 hU_u ?_
        refine v_aload_n X dX8_roller_89 1 rfl ?_
        refine v_get X fX8_9 ((hU_n ne_1).trans m0) rfl dX8_roller_90 ?_
        refine v_iload_n X dX8_roller_93 0 rfl ?_
        refine v_iconst X dX8_roller_94 (v := 3) (by decide) ?_
        refine v_iadd X dX8_roller_95 ?_
        refine v_bipush X dX8_roller_96 (v := 20) (by decide) ?_
        refine v_iastK (h2 := (hU h (A 0) (ai g 260 (upd (upd (upd (upd d ((40 + (8 * np)) + 0) kind) ((40 + (8 * np)) + 1) weight) ((40 + (8 * np)) + 2) 2) ((40 + (8 * np)) + 3) 20)))) X ((40 + (8 * np)) + 3) hU_s (ix_add (ix_add (rfl : (40 : Int32) = nI 40) (ix_mul (rfl : (8 : Int32) = nI 8) hn)) (rfl : (3 : Int32) = nI 3)) (by omega) (by decide) dX8_roller_98 hU_u ?_
        refine v_aload_n X dX8_roller_99 1 rfl ?_
        refine v_get X fX8_9 ((hU_n ne_1).trans m0) rfl dX8_roller_100 ?_
        refine v_iload_n X dX8_roller_103 0 rfl ?_
        refine v_iconst X dX8_roller_104 (v := 4) (by decide) ?_
        refine v_iadd X dX8_roller_105 ?_
        refine v_sipush X dX8_roller_106 (v := 300) (by decide) ?_
        refine v_iastK (h2 := (hU h (A 0) (ai g 260 (upd (upd (upd (upd (upd d ((40 + (8 * np)) + 0) kind) ((40 + (8 * np)) + 1) weight) ((40 + (8 * np)) + 2) 2) ((40 + (8 * np)) + 3) 20) ((40 + (8 * np)) + 4) 300)))) X ((40 + (8 * np)) + 4) hU_s (ix_add (ix_add (rfl : (40 : Int32) = nI 40) (ix_mul (rfl : (8 : Int32) = nI 8) hn)) (rfl : (4 : Int32) = nI 4)) (by omega) (by decide) dX8_roller_109 hU_u ?_
        refine v_aload_n X dX8_roller_110 1 rfl ?_
        refine v_get X fX8_9 ((hU_n ne_1).trans m0) rfl dX8_roller_111 ?_
        refine v_iload_n X dX8_roller_114 0 rfl ?_
        refine v_iconst X dX8_roller_115 (v := 5) (by decide) ?_
        refine v_iadd X dX8_roller_116 ?_
        refine v_iconst X dX8_roller_117 (v := 0) (by decide) ?_
        refine v_iastK (h2 := (hU h (A 0) (ai g 260 (upd (upd (upd (upd (upd (upd d ((40 + (8 * np)) + 0) kind) ((40 + (8 * np)) + 1) weight) ((40 + (8 * np)) + 2) 2) ((40 + (8 * np)) + 3) 20) ((40 + (8 * np)) + 4) 300) ((40 + (8 * np)) + 5) 0)))) X ((40 + (8 * np)) + 5) hU_s (ix_add (ix_add (rfl : (40 : Int32) = nI 40) (ix_mul (rfl : (8 : Int32) = nI 8) hn)) (rfl : (5 : Int32) = nI 5)) (by omega) (by decide) dX8_roller_118 hU_u ?_
        refine v_aload_n X dX8_roller_119 1 rfl ?_
        refine v_get X fX8_9 ((hU_n ne_1).trans m0) rfl dX8_roller_120 ?_
        refine v_iload_n X dX8_roller_123 0 rfl ?_
        refine v_bipush X dX8_roller_124 (v := 6) (by decide) ?_
        refine v_iadd X dX8_roller_126 ?_
        refine v_iconst X dX8_roller_127 (v := (-1)) (by decide) ?_
        refine v_iastK (h2 := (hU h (A 0) (ai g 260 (upd (upd (upd (upd (upd (upd (upd d ((40 + (8 * np)) + 0) kind) ((40 + (8 * np)) + 1) weight) ((40 + (8 * np)) + 2) 2) ((40 + (8 * np)) + 3) 20) ((40 + (8 * np)) + 4) 300) ((40 + (8 * np)) + 5) 0) ((40 + (8 * np)) + 6) (-1))))) X ((40 + (8 * np)) + 6) hU_s (ix_add (ix_add (rfl : (40 : Int32) = nI 40) (ix_mul (rfl : (8 : Int32) = nI 8) hn)) (rfl : (6 : Int32) = nI 6)) (by omega) (by decide) dX8_roller_128 hU_u ?_
        refine v_aload_n X dX8_roller_129 1 rfl ?_
        refine v_get X fX8_9 ((hU_n ne_1).trans m0) rfl dX8_roller_130 ?_
        refine v_iconst X dX8_roller_133 (v := 0) (by decide) ?_
        refine v_dup2 X dX8_roller_134 rfl rfl ?_
        refine v_ialdK X 0 hU_s (rfl : (0 : Int32) = nI 0) (by decide) (by decide) dX8_roller_135 ?_
        refine v_eqi (y := d 0) (Eq.trans (Eq.trans (Eq.trans (Eq.trans (Eq.trans (Eq.trans (pk_un (by omega)) (pk_un (by omega))) (pk_un (by omega))) (pk_un (by omega))) (pk_un (by omega))) (pk_un (by omega))) (pk_un (by omega))) ?_
        refine v_iconst X dX8_roller_136 (v := 1) (by decide) ?_
        refine v_iadd X dX8_roller_137 ?_
        refine v_iastK (h2 := (hU h (A 0) (ai g 260 (upd (upd (upd (upd (upd (upd (upd (upd d ((40 + (8 * np)) + 0) kind) ((40 + (8 * np)) + 1) weight) ((40 + (8 * np)) + 2) 2) ((40 + (8 * np)) + 3) 20) ((40 + (8 * np)) + 4) 300) ((40 + (8 * np)) + 5) 0) ((40 + (8 * np)) + 6) (-1)) 0 ((d 0) + 1))))) X 0 hU_s (rfl : (0 : Int32) = nI 0) (by decide) (by decide) dX8_roller_138 hU_u ?_
        refine v_aload_n X dX8_roller_139 1 rfl ?_
        refine v_get X fX8_9 ((hU_n ne_1).trans m0) rfl dX8_roller_140 ?_
        refine v_iconst X dX8_roller_143 (v := 0) (by decide) ?_
        refine v_ialdK X 0 hU_s (rfl : (0 : Int32) = nI 0) (by decide) (by decide) dX8_roller_144 ?_
        refine v_eqi (y := (d 0) + 1) pk_us ?_
        refine v_iconst X dX8_roller_145 (v := 1) (by decide) ?_
        refine v_isub X dX8_roller_146 ?_
        have eqr : op_roller (d, k, hk, fo, tape, tp, bits, sz, num) kind weight = (((d 0) + 1) - 1, (upd (upd (upd (upd (upd (upd (upd (upd d ((40 + (8 * np)) + 0) kind) ((40 + (8 * np)) + 1) weight) ((40 + (8 * np)) + 2) 2) ((40 + (8 * np)) + 3) 20) ((40 + (8 * np)) + 4) 300) ((40 + (8 * np)) + 5) 0) ((40 + (8 * np)) + 6) (-1)) 0 ((d 0) + 1), k, hk, fo, tape, tp, bits, sz, num)) := by unfold op_roller; dsimp only; rw [if_pos (And.intro c1 c2), if_neg c3, qn]; simp [newP]
        exact v_iret X r dX8_roller_147 (Nat.le_refl _) (Nat.le_refl _) ⟨by rw [eqr], by rw [eqr]; exact (MW_d hM _)⟩
      · refine v_aload_n X dX8_roller_42 0 rfl ?_
        refine v_ldc X dX8_roller_43 kX8_55 ?_
        refine v_cVi X [.int (-1000000002)] sX8_51 (ct_X8_finds (j := 1) ll g m0 m4 (by decide) (by decide)) m0 rfl dX8_roller_45 rfl rfl ⟨rfl, rfl⟩ ⟨(Nat.le_of_ble_eq_true rfl), (Nat.le_of_ble_eq_true rfl)⟩ ⟨Nat.zero_le _, Nat.zero_le _⟩ (Nat.le_of_ble_eq_true rfl) ?_
        have eqr : op_roller (d, k, hk, fo, tape, tp, bits, sz, num) kind weight = ((-1000000002), (d, k, hk, fnd fo 1, tape, tp, bits, sz, num)) := by simp [op_roller, c1, c2, c3]
        exact v_iret X r dX8_roller_48 (Nat.le_refl _) (Nat.le_refl _) ⟨by rw [eqr], by rw [eqr]; exact (MW_fo hM _)⟩
    · refine v_aload_n X dX8_roller_24 0 rfl ?_
      refine v_ldc X dX8_roller_25 kX8_38 ?_
      refine v_cVi X [.int (-1000000001)] sX8_51 (ct_X8_finds (j := 0) ll g m0 m4 (by decide) (by decide)) m0 rfl dX8_roller_27 rfl rfl ⟨rfl, rfl⟩ ⟨(Nat.le_of_ble_eq_true rfl), (Nat.le_of_ble_eq_true rfl)⟩ ⟨Nat.zero_le _, Nat.zero_le _⟩ (Nat.le_of_ble_eq_true rfl) ?_
      have eqr : op_roller (d, k, hk, fo, tape, tp, bits, sz, num) kind weight = ((-1000000001), (d, k, hk, fnd fo 0, tape, tp, bits, sz, num)) := by simp [op_roller, c1, c2]
      exact v_iret X r dX8_roller_30 (Nat.le_refl _) (Nat.le_refl _) ⟨by rw [eqr], by rw [eqr]; exact (MW_fo hM _)⟩
set_option maxHeartbeats 4000000 in
set_option maxRecDepth 100000 in
theorem ct_X8_of (ll : Launch) (g : GT) {h : Hp} {t : Nat} {A : Nat → Nat} {d k fo tape bits sz : Nat → Int32} {num : Nat → Int64} {hk tp : Int32} {np : Nat}  (p : Int32) (what : Int32) (hM : MW g h t A (d, k, hk, fo, tape, tp, bits, sz, num)) (hn : d 0 = nI np) (hnp : np ≤ 8) : MC ll g yX8_of cX8_of 3 (some .int) { frames := 2, cells := 0, slots := 0, locals := 80 } [.ref t, .int p, .int what] h (fun r h2 => r = some (.int (op_of (d, k, hk, fo, tape, tp, bits, sz, num) p what).1) ∧ MW g h2 t A (op_of (d, k, hk, fo, tape, tp, bits, sz, num) p what).2) 0 0 := by
  have hM0 := hM
  obtain ⟨e, lf, sw0, sw1, pp, fr, tk, wd, vl, wr, m0, m1, m2, m3, m4, m5, m6, m7, m8, m9, n01, n02, n12, n56⟩ := hM0
  refine mc_of (by decide) (Nat.le_of_ble_eq_true rfl) ?_
  intro K X r
  refine v_eqv (lv2 := [(0, .ref t), (1, .int p), (2, .int what)]) rfl ?_
  refine v_aload_n X dX8_of_0 0 rfl ?_
  refine v_iload_n X dX8_of_1 1 rfl ?_
  refine v_cVi X [.int p] sX8_43 (ct_X8_isPerson ll g p m0 m1) m0 rfl dX8_of_2 rfl rfl ⟨rfl, rfl⟩ ⟨(Nat.le_of_ble_eq_true rfl), (Nat.le_of_ble_eq_true rfl)⟩ ⟨Nat.zero_le _, Nat.zero_le _⟩ (Nat.le_of_ble_eq_true rfl) ?_
  refine v_ifb_eq X dX8_of_5 (tgt := 37) (by decide) (fun c1 => ?_) (fun c1 => ?_)
  · refine v_aload_n X dX8_of_37 0 rfl ?_
    refine v_ldc X dX8_of_38 kX8_38 ?_
    refine v_cVi X [.int (-1000000001)] sX8_51 (ct_X8_finds (j := 0) ll g m0 m4 (by decide) (by decide)) m0 rfl dX8_of_40 rfl rfl ⟨rfl, rfl⟩ ⟨(Nat.le_of_ble_eq_true rfl), (Nat.le_of_ble_eq_true rfl)⟩ ⟨Nat.zero_le _, Nat.zero_le _⟩ (Nat.le_of_ble_eq_true rfl) ?_
    have eqr : op_of (d, k, hk, fo, tape, tp, bits, sz, num) p what = ((-1000000001), (d, k, hk, fnd fo 0, tape, tp, bits, sz, num)) := by simp [op_of, c1]
    exact v_iret X r dX8_of_43 (Nat.le_refl _) (Nat.le_refl _) ⟨by rw [eqr], by rw [eqr]; exact (MW_fo hM _)⟩
  · refine v_iload_n X dX8_of_8 2 rfl ?_
    refine v_i2l X dX8_of_9 ?_
    refine v_lconst X dX8_of_10 (v := 0) (by decide) ?_
    refine v_ldc2 X dX8_of_11 kX8_56 ?_
    refine v_cSi X [.long what.toInt64, .long (0 : Int64), .long (6 : Int64)] sX8_39 (ct_X8_in (v := what) (lo := 0) (hi := 6) ll g rfl (by decide) (by decide)) dX8_of_14 rfl rfl ⟨rfl, rfl⟩ ⟨(Nat.le_of_ble_eq_true rfl), (Nat.le_of_ble_eq_true rfl)⟩ ⟨Nat.zero_le _, Nat.zero_le _⟩ (Nat.le_of_ble_eq_true rfl) ?_
    refine v_ifb_eq X dX8_of_17 (tgt := 37) (by decide) (fun c2 => ?_) (fun c2 => ?_)
    · refine v_aload_n X dX8_of_37 0 rfl ?_
      refine v_ldc X dX8_of_38 kX8_38 ?_
      refine v_cVi X [.int (-1000000001)] sX8_51 (ct_X8_finds (j := 0) ll g m0 m4 (by decide) (by decide)) m0 rfl dX8_of_40 rfl rfl ⟨rfl, rfl⟩ ⟨(Nat.le_of_ble_eq_true rfl), (Nat.le_of_ble_eq_true rfl)⟩ ⟨Nat.zero_le _, Nat.zero_le _⟩ (Nat.le_of_ble_eq_true rfl) ?_
      have eqr : op_of (d, k, hk, fo, tape, tp, bits, sz, num) p what = ((-1000000001), (d, k, hk, fnd fo 0, tape, tp, bits, sz, num)) := by simp [op_of, c1, c2]
      exact v_iret X r dX8_of_43 (Nat.le_refl _) (Nat.le_refl _) ⟨by rw [eqr], by rw [eqr]; exact (MW_fo hM _)⟩
    · obtain ⟨jw, hjw, ejw⟩ := wi_c 6 rfl (by decide) c2
      have qjw : pr what = jw := ix_cl ejw (by omega)
      obtain ⟨jp, hjp, ejp⟩ := wi_n hn (by omega) c1
      have qjp : pr p = jp := ix_cl ejp (by omega)
      refine v_aload_n X dX8_of_20 0 rfl ?_
      refine v_get X fX8_9 m0 rfl dX8_of_21 ?_
      refine v_bipush X dX8_of_24 (v := 40) (by decide) ?_
      refine v_bipush X dX8_of_26 (v := 8) (by decide) ?_
      refine v_iload_n X dX8_of_28 1 rfl ?_
      refine v_imul X dX8_of_29 ?_
      refine v_iadd X dX8_of_30 ?_
      refine v_iload_n X dX8_of_31 2 rfl ?_
      refine v_iadd X dX8_of_32 ?_
      refine v_ialdK X ((40 + (8 * jp)) + jw) m1 (ix_add (ix_add (rfl : (40 : Int32) = nI 40) (ix_mul (rfl : (8 : Int32) = nI 8) ejp)) ejw) (by omega) (by decide) dX8_of_33 ?_
      refine v_goto X dX8_of_34 (tgt := 43) (by decide) ?_
      have eqr : op_of (d, k, hk, fo, tape, tp, bits, sz, num) p what = (d ((40 + (8 * jp)) + jw), (d, k, hk, fo, tape, tp, bits, sz, num)) := by unfold op_of; dsimp only; rw [if_pos (And.intro c1 c2), qjp, qjw]; rfl
      exact v_iret X r dX8_of_43 (Nat.le_refl _) (Nat.le_refl _) ⟨by rw [eqr], by rw [eqr]; exact hM⟩
set_option maxHeartbeats 4000000 in
set_option maxRecDepth 100000 in
theorem ct_X8_set (ll : Launch) (g : GT) {h : Hp} {t : Nat} {A : Nat → Nat} {d k fo tape bits sz : Nat → Int32} {num : Nat → Int64} {hk tp : Int32} {np : Nat}  (p : Int32) (what : Int32) (v : Int32) (hM : MW g h t A (d, k, hk, fo, tape, tp, bits, sz, num)) (hn : d 0 = nI np) (hnp : np ≤ 8) : MC ll g yX8_set cX8_set 5 (some .int) { frames := 2, cells := 0, slots := 0, locals := 80 } [.ref t, .int p, .int what, .int v] h (fun r h2 => r = some (.int (op_set (d, k, hk, fo, tape, tp, bits, sz, num) p what v).1) ∧ MW g h2 t A (op_set (d, k, hk, fo, tape, tp, bits, sz, num) p what v).2) 0 0 := by
  have hM0 := hM
  obtain ⟨e, lf, sw0, sw1, pp, fr, tk, wd, vl, wr, m0, m1, m2, m3, m4, m5, m6, m7, m8, m9, n01, n02, n12, n56⟩ := hM0
  refine mc_of (by decide) (Nat.le_of_ble_eq_true rfl) ?_
  intro K X r
  refine v_eqv (lv2 := [(0, .ref t), (1, .int p), (2, .int what), (3, .int v)]) rfl ?_
  refine v_aload_n X dX8_set_0 0 rfl ?_
  refine v_iload_n X dX8_set_1 1 rfl ?_
  refine v_cVi X [.int p] sX8_43 (ct_X8_isPerson ll g p m0 m1) m0 rfl dX8_set_2 rfl rfl ⟨rfl, rfl⟩ ⟨(Nat.le_of_ble_eq_true rfl), (Nat.le_of_ble_eq_true rfl)⟩ ⟨Nat.zero_le _, Nat.zero_le _⟩ (Nat.le_of_ble_eq_true rfl) ?_
  refine v_ifb_eq X dX8_set_5 (tgt := 17) (by decide) (fun c1 => ?_) (fun c1 => ?_)
  · refine v_aload_n X dX8_set_17 0 rfl ?_
    refine v_ldc X dX8_set_18 kX8_38 ?_
    refine v_cVi X [.int (-1000000001)] sX8_51 (ct_X8_finds (j := 0) ll g m0 m4 (by decide) (by decide)) m0 rfl dX8_set_20 rfl rfl ⟨rfl, rfl⟩ ⟨(Nat.le_of_ble_eq_true rfl), (Nat.le_of_ble_eq_true rfl)⟩ ⟨Nat.zero_le _, Nat.zero_le _⟩ (Nat.le_of_ble_eq_true rfl) ?_
    have eqr : op_set (d, k, hk, fo, tape, tp, bits, sz, num) p what v = ((-1000000001), (d, k, hk, fnd fo 0, tape, tp, bits, sz, num)) := by unfold op_set; dsimp only; rw [if_neg (fun q : _ ∧ _ => c1 (And.left q))]
    exact v_iret X r dX8_set_23 (Nat.le_refl _) (Nat.le_refl _) ⟨by rw [eqr], by rw [eqr]; exact (MW_fo hM _)⟩
  · refine v_aload_n X dX8_set_8 0 rfl ?_
    refine v_iload_n X dX8_set_9 2 rfl ?_
    refine v_iload_n X dX8_set_10 3 rfl ?_
    refine v_cVi X [.int what, .int v] sX8_66 (ct_X8_mayBe ll g what v m0 m1) m0 rfl dX8_set_11 rfl rfl ⟨rfl, rfl⟩ ⟨(Nat.le_of_ble_eq_true rfl), (Nat.le_of_ble_eq_true rfl)⟩ ⟨Nat.zero_le _, Nat.zero_le _⟩ (Nat.le_of_ble_eq_true rfl) ?_
    refine v_ifb_ne X dX8_set_14 (tgt := 24) (by decide) (fun c2 => ?_) (fun c2 => ?_)
    · refine v_aload_n X dX8_set_24 0 rfl ?_
      refine v_iload_n X dX8_set_25 1 rfl ?_
      refine v_cVi X [.int p] sX8_70 (ct_X8_isOnLog ll g p m0 m1) m0 rfl dX8_set_26 rfl rfl ⟨rfl, rfl⟩ ⟨(Nat.le_of_ble_eq_true rfl), (Nat.le_of_ble_eq_true rfl)⟩ ⟨Nat.zero_le _, Nat.zero_le _⟩ (Nat.le_of_ble_eq_true rfl) ?_
      refine v_ifb_eq X dX8_set_29 (tgt := 39) (by decide) (fun c3 => ?_) (fun c3 => ?_)
      · have hwn : ∃ jw, jw ≤ 6 ∧ what = nI jw := by
          rcases c2 with q | q | q | q | q
          · exact ⟨1, by decide, q.1⟩
          · exact ⟨2, by decide, q.1⟩
          · exact ⟨3, by decide, q.1⟩
          · exact ⟨4, by decide, q.1⟩
          · exact ⟨6, by decide, q.1⟩
        obtain ⟨jw, hjw, ejw⟩ := hwn
        have qjw : pr what = jw := ix_cl ejw (by omega)
        obtain ⟨jp, hjp, ejp⟩ := wi_n hn (by omega) c1
        have qjp : pr p = jp := ix_cl ejp (by omega)
        refine v_aload_n X dX8_set_39 0 rfl ?_
        refine v_get X fX8_9 m0 rfl dX8_set_40 ?_
        refine v_bipush X dX8_set_43 (v := 40) (by decide) ?_
        refine v_bipush X dX8_set_45 (v := 8) (by decide) ?_
        refine v_iload_n X dX8_set_47 1 rfl ?_
        refine v_imul X dX8_set_48 ?_
        refine v_iadd X dX8_set_49 ?_
        refine v_iload_n X dX8_set_50 2 rfl ?_
        refine v_iadd X dX8_set_51 ?_
        refine v_ialdK X ((40 + (8 * jp)) + jw) m1 (ix_add (ix_add (rfl : (40 : Int32) = nI 40) (ix_mul (rfl : (8 : Int32) = nI 8) ejp)) ejw) (by omega) (by decide) dX8_set_52 ?_
        refine v_istore (lv1 := [(4, .int (d ((40 + (8 * jp)) + jw))), (0, .ref t), (1, .int p), (2, .int what), (3, .int v)]) X dX8_set_53 (by decide) rfl ?_
        refine v_aload_n X dX8_set_55 1 rfl ?_
        refine v_get X fX8_9 m0 rfl dX8_set_56 ?_
        refine v_bipush X dX8_set_59 (v := 40) (by decide) ?_
        refine v_bipush X dX8_set_61 (v := 8) (by decide) ?_
        refine v_iload_n X dX8_set_63 2 rfl ?_
        refine v_imul X dX8_set_64 ?_
        refine v_iadd X dX8_set_65 ?_
        refine v_iload_n X dX8_set_66 3 rfl ?_
        refine v_iadd X dX8_set_67 ?_
        refine v_iload_n X dX8_set_68 4 rfl ?_
        refine v_iastK (h2 := (hU h (A 0) (ai g 260 (upd d ((40 + (8 * jp)) + jw) v)))) X ((40 + (8 * jp)) + jw) m1 (ix_add (ix_add (rfl : (40 : Int32) = nI 40) (ix_mul (rfl : (8 : Int32) = nI 8) ejp)) ejw) (by omega) (by decide) dX8_set_69 rfl ?_
        refine v_iload X dX8_set_70 0 rfl ?_
        have eqr : op_set (d, k, hk, fo, tape, tp, bits, sz, num) p what v = (d ((40 + (8 * jp)) + jw), (upd d ((40 + (8 * jp)) + jw) v, k, hk, fo, tape, tp, bits, sz, num)) := by unfold op_set; dsimp only; rw [if_pos (And.intro c1 c2), if_neg c3, qjp, qjw]; rfl
        exact v_iret X r dX8_set_72 (Nat.le_refl _) (Nat.le_refl _) ⟨by rw [eqr], by rw [eqr]; exact (MW_d hM _)⟩
      · refine v_aload_n X dX8_set_32 0 rfl ?_
        refine v_ldc X dX8_set_33 kX8_73 ?_
        refine v_cVi X [.int (-1000000005)] sX8_51 (ct_X8_finds (j := 4) ll g m0 m4 (by decide) (by decide)) m0 rfl dX8_set_35 rfl rfl ⟨rfl, rfl⟩ ⟨(Nat.le_of_ble_eq_true rfl), (Nat.le_of_ble_eq_true rfl)⟩ ⟨Nat.zero_le _, Nat.zero_le _⟩ (Nat.le_of_ble_eq_true rfl) ?_
        have eqr : op_set (d, k, hk, fo, tape, tp, bits, sz, num) p what v = ((-1000000005), (d, k, hk, fnd fo 4, tape, tp, bits, sz, num)) := by unfold op_set; dsimp only; rw [if_pos (And.intro c1 c2), if_pos c3]
        exact v_iret X r dX8_set_38 (Nat.le_refl _) (Nat.le_refl _) ⟨by rw [eqr], by rw [eqr]; exact (MW_fo hM _)⟩
    · refine v_aload_n X dX8_set_17 0 rfl ?_
      refine v_ldc X dX8_set_18 kX8_38 ?_
      refine v_cVi X [.int (-1000000001)] sX8_51 (ct_X8_finds (j := 0) ll g m0 m4 (by decide) (by decide)) m0 rfl dX8_set_20 rfl rfl ⟨rfl, rfl⟩ ⟨(Nat.le_of_ble_eq_true rfl), (Nat.le_of_ble_eq_true rfl)⟩ ⟨Nat.zero_le _, Nat.zero_le _⟩ (Nat.le_of_ble_eq_true rfl) ?_
      have eqr : op_set (d, k, hk, fo, tape, tp, bits, sz, num) p what v = ((-1000000001), (d, k, hk, fnd fo 0, tape, tp, bits, sz, num)) := by unfold op_set; dsimp only; rw [if_neg (fun q : _ ∧ _ => c2 (And.right q))]
      exact v_iret X r dX8_set_23 (Nat.le_refl _) (Nat.le_refl _) ⟨by rw [eqr], by rw [eqr]; exact (MW_fo hM _)⟩
set_option maxHeartbeats 4000000 in
set_option maxRecDepth 100000 in
theorem ct_X8_as (ll : Launch) (g : GT) {h : Hp} {t : Nat} {A : Nat → Nat} {d k fo tape bits sz : Nat → Int32} {num : Nat → Int64} {hk tp : Int32} {np : Nat}  (p : Int32) (kind : Int32) (hM : MW g h t A (d, k, hk, fo, tape, tp, bits, sz, num)) (hn : d 0 = nI np) (hnp : np ≤ 8) : MC ll g yX8_as cX8_as 3 (some .int) { frames := 2, cells := 0, slots := 0, locals := 80 } [.ref t, .int p, .int kind] h (fun r h2 => r = some (.int (op_as (d, k, hk, fo, tape, tp, bits, sz, num) p kind).1) ∧ MW g h2 t A (op_as (d, k, hk, fo, tape, tp, bits, sz, num) p kind).2) 0 0 := by
  have hM0 := hM
  obtain ⟨e, lf, sw0, sw1, pp, fr, tk, wd, vl, wr, m0, m1, m2, m3, m4, m5, m6, m7, m8, m9, n01, n02, n12, n56⟩ := hM0
  refine mc_of (by decide) (Nat.le_of_ble_eq_true rfl) ?_
  intro K X r
  refine v_eqv (lv2 := [(0, .ref t), (1, .int p), (2, .int kind)]) rfl ?_
  refine v_aload_n X dX8_as_0 0 rfl ?_
  refine v_iload_n X dX8_as_1 1 rfl ?_
  refine v_cVi X [.int p] sX8_43 (ct_X8_isPerson ll g p m0 m1) m0 rfl dX8_as_2 rfl rfl ⟨rfl, rfl⟩ ⟨(Nat.le_of_ble_eq_true rfl), (Nat.le_of_ble_eq_true rfl)⟩ ⟨Nat.zero_le _, Nat.zero_le _⟩ (Nat.le_of_ble_eq_true rfl) ?_
  refine v_ifb_eq X dX8_as_5 (tgt := 20) (by decide) (fun c1 => ?_) (fun c1 => ?_)
  · refine v_aload_n X dX8_as_20 0 rfl ?_
    refine v_ldc X dX8_as_21 kX8_38 ?_
    refine v_cVi X [.int (-1000000001)] sX8_51 (ct_X8_finds (j := 0) ll g m0 m4 (by decide) (by decide)) m0 rfl dX8_as_23 rfl rfl ⟨rfl, rfl⟩ ⟨(Nat.le_of_ble_eq_true rfl), (Nat.le_of_ble_eq_true rfl)⟩ ⟨Nat.zero_le _, Nat.zero_le _⟩ (Nat.le_of_ble_eq_true rfl) ?_
    have eqr : op_as (d, k, hk, fo, tape, tp, bits, sz, num) p kind = ((-1000000001), (d, k, hk, fnd fo 0, tape, tp, bits, sz, num)) := by unfold op_as; dsimp only; rw [if_neg (fun q : _ ∧ _ => c1 (And.left q))]
    exact v_iret X r dX8_as_26 (Nat.le_refl _) (Nat.le_refl _) ⟨by rw [eqr], by rw [eqr]; exact (MW_fo hM _)⟩
  · refine v_iload_n X dX8_as_8 2 rfl ?_
    refine v_i2l X dX8_as_9 ?_
    refine v_lconst X dX8_as_10 (v := 0) (by decide) ?_
    refine v_ldc2 X dX8_as_11 kX8_47 ?_
    refine v_cSi X [.long kind.toInt64, .long (0 : Int64), .long (5 : Int64)] sX8_39 (ct_X8_in (v := kind) (lo := 0) (hi := 5) ll g rfl (by decide) (by decide)) dX8_as_14 rfl rfl ⟨rfl, rfl⟩ ⟨(Nat.le_of_ble_eq_true rfl), (Nat.le_of_ble_eq_true rfl)⟩ ⟨Nat.zero_le _, Nat.zero_le _⟩ (Nat.le_of_ble_eq_true rfl) ?_
    refine v_ifb_ne X dX8_as_17 (tgt := 27) (by decide) (fun c2 => ?_) (fun c2 => ?_)
    · obtain ⟨jp, hjp, ejp⟩ := wi_n hn (by omega) c1
      have qjp : pr p = jp := ix_cl ejp (by omega)
      refine v_aload_n X dX8_as_27 0 rfl ?_
      refine v_get X fX8_9 m0 rfl dX8_as_28 ?_
      refine v_iload_n X dX8_as_31 1 rfl ?_
      refine v_iconst X dX8_as_32 (v := 0) (by decide) ?_
      refine v_cSi X [.ref (A 0), .int p, .int 0] sX8_74 (ct_X8_told (p := jp) (w := 0) ll g  m1 ejp (rfl : (0 : Int32) = nI 0) (by omega)) dX8_as_33 rfl rfl ⟨rfl, rfl⟩ ⟨(Nat.le_of_ble_eq_true rfl), (Nat.le_of_ble_eq_true rfl)⟩ ⟨Nat.zero_le _, Nat.zero_le _⟩ (Nat.le_of_ble_eq_true rfl) ?_
      refine v_iload_n X dX8_as_36 2 rfl ?_
      refine v_cSi X [.int (told d jp 0), .int kind] sX8_78 (ct_X8_isOf ll g (told d jp 0) kind) dX8_as_37 rfl rfl ⟨rfl, rfl⟩ ⟨(Nat.le_of_ble_eq_true rfl), (Nat.le_of_ble_eq_true rfl)⟩ ⟨Nat.zero_le _, Nat.zero_le _⟩ (Nat.le_of_ble_eq_true rfl) ?_
      refine v_ifb_eq X dX8_as_40 (tgt := 55) (by decide) (fun c3 => ?_) (fun c3 => ?_)
      · refine v_aload_n X dX8_as_55 0 rfl ?_
        refine v_ldc X dX8_as_56 kX8_81 ?_
        refine v_cVi X [.int (-1000000003)] sX8_51 (ct_X8_finds (j := 2) ll g m0 m4 (by decide) (by decide)) m0 rfl dX8_as_58 rfl rfl ⟨rfl, rfl⟩ ⟨(Nat.le_of_ble_eq_true rfl), (Nat.le_of_ble_eq_true rfl)⟩ ⟨Nat.zero_le _, Nat.zero_le _⟩ (Nat.le_of_ble_eq_true rfl) ?_
        have eqr : op_as (d, k, hk, fo, tape, tp, bits, sz, num) p kind = ((-1000000003), (d, k, hk, fnd fo 2, tape, tp, bits, sz, num)) := by unfold op_as; dsimp only; rw [if_pos (And.intro c1 c2), qjp, if_neg c3]
        exact v_iret X r dX8_as_61 (Nat.le_refl _) (Nat.le_refl _) ⟨by rw [eqr], by rw [eqr]; exact (MW_fo hM _)⟩
      · refine v_aload_n X dX8_as_43 0 rfl ?_
        refine v_get X fX8_9 m0 rfl dX8_as_44 ?_
        refine v_iload_n X dX8_as_47 1 rfl ?_
        refine v_iconst X dX8_as_48 (v := 5) (by decide) ?_
        refine v_cSi X [.ref (A 0), .int p, .int 5] sX8_74 (ct_X8_told (p := jp) (w := 5) ll g  m1 ejp (rfl : (5 : Int32) = nI 5) (by omega)) dX8_as_49 rfl rfl ⟨rfl, rfl⟩ ⟨(Nat.le_of_ble_eq_true rfl), (Nat.le_of_ble_eq_true rfl)⟩ ⟨Nat.zero_le _, Nat.zero_le _⟩ (Nat.le_of_ble_eq_true rfl) ?_
        refine v_goto X dX8_as_52 (tgt := 61) (by decide) ?_
        have eqr : op_as (d, k, hk, fo, tape, tp, bits, sz, num) p kind = (told d jp 5, (d, k, hk, fo, tape, tp, bits, sz, num)) := by unfold op_as; dsimp only; rw [if_pos (And.intro c1 c2), qjp, if_pos c3]
        exact v_iret X r dX8_as_61 (Nat.le_refl _) (Nat.le_refl _) ⟨by rw [eqr], by rw [eqr]; exact hM⟩
    · refine v_aload_n X dX8_as_20 0 rfl ?_
      refine v_ldc X dX8_as_21 kX8_38 ?_
      refine v_cVi X [.int (-1000000001)] sX8_51 (ct_X8_finds (j := 0) ll g m0 m4 (by decide) (by decide)) m0 rfl dX8_as_23 rfl rfl ⟨rfl, rfl⟩ ⟨(Nat.le_of_ble_eq_true rfl), (Nat.le_of_ble_eq_true rfl)⟩ ⟨Nat.zero_le _, Nat.zero_le _⟩ (Nat.le_of_ble_eq_true rfl) ?_
      have eqr : op_as (d, k, hk, fo, tape, tp, bits, sz, num) p kind = ((-1000000001), (d, k, hk, fnd fo 0, tape, tp, bits, sz, num)) := by unfold op_as; dsimp only; rw [if_neg (fun q : _ ∧ _ => c2 (And.right q))]
      exact v_iret X r dX8_as_26 (Nat.le_refl _) (Nat.le_refl _) ⟨by rw [eqr], by rw [eqr]; exact (MW_fo hM _)⟩
set_option maxHeartbeats 4000000 in
set_option maxRecDepth 100000 in
theorem ct_X8_log (ll : Launch) (g : GT) {h : Hp} {t : Nat} {A : Nat → Nat} {d k fo tape bits sz : Nat → Int32} {num : Nat → Int64} {hk tp : Int32}  (what : Int32) (v : Int32) (hM : MW g h t A (d, k, hk, fo, tape, tp, bits, sz, num)) : MC ll g yX8_log cX8_log 6 (some .int) { frames := 1, cells := 0, slots := 0, locals := 50 } [.ref t, .int what, .int v] h (fun r h2 => r = some (.int (op_log (d, k, hk, fo, tape, tp, bits, sz, num) what v).1) ∧ MW g h2 t A (op_log (d, k, hk, fo, tape, tp, bits, sz, num) what v).2) 0 0 := by
  have hM0 := hM
  obtain ⟨e, lf, sw0, sw1, pp, fr, tk, wd, vl, wr, m0, m1, m2, m3, m4, m5, m6, m7, m8, m9, n01, n02, n12, n56⟩ := hM0
  refine mc_of (by decide) (Nat.le_of_ble_eq_true rfl) ?_
  intro K X r
  refine v_eqv (lv2 := [(0, .ref t), (1, .int what), (2, .int v)]) rfl ?_
  refine v_iload_n X dX8_log_0 1 rfl ?_
  refine v_i2l X dX8_log_1 ?_
  refine v_lconst X dX8_log_2 (v := 0) (by decide) ?_
  refine v_ldc2 X dX8_log_3 kX8_82 ?_
  refine v_cSi X [.long what.toInt64, .long (0 : Int64), .long (4 : Int64)] sX8_39 (ct_X8_in (v := what) (lo := 0) (hi := 4) ll g rfl (by decide) (by decide)) dX8_log_6 rfl rfl ⟨rfl, rfl⟩ ⟨(Nat.le_of_ble_eq_true rfl), (Nat.le_of_ble_eq_true rfl)⟩ ⟨Nat.zero_le _, Nat.zero_le _⟩ (Nat.le_of_ble_eq_true rfl) ?_
  refine v_ifb_ne X dX8_log_9 (tgt := 19) (by decide) (fun c1 => ?_) (fun c1 => ?_)
  · refine v_iload_n X dX8_log_19 1 rfl ?_
    have J1 : VJ K 0 0 h 28 [(0, .ref t), (1, .int what), (2, .int v)] [.int (leastS what)] := by
      refine v_istore_n (lv1 := [(3, .int (leastS what)), (0, .ref t), (1, .int what), (2, .int v)]) X dX8_log_28 (by decide) rfl ?_
      refine v_iload_n X dX8_log_29 2 rfl ?_
      have J2 : VJ K 0 0 h 61 [(3, .int (leastS what)), (0, .ref t), (1, .int what), (2, .int v)] [.int (mostS what)] := by
        refine v_istore (lv1 := [(4, .int (mostS what)), (3, .int (leastS what)), (0, .ref t), (1, .int what), (2, .int v)]) X dX8_log_61 (by decide) rfl ?_
        refine v_iload_n X dX8_log_63 4 rfl ?_
        refine v_i2l X dX8_log_64 ?_
        refine v_iload_n X dX8_log_65 1 rfl ?_
        refine v_i2l X dX8_log_66 ?_
        refine v_iload X dX8_log_67 0 rfl ?_
        refine v_i2l X dX8_log_69 ?_
        refine v_cSi X [.long v.toInt64, .long ((leastS what).toInt64), .long ((mostS what).toInt64)] sX8_39 (ct_X8_in (v := v) (lo := leastS what) (hi := mostS what) ll g rfl rfl rfl) dX8_log_70 rfl rfl ⟨rfl, rfl⟩ ⟨(Nat.le_of_ble_eq_true rfl), (Nat.le_of_ble_eq_true rfl)⟩ ⟨Nat.zero_le _, Nat.zero_le _⟩ (Nat.le_of_ble_eq_true rfl) ?_
        refine v_ifb_ne X dX8_log_73 (tgt := 83) (by decide) (fun c2 => ?_) (fun c2 => ?_)
        · obtain ⟨jw, hjw, ejw⟩ := wi_c 4 rfl (by decide) c1
          have qjw : pr what = jw := ix_cl ejw (by omega)
          refine v_aload_n X dX8_log_83 2 rfl ?_
          refine v_get X fX8_9 m0 rfl dX8_log_84 ?_
          refine v_bipush X dX8_log_87 (v := 10) (by decide) ?_
          refine v_iload_n X dX8_log_89 3 rfl ?_
          refine v_iadd X dX8_log_90 ?_
          refine v_ialdK X (10 + jw) m1 (ix_add (rfl : (10 : Int32) = nI 10) ejw) (by omega) (by decide) dX8_log_91 ?_
          refine v_istore (lv1 := [(5, .int (d (10 + jw))), (4, .int (mostS what)), (3, .int (leastS what)), (0, .ref t), (1, .int what), (2, .int v)]) X dX8_log_92 (by decide) rfl ?_
          refine v_aload_n X dX8_log_94 3 rfl ?_
          refine v_get X fX8_9 m0 rfl dX8_log_95 ?_
          refine v_bipush X dX8_log_98 (v := 10) (by decide) ?_
          refine v_iload_n X dX8_log_100 4 rfl ?_
          refine v_iadd X dX8_log_101 ?_
          refine v_iload_n X dX8_log_102 5 rfl ?_
          refine v_iastK (h2 := (hU h (A 0) (ai g 260 (upd d (10 + jw) v)))) X (10 + jw) m1 (ix_add (rfl : (10 : Int32) = nI 10) ejw) (by omega) (by decide) dX8_log_103 rfl ?_
          refine v_iload X dX8_log_104 0 rfl ?_
          have eqr : op_log (d, k, hk, fo, tape, tp, bits, sz, num) what v = (d (10 + jw), (upd d (10 + jw) v, k, hk, fo, tape, tp, bits, sz, num)) := by unfold op_log; dsimp only; rw [if_pos c1, if_pos c2, qjw]
          exact v_iret X r dX8_log_106 (Nat.le_refl _) (Nat.le_refl _) ⟨by rw [eqr], by rw [eqr]; exact (MW_d hM _)⟩
        · refine v_aload_n X dX8_log_76 2 rfl ?_
          refine v_ldc X dX8_log_77 kX8_38 ?_
          refine v_cVi X [.int (-1000000001)] sX8_51 (ct_X8_finds (j := 0) ll g m0 m4 (by decide) (by decide)) m0 rfl dX8_log_79 rfl rfl ⟨rfl, rfl⟩ ⟨(Nat.le_of_ble_eq_true rfl), (Nat.le_of_ble_eq_true rfl)⟩ ⟨Nat.zero_le _, Nat.zero_le _⟩ (Nat.le_of_ble_eq_true rfl) ?_
          have eqr : op_log (d, k, hk, fo, tape, tp, bits, sz, num) what v = ((-1000000001), (d, k, hk, fnd fo 0, tape, tp, bits, sz, num)) := by unfold op_log; dsimp only; rw [if_pos c1, if_neg c2]
          exact v_iret X r dX8_log_82 (Nat.le_refl _) (Nat.le_refl _) ⟨by rw [eqr], by rw [eqr]; exact (MW_fo hM _)⟩
      refine v_if_ne X dX8_log_30 (tgt := 38) (by decide) (fun c3 => ?_) (fun c3 => ?_)
      · refine v_iload_n X dX8_log_38 2 rfl ?_
        refine v_iconst X dX8_log_39 (v := 3) (by decide) ?_
        refine v_icmp_ne X dX8_log_40 (tgt := 49) (by decide) (fun c4 => ?_) (fun c4 => ?_)
        · refine v_iload_n X dX8_log_49 2 rfl ?_
          refine v_iconst X dX8_log_50 (v := 4) (by decide) ?_
          refine v_icmp_ne X dX8_log_51 (tgt := 59) (by decide) (fun c5 => ?_) (fun c5 => ?_)
          · refine v_bipush X dX8_log_59 (v := 50) (by decide) ?_
            exact v_eqi (by simp [mostS, c1, c3, c4, c5]) J2
          · refine v_bipush X dX8_log_54 (v := 100) (by decide) ?_
            refine v_goto X dX8_log_56 (tgt := 61) (by decide) ?_
            exact v_eqi (by simp [mostS, c1, c3, c4, c5]) J2
        · refine v_sipush X dX8_log_43 (v := 999) (by decide) ?_
          refine v_goto X dX8_log_46 (tgt := 61) (by decide) ?_
          exact v_eqi (by simp [mostS, c1, c3, c4]) J2
      · refine v_bipush X dX8_log_33 (v := 99) (by decide) ?_
        refine v_goto X dX8_log_35 (tgt := 61) (by decide) ?_
        exact v_eqi (by simp [mostS, c1, c3]) J2
    refine v_if_ne X dX8_log_20 (tgt := 27) (by decide) (fun c6 => ?_) (fun c6 => ?_)
    · refine v_iconst X dX8_log_27 (v := 0) (by decide) ?_
      exact v_eqi (by simp [leastS, c1, c6]) J1
    · refine v_iconst X dX8_log_23 (v := 1) (by decide) ?_
      refine v_goto X dX8_log_24 (tgt := 28) (by decide) ?_
      exact v_eqi (by simp [leastS, c1, c6]) J1
  · refine v_aload_n X dX8_log_12 0 rfl ?_
    refine v_ldc X dX8_log_13 kX8_38 ?_
    refine v_cVi X [.int (-1000000001)] sX8_51 (ct_X8_finds (j := 0) ll g m0 m4 (by decide) (by decide)) m0 rfl dX8_log_15 rfl rfl ⟨rfl, rfl⟩ ⟨(Nat.le_of_ble_eq_true rfl), (Nat.le_of_ble_eq_true rfl)⟩ ⟨Nat.zero_le _, Nat.zero_le _⟩ (Nat.le_of_ble_eq_true rfl) ?_
    have eqr : op_log (d, k, hk, fo, tape, tp, bits, sz, num) what v = ((-1000000001), (d, k, hk, fnd fo 0, tape, tp, bits, sz, num)) := by unfold op_log; dsimp only; rw [if_neg c1]
    exact v_iret X r dX8_log_18 (Nat.le_refl _) (Nat.le_refl _) ⟨by rw [eqr], by rw [eqr]; exact (MW_fo hM _)⟩
set_option maxHeartbeats 4000000 in
set_option maxRecDepth 100000 in
theorem ct_X8_push (ll : Launch) (g : GT) {h : Hp} {t : Nat} {A : Nat → Nat} {d k fo tape bits sz : Nat → Int32} {num : Nat → Int64} {hk tp : Int32} {np : Nat}  (p : Int32) (s : Int32) (l : Int32) (e1 : Int32) (t1 : Int32) (hM : MW g h t A (d, k, hk, fo, tape, tp, bits, sz, num)) (hn : d 0 = nI np) (hnp : np ≤ 8) (hwy : ∀ j, j < np → wayOk d j) : MC ll g yX8_push cX8_push 6 (some .int) { frames := 2, cells := 0, slots := 0, locals := 90 } [.ref t, .int p, .int s, .int l, .int e1, .int t1] h (fun r h2 => r = some (.int (op_push (d, k, hk, fo, tape, tp, bits, sz, num) p s l e1 t1).1) ∧ MW g h2 t A (op_push (d, k, hk, fo, tape, tp, bits, sz, num) p s l e1 t1).2) 0 0 := by
  have hM0 := hM
  obtain ⟨e, lf, sw0, sw1, pp, fr, tk, wd, vl, wr, m0, m1, m2, m3, m4, m5, m6, m7, m8, m9, n01, n02, n12, n56⟩ := hM0
  refine mc_of (by decide) (Nat.le_of_ble_eq_true rfl) ?_
  intro K X r
  refine v_eqv (lv2 := [(0, .ref t), (1, .int p), (2, .int s), (3, .int l), (4, .int e1), (5, .int t1)]) rfl ?_
  refine v_aload_n X dX8_push_0 0 rfl ?_
  refine v_iload_n X dX8_push_1 1 rfl ?_
  refine v_cVi X [.int p] sX8_43 (ct_X8_isPerson ll g p m0 m1) m0 rfl dX8_push_2 rfl rfl ⟨rfl, rfl⟩ ⟨(Nat.le_of_ble_eq_true rfl), (Nat.le_of_ble_eq_true rfl)⟩ ⟨Nat.zero_le _, Nat.zero_le _⟩ (Nat.le_of_ble_eq_true rfl) ?_
  refine v_ifb_eq X dX8_push_5 (tgt := 62) (by decide) (fun c1 => ?_) (fun c1 => ?_)
  · refine v_aload_n X dX8_push_62 0 rfl ?_
    refine v_ldc X dX8_push_63 kX8_38 ?_
    refine v_cVi X [.int (-1000000001)] sX8_51 (ct_X8_finds (j := 0) ll g m0 m4 (by decide) (by decide)) m0 rfl dX8_push_65 rfl rfl ⟨rfl, rfl⟩ ⟨(Nat.le_of_ble_eq_true rfl), (Nat.le_of_ble_eq_true rfl)⟩ ⟨Nat.zero_le _, Nat.zero_le _⟩ (Nat.le_of_ble_eq_true rfl) ?_
    have eqr : op_push (d, k, hk, fo, tape, tp, bits, sz, num) p s l e1 t1 = ((-1000000001), (d, k, hk, fnd fo 0, tape, tp, bits, sz, num)) := by unfold op_push; dsimp only; rw [if_neg (fun q : _ ∧ _ ∧ _ ∧ _ ∧ _ => c1 (And.left q))]
    exact v_iret X r dX8_push_68 (Nat.le_refl _) (Nat.le_refl _) ⟨by rw [eqr], by rw [eqr]; exact (MW_fo hM _)⟩
  · refine v_iload_n X dX8_push_8 2 rfl ?_
    refine v_i2l X dX8_push_9 ?_
    refine v_ldc2 X dX8_push_10 kX8_95 ?_
    refine v_ldc2 X dX8_push_13 kX8_97 ?_
    refine v_cSi X [.long s.toInt64, .long (-9999 : Int64), .long (9999 : Int64)] sX8_39 (ct_X8_in (v := s) (lo := (-9999)) (hi := 9999) ll g rfl (by decide) (by decide)) dX8_push_16 rfl rfl ⟨rfl, rfl⟩ ⟨(Nat.le_of_ble_eq_true rfl), (Nat.le_of_ble_eq_true rfl)⟩ ⟨Nat.zero_le _, Nat.zero_le _⟩ (Nat.le_of_ble_eq_true rfl) ?_
    refine v_ifb_eq X dX8_push_19 (tgt := 62) (by decide) (fun c2 => ?_) (fun c2 => ?_)
    · refine v_aload_n X dX8_push_62 0 rfl ?_
      refine v_ldc X dX8_push_63 kX8_38 ?_
      refine v_cVi X [.int (-1000000001)] sX8_51 (ct_X8_finds (j := 0) ll g m0 m4 (by decide) (by decide)) m0 rfl dX8_push_65 rfl rfl ⟨rfl, rfl⟩ ⟨(Nat.le_of_ble_eq_true rfl), (Nat.le_of_ble_eq_true rfl)⟩ ⟨Nat.zero_le _, Nat.zero_le _⟩ (Nat.le_of_ble_eq_true rfl) ?_
      have eqr : op_push (d, k, hk, fo, tape, tp, bits, sz, num) p s l e1 t1 = ((-1000000001), (d, k, hk, fnd fo 0, tape, tp, bits, sz, num)) := by unfold op_push; dsimp only; rw [if_neg (fun q : _ ∧ _ ∧ _ ∧ _ ∧ _ => c2 (And.left (And.right q)))]
      exact v_iret X r dX8_push_68 (Nat.le_refl _) (Nat.le_refl _) ⟨by rw [eqr], by rw [eqr]; exact (MW_fo hM _)⟩
    · refine v_iload_n X dX8_push_22 3 rfl ?_
      refine v_i2l X dX8_push_23 ?_
      refine v_ldc2 X dX8_push_24 kX8_99 ?_
      refine v_ldc2 X dX8_push_27 kX8_62 ?_
      refine v_cSi X [.long l.toInt64, .long (-999 : Int64), .long (999 : Int64)] sX8_39 (ct_X8_in (v := l) (lo := (-999)) (hi := 999) ll g rfl (by decide) (by decide)) dX8_push_30 rfl rfl ⟨rfl, rfl⟩ ⟨(Nat.le_of_ble_eq_true rfl), (Nat.le_of_ble_eq_true rfl)⟩ ⟨Nat.zero_le _, Nat.zero_le _⟩ (Nat.le_of_ble_eq_true rfl) ?_
      refine v_ifb_eq X dX8_push_33 (tgt := 62) (by decide) (fun c3 => ?_) (fun c3 => ?_)
      · refine v_aload_n X dX8_push_62 0 rfl ?_
        refine v_ldc X dX8_push_63 kX8_38 ?_
        refine v_cVi X [.int (-1000000001)] sX8_51 (ct_X8_finds (j := 0) ll g m0 m4 (by decide) (by decide)) m0 rfl dX8_push_65 rfl rfl ⟨rfl, rfl⟩ ⟨(Nat.le_of_ble_eq_true rfl), (Nat.le_of_ble_eq_true rfl)⟩ ⟨Nat.zero_le _, Nat.zero_le _⟩ (Nat.le_of_ble_eq_true rfl) ?_
        have eqr : op_push (d, k, hk, fo, tape, tp, bits, sz, num) p s l e1 t1 = ((-1000000001), (d, k, hk, fnd fo 0, tape, tp, bits, sz, num)) := by unfold op_push; dsimp only; rw [if_neg (fun q : _ ∧ _ ∧ _ ∧ _ ∧ _ => c3 (And.left (And.right (And.right q))))]
        exact v_iret X r dX8_push_68 (Nat.le_refl _) (Nat.le_refl _) ⟨by rw [eqr], by rw [eqr]; exact (MW_fo hM _)⟩
      · refine v_iload X dX8_push_36 4 rfl ?_
        refine v_i2l X dX8_push_38 ?_
        refine v_lconst X dX8_push_39 (v := 0) (by decide) ?_
        refine v_ldc2 X dX8_push_40 kX8_62 ?_
        refine v_cSi X [.long e1.toInt64, .long (0 : Int64), .long (999 : Int64)] sX8_39 (ct_X8_in (v := e1) (lo := 0) (hi := 999) ll g rfl (by decide) (by decide)) dX8_push_43 rfl rfl ⟨rfl, rfl⟩ ⟨(Nat.le_of_ble_eq_true rfl), (Nat.le_of_ble_eq_true rfl)⟩ ⟨Nat.zero_le _, Nat.zero_le _⟩ (Nat.le_of_ble_eq_true rfl) ?_
        refine v_ifb_eq X dX8_push_46 (tgt := 62) (by decide) (fun c4 => ?_) (fun c4 => ?_)
        · refine v_aload_n X dX8_push_62 0 rfl ?_
          refine v_ldc X dX8_push_63 kX8_38 ?_
          refine v_cVi X [.int (-1000000001)] sX8_51 (ct_X8_finds (j := 0) ll g m0 m4 (by decide) (by decide)) m0 rfl dX8_push_65 rfl rfl ⟨rfl, rfl⟩ ⟨(Nat.le_of_ble_eq_true rfl), (Nat.le_of_ble_eq_true rfl)⟩ ⟨Nat.zero_le _, Nat.zero_le _⟩ (Nat.le_of_ble_eq_true rfl) ?_
          have eqr : op_push (d, k, hk, fo, tape, tp, bits, sz, num) p s l e1 t1 = ((-1000000001), (d, k, hk, fnd fo 0, tape, tp, bits, sz, num)) := by unfold op_push; dsimp only; rw [if_neg (fun q : _ ∧ _ ∧ _ ∧ _ ∧ _ => c4 (And.left (And.right (And.right (And.right q)))))]
          exact v_iret X r dX8_push_68 (Nat.le_refl _) (Nat.le_refl _) ⟨by rw [eqr], by rw [eqr]; exact (MW_fo hM _)⟩
        · refine v_iload X dX8_push_49 5 rfl ?_
          refine v_i2l X dX8_push_51 ?_
          refine v_lconst X dX8_push_52 (v := 0) (by decide) ?_
          refine v_ldc2 X dX8_push_53 kX8_62 ?_
          refine v_cSi X [.long t1.toInt64, .long (0 : Int64), .long (999 : Int64)] sX8_39 (ct_X8_in (v := t1) (lo := 0) (hi := 999) ll g rfl (by decide) (by decide)) dX8_push_56 rfl rfl ⟨rfl, rfl⟩ ⟨(Nat.le_of_ble_eq_true rfl), (Nat.le_of_ble_eq_true rfl)⟩ ⟨Nat.zero_le _, Nat.zero_le _⟩ (Nat.le_of_ble_eq_true rfl) ?_
          refine v_ifb_ne X dX8_push_59 (tgt := 69) (by decide) (fun c5 => ?_) (fun c5 => ?_)
          · obtain ⟨jp, hjp, ejp⟩ := wi_n hn (by omega) c1
            have qjp : pr p = jp := ix_cl ejp (by omega)
            refine v_aload_n X dX8_push_69 0 rfl ?_
            refine v_get X fX8_9 m0 rfl dX8_push_70 ?_
            refine v_iload_n X dX8_push_73 1 rfl ?_
            refine v_iload_n X dX8_push_74 2 rfl ?_
            refine v_iload_n X dX8_push_75 3 rfl ?_
            refine v_iload X dX8_push_76 4 rfl ?_
            refine v_iload X dX8_push_78 5 rfl ?_
            refine v_cSi X [.ref (A 0), .int p, .int s, .int l, .int e1, .int t1] sX8_101 (ct_X8_pushOf (p := jp) ll g s l e1 t1 m1 ejp (by omega) (hwy jp hjp)) dX8_push_80 rfl rfl ⟨rfl, rfl⟩ ⟨(Nat.le_of_ble_eq_true rfl), (Nat.le_of_ble_eq_true rfl)⟩ ⟨Nat.zero_le _, Nat.zero_le _⟩ (Nat.le_of_ble_eq_true rfl) ?_
            have eqr : op_push (d, k, hk, fo, tape, tp, bits, sz, num) p s l e1 t1 = (pushM d jp s l e1 t1, (d, k, hk, fo, tape, tp, bits, sz, num)) := by unfold op_push; dsimp only; rw [if_pos (And.intro c1 (And.intro c2 (And.intro c3 (And.intro c4 c5)))), qjp]
            exact v_iret X r dX8_push_83 (Nat.le_refl _) (Nat.le_refl _) ⟨by rw [eqr], by rw [eqr]; exact hM⟩
          · refine v_aload_n X dX8_push_62 0 rfl ?_
            refine v_ldc X dX8_push_63 kX8_38 ?_
            refine v_cVi X [.int (-1000000001)] sX8_51 (ct_X8_finds (j := 0) ll g m0 m4 (by decide) (by decide)) m0 rfl dX8_push_65 rfl rfl ⟨rfl, rfl⟩ ⟨(Nat.le_of_ble_eq_true rfl), (Nat.le_of_ble_eq_true rfl)⟩ ⟨Nat.zero_le _, Nat.zero_le _⟩ (Nat.le_of_ble_eq_true rfl) ?_
            have eqr : op_push (d, k, hk, fo, tape, tp, bits, sz, num) p s l e1 t1 = ((-1000000001), (d, k, hk, fnd fo 0, tape, tp, bits, sz, num)) := by unfold op_push; dsimp only; rw [if_neg (fun q : _ ∧ _ ∧ _ ∧ _ ∧ _ => c5 (And.right (And.right (And.right (And.right q)))))]
            exact v_iret X r dX8_push_68 (Nat.le_refl _) (Nat.le_refl _) ⟨by rw [eqr], by rw [eqr]; exact (MW_fo hM _)⟩
set_option maxHeartbeats 4000000 in
set_option maxRecDepth 100000 in
theorem ct_X8_getsOn (ll : Launch) (g : GT) {h : Hp} {a : Nat} {m : Nat → Int32} {x y : Int32} {p0 p1 : Nat} (ha : h a = some (ai g 260 m)) (hx : x = nI p0) (hy : y = nI p1) (h0 : p0 < 8) (h1 : p1 < 8) : MF ll g yX8_getsOn cX8_getsOn 4 none (k2_rm 1 40) [.ref a, .int x, .int y] h none (hU h a (ai g 260 (getsA m p0 p1))) := by
  refine mc_of (by decide) (Nat.le_of_ble_eq_true rfl) ?_
  intro K X r
  refine v_eqv (lv2 := [(0, .ref a), (1, .int x), (2, .int y)]) rfl ?_
  refine v_aload_n X dX8_getsOn_0 0 rfl ?_
  refine v_iconst X dX8_getsOn_1 (v := 2) (by decide) ?_
  refine v_iconst X dX8_getsOn_2 (v := 1) (by decide) ?_
  refine v_iastK (h2 := (hU h a (ai g 260 (upd m 2 1)))) X 2 ha (rfl : (2 : Int32) = nI 2) (by decide) (by decide) dX8_getsOn_3 rfl ?_
  refine v_aload_n X dX8_getsOn_4 0 rfl ?_
  refine v_iconst X dX8_getsOn_5 (v := 3) (by decide) ?_
  refine v_iload_n X dX8_getsOn_6 1 rfl ?_
  refine v_iastK (h2 := (hU h a (ai g 260 (upd (upd m 2 1) 3 x)))) X 3 hU_s (rfl : (3 : Int32) = nI 3) (by decide) (by decide) dX8_getsOn_7 hU_u ?_
  refine v_aload_n X dX8_getsOn_8 0 rfl ?_
  refine v_iconst X dX8_getsOn_9 (v := 4) (by decide) ?_
  refine v_iload_n X dX8_getsOn_10 2 rfl ?_
  refine v_iastK (h2 := (hU h a (ai g 260 (upd (upd (upd m 2 1) 3 x) 4 y)))) X 4 hU_s (rfl : (4 : Int32) = nI 4) (by decide) (by decide) dX8_getsOn_11 hU_u ?_
  refine v_aload_n X dX8_getsOn_12 0 rfl ?_
  refine v_iconst X dX8_getsOn_13 (v := 5) (by decide) ?_
  refine v_iconst X dX8_getsOn_14 (v := 0) (by decide) ?_
  refine v_iastK (h2 := (hU h a (ai g 260 (upd (upd (upd (upd m 2 1) 3 x) 4 y) 5 0)))) X 5 hU_s (rfl : (5 : Int32) = nI 5) (by decide) (by decide) dX8_getsOn_15 hU_u ?_
  refine v_aload_n X dX8_getsOn_16 0 rfl ?_
  refine v_bipush X dX8_getsOn_17 (v := 6) (by decide) ?_
  refine v_iconst X dX8_getsOn_19 (v := 0) (by decide) ?_
  refine v_iastK (h2 := (hU h a (ai g 260 (upd (upd (upd (upd (upd m 2 1) 3 x) 4 y) 5 0) 6 0)))) X 6 hU_s (rfl : (6 : Int32) = nI 6) (by decide) (by decide) dX8_getsOn_20 hU_u ?_
  refine v_iconst X dX8_getsOn_21 (v := 0) (by decide) ?_
  refine v_istore_n (lv1 := [(3, .int 0), (0, .ref a), (1, .int x), (2, .int y)]) X dX8_getsOn_22 (by decide) rfl ?_
  refine v_iload_n X dX8_getsOn_23 0 rfl ?_
  refine v_iconst X dX8_getsOn_24 (v := 2) (by decide) ?_
  refine v_icmp_ge X dX8_getsOn_25 (tgt := 64) (by decide) (fun c => absurd c (by decide)) (fun _ => ?_)
  refine v_aload_n X dX8_getsOn_28 1 rfl ?_
  refine v_bipush X dX8_getsOn_29 (v := 16) (by decide) ?_
  refine v_iload_n X dX8_getsOn_31 0 rfl ?_
  refine v_iadd X dX8_getsOn_32 ?_
  refine v_iconst X dX8_getsOn_33 (v := 0) (by decide) ?_
  refine v_iastK (h2 := (hU h a (ai g 260 (upd (upd (upd (upd (upd (upd m 2 1) 3 x) 4 y) 5 0) 6 0) 16 0)))) X 16 hU_s (ix_add (rfl : (16 : Int32) = nI 16) (rfl : (0 : Int32) = nI 0)) (by decide) (by decide) dX8_getsOn_34 hU_u ?_
  refine v_aload_n X dX8_getsOn_35 1 rfl ?_
  refine v_bipush X dX8_getsOn_36 (v := 18) (by decide) ?_
  refine v_iload_n X dX8_getsOn_38 0 rfl ?_
  refine v_iadd X dX8_getsOn_39 ?_
  refine v_iconst X dX8_getsOn_40 (v := 0) (by decide) ?_
  refine v_iastK (h2 := (hU h a (ai g 260 (upd (upd (upd (upd (upd (upd (upd m 2 1) 3 x) 4 y) 5 0) 6 0) 16 0) 18 0)))) X 18 hU_s (ix_add (rfl : (18 : Int32) = nI 18) (rfl : (0 : Int32) = nI 0)) (by decide) (by decide) dX8_getsOn_41 hU_u ?_
  refine v_aload_n X dX8_getsOn_42 1 rfl ?_
  refine v_bipush X dX8_getsOn_43 (v := 20) (by decide) ?_
  refine v_iload_n X dX8_getsOn_45 0 rfl ?_
  refine v_iadd X dX8_getsOn_46 ?_
  refine v_aload_n X dX8_getsOn_47 1 rfl ?_
  refine v_aload_n X dX8_getsOn_48 1 rfl ?_
  refine v_iconst X dX8_getsOn_49 (v := 3) (by decide) ?_
  refine v_iload_n X dX8_getsOn_50 0 rfl ?_
  refine v_iadd X dX8_getsOn_51 ?_
  refine v_ialdK X 3 hU_s (ix_add (rfl : (3 : Int32) = nI 3) (rfl : (0 : Int32) = nI 0)) (by decide) (by decide) dX8_getsOn_52 ?_
  refine v_eqi (y := x) (Eq.trans (Eq.trans (Eq.trans (Eq.trans (Eq.trans (pk_un (by decide)) (pk_un (by decide))) (pk_un (by decide))) (pk_un (by decide))) (pk_un (by decide))) pk_us) ?_
  refine v_iconst X dX8_getsOn_53 (v := 4) (by decide) ?_
  refine v_cSi X [.ref a, .int x, .int 4] sX8_74 (ct_X8_told (p := p0) (w := 4) ll g  hU_s hx (rfl : (4 : Int32) = nI 4) (by omega)) dX8_getsOn_54 rfl rfl ⟨rfl, rfl⟩ ⟨(Nat.le_of_ble_eq_true rfl), (Nat.le_of_ble_eq_true rfl)⟩ ⟨Nat.zero_le _, Nat.zero_le _⟩ (Nat.le_of_ble_eq_true rfl) ?_
  refine v_eqi (y := told (upd (upd (upd (upd (upd (upd m 2 1) 3 x) 4 y) 5 0) 6 0) 16 0) p0 4) (told_lo (by omega)) ?_
  refine v_eqi (y := told (upd (upd (upd (upd (upd m 2 1) 3 x) 4 y) 5 0) 6 0) p0 4) (told_lo (by omega)) ?_
  refine v_eqi (y := told (upd (upd (upd (upd m 2 1) 3 x) 4 y) 5 0) p0 4) (told_lo (by omega)) ?_
  refine v_eqi (y := told (upd (upd (upd m 2 1) 3 x) 4 y) p0 4) (told_lo (by omega)) ?_
  refine v_eqi (y := told (upd (upd m 2 1) 3 x) p0 4) (told_lo (by omega)) ?_
  refine v_eqi (y := told (upd m 2 1) p0 4) (told_lo (by omega)) ?_
  refine v_eqi (y := told m p0 4) (told_lo (by omega)) ?_
  refine v_iastK (h2 := (hU h a (ai g 260 (upd (upd (upd (upd (upd (upd (upd (upd m 2 1) 3 x) 4 y) 5 0) 6 0) 16 0) 18 0) 20 (told m p0 4))))) X 20 hU_s (ix_add (rfl : (20 : Int32) = nI 20) (rfl : (0 : Int32) = nI 0)) (by decide) (by decide) dX8_getsOn_57 hU_u ?_
  refine v_iinc (v := 1) (lv1 := [(3, .int 1), (0, .ref a), (1, .int x), (2, .int y)]) X dX8_getsOn_58 0 rfl (by decide) (by decide) rfl ?_
  refine v_goto X dX8_getsOn_61 (tgt := 23) (by decide) ?_
  refine v_iload_n X dX8_getsOn_23 0 rfl ?_
  refine v_iconst X dX8_getsOn_24 (v := 2) (by decide) ?_
  refine v_icmp_ge X dX8_getsOn_25 (tgt := 64) (by decide) (fun c => absurd c (by decide)) (fun _ => ?_)
  refine v_aload_n X dX8_getsOn_28 1 rfl ?_
  refine v_bipush X dX8_getsOn_29 (v := 16) (by decide) ?_
  refine v_iload_n X dX8_getsOn_31 0 rfl ?_
  refine v_iadd X dX8_getsOn_32 ?_
  refine v_iconst X dX8_getsOn_33 (v := 0) (by decide) ?_
  refine v_iastK (h2 := (hU h a (ai g 260 (upd (upd (upd (upd (upd (upd (upd (upd (upd m 2 1) 3 x) 4 y) 5 0) 6 0) 16 0) 18 0) 20 (told m p0 4)) 17 0)))) X 17 hU_s (ix_add (rfl : (16 : Int32) = nI 16) (rfl : (1 : Int32) = nI 1)) (by decide) (by decide) dX8_getsOn_34 hU_u ?_
  refine v_aload_n X dX8_getsOn_35 1 rfl ?_
  refine v_bipush X dX8_getsOn_36 (v := 18) (by decide) ?_
  refine v_iload_n X dX8_getsOn_38 0 rfl ?_
  refine v_iadd X dX8_getsOn_39 ?_
  refine v_iconst X dX8_getsOn_40 (v := 0) (by decide) ?_
  refine v_iastK (h2 := (hU h a (ai g 260 (upd (upd (upd (upd (upd (upd (upd (upd (upd (upd m 2 1) 3 x) 4 y) 5 0) 6 0) 16 0) 18 0) 20 (told m p0 4)) 17 0) 19 0)))) X 19 hU_s (ix_add (rfl : (18 : Int32) = nI 18) (rfl : (1 : Int32) = nI 1)) (by decide) (by decide) dX8_getsOn_41 hU_u ?_
  refine v_aload_n X dX8_getsOn_42 1 rfl ?_
  refine v_bipush X dX8_getsOn_43 (v := 20) (by decide) ?_
  refine v_iload_n X dX8_getsOn_45 0 rfl ?_
  refine v_iadd X dX8_getsOn_46 ?_
  refine v_aload_n X dX8_getsOn_47 1 rfl ?_
  refine v_aload_n X dX8_getsOn_48 1 rfl ?_
  refine v_iconst X dX8_getsOn_49 (v := 3) (by decide) ?_
  refine v_iload_n X dX8_getsOn_50 0 rfl ?_
  refine v_iadd X dX8_getsOn_51 ?_
  refine v_ialdK X 4 hU_s (ix_add (rfl : (3 : Int32) = nI 3) (rfl : (1 : Int32) = nI 1)) (by decide) (by decide) dX8_getsOn_52 ?_
  refine v_eqi (y := y) (Eq.trans (Eq.trans (Eq.trans (Eq.trans (Eq.trans (Eq.trans (Eq.trans (pk_un (by decide)) (pk_un (by decide))) (pk_un (by decide))) (pk_un (by decide))) (pk_un (by decide))) (pk_un (by decide))) (pk_un (by decide))) pk_us) ?_
  refine v_iconst X dX8_getsOn_53 (v := 4) (by decide) ?_
  refine v_cSi X [.ref a, .int y, .int 4] sX8_74 (ct_X8_told (p := p1) (w := 4) ll g  hU_s hy (rfl : (4 : Int32) = nI 4) (by omega)) dX8_getsOn_54 rfl rfl ⟨rfl, rfl⟩ ⟨(Nat.le_of_ble_eq_true rfl), (Nat.le_of_ble_eq_true rfl)⟩ ⟨Nat.zero_le _, Nat.zero_le _⟩ (Nat.le_of_ble_eq_true rfl) ?_
  refine v_eqi (y := told (upd (upd (upd (upd (upd (upd (upd (upd (upd m 2 1) 3 x) 4 y) 5 0) 6 0) 16 0) 18 0) 20 (told m p0 4)) 17 0) p1 4) (told_lo (by omega)) ?_
  refine v_eqi (y := told (upd (upd (upd (upd (upd (upd (upd (upd m 2 1) 3 x) 4 y) 5 0) 6 0) 16 0) 18 0) 20 (told m p0 4)) p1 4) (told_lo (by omega)) ?_
  refine v_eqi (y := told (upd (upd (upd (upd (upd (upd (upd m 2 1) 3 x) 4 y) 5 0) 6 0) 16 0) 18 0) p1 4) (told_lo (by omega)) ?_
  refine v_eqi (y := told (upd (upd (upd (upd (upd (upd m 2 1) 3 x) 4 y) 5 0) 6 0) 16 0) p1 4) (told_lo (by omega)) ?_
  refine v_eqi (y := told (upd (upd (upd (upd (upd m 2 1) 3 x) 4 y) 5 0) 6 0) p1 4) (told_lo (by omega)) ?_
  refine v_eqi (y := told (upd (upd (upd (upd m 2 1) 3 x) 4 y) 5 0) p1 4) (told_lo (by omega)) ?_
  refine v_eqi (y := told (upd (upd (upd m 2 1) 3 x) 4 y) p1 4) (told_lo (by omega)) ?_
  refine v_eqi (y := told (upd (upd m 2 1) 3 x) p1 4) (told_lo (by omega)) ?_
  refine v_eqi (y := told (upd m 2 1) p1 4) (told_lo (by omega)) ?_
  refine v_eqi (y := told m p1 4) (told_lo (by omega)) ?_
  refine v_iastK (h2 := (hU h a (ai g 260 (upd (upd (upd (upd (upd (upd (upd (upd (upd (upd (upd m 2 1) 3 x) 4 y) 5 0) 6 0) 16 0) 18 0) 20 (told m p0 4)) 17 0) 19 0) 21 (told m p1 4))))) X 21 hU_s (ix_add (rfl : (20 : Int32) = nI 20) (rfl : (1 : Int32) = nI 1)) (by decide) (by decide) dX8_getsOn_57 hU_u ?_
  refine v_iinc (v := 2) (lv1 := [(3, .int 2), (0, .ref a), (1, .int x), (2, .int y)]) X dX8_getsOn_58 0 rfl (by decide) (by decide) rfl ?_
  refine v_goto X dX8_getsOn_61 (tgt := 23) (by decide) ?_
  refine v_iload_n X dX8_getsOn_23 0 rfl ?_
  refine v_iconst X dX8_getsOn_24 (v := 2) (by decide) ?_
  refine v_icmp_ge X dX8_getsOn_25 (tgt := 64) (by decide) (fun _ => ?_) (fun c => absurd c (by decide))
  exact v_vret X r dX8_getsOn_64 (Nat.le_refl _) (Nat.le_refl _) ⟨rfl, (by rw [hx, hy]; rfl)⟩
set_option maxHeartbeats 4000000 in
set_option maxRecDepth 100000 in
theorem ct_X8_mount (ll : Launch) (g : GT) {h : Hp} {t : Nat} {A : Nat → Nat} {d k fo tape bits sz : Nat → Int32} {num : Nat → Int64} {hk tp : Int32} {np : Nat}  (a : Int32) (b : Int32) (hM : MW g h t A (d, k, hk, fo, tape, tp, bits, sz, num)) (hn : d 0 = nI np) (hnp : np ≤ 8) : MC ll g yX8_mount cX8_mount 3 (some .int) { frames := 3, cells := 0, slots := 0, locals := 120 } [.ref t, .int a, .int b] h (fun r h2 => r = some (.int (op_mount (d, k, hk, fo, tape, tp, bits, sz, num) a b).1) ∧ MW g h2 t A (op_mount (d, k, hk, fo, tape, tp, bits, sz, num) a b).2) 0 0 := by
  have hM0 := hM
  obtain ⟨e, lf, sw0, sw1, pp, fr, tk, wd, vl, wr, m0, m1, m2, m3, m4, m5, m6, m7, m8, m9, n01, n02, n12, n56⟩ := hM0
  refine mc_of (by decide) (Nat.le_of_ble_eq_true rfl) ?_
  intro K X r
  refine v_eqv (lv2 := [(0, .ref t), (1, .int a), (2, .int b)]) rfl ?_
  refine v_aload_n X dX8_mount_0 0 rfl ?_
  refine v_iload_n X dX8_mount_1 1 rfl ?_
  refine v_iload_n X dX8_mount_2 2 rfl ?_
  refine v_cVi X [.int a, .int b] sX8_127 (ct_X8_areTwo ll g a b m0 m1) m0 rfl dX8_mount_3 rfl rfl ⟨rfl, rfl⟩ ⟨(Nat.le_of_ble_eq_true rfl), (Nat.le_of_ble_eq_true rfl)⟩ ⟨Nat.zero_le _, Nat.zero_le _⟩ (Nat.le_of_ble_eq_true rfl) ?_
  refine v_ifb_ne X dX8_mount_6 (tgt := 16) (by decide) (fun c1 => ?_) (fun c1 => ?_)
  · refine v_aload_n X dX8_mount_16 0 rfl ?_
    refine v_get X fX8_9 m0 rfl dX8_mount_17 ?_
    refine v_iconst X dX8_mount_20 (v := 2) (by decide) ?_
    refine v_ialdK X 2 m1 (rfl : (2 : Int32) = nI 2) (by decide) (by decide) dX8_mount_21 ?_
    refine v_iconst X dX8_mount_22 (v := 1) (by decide) ?_
    refine v_icmp_ne X dX8_mount_23 (tgt := 33) (by decide) (fun c2 => ?_) (fun c2 => ?_)
    · obtain ⟨ja, hja, eja⟩ := wi_n hn (by omega) c1.1
      obtain ⟨jb, hjb, ejb⟩ := wi_n hn (by omega) c1.2.1
      have qja : pr a = ja := ix_cl eja (by omega)
      have qjb : pr b = jb := ix_cl ejb (by omega)
      refine v_aload_n X dX8_mount_33 0 rfl ?_
      refine v_get X fX8_9 m0 rfl dX8_mount_34 ?_
      refine v_iload_n X dX8_mount_37 1 rfl ?_
      refine v_iload_n X dX8_mount_38 2 rfl ?_
      refine v_cSv X [.ref (A 0), .int a, .int b] sX8_130 (ct_X8_getsOn (p0 := ja) (p1 := jb) ll g  m1 eja ejb (by omega) (by omega)) dX8_mount_39 rfl rfl ⟨rfl, rfl⟩ ⟨(Nat.le_of_ble_eq_true rfl), (Nat.le_of_ble_eq_true rfl)⟩ ⟨Nat.zero_le _, Nat.zero_le _⟩ (Nat.le_of_ble_eq_true rfl) ?_
      refine v_iconst X dX8_mount_42 (v := 1) (by decide) ?_
      have eqr : op_mount (d, k, hk, fo, tape, tp, bits, sz, num) a b = (1, (getsA d ja jb, k, hk, fo, tape, tp, bits, sz, num)) := by unfold op_mount; dsimp only; rw [if_pos c1, if_neg c2, qja, qjb]
      exact v_iret X r dX8_mount_43 (Nat.le_refl _) (Nat.le_refl _) ⟨by rw [eqr], by rw [eqr]; exact (MW_d hM _)⟩
    · refine v_aload_n X dX8_mount_26 0 rfl ?_
      refine v_ldc X dX8_mount_27 kX8_73 ?_
      refine v_cVi X [.int (-1000000005)] sX8_51 (ct_X8_finds (j := 4) ll g m0 m4 (by decide) (by decide)) m0 rfl dX8_mount_29 rfl rfl ⟨rfl, rfl⟩ ⟨(Nat.le_of_ble_eq_true rfl), (Nat.le_of_ble_eq_true rfl)⟩ ⟨Nat.zero_le _, Nat.zero_le _⟩ (Nat.le_of_ble_eq_true rfl) ?_
      have eqr : op_mount (d, k, hk, fo, tape, tp, bits, sz, num) a b = ((-1000000005), (d, k, hk, fnd fo 4, tape, tp, bits, sz, num)) := by unfold op_mount; dsimp only; rw [if_pos c1, if_pos c2]
      exact v_iret X r dX8_mount_32 (Nat.le_refl _) (Nat.le_refl _) ⟨by rw [eqr], by rw [eqr]; exact (MW_fo hM _)⟩
  · refine v_aload_n X dX8_mount_9 0 rfl ?_
    refine v_ldc X dX8_mount_10 kX8_38 ?_
    refine v_cVi X [.int (-1000000001)] sX8_51 (ct_X8_finds (j := 0) ll g m0 m4 (by decide) (by decide)) m0 rfl dX8_mount_12 rfl rfl ⟨rfl, rfl⟩ ⟨(Nat.le_of_ble_eq_true rfl), (Nat.le_of_ble_eq_true rfl)⟩ ⟨Nat.zero_le _, Nat.zero_le _⟩ (Nat.le_of_ble_eq_true rfl) ?_
    have eqr : op_mount (d, k, hk, fo, tape, tp, bits, sz, num) a b = ((-1000000001), (d, k, hk, fnd fo 0, tape, tp, bits, sz, num)) := by unfold op_mount; dsimp only; rw [if_neg c1]
    exact v_iret X r dX8_mount_15 (Nat.le_refl _) (Nat.le_refl _) ⟨by rw [eqr], by rw [eqr]; exact (MW_fo hM _)⟩
set_option maxHeartbeats 4000000 in
set_option maxRecDepth 100000 in
theorem ct_X8_off (ll : Launch) (g : GT) {h : Hp} {t : Nat} {A : Nat → Nat} {d k fo tape bits sz : Nat → Int32} {num : Nat → Int64} {hk tp : Int32}  (hM : MW g h t A (d, k, hk, fo, tape, tp, bits, sz, num)) : MC ll g yX8_off cX8_off 1 (some .int) { frames := 1, cells := 0, slots := 0, locals := 50 } [.ref t] h (fun r h2 => r = some (.int (op_off (d, k, hk, fo, tape, tp, bits, sz, num)).1) ∧ MW g h2 t A (op_off (d, k, hk, fo, tape, tp, bits, sz, num)).2) 0 0 := by
  have hM0 := hM
  obtain ⟨e, lf, sw0, sw1, pp, fr, tk, wd, vl, wr, m0, m1, m2, m3, m4, m5, m6, m7, m8, m9, n01, n02, n12, n56⟩ := hM0
  have ne_1 : t ≠ (A 0) := hneb m0 m1 rfl
  refine mc_of (by decide) (Nat.le_of_ble_eq_true rfl) ?_
  intro K X r
  refine v_eqv (lv2 := [(0, .ref t)]) rfl ?_
  refine v_aload_n X dX8_off_0 0 rfl ?_
  refine v_get X fX8_9 m0 rfl dX8_off_1 ?_
  refine v_iconst X dX8_off_4 (v := 2) (by decide) ?_
  refine v_ialdK X 2 m1 (rfl : (2 : Int32) = nI 2) (by decide) (by decide) dX8_off_5 ?_
  refine v_if_ne X dX8_off_6 (tgt := 16) (by decide) (fun c1 => ?_) (fun c1 => ?_)
  · refine v_aload_n X dX8_off_16 0 rfl ?_
    refine v_get X fX8_9 m0 rfl dX8_off_17 ?_
    refine v_iconst X dX8_off_20 (v := 2) (by decide) ?_
    refine v_iconst X dX8_off_21 (v := 0) (by decide) ?_
    refine v_iastK (h2 := (hU h (A 0) (ai g 260 (upd d 2 0)))) X 2 m1 (rfl : (2 : Int32) = nI 2) (by decide) (by decide) dX8_off_22 rfl ?_
    refine v_aload_n X dX8_off_23 0 rfl ?_
    refine v_get X fX8_9 ((hU_n ne_1).trans m0) rfl dX8_off_24 ?_
    refine v_bipush X dX8_off_27 (v := 6) (by decide) ?_
    refine v_ialdK X 6 hU_s (rfl : (6 : Int32) = nI 6) (by decide) (by decide) dX8_off_29 ?_
    refine v_eqi (y := d 6) (pk_un (by decide)) ?_
    have eqr : op_off (d, k, hk, fo, tape, tp, bits, sz, num) = (d 6, (upd d 2 0, k, hk, fo, tape, tp, bits, sz, num)) := by unfold op_off; dsimp only; rw [if_neg c1]
    exact v_iret X r dX8_off_30 (Nat.le_refl _) (Nat.le_refl _) ⟨by rw [eqr], by rw [eqr]; exact (MW_d hM _)⟩
  · refine v_aload_n X dX8_off_9 0 rfl ?_
    refine v_ldc X dX8_off_10 kX8_73 ?_
    refine v_cVi X [.int (-1000000005)] sX8_51 (ct_X8_finds (j := 4) ll g m0 m4 (by decide) (by decide)) m0 rfl dX8_off_12 rfl rfl ⟨rfl, rfl⟩ ⟨(Nat.le_of_ble_eq_true rfl), (Nat.le_of_ble_eq_true rfl)⟩ ⟨Nat.zero_le _, Nat.zero_le _⟩ (Nat.le_of_ble_eq_true rfl) ?_
    have eqr : op_off (d, k, hk, fo, tape, tp, bits, sz, num) = ((-1000000005), (d, k, hk, fnd fo 4, tape, tp, bits, sz, num)) := by unfold op_off; dsimp only; rw [if_pos c1]
    exact v_iret X r dX8_off_15 (Nat.le_refl _) (Nat.le_refl _) ⟨by rw [eqr], by rw [eqr]; exact (MW_fo hM _)⟩
set_option maxHeartbeats 4000000 in
set_option maxRecDepth 100000 in
theorem ct_X8_stands (ll : Launch) (g : GT) {h : Hp} {t : Nat} {A : Nat → Nat} {d k fo tape bits sz : Nat → Int32} {num : Nat → Int64} {hk tp : Int32} {np : Nat}  (who : Int32) (what : Int32) (hM : MW g h t A (d, k, hk, fo, tape, tp, bits, sz, num)) (hon : ∀ sd, sd < 2 → ∃ j, j < 8 ∧ d (3 + sd) = nI j) (hwy : ¬ d 2 = 0 → ∀ j sd, sd < 2 → d (3 + sd) = nI j → wayOk d j) : MC ll g yX8_stands cX8_stands 3 (some .int) { frames := 3, cells := 0, slots := 0, locals := 140 } [.ref t, .int who, .int what] h (fun r h2 => r = some (.int (op_stands (d, k, hk, fo, tape, tp, bits, sz, num) who what).1) ∧ MW g h2 t A (op_stands (d, k, hk, fo, tape, tp, bits, sz, num) who what).2) 0 0 := by
  have hM0 := hM
  obtain ⟨e, lf, sw0, sw1, pp, fr, tk, wd, vl, wr, m0, m1, m2, m3, m4, m5, m6, m7, m8, m9, n01, n02, n12, n56⟩ := hM0
  refine mc_of (by decide) (Nat.le_of_ble_eq_true rfl) ?_
  intro K X r
  refine v_eqv (lv2 := [(0, .ref t), (1, .int who), (2, .int what)]) rfl ?_
  refine v_iload_n X dX8_stands_0 1 rfl ?_
  refine v_i2l X dX8_stands_1 ?_
  refine v_lconst X dX8_stands_2 (v := 0) (by decide) ?_
  refine v_lconst X dX8_stands_3 (v := 1) (by decide) ?_
  refine v_cSi X [.long who.toInt64, .long (0 : Int64), .long (1 : Int64)] sX8_39 (ct_X8_in (v := who) (lo := 0) (hi := 1) ll g rfl (by decide) (by decide)) dX8_stands_4 rfl rfl ⟨rfl, rfl⟩ ⟨(Nat.le_of_ble_eq_true rfl), (Nat.le_of_ble_eq_true rfl)⟩ ⟨Nat.zero_le _, Nat.zero_le _⟩ (Nat.le_of_ble_eq_true rfl) ?_
  refine v_ifb_eq X dX8_stands_7 (tgt := 22) (by decide) (fun c1 => ?_) (fun c1 => ?_)
  · refine v_aload_n X dX8_stands_22 0 rfl ?_
    refine v_ldc X dX8_stands_23 kX8_38 ?_
    refine v_cVi X [.int (-1000000001)] sX8_51 (ct_X8_finds (j := 0) ll g m0 m4 (by decide) (by decide)) m0 rfl dX8_stands_25 rfl rfl ⟨rfl, rfl⟩ ⟨(Nat.le_of_ble_eq_true rfl), (Nat.le_of_ble_eq_true rfl)⟩ ⟨Nat.zero_le _, Nat.zero_le _⟩ (Nat.le_of_ble_eq_true rfl) ?_
    have eqr : op_stands (d, k, hk, fo, tape, tp, bits, sz, num) who what = ((-1000000001), (d, k, hk, fnd fo 0, tape, tp, bits, sz, num)) := by unfold op_stands; dsimp only; rw [if_neg (fun q : _ ∧ _ => c1 (And.left q))]
    exact v_iret X r dX8_stands_28 (Nat.le_refl _) (Nat.le_refl _) ⟨by rw [eqr], by rw [eqr]; exact (MW_fo hM _)⟩
  · refine v_iload_n X dX8_stands_10 2 rfl ?_
    refine v_i2l X dX8_stands_11 ?_
    refine v_lconst X dX8_stands_12 (v := 0) (by decide) ?_
    refine v_ldc2 X dX8_stands_13 kX8_47 ?_
    refine v_cSi X [.long what.toInt64, .long (0 : Int64), .long (5 : Int64)] sX8_39 (ct_X8_in (v := what) (lo := 0) (hi := 5) ll g rfl (by decide) (by decide)) dX8_stands_16 rfl rfl ⟨rfl, rfl⟩ ⟨(Nat.le_of_ble_eq_true rfl), (Nat.le_of_ble_eq_true rfl)⟩ ⟨Nat.zero_le _, Nat.zero_le _⟩ (Nat.le_of_ble_eq_true rfl) ?_
    refine v_ifb_ne X dX8_stands_19 (tgt := 29) (by decide) (fun c2 => ?_) (fun c2 => ?_)
    · refine v_aload_n X dX8_stands_29 0 rfl ?_
      refine v_get X fX8_9 m0 rfl dX8_stands_30 ?_
      refine v_iconst X dX8_stands_33 (v := 2) (by decide) ?_
      refine v_ialdK X 2 m1 (rfl : (2 : Int32) = nI 2) (by decide) (by decide) dX8_stands_34 ?_
      refine v_if_ne X dX8_stands_35 (tgt := 45) (by decide) (fun c3 => ?_) (fun c3 => ?_)
      · obtain ⟨jw, hjw, ejw⟩ := wi_c 1 rfl (by decide) c1
        have qjw : pr who = jw := ix_cl ejw (by omega)
        have hd2 := c3
        obtain ⟨jp, hjp, ejp⟩ := hon jw (by omega)
        have qjp : pr (d (3 + jw)) = jp := ix_cl ejp (by omega)
        refine v_iload_n X dX8_stands_45 2 rfl ?_
        by_cases c4_0 : what = 0
        · refine v_tabIn X dX8_stands_46 (off := 34) (tgt := 80) 0 c4_0 (by decide) (by decide) (by decide) (by decide) ?_
          refine v_aload_n X dX8_stands_80 0 rfl ?_
          refine v_get X fX8_9 m0 rfl dX8_stands_81 ?_
          refine v_iconst X dX8_stands_84 (v := 3) (by decide) ?_
          refine v_iload_n X dX8_stands_85 1 rfl ?_
          refine v_iadd X dX8_stands_86 ?_
          refine v_ialdK X (3 + jw) m1 (ix_add (rfl : (3 : Int32) = nI 3) ejw) (by omega) (by decide) dX8_stands_87 ?_
          have eqr : op_stands (d, k, hk, fo, tape, tp, bits, sz, num) who what = (d (3 + jw), (d, k, hk, fo, tape, tp, bits, sz, num)) := by unfold op_stands; dsimp only; rw [if_pos (And.intro c1 c2), if_neg c3]; simp [qjw, qjp, c4_0]
          exact v_iret X r dX8_stands_88 (Nat.le_refl _) (Nat.le_refl _) ⟨by rw [eqr], by rw [eqr]; exact hM⟩
        by_cases c4_1 : what = 1
        · refine v_tabIn X dX8_stands_46 (off := 43) (tgt := 89) 1 c4_1 (by decide) (by decide) (by decide) (by decide) ?_
          refine v_aload_n X dX8_stands_89 0 rfl ?_
          refine v_get X fX8_9 m0 rfl dX8_stands_90 ?_
          refine v_bipush X dX8_stands_93 (v := 16) (by decide) ?_
          refine v_iload_n X dX8_stands_95 1 rfl ?_
          refine v_iadd X dX8_stands_96 ?_
          refine v_ialdK X (16 + jw) m1 (ix_add (rfl : (16 : Int32) = nI 16) ejw) (by omega) (by decide) dX8_stands_97 ?_
          have eqr : op_stands (d, k, hk, fo, tape, tp, bits, sz, num) who what = (d (16 + jw), (d, k, hk, fo, tape, tp, bits, sz, num)) := by unfold op_stands; dsimp only; rw [if_pos (And.intro c1 c2), if_neg c3]; simp [qjw, qjp, c4_0, c4_1]
          exact v_iret X r dX8_stands_98 (Nat.le_refl _) (Nat.le_refl _) ⟨by rw [eqr], by rw [eqr]; exact hM⟩
        by_cases c4_2 : what = 2
        · refine v_tabIn X dX8_stands_46 (off := 53) (tgt := 99) 2 c4_2 (by decide) (by decide) (by decide) (by decide) ?_
          refine v_aload_n X dX8_stands_99 0 rfl ?_
          refine v_get X fX8_9 m0 rfl dX8_stands_100 ?_
          refine v_bipush X dX8_stands_103 (v := 18) (by decide) ?_
          refine v_iload_n X dX8_stands_105 1 rfl ?_
          refine v_iadd X dX8_stands_106 ?_
          refine v_ialdK X (18 + jw) m1 (ix_add (rfl : (18 : Int32) = nI 18) ejw) (by omega) (by decide) dX8_stands_107 ?_
          have eqr : op_stands (d, k, hk, fo, tape, tp, bits, sz, num) who what = (d (18 + jw), (d, k, hk, fo, tape, tp, bits, sz, num)) := by unfold op_stands; dsimp only; rw [if_pos (And.intro c1 c2), if_neg c3]; simp [qjw, qjp, c4_0, c4_1, c4_2]
          exact v_iret X r dX8_stands_108 (Nat.le_refl _) (Nat.le_refl _) ⟨by rw [eqr], by rw [eqr]; exact hM⟩
        by_cases c4_3 : what = 3
        · refine v_tabIn X dX8_stands_46 (off := 63) (tgt := 109) 3 c4_3 (by decide) (by decide) (by decide) (by decide) ?_
          refine v_aload_n X dX8_stands_109 0 rfl ?_
          refine v_get X fX8_9 m0 rfl dX8_stands_110 ?_
          refine v_bipush X dX8_stands_113 (v := 20) (by decide) ?_
          refine v_iload_n X dX8_stands_115 1 rfl ?_
          refine v_iadd X dX8_stands_116 ?_
          refine v_ialdK X (20 + jw) m1 (ix_add (rfl : (20 : Int32) = nI 20) ejw) (by omega) (by decide) dX8_stands_117 ?_
          have eqr : op_stands (d, k, hk, fo, tape, tp, bits, sz, num) who what = (d (20 + jw), (d, k, hk, fo, tape, tp, bits, sz, num)) := by unfold op_stands; dsimp only; rw [if_pos (And.intro c1 c2), if_neg c3]; simp [qjw, qjp, c4_0, c4_1, c4_2, c4_3]
          exact v_iret X r dX8_stands_118 (Nat.le_refl _) (Nat.le_refl _) ⟨by rw [eqr], by rw [eqr]; exact hM⟩
        by_cases c4_4 : what = 4
        · refine v_tabIn X dX8_stands_46 (off := 73) (tgt := 119) 4 c4_4 (by decide) (by decide) (by decide) (by decide) ?_
          refine v_aload_n X dX8_stands_119 0 rfl ?_
          refine v_get X fX8_9 m0 rfl dX8_stands_120 ?_
          refine v_iload_n X dX8_stands_123 1 rfl ?_
          refine v_cSi X [.ref (A 0), .int who] sX8_104 (ct_X8_sees (sd := jw) ll g  m1 ejw (by omega) ejp hjp) dX8_stands_124 rfl rfl ⟨rfl, rfl⟩ ⟨(Nat.le_of_ble_eq_true rfl), (Nat.le_of_ble_eq_true rfl)⟩ ⟨Nat.zero_le _, Nat.zero_le _⟩ (Nat.le_of_ble_eq_true rfl) ?_
          have eqr : op_stands (d, k, hk, fo, tape, tp, bits, sz, num) who what = (seesM d jp, (d, k, hk, fo, tape, tp, bits, sz, num)) := by unfold op_stands; dsimp only; rw [if_pos (And.intro c1 c2), if_neg c3]; simp [qjw, qjp, c4_0, c4_1, c4_2, c4_3, c4_4]
          exact v_iret X r dX8_stands_127 (Nat.le_refl _) (Nat.le_refl _) ⟨by rw [eqr], by rw [eqr]; exact hM⟩
        refine v_tabOut X dX8_stands_46 (tgt := 128) (by have e0 := lv_neT (k := 0) (a := 0) c4_0 (by decide); have e1 := lv_neT (k := 1) (a := 1) c4_1 (by decide); have e2 := lv_neT (k := 2) (a := 2) c4_2 (by decide); have e3 := lv_neT (k := 3) (a := 3) c4_3 (by decide); have e4 := lv_neT (k := 4) (a := 4) c4_4 (by decide); omega) (by decide) ?_
        refine v_aload_n X dX8_stands_128 0 rfl ?_
        refine v_get X fX8_9 m0 rfl dX8_stands_129 ?_
        refine v_iload_n X dX8_stands_132 1 rfl ?_
        refine v_cSi X [.ref (A 0), .int who] sX8_116 (ct_X8_pushes (sd := jw) ll g  m1 ejw (by omega) ejp hjp (hwy hd2 jp jw (by omega) ejp)) dX8_stands_133 rfl rfl ⟨rfl, rfl⟩ ⟨(Nat.le_of_ble_eq_true rfl), (Nat.le_of_ble_eq_true rfl)⟩ ⟨Nat.zero_le _, Nat.zero_le _⟩ (Nat.le_of_ble_eq_true rfl) ?_
        have eqr : op_stands (d, k, hk, fo, tape, tp, bits, sz, num) who what = (pushesM d jp jw, (d, k, hk, fo, tape, tp, bits, sz, num)) := by unfold op_stands; dsimp only; rw [if_pos (And.intro c1 c2), if_neg c3]; simp [qjw, qjp, c4_0, c4_1, c4_2, c4_3, c4_4]
        exact v_iret X r dX8_stands_136 (Nat.le_refl _) (Nat.le_refl _) ⟨by rw [eqr], by rw [eqr]; exact hM⟩
      · refine v_aload_n X dX8_stands_38 0 rfl ?_
        refine v_ldc X dX8_stands_39 kX8_73 ?_
        refine v_cVi X [.int (-1000000005)] sX8_51 (ct_X8_finds (j := 4) ll g m0 m4 (by decide) (by decide)) m0 rfl dX8_stands_41 rfl rfl ⟨rfl, rfl⟩ ⟨(Nat.le_of_ble_eq_true rfl), (Nat.le_of_ble_eq_true rfl)⟩ ⟨Nat.zero_le _, Nat.zero_le _⟩ (Nat.le_of_ble_eq_true rfl) ?_
        have eqr : op_stands (d, k, hk, fo, tape, tp, bits, sz, num) who what = ((-1000000005), (d, k, hk, fnd fo 4, tape, tp, bits, sz, num)) := by unfold op_stands; dsimp only; rw [if_pos (And.intro c1 c2), if_pos c3]
        exact v_iret X r dX8_stands_44 (Nat.le_refl _) (Nat.le_refl _) ⟨by rw [eqr], by rw [eqr]; exact (MW_fo hM _)⟩
    · refine v_aload_n X dX8_stands_22 0 rfl ?_
      refine v_ldc X dX8_stands_23 kX8_38 ?_
      refine v_cVi X [.int (-1000000001)] sX8_51 (ct_X8_finds (j := 0) ll g m0 m4 (by decide) (by decide)) m0 rfl dX8_stands_25 rfl rfl ⟨rfl, rfl⟩ ⟨(Nat.le_of_ble_eq_true rfl), (Nat.le_of_ble_eq_true rfl)⟩ ⟨Nat.zero_le _, Nat.zero_le _⟩ (Nat.le_of_ble_eq_true rfl) ?_
      have eqr : op_stands (d, k, hk, fo, tape, tp, bits, sz, num) who what = ((-1000000001), (d, k, hk, fnd fo 0, tape, tp, bits, sz, num)) := by unfold op_stands; dsimp only; rw [if_neg (fun q : _ ∧ _ => c2 (And.right q))]
      exact v_iret X r dX8_stands_28 (Nat.le_refl _) (Nat.le_refl _) ⟨by rw [eqr], by rw [eqr]; exact (MW_fo hM _)⟩
set_option maxHeartbeats 4000000 in
set_option maxRecDepth 100000 in
theorem ct_X8_now (ll : Launch) (g : GT) {h : Hp} {t : Nat} {A : Nat → Nat} {d k fo tape bits sz : Nat → Int32} {num : Nat → Int64} {hk tp : Int32}  (what : Int32) (hM : MW g h t A (d, k, hk, fo, tape, tp, bits, sz, num)) : MC ll g yX8_now cX8_now 2 (some .int) { frames := 1, cells := 0, slots := 0, locals := 50 } [.ref t, .int what] h (fun r h2 => r = some (.int (op_now (d, k, hk, fo, tape, tp, bits, sz, num) what).1) ∧ MW g h2 t A (op_now (d, k, hk, fo, tape, tp, bits, sz, num) what).2) 0 0 := by
  have hM0 := hM
  obtain ⟨e, lf, sw0, sw1, pp, fr, tk, wd, vl, wr, m0, m1, m2, m3, m4, m5, m6, m7, m8, m9, n01, n02, n12, n56⟩ := hM0
  refine mc_of (by decide) (Nat.le_of_ble_eq_true rfl) ?_
  intro K X r
  refine v_eqv (lv2 := [(0, .ref t), (1, .int what)]) rfl ?_
  refine v_iload_n X dX8_now_0 1 rfl ?_
  refine v_i2l X dX8_now_1 ?_
  refine v_lconst X dX8_now_2 (v := 0) (by decide) ?_
  refine v_ldc2 X dX8_now_3 kX8_139 ?_
  refine v_cSi X [.long what.toInt64, .long (0 : Int64), .long (2 : Int64)] sX8_39 (ct_X8_in (v := what) (lo := 0) (hi := 2) ll g rfl (by decide) (by decide)) dX8_now_6 rfl rfl ⟨rfl, rfl⟩ ⟨(Nat.le_of_ble_eq_true rfl), (Nat.le_of_ble_eq_true rfl)⟩ ⟨Nat.zero_le _, Nat.zero_le _⟩ (Nat.le_of_ble_eq_true rfl) ?_
  refine v_ifb_eq X dX8_now_9 (tgt := 23) (by decide) (fun c1 => ?_) (fun c1 => ?_)
  · refine v_aload_n X dX8_now_23 0 rfl ?_
    refine v_ldc X dX8_now_24 kX8_38 ?_
    refine v_cVi X [.int (-1000000001)] sX8_51 (ct_X8_finds (j := 0) ll g m0 m4 (by decide) (by decide)) m0 rfl dX8_now_26 rfl rfl ⟨rfl, rfl⟩ ⟨(Nat.le_of_ble_eq_true rfl), (Nat.le_of_ble_eq_true rfl)⟩ ⟨Nat.zero_le _, Nat.zero_le _⟩ (Nat.le_of_ble_eq_true rfl) ?_
    have eqr : op_now (d, k, hk, fo, tape, tp, bits, sz, num) what = ((-1000000001), (d, k, hk, fnd fo 0, tape, tp, bits, sz, num)) := by unfold op_now; dsimp only; rw [if_neg c1]
    exact v_iret X r dX8_now_29 (Nat.le_refl _) (Nat.le_refl _) ⟨by rw [eqr], by rw [eqr]; exact (MW_fo hM _)⟩
  · obtain ⟨jw, hjw, ejw⟩ := wi_c 2 rfl (by decide) c1
    have qjw : pr what = jw := ix_cl ejw (by omega)
    refine v_aload_n X dX8_now_12 0 rfl ?_
    refine v_get X fX8_9 m0 rfl dX8_now_13 ?_
    refine v_iconst X dX8_now_16 (v := 5) (by decide) ?_
    refine v_iload_n X dX8_now_17 1 rfl ?_
    refine v_iadd X dX8_now_18 ?_
    refine v_ialdK X (5 + jw) m1 (ix_add (rfl : (5 : Int32) = nI 5) ejw) (by omega) (by decide) dX8_now_19 ?_
    refine v_goto X dX8_now_20 (tgt := 29) (by decide) ?_
    have eqr : op_now (d, k, hk, fo, tape, tp, bits, sz, num) what = (d (5 + jw), (d, k, hk, fo, tape, tp, bits, sz, num)) := by unfold op_now; dsimp only; rw [if_pos c1, qjw]
    exact v_iret X r dX8_now_29 (Nat.le_refl _) (Nat.le_refl _) ⟨by rw [eqr], by rw [eqr]; exact hM⟩
set_option maxHeartbeats 4000000 in
set_option maxRecDepth 100000 in
theorem ct_X8_seed (ll : Launch) (g : GT) {h : Hp} {t : Nat} {A : Nat → Nat} {d k fo tape bits sz : Nat → Int32} {num : Nat → Int64} {hk tp : Int32}  (v : Int32) (hM : MW g h t A (d, k, hk, fo, tape, tp, bits, sz, num)) : MC ll g yX8_seed cX8_seed 3 (some .int) { frames := 0, cells := 0, slots := 0, locals := 0 } [.ref t, .int v] h (fun r h2 => r = some (.int (op_seed (d, k, hk, fo, tape, tp, bits, sz, num) v).1) ∧ MW g h2 t A (op_seed (d, k, hk, fo, tape, tp, bits, sz, num) v).2) 0 0 := by
  have hM0 := hM
  obtain ⟨e, lf, sw0, sw1, pp, fr, tk, wd, vl, wr, m0, m1, m2, m3, m4, m5, m6, m7, m8, m9, n01, n02, n12, n56⟩ := hM0
  refine mc_of (by decide) (Nat.le_of_ble_eq_true rfl) ?_
  intro K X r
  refine v_eqv (lv2 := [(0, .ref t), (1, .int v)]) rfl ?_
  refine v_aload_n X dX8_seed_0 0 rfl ?_
  refine v_get X fX8_9 m0 rfl dX8_seed_1 ?_
  refine v_bipush X dX8_seed_4 (v := 8) (by decide) ?_
  refine v_ialdK X 8 m1 (rfl : (8 : Int32) = nI 8) (by decide) (by decide) dX8_seed_6 ?_
  refine v_istore_n (lv1 := [(2, .int (d 8)), (0, .ref t), (1, .int v)]) X dX8_seed_7 (by decide) rfl ?_
  refine v_aload_n X dX8_seed_8 1 rfl ?_
  refine v_get X fX8_9 m0 rfl dX8_seed_9 ?_
  refine v_bipush X dX8_seed_12 (v := 8) (by decide) ?_
  refine v_iload_n X dX8_seed_14 2 rfl ?_
  refine v_iastK (h2 := (hU h (A 0) (ai g 260 (upd d 8 v)))) X 8 m1 (rfl : (8 : Int32) = nI 8) (by decide) (by decide) dX8_seed_15 rfl ?_
  refine v_iload_n X dX8_seed_16 0 rfl ?_
  have eqr : op_seed (d, k, hk, fo, tape, tp, bits, sz, num) v = (d 8, (upd d 8 v, k, hk, fo, tape, tp, bits, sz, num)) := by rfl
  exact v_iret X r dX8_seed_17 (Nat.le_refl _) (Nat.le_refl _) ⟨by rw [eqr], by rw [eqr]; exact (MW_d hM _)⟩
