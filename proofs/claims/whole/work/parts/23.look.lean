/-! ===== the reference reads a way ===== -/
abbrev isL (b : Int32) : Prop := wi b 97 122
abbrev isDg (b : Int32) : Prop := wi b 48 57
abbrev isSg (b : Int32) : Prop := b = 60 ∨ b = 62 ∨ b = 45 ∨ b = 58 ∨ b = 59
def skipF (f : Nat → Int32) : Nat → Nat → Nat
  | q, 0 => q
  | q, k + 1 => if f q = 32 then skipF f (q + 1) k else q
def wordE (f : Nat → Int32) : Nat → Nat → Nat
  | q, 0 => q
  | q, k + 1 => if isL (f q) then wordE f (q + 1) k else q
def digE (f : Nat → Int32) : Nat → Nat → Nat
  | q, 0 => q
  | q, k + 1 => if isDg (f q) then digE f (q + 1) k else q
def wdN (f : Nat → Int32) (j q : Nat) (w : Int32) : Int32 := if nI q - nI j < 5 then 32 * w + f q - 97 + 1 else -1
def wordM (f : Nat → Int32) (j : Nat) : Nat → Int32 → Nat → Int32
  | _, w, 0 => w
  | q, w, k + 1 => if isL (f q) then wordM f j (q + 1) (wdN f j q w) k else w
def nmN (f : Nat → Int32) (q : Nat) (v : Int32) : Int32 := if 999 < v then 1000 else 10 * v + f q - 48
def numM (f : Nat → Int32) : Nat → Int32 → Nat → Int32
  | _, v, 0 => v
  | q, v, k + 1 => if isDg (f q) then numM f (q + 1) (nmN f q v) k else v
def lkJ (f : Nat → Int32) (n a : Nat) : Nat := skipF f a (n - a)
def lkT (f : Nat → Int32) (n a : Nat) : Int32 := if lkJ f n a = n then 0 else if isL (f (lkJ f n a)) then 1 else if isDg (f (lkJ f n a)) then 2 else if isSg (f (lkJ f n a)) then 3 else 4
def lkE (f : Nat → Int32) (n a : Nat) : Nat := if lkJ f n a = n then n else if isL (f (lkJ f n a)) then wordE f (lkJ f n a) (n - lkJ f n a) else if isDg (f (lkJ f n a)) then digE f (lkJ f n a) (n - lkJ f n a) else lkJ f n a + 1
def lkW (f : Nat → Int32) (n a : Nat) : Int32 := if lkJ f n a = n then 0 else if isL (f (lkJ f n a)) then wordM f (lkJ f n a) (lkJ f n a) 0 (n - lkJ f n a) else 0
def lkV (f : Nat → Int32) (n a : Nat) : Int32 := if lkJ f n a = n then 0 else if isL (f (lkJ f n a)) then 0 else if isDg (f (lkJ f n a)) then numM f (lkJ f n a) 0 (n - lkJ f n a) else f (lkJ f n a)
theorem skipF_s {f : Nat → Int32} {q n R : Nat} (h : R = skipF f q (n - q)) (hq : q < n) : (f q = 32 → R = skipF f (q + 1) (n - (q + 1))) ∧ (¬ f q = 32 → R = q) := by
  rw [show n - q = (n - (q + 1)) + 1 by omega] at h
  exact ⟨fun z => by rw [h]; exact if_pos z, fun z => by rw [h]; exact if_neg z⟩
theorem wordE_s {f : Nat → Int32} {q n R : Nat} (h : R = wordE f q (n - q)) (hq : q < n) : (isL (f q) → R = wordE f (q + 1) (n - (q + 1))) ∧ (¬ isL (f q) → R = q) := by
  rw [show n - q = (n - (q + 1)) + 1 by omega] at h
  exact ⟨fun z => by rw [h]; exact if_pos z, fun z => by rw [h]; exact if_neg z⟩
theorem digE_s {f : Nat → Int32} {q n R : Nat} (h : R = digE f q (n - q)) (hq : q < n) : (isDg (f q) → R = digE f (q + 1) (n - (q + 1))) ∧ (¬ isDg (f q) → R = q) := by
  rw [show n - q = (n - (q + 1)) + 1 by omega] at h
  exact ⟨fun z => by rw [h]; exact if_pos z, fun z => by rw [h]; exact if_neg z⟩
theorem wordM_s {f : Nat → Int32} {j q n : Nat} {w R : Int32} (h : R = wordM f j q w (n - q)) (hq : q < n) : (isL (f q) → R = wordM f j (q + 1) (wdN f j q w) (n - (q + 1))) ∧ (¬ isL (f q) → R = w) := by
  rw [show n - q = (n - (q + 1)) + 1 by omega] at h
  exact ⟨fun z => by rw [h]; exact if_pos z, fun z => by rw [h]; exact if_neg z⟩
theorem numM_s {f : Nat → Int32} {q n : Nat} {v R : Int32} (h : R = numM f q v (n - q)) (hq : q < n) : (isDg (f q) → R = numM f (q + 1) (nmN f q v) (n - (q + 1))) ∧ (¬ isDg (f q) → R = v) := by
  rw [show n - q = (n - (q + 1)) + 1 by omega] at h
  exact ⟨fun z => by rw [h]; exact if_pos z, fun z => by rw [h]; exact if_neg z⟩
theorem skipF_0 {f : Nat → Int32} {q n R : Nat} (h : R = skipF f q (n - q)) (hq : ¬ q < n) : R = q := by rw [h, show n - q = 0 by omega]; rfl
theorem wordE_0 {f : Nat → Int32} {q n R : Nat} (h : R = wordE f q (n - q)) (hq : ¬ q < n) : R = q := by rw [h, show n - q = 0 by omega]; rfl
theorem digE_0 {f : Nat → Int32} {q n R : Nat} (h : R = digE f q (n - q)) (hq : ¬ q < n) : R = q := by rw [h, show n - q = 0 by omega]; rfl
theorem wordM_0 {f : Nat → Int32} {j q n : Nat} {w R : Int32} (h : R = wordM f j q w (n - q)) (hq : ¬ q < n) : R = w := by rw [h, show n - q = 0 by omega]; rfl
theorem numM_0 {f : Nat → Int32} {q n : Nat} {v R : Int32} (h : R = numM f q v (n - q)) (hq : ¬ q < n) : R = v := by rw [h, show n - q = 0 by omega]; rfl
set_option maxHeartbeats 4000000 in
set_option maxRecDepth 100000 in
theorem ct_X8_look (ll : Launch) (g : GT) {h : Hp} {t dA eA kA fA tA bA zA nA lA : Nat} {hk sw0 sw1 fr tk wd vl wr : Int32} {f : Nat → Int32} {a n : Nat} (ht : h t = some (ob 8 [.ref dA, .ref eA, .ref kA, .int hk, .ref fA, .int sw0, .int sw1, .ref tA, .int (nI n), .int (nI a), .int fr, .int tk, .int wd, .int vl, .int wr, .ref bA, .ref zA, .ref nA, .ref lA])) (hf : h tA = some (ai g 100 f)) (han : a ≤ n) (hn : n ≤ 100) : MF ll g yX8_look cX8_look 2 none (k2_rm 1 40) [.ref t] h none (hU h t (ob 8 [.ref dA, .ref eA, .ref kA, .int hk, .ref fA, .int sw0, .int sw1, .ref tA, .int (nI n), .int (nI (lkE f n a)), .int (nI (lkJ f n a)), .int (lkT f n a), .int (lkW f n a), .int (lkV f n a), .int wr, .ref bA, .ref zA, .ref nA, .ref lA])) := by
  have ne_1 : tA ≠ t := hneb hf ht rfl
  refine mc_of (by decide) (Nat.le_of_ble_eq_true rfl) ?_
  intro K X r
  refine v_eqv (lv2 := [(0, .ref t)]) rfl ?_
  have C38 : ∀ (j : Nat), (a ≤ j) → (j ≤ n) → (lkJ f n a = j) → VJ K 0 0 (hU h t (ob 8 [.ref dA, .ref eA, .ref kA, .int hk, .ref fA, .int sw0, .int sw1, .ref tA, .int (nI n), .int (nI j), .int fr, .int tk, .int wd, .int vl, .int wr, .ref bA, .ref zA, .ref nA, .ref lA])) 38 [(0, .ref t)] [] := by
    intro j haj hjn0 hJ
    refine v_aload_n X dX8_look_38 0 rfl ?_
    refine v_aload_n X dX8_look_39 0 rfl ?_
    refine v_get X fX8_169 hU_s rfl dX8_look_40 ?_
    refine v_putE (h2 := (hU h t (ob 8 [.ref dA, .ref eA, .ref kA, .int hk, .ref fA, .int sw0, .int sw1, .ref tA, .int (nI n), .int (nI j), .int (nI j), .int tk, .int wd, .int vl, .int wr, .ref bA, .ref zA, .ref nA, .ref lA]))) X fX8_172 tyX8_ok nmX8 rfl pd_I hU_s rfl rfl (ltb rfl) dX8_look_43 hU_u ?_
    refine v_aload_n X dX8_look_46 0 rfl ?_
    refine v_iconst X dX8_look_47 (v := 0) (by decide) ?_
    refine v_putE (h2 := (hU h t (ob 8 [.ref dA, .ref eA, .ref kA, .int hk, .ref fA, .int sw0, .int sw1, .ref tA, .int (nI n), .int (nI j), .int (nI j), .int tk, .int 0, .int vl, .int wr, .ref bA, .ref zA, .ref nA, .ref lA]))) X fX8_175 tyX8_ok nmX8 rfl pd_I hU_s rfl rfl (ltb rfl) dX8_look_48 hU_u ?_
    refine v_aload_n X dX8_look_51 0 rfl ?_
    refine v_iconst X dX8_look_52 (v := 0) (by decide) ?_
    refine v_putE (h2 := (hU h t (ob 8 [.ref dA, .ref eA, .ref kA, .int hk, .ref fA, .int sw0, .int sw1, .ref tA, .int (nI n), .int (nI j), .int (nI j), .int tk, .int 0, .int 0, .int wr, .ref bA, .ref zA, .ref nA, .ref lA]))) X fX8_178 tyX8_ok nmX8 rfl pd_I hU_s rfl rfl (ltb rfl) dX8_look_53 hU_u ?_
    refine v_aload_n X dX8_look_56 0 rfl ?_
    refine v_get X fX8_169 hU_s rfl dX8_look_57 ?_
    refine v_aload_n X dX8_look_60 0 rfl ?_
    refine v_get X fX8_166 hU_s rfl dX8_look_61 ?_
    refine v_icmp_ne X dX8_look_64 (tgt := 73) (by decide) (fun c1 => ?_) (fun c1 => ?_)
    · have hjn : ¬ j = n := fun z => c1 (by rw [z])
      have hjl : j < n := by omega
      refine v_aload_n X dX8_look_73 0 rfl ?_
      refine v_get X fX8_22 hU_s rfl dX8_look_74 ?_
      refine v_aload_n X dX8_look_77 0 rfl ?_
      refine v_get X fX8_169 hU_s rfl dX8_look_78 ?_
      refine v_ialdK X j ((hU_n ne_1).trans hf) rfl (by omega) (by decide) dX8_look_81 ?_
      refine v_istore_n (lv1 := [(1, .int (f j)), (0, .ref t)]) X dX8_look_82 (by decide) rfl ?_
      refine v_aload_n X dX8_look_83 1 rfl ?_
      refine v_iload_n X dX8_look_84 0 rfl ?_
      refine v_cSi X [.int (f j)] sX8_184 (ct_X8_isLetter ll g (f j)) dX8_look_85 rfl rfl ⟨rfl, rfl⟩ ⟨(Nat.le_of_ble_eq_true rfl), (Nat.le_of_ble_eq_true rfl)⟩ ⟨Nat.zero_le _, Nat.zero_le _⟩ (Nat.le_of_ble_eq_true rfl) ?_
      refine v_ifb_eq X dX8_look_88 (tgt := 95) (by decide) (fun c2 => ?_) (fun c2 => ?_)
      · refine v_iload_n X dX8_look_95 0 rfl ?_
        refine v_cSi X [.int (f j)] sX8_187 (ct_X8_isDigit ll g (f j)) dX8_look_96 rfl rfl ⟨rfl, rfl⟩ ⟨(Nat.le_of_ble_eq_true rfl), (Nat.le_of_ble_eq_true rfl)⟩ ⟨Nat.zero_le _, Nat.zero_le _⟩ (Nat.le_of_ble_eq_true rfl) ?_
        refine v_ifb_eq X dX8_look_99 (tgt := 106) (by decide) (fun c3 => ?_) (fun c3 => ?_)
        · refine v_iload_n X dX8_look_106 0 rfl ?_
          refine v_bipush X dX8_look_107 (v := 60) (by decide) ?_
          refine v_icmp_eq X dX8_look_109 (tgt := 136) (by decide) (fun c4 => ?_) (fun c4 => ?_)
          · refine v_iconst X dX8_look_136 (v := 3) (by decide) ?_
            refine v_goto X dX8_look_137 (tgt := 141) (by decide) ?_
            refine v_putE (h2 := (hU h t (ob 8 [.ref dA, .ref eA, .ref kA, .int hk, .ref fA, .int sw0, .int sw1, .ref tA, .int (nI n), .int (nI j), .int (nI j), .int 3, .int 0, .int 0, .int wr, .ref bA, .ref zA, .ref nA, .ref lA]))) X fX8_181 tyX8_ok nmX8 rfl pd_I hU_s rfl rfl (ltb rfl) dX8_look_141 hU_u ?_
            refine v_aload_n X dX8_look_144 1 rfl ?_
            refine v_get X fX8_181 hU_s rfl dX8_look_145 ?_
            refine v_iconst X dX8_look_148 (v := 2) (by decide) ?_
            refine v_icmp_le X dX8_look_149 (tgt := 167) (by decide) (fun c => absurd c (by decide)) (fun _ => ?_)
            refine v_aload_n X dX8_look_152 1 rfl ?_
            refine v_iload_n X dX8_look_153 0 rfl ?_
            refine v_putE (h2 := (hU h t (ob 8 [.ref dA, .ref eA, .ref kA, .int hk, .ref fA, .int sw0, .int sw1, .ref tA, .int (nI n), .int (nI j), .int (nI j), .int 3, .int 0, .int (f j), .int wr, .ref bA, .ref zA, .ref nA, .ref lA]))) X fX8_178 tyX8_ok nmX8 rfl pd_I hU_s rfl rfl (ltb rfl) dX8_look_154 hU_u ?_
            refine v_aload_n X dX8_look_157 1 rfl ?_
            refine v_dup X dX8_look_158 rfl ?_
            refine v_get X fX8_169 hU_s rfl dX8_look_159 ?_
            refine v_iconst X dX8_look_162 (v := 1) (by decide) ?_
            refine v_iadd X dX8_look_163 ?_
            refine v_putE (h2 := (hU h t (ob 8 [.ref dA, .ref eA, .ref kA, .int hk, .ref fA, .int sw0, .int sw1, .ref tA, .int (nI n), .int ((nI j) + 1), .int (nI j), .int 3, .int 0, .int (f j), .int wr, .ref bA, .ref zA, .ref nA, .ref lA]))) X fX8_169 tyX8_ok nmX8 rfl pd_I hU_s rfl rfl (ltb rfl) dX8_look_164 hU_u ?_
            refine v_aload_n X dX8_look_167 1 rfl ?_
            refine v_get X fX8_181 hU_s rfl dX8_look_168 ?_
            refine v_iconst X dX8_look_171 (v := 1) (by decide) ?_
            refine v_icmp_ne X dX8_look_172 (tgt := 257) (by decide) (fun _ => ?_) (fun c => absurd c (by decide))
            refine v_aload_n X dX8_look_257 1 rfl ?_
            refine v_get X fX8_181 hU_s rfl dX8_look_258 ?_
            refine v_iconst X dX8_look_261 (v := 2) (by decide) ?_
            refine v_icmp_ne X dX8_look_262 (tgt := 344) (by decide) (fun _ => ?_) (fun c => absurd c (by decide))
            exact v_vret X r dX8_look_344 (Nat.le_refl _) (Nat.le_refl _) ⟨rfl, (by rw [lkE, lkT, lkW, lkV, hJ, if_neg hjn, if_neg hjn, if_neg hjn, if_neg hjn, if_neg c2, if_neg c2, if_neg c2, if_neg c2, if_neg c3, if_neg c3, if_neg c3, if_pos (by simp [isSg, c4]), nI_1])⟩
          · refine v_iload_n X dX8_look_112 0 rfl ?_
            refine v_bipush X dX8_look_113 (v := 62) (by decide) ?_
            refine v_icmp_eq X dX8_look_115 (tgt := 136) (by decide) (fun c8 => ?_) (fun c8 => ?_)
            · refine v_iconst X dX8_look_136 (v := 3) (by decide) ?_
              refine v_goto X dX8_look_137 (tgt := 141) (by decide) ?_
              refine v_putE (h2 := (hU h t (ob 8 [.ref dA, .ref eA, .ref kA, .int hk, .ref fA, .int sw0, .int sw1, .ref tA, .int (nI n), .int (nI j), .int (nI j), .int 3, .int 0, .int 0, .int wr, .ref bA, .ref zA, .ref nA, .ref lA]))) X fX8_181 tyX8_ok nmX8 rfl pd_I hU_s rfl rfl (ltb rfl) dX8_look_141 hU_u ?_
              refine v_aload_n X dX8_look_144 1 rfl ?_
              refine v_get X fX8_181 hU_s rfl dX8_look_145 ?_
              refine v_iconst X dX8_look_148 (v := 2) (by decide) ?_
              refine v_icmp_le X dX8_look_149 (tgt := 167) (by decide) (fun c => absurd c (by decide)) (fun _ => ?_)
              refine v_aload_n X dX8_look_152 1 rfl ?_
              refine v_iload_n X dX8_look_153 0 rfl ?_
              refine v_putE (h2 := (hU h t (ob 8 [.ref dA, .ref eA, .ref kA, .int hk, .ref fA, .int sw0, .int sw1, .ref tA, .int (nI n), .int (nI j), .int (nI j), .int 3, .int 0, .int (f j), .int wr, .ref bA, .ref zA, .ref nA, .ref lA]))) X fX8_178 tyX8_ok nmX8 rfl pd_I hU_s rfl rfl (ltb rfl) dX8_look_154 hU_u ?_
              refine v_aload_n X dX8_look_157 1 rfl ?_
              refine v_dup X dX8_look_158 rfl ?_
              refine v_get X fX8_169 hU_s rfl dX8_look_159 ?_
              refine v_iconst X dX8_look_162 (v := 1) (by decide) ?_
              refine v_iadd X dX8_look_163 ?_
              refine v_putE (h2 := (hU h t (ob 8 [.ref dA, .ref eA, .ref kA, .int hk, .ref fA, .int sw0, .int sw1, .ref tA, .int (nI n), .int ((nI j) + 1), .int (nI j), .int 3, .int 0, .int (f j), .int wr, .ref bA, .ref zA, .ref nA, .ref lA]))) X fX8_169 tyX8_ok nmX8 rfl pd_I hU_s rfl rfl (ltb rfl) dX8_look_164 hU_u ?_
              refine v_aload_n X dX8_look_167 1 rfl ?_
              refine v_get X fX8_181 hU_s rfl dX8_look_168 ?_
              refine v_iconst X dX8_look_171 (v := 1) (by decide) ?_
              refine v_icmp_ne X dX8_look_172 (tgt := 257) (by decide) (fun _ => ?_) (fun c => absurd c (by decide))
              refine v_aload_n X dX8_look_257 1 rfl ?_
              refine v_get X fX8_181 hU_s rfl dX8_look_258 ?_
              refine v_iconst X dX8_look_261 (v := 2) (by decide) ?_
              refine v_icmp_ne X dX8_look_262 (tgt := 344) (by decide) (fun _ => ?_) (fun c => absurd c (by decide))
              exact v_vret X r dX8_look_344 (Nat.le_refl _) (Nat.le_refl _) ⟨rfl, (by rw [lkE, lkT, lkW, lkV, hJ, if_neg hjn, if_neg hjn, if_neg hjn, if_neg hjn, if_neg c2, if_neg c2, if_neg c2, if_neg c2, if_neg c3, if_neg c3, if_neg c3, if_pos (by simp [isSg, c4, c8]), nI_1])⟩
            · refine v_iload_n X dX8_look_118 0 rfl ?_
              refine v_bipush X dX8_look_119 (v := 45) (by decide) ?_
              refine v_icmp_eq X dX8_look_121 (tgt := 136) (by decide) (fun c12 => ?_) (fun c12 => ?_)
              · refine v_iconst X dX8_look_136 (v := 3) (by decide) ?_
                refine v_goto X dX8_look_137 (tgt := 141) (by decide) ?_
                refine v_putE (h2 := (hU h t (ob 8 [.ref dA, .ref eA, .ref kA, .int hk, .ref fA, .int sw0, .int sw1, .ref tA, .int (nI n), .int (nI j), .int (nI j), .int 3, .int 0, .int 0, .int wr, .ref bA, .ref zA, .ref nA, .ref lA]))) X fX8_181 tyX8_ok nmX8 rfl pd_I hU_s rfl rfl (ltb rfl) dX8_look_141 hU_u ?_
                refine v_aload_n X dX8_look_144 1 rfl ?_
                refine v_get X fX8_181 hU_s rfl dX8_look_145 ?_
                refine v_iconst X dX8_look_148 (v := 2) (by decide) ?_
                refine v_icmp_le X dX8_look_149 (tgt := 167) (by decide) (fun c => absurd c (by decide)) (fun _ => ?_)
                refine v_aload_n X dX8_look_152 1 rfl ?_
                refine v_iload_n X dX8_look_153 0 rfl ?_
                refine v_putE (h2 := (hU h t (ob 8 [.ref dA, .ref eA, .ref kA, .int hk, .ref fA, .int sw0, .int sw1, .ref tA, .int (nI n), .int (nI j), .int (nI j), .int 3, .int 0, .int (f j), .int wr, .ref bA, .ref zA, .ref nA, .ref lA]))) X fX8_178 tyX8_ok nmX8 rfl pd_I hU_s rfl rfl (ltb rfl) dX8_look_154 hU_u ?_
                refine v_aload_n X dX8_look_157 1 rfl ?_
                refine v_dup X dX8_look_158 rfl ?_
                refine v_get X fX8_169 hU_s rfl dX8_look_159 ?_
                refine v_iconst X dX8_look_162 (v := 1) (by decide) ?_
                refine v_iadd X dX8_look_163 ?_
                refine v_putE (h2 := (hU h t (ob 8 [.ref dA, .ref eA, .ref kA, .int hk, .ref fA, .int sw0, .int sw1, .ref tA, .int (nI n), .int ((nI j) + 1), .int (nI j), .int 3, .int 0, .int (f j), .int wr, .ref bA, .ref zA, .ref nA, .ref lA]))) X fX8_169 tyX8_ok nmX8 rfl pd_I hU_s rfl rfl (ltb rfl) dX8_look_164 hU_u ?_
                refine v_aload_n X dX8_look_167 1 rfl ?_
                refine v_get X fX8_181 hU_s rfl dX8_look_168 ?_
                refine v_iconst X dX8_look_171 (v := 1) (by decide) ?_
                refine v_icmp_ne X dX8_look_172 (tgt := 257) (by decide) (fun _ => ?_) (fun c => absurd c (by decide))
                refine v_aload_n X dX8_look_257 1 rfl ?_
                refine v_get X fX8_181 hU_s rfl dX8_look_258 ?_
                refine v_iconst X dX8_look_261 (v := 2) (by decide) ?_
                refine v_icmp_ne X dX8_look_262 (tgt := 344) (by decide) (fun _ => ?_) (fun c => absurd c (by decide))
                exact v_vret X r dX8_look_344 (Nat.le_refl _) (Nat.le_refl _) ⟨rfl, (by rw [lkE, lkT, lkW, lkV, hJ, if_neg hjn, if_neg hjn, if_neg hjn, if_neg hjn, if_neg c2, if_neg c2, if_neg c2, if_neg c2, if_neg c3, if_neg c3, if_neg c3, if_pos (by simp [isSg, c4, c8, c12]), nI_1])⟩
              · refine v_iload_n X dX8_look_124 0 rfl ?_
                refine v_bipush X dX8_look_125 (v := 58) (by decide) ?_
                refine v_icmp_eq X dX8_look_127 (tgt := 136) (by decide) (fun c16 => ?_) (fun c16 => ?_)
                · refine v_iconst X dX8_look_136 (v := 3) (by decide) ?_
                  refine v_goto X dX8_look_137 (tgt := 141) (by decide) ?_
                  refine v_putE (h2 := (hU h t (ob 8 [.ref dA, .ref eA, .ref kA, .int hk, .ref fA, .int sw0, .int sw1, .ref tA, .int (nI n), .int (nI j), .int (nI j), .int 3, .int 0, .int 0, .int wr, .ref bA, .ref zA, .ref nA, .ref lA]))) X fX8_181 tyX8_ok nmX8 rfl pd_I hU_s rfl rfl (ltb rfl) dX8_look_141 hU_u ?_
                  refine v_aload_n X dX8_look_144 1 rfl ?_
                  refine v_get X fX8_181 hU_s rfl dX8_look_145 ?_
                  refine v_iconst X dX8_look_148 (v := 2) (by decide) ?_
                  refine v_icmp_le X dX8_look_149 (tgt := 167) (by decide) (fun c => absurd c (by decide)) (fun _ => ?_)
                  refine v_aload_n X dX8_look_152 1 rfl ?_
                  refine v_iload_n X dX8_look_153 0 rfl ?_
                  refine v_putE (h2 := (hU h t (ob 8 [.ref dA, .ref eA, .ref kA, .int hk, .ref fA, .int sw0, .int sw1, .ref tA, .int (nI n), .int (nI j), .int (nI j), .int 3, .int 0, .int (f j), .int wr, .ref bA, .ref zA, .ref nA, .ref lA]))) X fX8_178 tyX8_ok nmX8 rfl pd_I hU_s rfl rfl (ltb rfl) dX8_look_154 hU_u ?_
                  refine v_aload_n X dX8_look_157 1 rfl ?_
                  refine v_dup X dX8_look_158 rfl ?_
                  refine v_get X fX8_169 hU_s rfl dX8_look_159 ?_
                  refine v_iconst X dX8_look_162 (v := 1) (by decide) ?_
                  refine v_iadd X dX8_look_163 ?_
                  refine v_putE (h2 := (hU h t (ob 8 [.ref dA, .ref eA, .ref kA, .int hk, .ref fA, .int sw0, .int sw1, .ref tA, .int (nI n), .int ((nI j) + 1), .int (nI j), .int 3, .int 0, .int (f j), .int wr, .ref bA, .ref zA, .ref nA, .ref lA]))) X fX8_169 tyX8_ok nmX8 rfl pd_I hU_s rfl rfl (ltb rfl) dX8_look_164 hU_u ?_
                  refine v_aload_n X dX8_look_167 1 rfl ?_
                  refine v_get X fX8_181 hU_s rfl dX8_look_168 ?_
                  refine v_iconst X dX8_look_171 (v := 1) (by decide) ?_
                  refine v_icmp_ne X dX8_look_172 (tgt := 257) (by decide) (fun _ => ?_) (fun c => absurd c (by decide))
                  refine v_aload_n X dX8_look_257 1 rfl ?_
                  refine v_get X fX8_181 hU_s rfl dX8_look_258 ?_
                  refine v_iconst X dX8_look_261 (v := 2) (by decide) ?_
                  refine v_icmp_ne X dX8_look_262 (tgt := 344) (by decide) (fun _ => ?_) (fun c => absurd c (by decide))
                  exact v_vret X r dX8_look_344 (Nat.le_refl _) (Nat.le_refl _) ⟨rfl, (by rw [lkE, lkT, lkW, lkV, hJ, if_neg hjn, if_neg hjn, if_neg hjn, if_neg hjn, if_neg c2, if_neg c2, if_neg c2, if_neg c2, if_neg c3, if_neg c3, if_neg c3, if_pos (by simp [isSg, c4, c8, c12, c16]), nI_1])⟩
                · refine v_iload_n X dX8_look_130 0 rfl ?_
                  refine v_bipush X dX8_look_131 (v := 59) (by decide) ?_
                  refine v_icmp_ne X dX8_look_133 (tgt := 140) (by decide) (fun c20 => ?_) (fun c20 => ?_)
                  · refine v_iconst X dX8_look_140 (v := 4) (by decide) ?_
                    refine v_putE (h2 := (hU h t (ob 8 [.ref dA, .ref eA, .ref kA, .int hk, .ref fA, .int sw0, .int sw1, .ref tA, .int (nI n), .int (nI j), .int (nI j), .int 4, .int 0, .int 0, .int wr, .ref bA, .ref zA, .ref nA, .ref lA]))) X fX8_181 tyX8_ok nmX8 rfl pd_I hU_s rfl rfl (ltb rfl) dX8_look_141 hU_u ?_
                    refine v_aload_n X dX8_look_144 1 rfl ?_
                    refine v_get X fX8_181 hU_s rfl dX8_look_145 ?_
                    refine v_iconst X dX8_look_148 (v := 2) (by decide) ?_
                    refine v_icmp_le X dX8_look_149 (tgt := 167) (by decide) (fun c => absurd c (by decide)) (fun _ => ?_)
                    refine v_aload_n X dX8_look_152 1 rfl ?_
                    refine v_iload_n X dX8_look_153 0 rfl ?_
                    refine v_putE (h2 := (hU h t (ob 8 [.ref dA, .ref eA, .ref kA, .int hk, .ref fA, .int sw0, .int sw1, .ref tA, .int (nI n), .int (nI j), .int (nI j), .int 4, .int 0, .int (f j), .int wr, .ref bA, .ref zA, .ref nA, .ref lA]))) X fX8_178 tyX8_ok nmX8 rfl pd_I hU_s rfl rfl (ltb rfl) dX8_look_154 hU_u ?_
                    refine v_aload_n X dX8_look_157 1 rfl ?_
                    refine v_dup X dX8_look_158 rfl ?_
                    refine v_get X fX8_169 hU_s rfl dX8_look_159 ?_
                    refine v_iconst X dX8_look_162 (v := 1) (by decide) ?_
                    refine v_iadd X dX8_look_163 ?_
                    refine v_putE (h2 := (hU h t (ob 8 [.ref dA, .ref eA, .ref kA, .int hk, .ref fA, .int sw0, .int sw1, .ref tA, .int (nI n), .int ((nI j) + 1), .int (nI j), .int 4, .int 0, .int (f j), .int wr, .ref bA, .ref zA, .ref nA, .ref lA]))) X fX8_169 tyX8_ok nmX8 rfl pd_I hU_s rfl rfl (ltb rfl) dX8_look_164 hU_u ?_
                    refine v_aload_n X dX8_look_167 1 rfl ?_
                    refine v_get X fX8_181 hU_s rfl dX8_look_168 ?_
                    refine v_iconst X dX8_look_171 (v := 1) (by decide) ?_
                    refine v_icmp_ne X dX8_look_172 (tgt := 257) (by decide) (fun _ => ?_) (fun c => absurd c (by decide))
                    refine v_aload_n X dX8_look_257 1 rfl ?_
                    refine v_get X fX8_181 hU_s rfl dX8_look_258 ?_
                    refine v_iconst X dX8_look_261 (v := 2) (by decide) ?_
                    refine v_icmp_ne X dX8_look_262 (tgt := 344) (by decide) (fun _ => ?_) (fun c => absurd c (by decide))
                    exact v_vret X r dX8_look_344 (Nat.le_refl _) (Nat.le_refl _) ⟨rfl, (by rw [lkE, lkT, lkW, lkV, hJ, if_neg hjn, if_neg hjn, if_neg hjn, if_neg hjn, if_neg c2, if_neg c2, if_neg c2, if_neg c2, if_neg c3, if_neg c3, if_neg c3, if_neg (by simp [isSg, c4, c8, c12, c16, c20]), nI_1])⟩
                  · refine v_iconst X dX8_look_136 (v := 3) (by decide) ?_
                    refine v_goto X dX8_look_137 (tgt := 141) (by decide) ?_
                    refine v_putE (h2 := (hU h t (ob 8 [.ref dA, .ref eA, .ref kA, .int hk, .ref fA, .int sw0, .int sw1, .ref tA, .int (nI n), .int (nI j), .int (nI j), .int 3, .int 0, .int 0, .int wr, .ref bA, .ref zA, .ref nA, .ref lA]))) X fX8_181 tyX8_ok nmX8 rfl pd_I hU_s rfl rfl (ltb rfl) dX8_look_141 hU_u ?_
                    refine v_aload_n X dX8_look_144 1 rfl ?_
                    refine v_get X fX8_181 hU_s rfl dX8_look_145 ?_
                    refine v_iconst X dX8_look_148 (v := 2) (by decide) ?_
                    refine v_icmp_le X dX8_look_149 (tgt := 167) (by decide) (fun c => absurd c (by decide)) (fun _ => ?_)
                    refine v_aload_n X dX8_look_152 1 rfl ?_
                    refine v_iload_n X dX8_look_153 0 rfl ?_
                    refine v_putE (h2 := (hU h t (ob 8 [.ref dA, .ref eA, .ref kA, .int hk, .ref fA, .int sw0, .int sw1, .ref tA, .int (nI n), .int (nI j), .int (nI j), .int 3, .int 0, .int (f j), .int wr, .ref bA, .ref zA, .ref nA, .ref lA]))) X fX8_178 tyX8_ok nmX8 rfl pd_I hU_s rfl rfl (ltb rfl) dX8_look_154 hU_u ?_
                    refine v_aload_n X dX8_look_157 1 rfl ?_
                    refine v_dup X dX8_look_158 rfl ?_
                    refine v_get X fX8_169 hU_s rfl dX8_look_159 ?_
                    refine v_iconst X dX8_look_162 (v := 1) (by decide) ?_
                    refine v_iadd X dX8_look_163 ?_
                    refine v_putE (h2 := (hU h t (ob 8 [.ref dA, .ref eA, .ref kA, .int hk, .ref fA, .int sw0, .int sw1, .ref tA, .int (nI n), .int ((nI j) + 1), .int (nI j), .int 3, .int 0, .int (f j), .int wr, .ref bA, .ref zA, .ref nA, .ref lA]))) X fX8_169 tyX8_ok nmX8 rfl pd_I hU_s rfl rfl (ltb rfl) dX8_look_164 hU_u ?_
                    refine v_aload_n X dX8_look_167 1 rfl ?_
                    refine v_get X fX8_181 hU_s rfl dX8_look_168 ?_
                    refine v_iconst X dX8_look_171 (v := 1) (by decide) ?_
                    refine v_icmp_ne X dX8_look_172 (tgt := 257) (by decide) (fun _ => ?_) (fun c => absurd c (by decide))
                    refine v_aload_n X dX8_look_257 1 rfl ?_
                    refine v_get X fX8_181 hU_s rfl dX8_look_258 ?_
                    refine v_iconst X dX8_look_261 (v := 2) (by decide) ?_
                    refine v_icmp_ne X dX8_look_262 (tgt := 344) (by decide) (fun _ => ?_) (fun c => absurd c (by decide))
                    exact v_vret X r dX8_look_344 (Nat.le_refl _) (Nat.le_refl _) ⟨rfl, (by rw [lkE, lkT, lkW, lkV, hJ, if_neg hjn, if_neg hjn, if_neg hjn, if_neg hjn, if_neg c2, if_neg c2, if_neg c2, if_neg c2, if_neg c3, if_neg c3, if_neg c3, if_pos (by simp [isSg, c4, c8, c12, c16, c20]), nI_1])⟩
        · refine v_iconst X dX8_look_102 (v := 2) (by decide) ?_
          refine v_goto X dX8_look_103 (tgt := 141) (by decide) ?_
          refine v_putE (h2 := (hU h t (ob 8 [.ref dA, .ref eA, .ref kA, .int hk, .ref fA, .int sw0, .int sw1, .ref tA, .int (nI n), .int (nI j), .int (nI j), .int 2, .int 0, .int 0, .int wr, .ref bA, .ref zA, .ref nA, .ref lA]))) X fX8_181 tyX8_ok nmX8 rfl pd_I hU_s rfl rfl (ltb rfl) dX8_look_141 hU_u ?_
          refine v_aload_n X dX8_look_144 1 rfl ?_
          refine v_get X fX8_181 hU_s rfl dX8_look_145 ?_
          refine v_iconst X dX8_look_148 (v := 2) (by decide) ?_
          refine v_icmp_le X dX8_look_149 (tgt := 167) (by decide) (fun _ => ?_) (fun c => absurd c (by decide))
          refine v_aload_n X dX8_look_167 1 rfl ?_
          refine v_get X fX8_181 hU_s rfl dX8_look_168 ?_
          refine v_iconst X dX8_look_171 (v := 1) (by decide) ?_
          refine v_icmp_ne X dX8_look_172 (tgt := 257) (by decide) (fun _ => ?_) (fun c => absurd c (by decide))
          have L257 : ∀ (N : Nat) (q : Nat) (w : Int32), (j ≤ q) → (q ≤ n) → (numM f j 0 (n - j) = numM f q w (n - q)) → (digE f j (n - j) = digE f q (n - q)) → n - q < N → VJ K 0 0 (hU h t (ob 8 [.ref dA, .ref eA, .ref kA, .int hk, .ref fA, .int sw0, .int sw1, .ref tA, .int (nI n), .int (nI q), .int (nI j), .int 2, .int 0, .int w, .int wr, .ref bA, .ref zA, .ref nA, .ref lA])) 257 [(0, .ref t), (1, .int (f j))] [] := by
            intro N
            induction N with
            | zero => intro q w _ _ _ _ hm; exact absurd hm (Nat.not_lt_zero _)
            | succ N ih257 =>
              intro q w hjq hqn0 hw he hm
              refine v_aload_n X dX8_look_257 0 rfl ?_
              refine v_get X fX8_181 hU_s rfl dX8_look_258 ?_
              refine v_iconst X dX8_look_261 (v := 2) (by decide) ?_
              refine v_icmp_ne X dX8_look_262 (tgt := 344) (by decide) (fun c => absurd c (by decide)) (fun _ => ?_)
              refine v_aload_n X dX8_look_265 0 rfl ?_
              refine v_get X fX8_169 hU_s rfl dX8_look_266 ?_
              refine v_aload_n X dX8_look_269 0 rfl ?_
              refine v_get X fX8_166 hU_s rfl dX8_look_270 ?_
              refine v_icmp_ge X dX8_look_273 (tgt := 344) (by decide) (fun c30 => ?_) (fun c30 => ?_)
              · exact v_vret X r dX8_look_344 (Nat.le_refl _) (Nat.le_refl _) ⟨rfl, (by rw [lkE, lkT, lkW, lkV, hJ, if_neg hjn, if_neg hjn, if_neg hjn, if_neg hjn, if_neg c2, if_neg c2, if_neg c2, if_neg c2, if_pos c3, if_pos c3, if_pos c3, (digE_0 he (fun z => absurd (nI_lt z (by omega)) (Int32.not_lt.mpr c30))), (numM_0 hw (fun z => absurd (nI_lt z (by omega)) (Int32.not_lt.mpr c30)))])⟩
              · have hqn : q < n := by
                  rcases Nat.lt_or_ge q n with z | z
                  · exact z
                  · exact absurd (nI_le z (by omega)) c30
                refine v_aload_n X dX8_look_276 0 rfl ?_
                refine v_get X fX8_22 hU_s rfl dX8_look_277 ?_
                refine v_aload_n X dX8_look_280 0 rfl ?_
                refine v_get X fX8_169 hU_s rfl dX8_look_281 ?_
                refine v_ialdK X q ((hU_n ne_1).trans hf) rfl (by omega) (by decide) dX8_look_284 ?_
                refine v_cSi X [.int (f q)] sX8_187 (ct_X8_isDigit ll g (f q)) dX8_look_285 rfl rfl ⟨rfl, rfl⟩ ⟨(Nat.le_of_ble_eq_true rfl), (Nat.le_of_ble_eq_true rfl)⟩ ⟨Nat.zero_le _, Nat.zero_le _⟩ (Nat.le_of_ble_eq_true rfl) ?_
                refine v_ifb_eq X dX8_look_288 (tgt := 344) (by decide) (fun c31 => ?_) (fun c31 => ?_)
                · exact v_vret X r dX8_look_344 (Nat.le_refl _) (Nat.le_refl _) ⟨rfl, (by rw [lkE, lkT, lkW, lkV, hJ, if_neg hjn, if_neg hjn, if_neg hjn, if_neg hjn, if_neg c2, if_neg c2, if_neg c2, if_neg c2, if_pos c3, if_pos c3, if_pos c3, ((digE_s he hqn).2 c31), ((numM_s hw hqn).2 c31)])⟩
                · refine v_aload_n X dX8_look_291 0 rfl ?_
                  refine v_aload_n X dX8_look_292 0 rfl ?_
                  refine v_get X fX8_178 hU_s rfl dX8_look_293 ?_
                  refine v_sipush X dX8_look_296 (v := 999) (by decide) ?_
                  have J1 : VJ K 0 0 (hU h t (ob 8 [.ref dA, .ref eA, .ref kA, .int hk, .ref fA, .int sw0, .int sw1, .ref tA, .int (nI n), .int (nI q), .int (nI j), .int 2, .int 0, .int w, .int wr, .ref bA, .ref zA, .ref nA, .ref lA])) 328 [(0, .ref t), (1, .int (f j))] [.int (nmN f q w), .ref t] := by
                    refine v_putE (h2 := (hU h t (ob 8 [.ref dA, .ref eA, .ref kA, .int hk, .ref fA, .int sw0, .int sw1, .ref tA, .int (nI n), .int (nI q), .int (nI j), .int 2, .int 0, .int (nmN f q w), .int wr, .ref bA, .ref zA, .ref nA, .ref lA]))) X fX8_178 tyX8_ok nmX8 rfl pd_I hU_s rfl rfl (ltb rfl) dX8_look_328 hU_u ?_
                    refine v_aload_n X dX8_look_331 0 rfl ?_
                    refine v_dup X dX8_look_332 rfl ?_
                    refine v_get X fX8_169 hU_s rfl dX8_look_333 ?_
                    refine v_iconst X dX8_look_336 (v := 1) (by decide) ?_
                    refine v_iadd X dX8_look_337 ?_
                    refine v_putE (h2 := (hU h t (ob 8 [.ref dA, .ref eA, .ref kA, .int hk, .ref fA, .int sw0, .int sw1, .ref tA, .int (nI n), .int ((nI q) + 1), .int (nI j), .int 2, .int 0, .int (nmN f q w), .int wr, .ref bA, .ref zA, .ref nA, .ref lA]))) X fX8_169 tyX8_ok nmX8 rfl pd_I hU_s rfl rfl (ltb rfl) dX8_look_338 hU_u ?_
                    refine v_goto X dX8_look_341 (tgt := 257) (by decide) ?_
                    refine v_eqh (h2 := (hU h t (ob 8 [.ref dA, .ref eA, .ref kA, .int hk, .ref fA, .int sw0, .int sw1, .ref tA, .int (nI n), .int (nI (q + 1)), .int (nI j), .int 2, .int 0, .int (nmN f q w), .int wr, .ref bA, .ref zA, .ref nA, .ref lA]))) (by rw [nI_1]) ?_
                    exact ih257 (q + 1) (nmN f q w) (by omega) (by omega) ((numM_s hw hqn).1 c31) ((digE_s he hqn).1 c31) (by omega)
                  refine v_icmp_le X dX8_look_299 (tgt := 308) (by decide) (fun c32 => ?_) (fun c32 => ?_)
                  · refine v_bipush X dX8_look_308 (v := 10) (by decide) ?_
                    refine v_aload_n X dX8_look_310 0 rfl ?_
                    refine v_get X fX8_178 hU_s rfl dX8_look_311 ?_
                    refine v_imul X dX8_look_314 ?_
                    refine v_aload_n X dX8_look_315 0 rfl ?_
                    refine v_get X fX8_22 hU_s rfl dX8_look_316 ?_
                    refine v_aload_n X dX8_look_319 0 rfl ?_
                    refine v_get X fX8_169 hU_s rfl dX8_look_320 ?_
                    refine v_ialdK X q ((hU_n ne_1).trans hf) rfl (by omega) (by decide) dX8_look_323 ?_
                    refine v_iadd X dX8_look_324 ?_
                    refine v_bipush X dX8_look_325 (v := 48) (by decide) ?_
                    refine v_isub X dX8_look_327 ?_
                    exact v_eqi (by unfold nmN; rw [if_neg (Int32.not_lt.mpr c32)]) J1
                  · refine v_sipush X dX8_look_302 (v := 1000) (by decide) ?_
                    refine v_goto X dX8_look_305 (tgt := 328) (by decide) ?_
                    exact v_eqi (by unfold nmN; rw [if_pos (Int32.not_le.mp c32)]) J1
          refine v_lv (lv2 := [(0, .ref t), (1, .int (f j))]) [1, 0] rfl ?_
          exact L257 _ j 0 (Nat.le_refl _) hjn0 rfl rfl (Nat.lt_succ_self _)
      · refine v_iconst X dX8_look_91 (v := 1) (by decide) ?_
        refine v_goto X dX8_look_92 (tgt := 141) (by decide) ?_
        refine v_putE (h2 := (hU h t (ob 8 [.ref dA, .ref eA, .ref kA, .int hk, .ref fA, .int sw0, .int sw1, .ref tA, .int (nI n), .int (nI j), .int (nI j), .int 1, .int 0, .int 0, .int wr, .ref bA, .ref zA, .ref nA, .ref lA]))) X fX8_181 tyX8_ok nmX8 rfl pd_I hU_s rfl rfl (ltb rfl) dX8_look_141 hU_u ?_
        refine v_aload_n X dX8_look_144 1 rfl ?_
        refine v_get X fX8_181 hU_s rfl dX8_look_145 ?_
        refine v_iconst X dX8_look_148 (v := 2) (by decide) ?_
        refine v_icmp_le X dX8_look_149 (tgt := 167) (by decide) (fun _ => ?_) (fun c => absurd c (by decide))
        have L167 : ∀ (N : Nat) (q : Nat) (w : Int32), (j ≤ q) → (q ≤ n) → (wordM f j j 0 (n - j) = wordM f j q w (n - q)) → (wordE f j (n - j) = wordE f q (n - q)) → n - q < N → VJ K 0 0 (hU h t (ob 8 [.ref dA, .ref eA, .ref kA, .int hk, .ref fA, .int sw0, .int sw1, .ref tA, .int (nI n), .int (nI q), .int (nI j), .int 1, .int w, .int 0, .int wr, .ref bA, .ref zA, .ref nA, .ref lA])) 167 [(0, .ref t), (1, .int (f j))] [] := by
          intro N
          induction N with
          | zero => intro q w _ _ _ _ hm; exact absurd hm (Nat.not_lt_zero _)
          | succ N ih167 =>
            intro q w hjq hqn0 hw he hm
            refine v_aload_n X dX8_look_167 0 rfl ?_
            refine v_get X fX8_181 hU_s rfl dX8_look_168 ?_
            refine v_iconst X dX8_look_171 (v := 1) (by decide) ?_
            refine v_icmp_ne X dX8_look_172 (tgt := 257) (by decide) (fun c => absurd c (by decide)) (fun _ => ?_)
            refine v_aload_n X dX8_look_175 0 rfl ?_
            refine v_get X fX8_169 hU_s rfl dX8_look_176 ?_
            refine v_aload_n X dX8_look_179 0 rfl ?_
            refine v_get X fX8_166 hU_s rfl dX8_look_180 ?_
            refine v_icmp_ge X dX8_look_183 (tgt := 257) (by decide) (fun c35 => ?_) (fun c35 => ?_)
            · refine v_aload_n X dX8_look_257 0 rfl ?_
              refine v_get X fX8_181 hU_s rfl dX8_look_258 ?_
              refine v_iconst X dX8_look_261 (v := 2) (by decide) ?_
              refine v_icmp_ne X dX8_look_262 (tgt := 344) (by decide) (fun _ => ?_) (fun c => absurd c (by decide))
              exact v_vret X r dX8_look_344 (Nat.le_refl _) (Nat.le_refl _) ⟨rfl, (by rw [lkE, lkT, lkW, lkV, hJ, if_neg hjn, if_neg hjn, if_neg hjn, if_neg hjn, if_pos c2, if_pos c2, if_pos c2, if_pos c2, (wordE_0 he (fun z => absurd (nI_lt z (by omega)) (Int32.not_lt.mpr c35))), (wordM_0 hw (fun z => absurd (nI_lt z (by omega)) (Int32.not_lt.mpr c35)))])⟩
            · have hqn : q < n := by
                rcases Nat.lt_or_ge q n with z | z
                · exact z
                · exact absurd (nI_le z (by omega)) c35
              refine v_aload_n X dX8_look_186 0 rfl ?_
              refine v_get X fX8_22 hU_s rfl dX8_look_187 ?_
              refine v_aload_n X dX8_look_190 0 rfl ?_
              refine v_get X fX8_169 hU_s rfl dX8_look_191 ?_
              refine v_ialdK X q ((hU_n ne_1).trans hf) rfl (by omega) (by decide) dX8_look_194 ?_
              refine v_cSi X [.int (f q)] sX8_184 (ct_X8_isLetter ll g (f q)) dX8_look_195 rfl rfl ⟨rfl, rfl⟩ ⟨(Nat.le_of_ble_eq_true rfl), (Nat.le_of_ble_eq_true rfl)⟩ ⟨Nat.zero_le _, Nat.zero_le _⟩ (Nat.le_of_ble_eq_true rfl) ?_
              refine v_ifb_eq X dX8_look_198 (tgt := 257) (by decide) (fun c37 => ?_) (fun c37 => ?_)
              · refine v_aload_n X dX8_look_257 0 rfl ?_
                refine v_get X fX8_181 hU_s rfl dX8_look_258 ?_
                refine v_iconst X dX8_look_261 (v := 2) (by decide) ?_
                refine v_icmp_ne X dX8_look_262 (tgt := 344) (by decide) (fun _ => ?_) (fun c => absurd c (by decide))
                exact v_vret X r dX8_look_344 (Nat.le_refl _) (Nat.le_refl _) ⟨rfl, (by rw [lkE, lkT, lkW, lkV, hJ, if_neg hjn, if_neg hjn, if_neg hjn, if_neg hjn, if_pos c2, if_pos c2, if_pos c2, if_pos c2, ((wordE_s he hqn).2 c37), ((wordM_s hw hqn).2 c37)])⟩
              · refine v_aload_n X dX8_look_201 0 rfl ?_
                refine v_aload_n X dX8_look_202 0 rfl ?_
                refine v_get X fX8_169 hU_s rfl dX8_look_203 ?_
                refine v_aload_n X dX8_look_206 0 rfl ?_
                refine v_get X fX8_172 hU_s rfl dX8_look_207 ?_
                refine v_isub X dX8_look_210 ?_
                refine v_iconst X dX8_look_211 (v := 5) (by decide) ?_
                have J2 : VJ K 0 0 (hU h t (ob 8 [.ref dA, .ref eA, .ref kA, .int hk, .ref fA, .int sw0, .int sw1, .ref tA, .int (nI n), .int (nI q), .int (nI j), .int 1, .int w, .int 0, .int wr, .ref bA, .ref zA, .ref nA, .ref lA])) 241 [(0, .ref t), (1, .int (f j))] [.int (wdN f j q w), .ref t] := by
                  refine v_putE (h2 := (hU h t (ob 8 [.ref dA, .ref eA, .ref kA, .int hk, .ref fA, .int sw0, .int sw1, .ref tA, .int (nI n), .int (nI q), .int (nI j), .int 1, .int (wdN f j q w), .int 0, .int wr, .ref bA, .ref zA, .ref nA, .ref lA]))) X fX8_175 tyX8_ok nmX8 rfl pd_I hU_s rfl rfl (ltb rfl) dX8_look_241 hU_u ?_
                  refine v_aload_n X dX8_look_244 0 rfl ?_
                  refine v_dup X dX8_look_245 rfl ?_
                  refine v_get X fX8_169 hU_s rfl dX8_look_246 ?_
                  refine v_iconst X dX8_look_249 (v := 1) (by decide) ?_
                  refine v_iadd X dX8_look_250 ?_
                  refine v_putE (h2 := (hU h t (ob 8 [.ref dA, .ref eA, .ref kA, .int hk, .ref fA, .int sw0, .int sw1, .ref tA, .int (nI n), .int ((nI q) + 1), .int (nI j), .int 1, .int (wdN f j q w), .int 0, .int wr, .ref bA, .ref zA, .ref nA, .ref lA]))) X fX8_169 tyX8_ok nmX8 rfl pd_I hU_s rfl rfl (ltb rfl) dX8_look_251 hU_u ?_
                  refine v_goto X dX8_look_254 (tgt := 167) (by decide) ?_
                  refine v_eqh (h2 := (hU h t (ob 8 [.ref dA, .ref eA, .ref kA, .int hk, .ref fA, .int sw0, .int sw1, .ref tA, .int (nI n), .int (nI (q + 1)), .int (nI j), .int 1, .int (wdN f j q w), .int 0, .int wr, .ref bA, .ref zA, .ref nA, .ref lA]))) (by rw [nI_1]) ?_
                  exact ih167 (q + 1) (wdN f j q w) (by omega) (by omega) ((wordM_s hw hqn).1 c37) ((wordE_s he hqn).1 c37) (by omega)
                refine v_icmp_ge X dX8_look_212 (tgt := 240) (by decide) (fun c39 => ?_) (fun c39 => ?_)
                · refine v_iconst X dX8_look_240 (v := (-1)) (by decide) ?_
                  exact v_eqi (by unfold wdN; rw [if_neg (Int32.not_lt.mpr c39)]) J2
                · refine v_bipush X dX8_look_215 (v := 32) (by decide) ?_
                  refine v_aload_n X dX8_look_217 0 rfl ?_
                  refine v_get X fX8_175 hU_s rfl dX8_look_218 ?_
                  refine v_imul X dX8_look_221 ?_
                  refine v_aload_n X dX8_look_222 0 rfl ?_
                  refine v_get X fX8_22 hU_s rfl dX8_look_223 ?_
                  refine v_aload_n X dX8_look_226 0 rfl ?_
                  refine v_get X fX8_169 hU_s rfl dX8_look_227 ?_
                  refine v_ialdK X q ((hU_n ne_1).trans hf) rfl (by omega) (by decide) dX8_look_230 ?_
                  refine v_iadd X dX8_look_231 ?_
                  refine v_bipush X dX8_look_232 (v := 97) (by decide) ?_
                  refine v_isub X dX8_look_234 ?_
                  refine v_iconst X dX8_look_235 (v := 1) (by decide) ?_
                  refine v_iadd X dX8_look_236 ?_
                  refine v_goto X dX8_look_237 (tgt := 241) (by decide) ?_
                  exact v_eqi (by unfold wdN; rw [if_pos (Int32.not_le.mp c39)]) J2
        refine v_lv (lv2 := [(0, .ref t), (1, .int (f j))]) [1, 0] rfl ?_
        exact L167 _ j 0 (Nat.le_refl _) hjn0 rfl rfl (Nat.lt_succ_self _)
    · have hjn : j = n := (nI_eq (by omega) (by omega)).mp c1
      refine v_aload_n X dX8_look_67 0 rfl ?_
      refine v_iconst X dX8_look_68 (v := 0) (by decide) ?_
      refine v_putE (h2 := (hU h t (ob 8 [.ref dA, .ref eA, .ref kA, .int hk, .ref fA, .int sw0, .int sw1, .ref tA, .int (nI n), .int (nI j), .int (nI j), .int 0, .int 0, .int 0, .int wr, .ref bA, .ref zA, .ref nA, .ref lA]))) X fX8_181 tyX8_ok nmX8 rfl pd_I hU_s rfl rfl (ltb rfl) dX8_look_69 hU_u ?_
      exact v_vret X r dX8_look_72 (Nat.le_refl _) (Nat.le_refl _) ⟨rfl, (by rw [lkE, lkT, lkW, lkV, hJ]; simp [hjn])⟩
  have L0 : ∀ (N : Nat) (q : Nat), (a ≤ q) → (q ≤ n) → (lkJ f n a = skipF f q (n - q)) → n - q < N → VJ K 0 0 (hU h t (ob 8 [.ref dA, .ref eA, .ref kA, .int hk, .ref fA, .int sw0, .int sw1, .ref tA, .int (nI n), .int (nI q), .int fr, .int tk, .int wd, .int vl, .int wr, .ref bA, .ref zA, .ref nA, .ref lA])) 0 [(0, .ref t)] [] := by
    intro N
    induction N with
    | zero => intro q _ _ _ hm; exact absurd hm (Nat.not_lt_zero _)
    | succ N ih0 =>
      intro q haq hqn0 hq hm
      refine v_aload_n X dX8_look_0 0 rfl ?_
      refine v_get X fX8_169 hU_s rfl dX8_look_1 ?_
      refine v_aload_n X dX8_look_4 0 rfl ?_
      refine v_get X fX8_166 hU_s rfl dX8_look_5 ?_
      refine v_icmp_ge X dX8_look_8 (tgt := 38) (by decide) (fun c40 => ?_) (fun c40 => ?_)
      · exact C38 q (by omega) hqn0 (skipF_0 hq (fun z => absurd (nI_lt z (by omega)) (Int32.not_lt.mpr c40)))
      · have hqn : q < n := by
          rcases Nat.lt_or_ge q n with z | z
          · exact z
          · exact absurd (nI_le z (by omega)) c40
        refine v_aload_n X dX8_look_11 0 rfl ?_
        refine v_get X fX8_22 hU_s rfl dX8_look_12 ?_
        refine v_aload_n X dX8_look_15 0 rfl ?_
        refine v_get X fX8_169 hU_s rfl dX8_look_16 ?_
        refine v_ialdK X q ((hU_n ne_1).trans hf) rfl (by omega) (by decide) dX8_look_19 ?_
        refine v_bipush X dX8_look_20 (v := 32) (by decide) ?_
        refine v_icmp_ne X dX8_look_22 (tgt := 38) (by decide) (fun c41 => ?_) (fun c41 => ?_)
        · exact C38 q (by omega) hqn0 ((skipF_s hq hqn).2 c41)
        · refine v_aload_n X dX8_look_25 0 rfl ?_
          refine v_dup X dX8_look_26 rfl ?_
          refine v_get X fX8_169 hU_s rfl dX8_look_27 ?_
          refine v_iconst X dX8_look_30 (v := 1) (by decide) ?_
          refine v_iadd X dX8_look_31 ?_
          refine v_putE (h2 := (hU h t (ob 8 [.ref dA, .ref eA, .ref kA, .int hk, .ref fA, .int sw0, .int sw1, .ref tA, .int (nI n), .int ((nI q) + 1), .int fr, .int tk, .int wd, .int vl, .int wr, .ref bA, .ref zA, .ref nA, .ref lA]))) X fX8_169 tyX8_ok nmX8 rfl pd_I hU_s rfl rfl (ltb rfl) dX8_look_32 hU_u ?_
          refine v_goto X dX8_look_35 (tgt := 0) (by decide) ?_
          refine v_eqh (h2 := (hU h t (ob 8 [.ref dA, .ref eA, .ref kA, .int hk, .ref fA, .int sw0, .int sw1, .ref tA, .int (nI n), .int (nI (q + 1)), .int fr, .int tk, .int wd, .int vl, .int wr, .ref bA, .ref zA, .ref nA, .ref lA]))) (by rw [nI_1]) ?_
          exact ih0 (q + 1) (by omega) (by omega) ((skipF_s hq hqn).1 c41) (by omega)
  refine v_eqh (h2 := (hU h t (ob 8 [.ref dA, .ref eA, .ref kA, .int hk, .ref fA, .int sw0, .int sw1, .ref tA, .int (nI n), .int (nI a), .int fr, .int tk, .int wd, .int vl, .int wr, .ref bA, .ref zA, .ref nA, .ref lA]))) (hU_id ht).symm ?_
  exact L0 _ a (Nat.le_refl _) han rfl (Nat.lt_succ_self _)
