theorem mvTo_out {s : Nat → Int32} {l o n i : Nat} (h : i < 58) (hl : i ≠ 13 + l) : ∀ {k : Nat}, (∀ j, j < k → i ≠ 22 + 12 * l + (n + j)) → mvTo s l o n k i = s i
  | 0, _ => rfl
  | k + 1, hk => by
    simp only [mvTo, mvF, upd_ap]
    rw [if_neg hl, if_neg (hk k (by omega)), if_neg (by omega), mvTo_out h hl (fun j hj => hk j (by omega))]
theorem mvTo_len {s : Nat → Int32} {l o n : Nat} (hs : s (13 + l) = nI n) : ∀ {k : Nat}, mvTo s l o n k (13 + l) = nI (n + k)
  | 0 => hs
  | k + 1 => by
    simp only [mvTo, mvF, upd_ap]
    rw [if_pos trivial]; rfl
theorem mvTo_row {s : Nat → Int32} {l o n j : Nat} (hl : l < 3) (ho : o < 3) (hne : l ≠ o) : ∀ {k : Nat}, j < k → n + k ≤ 12 → mvTo s l o n k (22 + 12 * l + (n + j)) = nI (tn (s (22 + 12 * o + j)))
  | 0, h, _ => by omega
  | k + 1, h, h12 => by
    simp only [mvTo, mvF, upd_ap]
    rw [if_neg (by omega)]
    by_cases e : j = k
    · subst e
      rw [if_pos rfl, mvTo_out (by omega) (by omega) (fun i hi => by omega)]
    · rw [if_neg (by omega), if_neg (by omega), mvTo_row hl ho hne (by omega) (by omega)]
/-- M places from a on hold persons -/
def RowOK (t : Nat → Int32) (a M : Nat) : Prop := ∀ j, j < M → ∃ q, q < 30 ∧ t (a + j) = nI q
theorem bstF_out {t : Nat → Int32} {a k i : Nat} (h : i < a + k ∨ a + k + 1 < i) : bstF t a k i = t i := by
  simp only [bstF, upd_ap]
  rw [if_neg (by omega), if_neg (by omega)]
theorem bstF_row {t : Nat → Int32} {a k M : Nat} (h : RowOK t a M) (hk : k + 1 < M) : RowOK (bstF t a k) a M := by
  intro j hj
  obtain ⟨q1, h1, e1⟩ := h k (by omega)
  obtain ⟨q2, h2, e2⟩ := h (k + 1) hk
  have e2' : t (a + k + 1) = nI q2 := e2
  by_cases c1 : j = k
  · subst c1
    simp only [bstF, upd_ap]
    rw [if_neg (by omega), if_pos trivial, e1, e2', tn_nI (by omega), tn_nI (by omega)]
    by_cases hA : Ahead t q1 q2
    · rw [ic_t hA]; exact ⟨q1, h1, rfl⟩
    · rw [ic_f hA]; exact ⟨q2, h2, rfl⟩
  · by_cases c2 : j = k + 1
    · subst c2
      simp only [bstF, upd_ap]
      rw [if_pos (by omega), e1, e2', tn_nI (by omega), tn_nI (by omega)]
      by_cases hA : Ahead t q1 q2
      · rw [ic_t hA]; exact ⟨q2, h2, rfl⟩
      · rw [ic_f hA]; exact ⟨q1, h1, rfl⟩
    · rw [bstF_out (by omega)]; exact h j hj
theorem bpass_out {t : Nat → Int32} {a i : Nat} : ∀ {k : Nat}, (i < a ∨ a + k < i) → bpass t a k i = t i
  | 0, _ => rfl
  | k + 1, h => by
    simp only [bpass]
    rw [bstF_out (by omega), bpass_out (by omega)]
theorem bpass_row {t : Nat → Int32} {a M : Nat} (h : RowOK t a M) : ∀ {k : Nat}, k < M → RowOK (bpass t a k) a M
  | 0, _ => h
  | k + 1, hk => by
    simp only [bpass]
    exact bstF_row (bpass_row h (by omega)) hk
theorem bsort_s {t : Nat → Int32} {a m : Nat} (h : 1 < m) : bsort a m t = bsort a (m - 1) (bpass t a (m - 1)) := by
  obtain ⟨j, rfl⟩ : ∃ j, m = j + 2 := ⟨m - 2, by omega⟩
  rfl
theorem bsort_1 {t : Nat → Int32} {a m : Nat} (h : m ≤ 1) : bsort a m t = t := by
  rcases (show m = 0 ∨ m = 1 by omega) with rfl | rfl <;> rfl
theorem iincm {m : Nat} (h : 0 < m) : nI m + Int32.ofInt (-1) = nI (m - 1) := by
  obtain ⟨j, rfl⟩ : ∃ j, m = j + 1 := ⟨m - 1, by omega⟩
  have e : Int32.ofInt (-1) = -1 := by decide +kernel
  rw [e, Nat.add_sub_cancel]; exact pk_m1 j
set_option maxRecDepth 100000 in
theorem inX6_merges_X6 : ∀ w ∈ wsX60, w ∈ wsX6_merges := by decide +kernel
set_option maxHeartbeats 4000000 in
set_option maxRecDepth 100000 in
/-- merges -/
theorem c_X6_merges (lu : Launch) (Dg : va_G) (E : Nat → ClassId) (N : Nat) (G : Nat → Nat) (shp : Nat → (Nat → Int32) → va_E) (σ : Nat → Nat → Int32) {b : Nat} (hM : ModS E G shp N b) (f0 f1 f2 f3 f4 f5 f6 : Nat → Int32) {T : Nat} (hI : Inv T f1) {l o : Nat} (hl : l < tn (f1 1)) (ho : o < tn (f1 1)) (hne : l ≠ o) (h12 : tn (f1 (13 + l)) + tn (f1 (13 + o)) ≤ 12)  : CS lu yX6_merges wsX6_merges { frames := 2, cells := 0, slots := 0, locals := 44 } Dg E N G shp (mk7 σ b f0 f1 f2 f3 f4 f5 f6) [.ref (G b), .int (nI l), .int (nI o)] (some (.int (nI (tn (f1 (13 + l)) + tn (f1 (13 + o)))))) (mk7 σ b f0 (mergesF f1 l o) f2 f3 f4 f5 f6) := by
  refine CS.of (cc := cX6_merges) (maxL := 9) (ret := (some .int)) (by decide) rfl (Nat.le_of_ble_eq_true rfl) ?_
  intro p_ e_ s_ m_ args_ below_ meth_ c_
  refine v_eq (pc' := 0) (st' := []) rfl rfl ?_
  refine v_loc [0, 1, 2] [(0, .ref (G b)), (1, .int (nI l)), (2, .int (nI o))] rfl ?_
  have hl3 := Nat.lt_of_lt_of_le hl hI.nl3
  have ho3 := Nat.lt_of_lt_of_le ho hI.nl3
  have hnp30 := hI.np30
  refine v_bipush (nI 22) dX6_merges_0 (by decide +kernel) ?_
  refine v_bipush (nI 12) dX6_merges_2 (by decide +kernel) ?_
  refine v_iload_n 1 dX6_merges_4 rfl rfl ?_
  refine v_imulN dX6_merges_5 ?_
  refine v_iaddN dX6_merges_6 ?_
  refine v_istore_n [(3, .int (nI (22 + (12 * l)))), (0, .ref (G b)), (1, .int (nI l)), (2, .int (nI o))] dX6_merges_7 rfl (by decide) rfl ?_
  refine v_σ (mk7 σ b f0 (mvTo f1 l o (tn (f1 (13 + l))) 0) f2 f3 f4 f5 f6) (congrArg (fun z9 => mk7 σ b f0 z9 f2 f3 f4 f5 f6) (rfl)) ?_
  refine v_iconst (nI 0) dX6_merges_8 (by decide +kernel) ?_
  refine v_istore [(4, .int (nI 0)), (3, .int (nI (22 + (12 * l)))), (0, .ref (G b)), (1, .int (nI l)), (2, .int (nI o))] dX6_merges_9 (by decide) rfl ?_
  refine v_loc [0, 1, 4, 3, 2] [(4, .int (nI 0)), (3, .int (nI (22 + (12 * l)))), (2, .int (nI o)), (1, .int (nI l)), (0, .ref (G b))] rfl ?_
  refine u_loop1 (fun n (k : Nat) => k + n = tn (f1 (13 + o))) (fun (k : Nat) => mk7 σ b f0 (mvTo f1 l o (tn (f1 (13 + l))) k) f2 f3 f4 f5 f6) (fun (k : Nat) => [(4, .int (nI k)), (3, .int (nI (22 + 12 * l))), (2, .int (nI o)), (1, .int (nI l)), (0, .ref (G b))]) (tn (f1 (13 + o))) 0 ((by omega)) ?_
  intro n k hL ih
  refine v_iload 0 dX6_merges_11 rfl ?_
  refine v_aload_n 4 dX6_merges_13 rfl rfl ?_
  refine u_getr (k := 1) (C := RX6) (T := TX6) (NF := 13) hM.n hM.s rfl rfl inX6_merges_X6 (by decide) (by decide +kernel) rfl dX6_merges_14 ?_
  refine v_bipush (nI 13) dX6_merges_17 (by decide +kernel) ?_
  refine v_iload_n 2 dX6_merges_19 rfl rfl ?_
  refine v_iaddN dX6_merges_20 ?_
  refine m_ld1 (13 + o) hM (rfl) (by omega) dX6_merges_21 ?_
  refine v_topi (nI (tn (f1 (13 + o)))) ((by rw [mvTo_out (by omega) (by omega) (fun j hj => by omega)]; exact hI.len ho)) ?_
  refine v_icmp_geN 91 (by omega) (by omega) dX6_merges_22 rfl (fun h22 => ?_) (fun h22 => ?_)
  · skip
    obtain rfl : k = tn (f1 (13 + o)) := by omega
    refine v_aload_n 4 dX6_merges_91 rfl rfl ?_
    refine u_getr (k := 1) (C := RX6) (T := TX6) (NF := 13) hM.n hM.s rfl rfl inX6_merges_X6 (by decide) (by decide +kernel) rfl dX6_merges_92 ?_
    refine v_bipush (nI 13) dX6_merges_95 (by decide +kernel) ?_
    refine v_iload_n 2 dX6_merges_97 rfl rfl ?_
    refine v_iaddN dX6_merges_98 ?_
    refine v_iconst (nI 0) dX6_merges_99 (by decide +kernel) ?_
    refine m_st1 (13 + o) hM (rfl) (by omega) dX6_merges_100 ?_
    generalize hg1 : upd (mvTo f1 l o (tn (f1 (13 + l))) (tn (f1 (13 + o)))) (13 + o) (nI 0) = g1
    refine v_aload_n 4 dX6_merges_101 rfl rfl ?_
    refine u_getr (k := 1) (C := RX6) (T := TX6) (NF := 13) hM.n hM.s rfl rfl inX6_merges_X6 (by decide) (by decide +kernel) rfl dX6_merges_102 ?_
    refine v_bipush (nI 16) dX6_merges_105 (by decide +kernel) ?_
    refine v_iload_n 2 dX6_merges_107 rfl rfl ?_
    refine v_iaddN dX6_merges_108 ?_
    refine v_iconst (nI 0) dX6_merges_109 (by decide +kernel) ?_
    refine m_st1 (16 + o) hM (rfl) (by omega) dX6_merges_110 ?_
    generalize hg2 : upd g1 (16 + o) (nI 0) = g2
    refine v_aload_n 4 dX6_merges_111 rfl rfl ?_
    refine u_getr (k := 1) (C := RX6) (T := TX6) (NF := 13) hM.n hM.s rfl rfl inX6_merges_X6 (by decide) (by decide +kernel) rfl dX6_merges_112 ?_
    refine v_bipush (nI 13) dX6_merges_115 (by decide +kernel) ?_
    refine v_iload_n 3 dX6_merges_117 rfl rfl ?_
    refine v_iaddN dX6_merges_118 ?_
    refine m_ld1 (13 + l) hM (rfl) (by omega) dX6_merges_119 ?_
    refine v_topi (nI (tn (f1 (13 + l)) + tn (f1 (13 + o)))) ((by subst_vars; simp only [upd_ap]; rw [if_neg (by omega), if_neg (by omega)]; exact mvTo_len (hI.len hl))) ?_
    generalize hT : g2 = t0
    have ht : t0 = upd (upd (mvTo f1 l o (tn (f1 (13 + l))) (tn (f1 (13 + o)))) (13 + o) (nI 0)) (16 + o) (nI 0) := by subst_vars; rfl
    have hr0 : RowOK t0 (22 + 12 * l) (tn (f1 (13 + l)) + tn (f1 (13 + o))) := by
      intro j hj
      subst ht
      simp only [upd_ap]
      rw [if_neg (by omega), if_neg (by omega)]
      by_cases hj2 : j < tn (f1 (13 + l))
      · rw [mvTo_out (by omega) (by omega) (fun i hi => by omega)]
        exact ⟨_, Nat.lt_of_lt_of_le (hI.rowP hl hj2) hI.np30, hI.row hl hj2⟩
      · obtain ⟨i, rfl⟩ : ∃ i, j = tn (f1 (13 + l)) + i := ⟨j - tn (f1 (13 + l)), by omega⟩
        rw [mvTo_row hl3 ho3 hne (by omega) h12]
        exact ⟨_, Nat.lt_of_lt_of_le (hI.rowP ho (by omega)) hI.np30, rfl⟩
    have hb0 : bsort (22 + 12 * l) (tn (f1 (13 + l)) + tn (f1 (13 + o))) t0 = mergesF f1 l o := by rw [ht]; rfl
    have hln0 : t0 (13 + l) = nI (tn (f1 (13 + l)) + tn (f1 (13 + o))) := by rw [ht]; simp only [upd_ap]; rw [if_neg (by omega), if_neg (by omega)]; exact mvTo_len (hI.len hl)
    refine v_istore [(4, .int (nI (tn (f1 (13 + l)) + tn (f1 (13 + o))))), (3, .int (nI (22 + 12 * l))), (2, .int (nI o)), (1, .int (nI l)), (0, .ref (G b))] dX6_merges_120 (by decide) rfl ?_
    refine v_loc [0, 1, 2, 3, 4] [(4, .int (nI (tn (f1 (13 + l)) + tn (f1 (13 + o))))), (3, .int (nI (22 + 12 * l))), (2, .int (nI o)), (1, .int (nI l)), (0, .ref (G b))] rfl ?_
    refine u_loop2 (fun n (m : Nat) (t : Nat → Int32) => m = n ∧ m ≤ tn (f1 (13 + l)) + tn (f1 (13 + o)) ∧ RowOK t (22 + 12 * l) (tn (f1 (13 + l)) + tn (f1 (13 + o))) ∧ bsort (22 + 12 * l) m t = mergesF f1 l o ∧ t (13 + l) = nI (tn (f1 (13 + l)) + tn (f1 (13 + o)))) (fun (m : Nat) (t : Nat → Int32) => mk7 σ b f0 t f2 f3 f4 f5 f6) (fun (m : Nat) (t : Nat → Int32) => [(4, .int (nI m)), (3, .int (nI (22 + 12 * l))), (2, .int (nI o)), (1, .int (nI l)), (0, .ref (G b))]) (tn (f1 (13 + l)) + tn (f1 (13 + o))) (tn (f1 (13 + l)) + tn (f1 (13 + o))) t0 (⟨rfl, Nat.le_refl _, hr0, hb0, hln0⟩) ?_
    intro n m t hL ih
    obtain ⟨hmn, hmM, hrw, hbs, hlt⟩ := hL
    refine v_iload 0 dX6_merges_122 rfl ?_
    refine v_iconst (nI 1) dX6_merges_124 (by decide +kernel) ?_
    refine v_icmp_leN 230 (by omega) (by omega) dX6_merges_125 rfl (fun h125 => ?_) (fun h125 => ?_)
    · skip
      refine v_aload_n 4 dX6_merges_230 rfl rfl ?_
      refine u_getr (k := 1) (C := RX6) (T := TX6) (NF := 13) hM.n hM.s rfl rfl inX6_merges_X6 (by decide) (by decide +kernel) rfl dX6_merges_231 ?_
      refine v_bipush (nI 13) dX6_merges_234 (by decide +kernel) ?_
      refine v_iload_n 3 dX6_merges_236 rfl rfl ?_
      refine v_iaddN dX6_merges_237 ?_
      refine m_ld1 (13 + l) hM (rfl) (by omega) dX6_merges_238 ?_
      refine v_topi (nI (tn (f1 (13 + l)) + tn (f1 (13 + o)))) (hlt) ?_
      refine v_iret rfl dX6_merges_239 ⟨congrArg (fun z => some (Value.int z)) ?_, congrArg (φ shp) ?_⟩
      · rfl
      · rw [← hbs, bsort_1 h125]
    · skip
      refine v_σ (mk7 σ b f0 (bpass t (22 + 12 * l) 0) f2 f3 f4 f5 f6) (congrArg (fun z9 => mk7 σ b f0 z9 f2 f3 f4 f5 f6) (rfl)) ?_
      refine v_iconst (nI 0) dX6_merges_128 (by decide +kernel) ?_
      refine v_istore [(5, .int (nI 0)), (4, .int (nI m)), (3, .int (nI (22 + 12 * l))), (2, .int (nI o)), (1, .int (nI l)), (0, .ref (G b))] dX6_merges_129 (by decide) rfl ?_
      refine v_loc [0, 1, 2, 3, 4, 5] [(5, .int (nI 0)), (4, .int (nI m)), (3, .int (nI (22 + 12 * l))), (2, .int (nI o)), (1, .int (nI l)), (0, .ref (G b))] rfl ?_
      refine u_loop1 (fun n2 (k : Nat) => k + 1 + n2 = m) (fun (k : Nat) => mk7 σ b f0 (bpass t (22 + 12 * l) k) f2 f3 f4 f5 f6) (fun (k : Nat) => [(5, .int (nI k)), (4, .int (nI m)), (3, .int (nI (22 + 12 * l))), (2, .int (nI o)), (1, .int (nI l)), (0, .ref (G b))]) (m - 1) 0 ((by omega)) ?_
      intro n2 k hL2 ih2
      refine v_iload 0 dX6_merges_131 rfl ?_
      refine v_iconst (nI 1) dX6_merges_133 (by decide +kernel) ?_
      refine v_iaddN dX6_merges_134 ?_
      refine v_iload 1 dX6_merges_135 rfl ?_
      refine v_icmp_geN 224 (by omega) (by omega) dX6_merges_137 rfl (fun h137 => ?_) (fun h137 => ?_)
      · skip
        obtain rfl : k = m - 1 := by omega
        refine v_iinc 1 (nI (m - 1)) [(4, .int (nI (m - 1))), (5, .int (nI (m - 1))), (3, .int (nI (22 + 12 * l))), (2, .int (nI o)), (1, .int (nI l)), (0, .ref (G b))] dX6_merges_224 rfl (iincm (by omega)) (by decide) rfl ?_
        refine v_goto 122 dX6_merges_227 rfl ?_
        refine v_loc [0, 2, 3, 4, 5] [(4, .int (nI (m - 1))), (3, .int (nI (22 + 12 * l))), (2, .int (nI o)), (1, .int (nI l)), (0, .ref (G b))] rfl ?_
        exact ih _ (m - 1) (bpass t (22 + 12 * l) (m - 1)) (by omega) (⟨rfl, by omega, bpass_row hrw (by omega), by rw [← bsort_s (by omega)]; exact hbs, by rw [bpass_out (by omega)]; exact hlt⟩)
      · skip
        obtain ⟨q1, hq1, e1⟩ := bpass_row hrw (k := k) (by omega) k (by omega)
        obtain ⟨q2, hq2, e2⟩ := bpass_row hrw (k := k) (by omega) (k + 1) (by omega)
        have e2' : (bpass t (22 + 12 * l) k) (22 + 12 * l + k + 1) = nI q2 := e2
        refine v_aload_n 5 dX6_merges_140 rfl rfl ?_
        refine u_getr (k := 1) (C := RX6) (T := TX6) (NF := 13) hM.n hM.s rfl rfl inX6_merges_X6 (by decide) (by decide +kernel) rfl dX6_merges_141 ?_
        refine v_iload_n 2 dX6_merges_144 rfl rfl ?_
        refine v_iload 0 dX6_merges_145 rfl ?_
        refine v_iaddN dX6_merges_147 ?_
        refine m_ld1 (22 + 12 * l + k) hM (rfl) (by omega) dX6_merges_148 ?_
        refine v_topi (nI q1) (e1) ?_
        refine v_istore [(6, .int (nI q1)), (5, .int (nI k)), (4, .int (nI m)), (3, .int (nI (22 + 12 * l))), (2, .int (nI o)), (1, .int (nI l)), (0, .ref (G b))] dX6_merges_149 (by decide) rfl ?_
        refine v_aload_n 6 dX6_merges_151 rfl rfl ?_
        refine u_getr (k := 1) (C := RX6) (T := TX6) (NF := 13) hM.n hM.s rfl rfl inX6_merges_X6 (by decide) (by decide +kernel) rfl dX6_merges_152 ?_
        refine v_iload_n 3 dX6_merges_155 rfl rfl ?_
        refine v_iload 1 dX6_merges_156 rfl ?_
        refine v_iaddN dX6_merges_158 ?_
        refine v_iconst (nI 1) dX6_merges_159 (by decide +kernel) ?_
        refine v_iaddN dX6_merges_160 ?_
        refine m_ld1 (22 + 12 * l + k + 1) hM (rfl) (by omega) dX6_merges_161 ?_
        refine v_topi (nI q2) (e2') ?_
        refine v_istore [(7, .int (nI q2)), (6, .int (nI q1)), (5, .int (nI k)), (4, .int (nI m)), (3, .int (nI (22 + 12 * l))), (2, .int (nI o)), (1, .int (nI l)), (0, .ref (G b))] dX6_merges_162 (by decide) rfl ?_
        refine v_aload_n 7 dX6_merges_164 rfl rfl ?_
        refine v_iload 1 dX6_merges_165 rfl ?_
        refine v_iload 0 dX6_merges_167 rfl ?_
        refine u_callVv [.int (nI q1), .int (nI q2)] [] 2 (c_X6_isAhead lu Dg E N G shp σ hM f0 (bpass t (22 + 12 * l) k) f2 f3 f4 f5 f6 hq1 hq2) (ci := 6) (C := RX6) (T := TX6) (NF := 13) hM.n hM.s rfl gX6_merges_X6_isAhead rfl rfl rfl (by decide +kernel) rfl ⟨Nat.le_of_ble_eq_true rfl, Nat.le_of_ble_eq_true rfl⟩ ⟨Nat.le_of_ble_eq_true rfl, Nat.le_of_ble_eq_true rfl⟩ (Nat.le_of_ble_eq_true rfl) rfl dX6_merges_169 ?_
        refine v_istore [(8, .int (bi (Ahead (bpass t (22 + 12 * l) k) q1 q2))), (7, .int (nI q2)), (6, .int (nI q1)), (5, .int (nI k)), (4, .int (nI m)), (3, .int (nI (22 + 12 * l))), (2, .int (nI o)), (1, .int (nI l)), (0, .ref (G b))] dX6_merges_172 (by decide) rfl ?_
        refine v_aload_n 8 dX6_merges_174 rfl rfl ?_
        refine u_getr (k := 1) (C := RX6) (T := TX6) (NF := 13) hM.n hM.s rfl rfl inX6_merges_X6 (by decide) (by decide +kernel) rfl dX6_merges_175 ?_
        refine v_iload_n 5 dX6_merges_178 rfl rfl ?_
        refine v_iload 3 dX6_merges_179 rfl ?_
        refine v_iaddN dX6_merges_181 ?_
        refine v_iload 0 dX6_merges_182 rfl ?_
        refine v_if_eqB 192 dX6_merges_184 rfl (fun h184 => ?_) (fun h184 => ?_)
        · skip
          refine v_iload 1 dX6_merges_192 rfl ?_
          refine m_st1 (22 + 12 * l + k) hM (rfl) (by omega) dX6_merges_194 ?_
          generalize hg3 : upd (bpass t (22 + 12 * l) k) (22 + 12 * l + k) (nI q2) = g3
          refine v_aload_n 8 dX6_merges_195 rfl rfl ?_
          refine u_getr (k := 1) (C := RX6) (T := TX6) (NF := 13) hM.n hM.s rfl rfl inX6_merges_X6 (by decide) (by decide +kernel) rfl dX6_merges_196 ?_
          refine v_iload_n 5 dX6_merges_199 rfl rfl ?_
          refine v_iload 3 dX6_merges_200 rfl ?_
          refine v_iaddN dX6_merges_202 ?_
          refine v_iconst (nI 1) dX6_merges_203 (by decide +kernel) ?_
          refine v_iaddN dX6_merges_204 ?_
          refine v_iload 0 dX6_merges_205 rfl ?_
          refine v_if_eqB 215 dX6_merges_207 rfl (fun h207 => ?_) (fun h207 => ?_)
          · skip
            refine v_iload 2 dX6_merges_215 rfl ?_
            refine m_st1 (22 + 12 * l + k + 1) hM (rfl) (by omega) dX6_merges_217 ?_
            generalize hg4 : upd g3 (22 + 12 * l + k + 1) (nI q1) = g4
            refine v_σ (mk7 σ b f0 (bpass t (22 + 12 * l) (k + 1)) f2 f3 f4 f5 f6) (congrArg (fun z9 => mk7 σ b f0 z9 f2 f3 f4 f5 f6) ((by rw [bpass]; simp only [bstF]; rw [e1, e2', tn_nI (j := q1) (by omega), tn_nI (j := q2) (by omega), ic_f h184, ic_f h184]; subst hg1; subst hg2; subst hg3; subst hg4; rfl))) ?_
            refine v_iincN 3 [(5, .int (nI (k + 1))), (8, .int (bi (Ahead (bpass t (22 + 12 * l) k) q1 q2))), (7, .int (nI q2)), (6, .int (nI q1)), (4, .int (nI m)), (3, .int (nI (22 + 12 * l))), (2, .int (nI o)), (1, .int (nI l)), (0, .ref (G b))] dX6_merges_218 rfl (by decide) rfl ?_
            refine v_goto 131 dX6_merges_221 rfl ?_
            refine v_loc [0, 4, 5, 6, 7, 8] [(5, .int (nI (k + 1))), (4, .int (nI m)), (3, .int (nI (22 + 12 * l))), (2, .int (nI o)), (1, .int (nI l)), (0, .ref (G b))] rfl ?_
            exact ih2 _ (k + 1) (show n2 - 1 < n2 by omega) (by omega)
          · skip
            exact absurd h207 h184
        · skip
          refine v_iload 2 dX6_merges_187 rfl ?_
          refine v_goto 194 dX6_merges_189 rfl ?_
          refine m_st1 (22 + 12 * l + k) hM (rfl) (by omega) dX6_merges_194 ?_
          generalize hg5 : upd (bpass t (22 + 12 * l) k) (22 + 12 * l + k) (nI q1) = g5
          refine v_aload_n 8 dX6_merges_195 rfl rfl ?_
          refine u_getr (k := 1) (C := RX6) (T := TX6) (NF := 13) hM.n hM.s rfl rfl inX6_merges_X6 (by decide) (by decide +kernel) rfl dX6_merges_196 ?_
          refine v_iload_n 5 dX6_merges_199 rfl rfl ?_
          refine v_iload 3 dX6_merges_200 rfl ?_
          refine v_iaddN dX6_merges_202 ?_
          refine v_iconst (nI 1) dX6_merges_203 (by decide +kernel) ?_
          refine v_iaddN dX6_merges_204 ?_
          refine v_iload 0 dX6_merges_205 rfl ?_
          refine v_if_eqB 215 dX6_merges_207 rfl (fun h207 => ?_) (fun h207 => ?_)
          · skip
            exact absurd h184 h207
          · skip
            refine v_iload 1 dX6_merges_210 rfl ?_
            refine v_goto 217 dX6_merges_212 rfl ?_
            refine m_st1 (22 + 12 * l + k + 1) hM (rfl) (by omega) dX6_merges_217 ?_
            generalize hg6 : upd g5 (22 + 12 * l + k + 1) (nI q2) = g6
            refine v_σ (mk7 σ b f0 (bpass t (22 + 12 * l) (k + 1)) f2 f3 f4 f5 f6) (congrArg (fun z9 => mk7 σ b f0 z9 f2 f3 f4 f5 f6) ((by rw [bpass]; simp only [bstF]; rw [e1, e2', tn_nI (j := q1) (by omega), tn_nI (j := q2) (by omega), ic_t h184, ic_t h184]; subst hg1; subst hg2; subst hg5; subst hg6; rfl))) ?_
            refine v_iincN 3 [(5, .int (nI (k + 1))), (8, .int (bi (Ahead (bpass t (22 + 12 * l) k) q1 q2))), (7, .int (nI q2)), (6, .int (nI q1)), (4, .int (nI m)), (3, .int (nI (22 + 12 * l))), (2, .int (nI o)), (1, .int (nI l)), (0, .ref (G b))] dX6_merges_218 rfl (by decide) rfl ?_
            refine v_goto 131 dX6_merges_221 rfl ?_
            refine v_loc [0, 4, 5, 6, 7, 8] [(5, .int (nI (k + 1))), (4, .int (nI m)), (3, .int (nI (22 + 12 * l))), (2, .int (nI o)), (1, .int (nI l)), (0, .ref (G b))] rfl ?_
            exact ih2 _ (k + 1) (show n2 - 1 < n2 by omega) (by omega)
  · skip
    have er : (mvTo f1 l o (tn (f1 (13 + l))) k) (22 + 12 * o + k) = f1 (22 + 12 * o + k) := mvTo_out (by omega) (by omega) (fun j hj => by omega)
    have hr := hI.row ho h22
    have hr2 := hI.rowP ho h22
    obtain ⟨q, hqe⟩ : ∃ q, q = tn ((mvTo f1 l o (tn (f1 (13 + l))) k) (22 + 12 * o + k)) := ⟨_, rfl⟩
    have hq30 : q < 30 := by rw [hqe, er]; omega
    have eq : (mvTo f1 l o (tn (f1 (13 + l))) k) (22 + 12 * o + k) = nI q := by rw [hqe, er]; exact hr
    have eln : (mvTo f1 l o (tn (f1 (13 + l))) k) (13 + l) = nI (tn (f1 (13 + l)) + k) := mvTo_len (hI.len hl)
    refine v_aload_n 4 dX6_merges_25 rfl rfl ?_
    refine u_getr (k := 1) (C := RX6) (T := TX6) (NF := 13) hM.n hM.s rfl rfl inX6_merges_X6 (by decide) (by decide +kernel) rfl dX6_merges_26 ?_
    refine v_bipush (nI 22) dX6_merges_29 (by decide +kernel) ?_
    refine v_bipush (nI 12) dX6_merges_31 (by decide +kernel) ?_
    refine v_iload_n 2 dX6_merges_33 rfl rfl ?_
    refine v_imulN dX6_merges_34 ?_
    refine v_iaddN dX6_merges_35 ?_
    refine v_iload 0 dX6_merges_36 rfl ?_
    refine v_iaddN dX6_merges_38 ?_
    refine m_ld1 (22 + (12 * o) + k) hM (rfl) (by omega) dX6_merges_39 ?_
    refine v_topi (nI q) (eq) ?_
    refine v_istore [(5, .int (nI q)), (4, .int (nI k)), (3, .int (nI (22 + 12 * l))), (2, .int (nI o)), (1, .int (nI l)), (0, .ref (G b))] dX6_merges_40 (by decide) rfl ?_
    refine v_aload_n 5 dX6_merges_42 rfl rfl ?_
    refine u_getr (k := 1) (C := RX6) (T := TX6) (NF := 13) hM.n hM.s rfl rfl inX6_merges_X6 (by decide) (by decide +kernel) rfl dX6_merges_43 ?_
    refine v_iload 0 dX6_merges_46 rfl ?_
    refine v_iconst (nI 1) dX6_merges_48 (by decide +kernel) ?_
    refine u_callSv [.int (nI q), .int (nI 1)] [.ref (G (b + 1))] 2 (c_X6_of lu Dg E N G shp (mk7 σ b f0 (mvTo f1 l o (tn (f1 (13 + l))) k) f2 f3 f4 f5 f6) q 1) gX6_merges_X6_of rfl rfl rfl (by decide +kernel) rfl ⟨Nat.le_of_ble_eq_true rfl, Nat.le_of_ble_eq_true rfl⟩ ⟨Nat.le_of_ble_eq_true rfl, Nat.le_of_ble_eq_true rfl⟩ (Nat.le_of_ble_eq_true rfl) rfl dX6_merges_49 ?_
    refine v_iload_n 4 dX6_merges_52 rfl rfl ?_
    refine m_st1 (58 + 10 * q + 1) hM (rfl) (by omega) dX6_merges_53 ?_
    generalize hg7 : upd (mvTo f1 l o (tn (f1 (13 + l))) k) (58 + 10 * q + 1) (nI l) = g7
    refine v_aload_n 5 dX6_merges_54 rfl rfl ?_
    refine u_getr (k := 1) (C := RX6) (T := TX6) (NF := 13) hM.n hM.s rfl rfl inX6_merges_X6 (by decide) (by decide +kernel) rfl dX6_merges_55 ?_
    refine v_iload_n 2 dX6_merges_58 rfl rfl ?_
    refine v_aload_n 5 dX6_merges_59 rfl rfl ?_
    refine u_getr (k := 1) (C := RX6) (T := TX6) (NF := 13) hM.n hM.s rfl rfl inX6_merges_X6 (by decide) (by decide +kernel) rfl dX6_merges_60 ?_
    refine v_bipush (nI 13) dX6_merges_63 (by decide +kernel) ?_
    refine v_iload_n 4 dX6_merges_65 rfl rfl ?_
    refine v_iaddN dX6_merges_66 ?_
    refine m_ld1 (13 + l) hM (rfl) (by omega) dX6_merges_67 ?_
    refine v_topi (nI (tn (f1 (13 + l)) + k)) ((by subst_vars; simp only [upd_ap]; rw [if_neg (by omega)]; exact eln)) ?_
    refine v_iaddN dX6_merges_68 ?_
    refine v_iload 0 dX6_merges_69 rfl ?_
    refine m_st1 (22 + 12 * l + (tn (f1 (13 + l)) + k)) hM (rfl) (by omega) dX6_merges_71 ?_
    generalize hg8 : upd g7 (22 + 12 * l + (tn (f1 (13 + l)) + k)) (nI q) = g8
    refine v_aload_n 5 dX6_merges_72 rfl rfl ?_
    refine u_getr (k := 1) (C := RX6) (T := TX6) (NF := 13) hM.n hM.s rfl rfl inX6_merges_X6 (by decide) (by decide +kernel) rfl dX6_merges_73 ?_
    refine v_bipush (nI 13) dX6_merges_76 (by decide +kernel) ?_
    refine v_iload_n 4 dX6_merges_78 rfl rfl ?_
    refine v_iaddN dX6_merges_79 ?_
    refine v_dup2 dX6_merges_80 rfl rfl ?_
    refine m_ld1 (13 + l) hM (rfl) (by omega) dX6_merges_81 ?_
    refine v_topi (nI (tn (f1 (13 + l)) + k)) ((by subst_vars; simp only [upd_ap]; rw [if_neg (by omega), if_neg (by omega)]; exact eln)) ?_
    refine v_iconst (nI 1) dX6_merges_82 (by decide +kernel) ?_
    refine v_iaddN dX6_merges_83 ?_
    refine m_st1 (13 + l) hM (rfl) (by omega) dX6_merges_84 ?_
    generalize hg9 : upd g8 (13 + l) (nI (tn (f1 (13 + l)) + k + 1)) = g9
    refine v_σ (mk7 σ b f0 (mvTo f1 l o (tn (f1 (13 + l))) (k + 1)) f2 f3 f4 f5 f6) (congrArg (fun z9 => mk7 σ b f0 z9 f2 f3 f4 f5 f6) ((by rw [mvTo]; simp only [mvF]; rw [← hqe]; subst hg7; subst hg8; subst hg9; rfl))) ?_
    refine v_iincN 1 [(4, .int (nI (k + 1))), (5, .int (nI q)), (3, .int (nI (22 + 12 * l))), (2, .int (nI o)), (1, .int (nI l)), (0, .ref (G b))] dX6_merges_85 rfl (by decide) rfl ?_
    refine v_goto 11 dX6_merges_88 rfl ?_
    refine v_loc [0, 2, 3, 4, 5] [(4, .int (nI (k + 1))), (3, .int (nI (22 + 12 * l))), (2, .int (nI o)), (1, .int (nI l)), (0, .ref (G b))] rfl ?_
    exact ih _ (k + 1) (show n - 1 < n by omega) (by omega)
