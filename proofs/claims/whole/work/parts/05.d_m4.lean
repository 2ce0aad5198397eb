theorem min1_out {s : Nat → Int32} {i : Nat} (h0 : i ≠ 0) (h : ∀ p, p < tn (s 2) → i ≠ 58 + 10 * p + 2) : min1 s i = s i := by
  unfold min1
  rw [certTo_out h, upd_ap, if_neg h0]
theorem wm {T : Nat} {s : Nat → Int32} (hI : Inv T s) {l i : Nat} (hl : l ≤ tn (s 1)) (h : Lc l i) (h0 : i ≠ 0) : workTo (min1 s) l i = s i := by
  have h3 := hI.nl3
  have e : ∀ j, j < 58 → j ≠ 0 → min1 s j = s j := fun j hj h0 => min1_out h0 (fun p _ => by omega)
  rw [workTo_out (by omega) h (fun k hk => by rw [e (13 + k) (by omega) (by omega)]; exact hI.len12 (by omega))]
  exact e i (by unfold Lc at h; omega) h0
set_option maxRecDepth 100000 in
theorem inX6_minute_X6 : ∀ w ∈ wsX60, w ∈ wsX6_minute := by decide +kernel
set_option maxHeartbeats 4000000 in
set_option maxRecDepth 100000 in
/-- minute -/
theorem c_X6_minute (lu : Launch) (Dg : va_G) (E : Nat → ClassId) (N : Nat) (G : Nat → Nat) (shp : Nat → (Nat → Int32) → va_E) (σ : Nat → Nat → Int32) {b : Nat} (hM : ModS E G shp N b) (f0 f1 f2 f3 f4 f5 f6 : Nat → Int32) {T : Nat} (hI : Inv T f1)  : CS lu yX6_minute wsX6_minute { frames := 3, cells := 0, slots := 0, locals := 64 } Dg E N G shp (mk7 σ b f0 f1 f2 f3 f4 f5 f6) [.ref (G b)] (some (.int (nI (minuteN f1)))) (mk7 σ b f0 (minuteS f1) f2 f3 f4 f5 f6) := by
  refine CS.of (cc := cX6_minute) (maxL := 3) (ret := (some .int)) (by decide) rfl (Nat.le_of_ble_eq_true rfl) ?_
  intro p_ e_ s_ m_ args_ below_ meth_ c_
  refine v_eq (pc' := 0) (st' := []) rfl rfl ?_
  refine v_loc [0] [(0, .ref (G b))] rfl ?_
  refine v_iconst (nI 0) dX6_minute_0 (by decide +kernel) ?_
  refine v_istore_n [(1, .int (nI 0)), (0, .ref (G b))] dX6_minute_1 rfl (by decide) rfl ?_
  refine v_aload_n 1 dX6_minute_2 rfl rfl ?_
  refine u_getr (k := 1) (C := RX6) (T := TX6) (NF := 13) hM.n hM.s rfl rfl inX6_minute_X6 (by decide) (by decide +kernel) rfl dX6_minute_3 ?_
  refine v_iconst (nI 0) dX6_minute_6 (by decide +kernel) ?_
  refine v_dup2 dX6_minute_7 rfl rfl ?_
  refine m_ld1 0 hM (rfl) (by omega) dX6_minute_8 ?_
  refine v_iconst (nI 1) dX6_minute_9 (by decide +kernel) ?_
  refine v_iadd dX6_minute_10 ?_
  refine m_st1 0 hM (rfl) (by omega) dX6_minute_11 ?_
  generalize hg1 : upd f1 0 ((f1 0) + (nI 1)) = g1
  have hn2 : g1 2 = f1 2 := by rw [← hg1, upd_ap, if_neg (by omega)]
  refine v_σ (mk7 σ b f0 (certTo g1 0) f2 f3 f4 f5 f6) (congrArg (fun z9 => mk7 σ b f0 z9 f2 f3 f4 f5 f6) (rfl)) ?_
  refine v_iconst (nI 0) dX6_minute_12 (by decide +kernel) ?_
  refine v_istore_n [(2, .int (nI 0)), (1, .int (nI 0)), (0, .ref (G b))] dX6_minute_13 rfl (by decide) rfl ?_
  refine v_loc [0, 1, 2] [(2, .int (nI 0)), (1, .int (nI 0)), (0, .ref (G b))] rfl ?_
  refine u_loop1 (fun n (k : Nat) => k + n = tn (f1 2)) (fun (k : Nat) => mk7 σ b f0 (certTo g1 k) f2 f3 f4 f5 f6) (fun (k : Nat) => [(2, .int (nI k)), (1, .int (nI 0)), (0, .ref (G b))]) (tn (f1 2)) 0 ((by omega)) ?_
  intro n k hL ih
  refine v_iload_n 0 dX6_minute_14 rfl rfl ?_
  have hnp30 := hI.np30
  refine v_aload_n 2 dX6_minute_15 rfl rfl ?_
  refine u_getr (k := 1) (C := RX6) (T := TX6) (NF := 13) hM.n hM.s rfl rfl inX6_minute_X6 (by decide) (by decide +kernel) rfl dX6_minute_16 ?_
  refine v_iconst (nI 2) dX6_minute_19 (by decide +kernel) ?_
  refine m_ld1 2 hM (rfl) (by omega) dX6_minute_20 ?_
  refine v_topi (nI (tn (f1 2))) ((by rw [certTo_out (fun p hp => by omega), hn2]; exact hI.np)) ?_
  refine v_icmp_geN 56 (by omega) (by omega) dX6_minute_21 rfl (fun h21 => ?_) (fun h21 => ?_)
  · skip
    obtain rfl : k = tn (f1 2) := by omega
    refine v_σ (mk7 σ b f0 (workTo (min1 f1) 0) f2 f3 f4 f5 f6) (congrArg (fun z9 => mk7 σ b f0 z9 f2 f3 f4 f5 f6) ((by subst hg1; rfl))) ?_
    refine v_iconst (nI 0) dX6_minute_56 (by decide +kernel) ?_
    refine v_istore_n [(2, .int (nI 0)), (1, .int (nI 0)), (0, .ref (G b))] dX6_minute_57 rfl (by decide) rfl ?_
    refine v_loc [0, 1, 2] [(2, .int (nI 0)), (1, .int (nI 0)), (0, .ref (G b))] rfl ?_
    refine u_loop2 (fun n (l : Nat) (v : Nat) => l + n = tn (f1 1) ∧ v = workN (min1 f1) l) (fun (l : Nat) (v : Nat) => mk7 σ b f0 (workTo (min1 f1) l) f2 f3 f4 f5 f6) (fun (l : Nat) (v : Nat) => [(2, .int (nI l)), (1, .int (nI v)), (0, .ref (G b))]) (tn (f1 1)) 0 0 (⟨by omega, rfl⟩) ?_
    intro n l v hL ih
    obtain ⟨hI1, hI2⟩ := hL
    refine v_iload_n 0 dX6_minute_58 rfl rfl ?_
    have hnl3 := hI.nl3
    refine v_aload_n 2 dX6_minute_59 rfl rfl ?_
    refine u_getr (k := 1) (C := RX6) (T := TX6) (NF := 13) hM.n hM.s rfl rfl inX6_minute_X6 (by decide) (by decide +kernel) rfl dX6_minute_60 ?_
    refine v_iconst (nI 1) dX6_minute_63 (by decide +kernel) ?_
    refine m_ld1 1 hM (rfl) (by omega) dX6_minute_64 ?_
    refine v_topi (nI (tn (f1 1))) ((by rw [wm hI (by omega) (by unfold Lc; omega) (by omega)]; exact hI.nl)) ?_
    refine v_icmp_geN 153 (by omega) (by omega) dX6_minute_65 rfl (fun h65 => ?_) (fun h65 => ?_)
    · skip
      obtain rfl : l = tn (f1 1) := by omega
      refine v_σ (mk7 σ b f0 (payTo (min2 f1) 0) f2 f3 f4 f5 f6) (congrArg (fun z9 => mk7 σ b f0 z9 f2 f3 f4 f5 f6) (rfl)) ?_
      refine v_iconst (nI 0) dX6_minute_153 (by decide +kernel) ?_
      refine v_istore_n [(2, .int (nI 0)), (1, .int (nI v)), (0, .ref (G b))] dX6_minute_154 rfl (by decide) rfl ?_
      refine v_loc [0, 1, 2] [(2, .int (nI 0)), (1, .int (nI v)), (0, .ref (G b))] rfl ?_
      refine u_loop1 (fun n (k : Nat) => k + n = tn (f1 2)) (fun (k : Nat) => mk7 σ b f0 (payTo (min2 f1) k) f2 f3 f4 f5 f6) (fun (k : Nat) => [(2, .int (nI k)), (1, .int (nI v)), (0, .ref (G b))]) (tn (f1 2)) 0 ((by omega)) ?_
      intro n k hL ih
      refine v_iload_n 0 dX6_minute_155 rfl rfl ?_
      have hnp30 := hI.np30
      refine v_aload_n 2 dX6_minute_156 rfl rfl ?_
      refine u_getr (k := 1) (C := RX6) (T := TX6) (NF := 13) hM.n hM.s rfl rfl inX6_minute_X6 (by decide) (by decide +kernel) rfl dX6_minute_157 ?_
      refine v_iconst (nI 2) dX6_minute_160 (by decide +kernel) ?_
      refine m_ld1 2 hM (rfl) (by omega) dX6_minute_161 ?_
      refine v_topi (nI (tn (f1 2))) ((by rw [payTo_out (fun p hp => ⟨by omega, by omega⟩) (by omega)]; unfold min2; rw [wm hI (Nat.le_refl _) (by unfold Lc; omega) (by omega)]; exact hI.np)) ?_
      refine v_icmp_geN 176 (by omega) (by omega) dX6_minute_162 rfl (fun h162 => ?_) (fun h162 => ?_)
      · skip
        refine v_iload_n 1 dX6_minute_176 rfl rfl ?_
        refine v_iret rfl dX6_minute_177 ⟨congrArg (fun z => some (Value.int z)) ?_, congrArg (φ shp) ?_⟩
        · rw [hI2]; rfl
        · obtain rfl : k = tn (f1 2) := (by omega); rfl
      · skip
        refine v_aload_n 2 dX6_minute_165 rfl rfl ?_
        refine v_iload_n 0 dX6_minute_166 rfl rfl ?_
        refine u_callVn [.int (nI k)] [] 1 (c_X6_pays lu Dg E N G shp σ hM f0 (payTo (min2 f1) k) f2 f3 f4 f5 f6 (p := k) (by omega)) (ci := 6) (C := RX6) (T := TX6) (NF := 13) hM.n hM.s rfl gX6_minute_X6_pays rfl rfl rfl (by decide +kernel) rfl ⟨Nat.le_of_ble_eq_true rfl, Nat.le_of_ble_eq_true rfl⟩ ⟨Nat.le_of_ble_eq_true rfl, Nat.le_of_ble_eq_true rfl⟩ (Nat.le_of_ble_eq_true rfl) rfl dX6_minute_167 ?_
        refine v_iincN 0 [(2, .int (nI (k + 1))), (1, .int (nI v)), (0, .ref (G b))] dX6_minute_170 rfl (by decide) rfl ?_
        refine v_goto 155 dX6_minute_173 rfl ?_
        refine v_loc [0, 1, 2] [(2, .int (nI (k + 1))), (1, .int (nI v)), (0, .ref (G b))] rfl ?_
        exact ih _ (k + 1) (show n - 1 < n by omega) (by omega)
    · skip
      have e13 : workTo (min1 f1) l (13 + l) = f1 (13 + l) := wm hI (by omega) (by unfold Lc; omega) (by omega)
      have e22 : workTo (min1 f1) l (22 + 12 * l + 0) = f1 (22 + 12 * l + 0) := wm hI (by omega) (by unfold Lc; omega) (by omega)
      have h12 := hI.len12 h65
      refine v_aload_n 2 dX6_minute_68 rfl rfl ?_
      refine u_getr (k := 1) (C := RX6) (T := TX6) (NF := 13) hM.n hM.s rfl rfl inX6_minute_X6 (by decide) (by decide +kernel) rfl dX6_minute_69 ?_
      refine v_bipush (nI 13) dX6_minute_72 (by decide +kernel) ?_
      refine v_iload_n 0 dX6_minute_74 rfl rfl ?_
      refine v_iaddN dX6_minute_75 ?_
      refine m_ld1 (13 + l) hM (rfl) (by omega) dX6_minute_76 ?_
      refine v_topi (nI (tn (f1 (13 + l)))) ((e13 ▸ hI.len h65)) ?_
      refine v_if_leN 147 (by omega) dX6_minute_77 rfl (fun h77 => ?_) (fun h77 => ?_)
      · skip
        refine v_σ (mk7 σ b f0 (workTo (min1 f1) (l + 1)) f2 f3 f4 f5 f6) (congrArg (fun z9 => mk7 σ b f0 z9 f2 f3 f4 f5 f6) ((by simp only [workTo, wkF]; rw [ic_f (by rw [e13]; omega)]))) ?_
        refine v_iincN 0 [(2, .int (nI (l + 1))), (1, .int (nI v)), (0, .ref (G b))] dX6_minute_147 rfl (by decide) rfl ?_
        refine v_goto 58 dX6_minute_150 rfl ?_
        refine v_loc [0, 1, 2] [(2, .int (nI (l + 1))), (1, .int (nI v)), (0, .ref (G b))] rfl ?_
        exact ih _ (l + 1) v (show n - 1 < n by omega) (⟨by omega, by simp only [workN, ← hI2]; rw [wkN, ic_f (by rw [e13]; omega)] <;> rfl⟩)
      · skip
        refine v_aload_n 2 dX6_minute_80 rfl rfl ?_
        refine u_getr (k := 1) (C := RX6) (T := TX6) (NF := 13) hM.n hM.s rfl rfl inX6_minute_X6 (by decide) (by decide +kernel) rfl dX6_minute_81 ?_
        refine v_bipush (nI 16) dX6_minute_84 (by decide +kernel) ?_
        refine v_iload_n 0 dX6_minute_86 rfl rfl ?_
        refine v_iaddN dX6_minute_87 ?_
        refine v_dup2 dX6_minute_88 rfl rfl ?_
        refine m_ld1 (16 + l) hM (rfl) (by omega) dX6_minute_89 ?_
        refine v_iconst (nI 1) dX6_minute_90 (by decide +kernel) ?_
        refine v_iadd dX6_minute_91 ?_
        refine m_st1 (16 + l) hM (rfl) (by omega) dX6_minute_92 ?_
        generalize hg2 : upd (workTo (min1 f1) l) (16 + l) (((workTo (min1 f1) l) (16 + l)) + (nI 1)) = g2
        refine v_aload_n 2 dX6_minute_93 rfl rfl ?_
        refine u_getr (k := 1) (C := RX6) (T := TX6) (NF := 13) hM.n hM.s rfl rfl inX6_minute_X6 (by decide) (by decide +kernel) rfl dX6_minute_94 ?_
        refine v_bipush (nI 16) dX6_minute_97 (by decide +kernel) ?_
        refine v_iload_n 0 dX6_minute_99 rfl rfl ?_
        refine v_iaddN dX6_minute_100 ?_
        refine m_ld1 (16 + l) hM (rfl) (by omega) dX6_minute_101 ?_
        refine v_aload_n 2 dX6_minute_102 rfl rfl ?_
        refine u_getr (k := 1) (C := RX6) (T := TX6) (NF := 13) hM.n hM.s rfl rfl inX6_minute_X6 (by decide) (by decide +kernel) rfl dX6_minute_103 ?_
        refine v_bipush (nI 10) dX6_minute_106 (by decide +kernel) ?_
        refine v_iload_n 0 dX6_minute_108 rfl rfl ?_
        refine v_iaddN dX6_minute_109 ?_
        refine m_ld1 (10 + l) hM (rfl) (by omega) dX6_minute_110 ?_
        refine v_icmp_lt 147 dX6_minute_111 rfl (fun h111 => ?_) (fun h111 => ?_)
        · skip
          refine v_σ (mk7 σ b f0 (workTo (min1 f1) (l + 1)) f2 f3 f4 f5 f6) (congrArg (fun z9 => mk7 σ b f0 z9 f2 f3 f4 f5 f6) ((by simp only [workTo, wkF]; rw [ic_t (by rw [e13]; omega : 0 < tn (workTo (min1 f1) l (13 + l))), ic_t (by rw [show wk1 (workTo (min1 f1) l) l = g2 from hg2]; exact h111)]; exact hg2.symm))) ?_
          refine v_iincN 0 [(2, .int (nI (l + 1))), (1, .int (nI v)), (0, .ref (G b))] dX6_minute_147 rfl (by decide) rfl ?_
          refine v_goto 58 dX6_minute_150 rfl ?_
          refine v_loc [0, 1, 2] [(2, .int (nI (l + 1))), (1, .int (nI v)), (0, .ref (G b))] rfl ?_
          exact ih _ (l + 1) v (show n - 1 < n by omega) (⟨by omega, by simp only [workN, ← hI2]; rw [wkN, ic_t (by rw [e13]; omega : 0 < tn (workTo (min1 f1) l (13 + l))), ic_t (by rw [show wk1 (workTo (min1 f1) l) l = g2 from hg2]; exact h111)] <;> rfl⟩)
        · skip
          have f13 : g2 (13 + l) = f1 (13 + l) := by rw [← hg2, upd_ap, if_neg (by omega)]; exact e13
          have f22 : g2 (22 + 12 * l + 0) = f1 (22 + 12 * l + 0) := by rw [← hg2, upd_ap, if_neg (by omega)]; exact e22
          have hrow := hI.row (k := 0) h65 (by omega)
          have hrow2 := hI.rowP (k := 0) h65 (by omega)
          have hnp30 := hI.np30
          refine v_aload_n 2 dX6_minute_114 rfl rfl ?_
          refine v_iload_n 0 dX6_minute_115 rfl rfl ?_
          refine v_iconst (nI 0) dX6_minute_116 (by decide +kernel) ?_
          refine v_iconst (nI 1) dX6_minute_117 (by decide +kernel) ?_
          refine u_callVn [.int (nI l), .int (nI 0), .int (nI 1)] [] 3 (c_X6_leaves lu Dg E N G shp σ hM f0 g2 f2 f3 f4 f5 f6 (l := l) (k := 0) (len := tn (g2 (13 + l))) (p := tn (g2 (22 + 12 * l + 0))) (by omega) (by rw [f13]; omega) (by rw [f13]; omega) (by rw [f13]; exact hI.len h65) (by rw [f22]; exact hrow) (by rw [f22]; omega) (nI 1)) (ci := 6) (C := RX6) (T := TX6) (NF := 13) hM.n hM.s rfl gX6_minute_X6_leaves rfl rfl rfl (by decide +kernel) rfl ⟨Nat.le_of_ble_eq_true rfl, Nat.le_of_ble_eq_true rfl⟩ ⟨Nat.le_of_ble_eq_true rfl, Nat.le_of_ble_eq_true rfl⟩ (Nat.le_of_ble_eq_true rfl) rfl dX6_minute_118 ?_
          refine v_aload_n 2 dX6_minute_121 rfl rfl ?_
          refine u_getr (k := 1) (C := RX6) (T := TX6) (NF := 13) hM.n hM.s rfl rfl inX6_minute_X6 (by decide) (by decide +kernel) rfl dX6_minute_122 ?_
          refine v_bipush (nI 16) dX6_minute_125 (by decide +kernel) ?_
          refine v_iload_n 0 dX6_minute_127 rfl rfl ?_
          refine v_iaddN dX6_minute_128 ?_
          refine v_iconst (nI 0) dX6_minute_129 (by decide +kernel) ?_
          refine m_st1 (16 + l) hM (rfl) (by omega) dX6_minute_130 ?_
          generalize hg3 : upd (leavesF g2 l 0 (tn (g2 (13 + l))) (tn (g2 (22 + 12 * l + 0))) (nI 1)) (16 + l) (nI 0) = g3
          refine v_aload_n 2 dX6_minute_131 rfl rfl ?_
          refine u_getr (k := 1) (C := RX6) (T := TX6) (NF := 13) hM.n hM.s rfl rfl inX6_minute_X6 (by decide) (by decide +kernel) rfl dX6_minute_132 ?_
          refine v_bipush (nI 19) dX6_minute_135 (by decide +kernel) ?_
          refine v_iload_n 0 dX6_minute_137 rfl rfl ?_
          refine v_iaddN dX6_minute_138 ?_
          refine v_dup2 dX6_minute_139 rfl rfl ?_
          refine m_ld1 (19 + l) hM (rfl) (by omega) dX6_minute_140 ?_
          refine v_iconst (nI 1) dX6_minute_141 (by decide +kernel) ?_
          refine v_iadd dX6_minute_142 ?_
          refine m_st1 (19 + l) hM (rfl) (by omega) dX6_minute_143 ?_
          generalize hg4 : upd g3 (19 + l) ((g3 (19 + l)) + (nI 1)) = g4
          refine v_iincN 1 [(1, .int (nI (v + 1))), (2, .int (nI l)), (0, .ref (G b))] dX6_minute_144 rfl (by decide) rfl ?_
          refine v_σ (mk7 σ b f0 (workTo (min1 f1) (l + 1)) f2 f3 f4 f5 f6) (congrArg (fun z9 => mk7 σ b f0 z9 f2 f3 f4 f5 f6) ((by simp only [workTo, wkF]; rw [ic_t (by rw [e13]; omega : 0 < tn (workTo (min1 f1) l (13 + l))), ic_f (by rw [show wk1 (workTo (min1 f1) l) l = g2 from hg2]; exact h111)]; subst hg1; subst hg2; subst hg3; subst hg4; rfl))) ?_
          refine v_iincN 1 [(2, .int (nI (l + 1))), (1, .int (nI (v + 1))), (0, .ref (G b))] dX6_minute_147 rfl (by decide) rfl ?_
          refine v_goto 58 dX6_minute_150 rfl ?_
          refine v_loc [0, 1, 2] [(2, .int (nI (l + 1))), (1, .int (nI (v + 1))), (0, .ref (G b))] rfl ?_
          exact ih _ (l + 1) (v + 1) (show n - 1 < n by omega) (⟨by omega, by simp only [workN, ← hI2]; rw [wkN, ic_t (by rw [e13]; omega : 0 < tn (workTo (min1 f1) l (13 + l))), ic_f (by rw [show wk1 (workTo (min1 f1) l) l = g2 from hg2]; exact h111)] <;> rfl⟩)
  · skip
    refine v_aload_n 2 dX6_minute_24 rfl rfl ?_
    refine u_getr (k := 1) (C := RX6) (T := TX6) (NF := 13) hM.n hM.s rfl rfl inX6_minute_X6 (by decide) (by decide +kernel) rfl dX6_minute_25 ?_
    refine v_iload_n 0 dX6_minute_28 rfl rfl ?_
    refine v_iconst (nI 2) dX6_minute_29 (by decide +kernel) ?_
    refine u_callSv [.int (nI k), .int (nI 2)] [.ref (G (b + 1))] 2 (c_X6_of lu Dg E N G shp (mk7 σ b f0 (certTo g1 k) f2 f3 f4 f5 f6) k 2) gX6_minute_X6_of rfl rfl rfl (by decide +kernel) rfl ⟨Nat.le_of_ble_eq_true rfl, Nat.le_of_ble_eq_true rfl⟩ ⟨Nat.le_of_ble_eq_true rfl, Nat.le_of_ble_eq_true rfl⟩ (Nat.le_of_ble_eq_true rfl) rfl dX6_minute_30 ?_
    refine v_dup2 dX6_minute_33 rfl rfl ?_
    refine m_ld1 (58 + 10 * k + 2) hM (rfl) (by omega) dX6_minute_34 ?_
    refine v_aload_n 2 dX6_minute_35 rfl rfl ?_
    refine v_iload_n 0 dX6_minute_36 rfl rfl ?_
    refine u_callVv [.int (nI k)] [.int ((certTo g1 k) (58 + 10 * k + 2)), .int (nI (58 + 10 * k + 2)), .ref (G (b + 1))] 1 (c_X6_isStanding lu Dg E N G shp σ hM f0 (certTo g1 k) f2 f3 f4 f5 f6 k (by omega)) (ci := 6) (C := RX6) (T := TX6) (NF := 13) hM.n hM.s rfl gX6_minute_X6_isStanding rfl rfl rfl (by decide +kernel) rfl ⟨Nat.le_of_ble_eq_true rfl, Nat.le_of_ble_eq_true rfl⟩ ⟨Nat.le_of_ble_eq_true rfl, Nat.le_of_ble_eq_true rfl⟩ (Nat.le_of_ble_eq_true rfl) rfl dX6_minute_37 ?_
    refine v_if_eqB 47 dX6_minute_40 rfl (fun h40 => ?_) (fun h40 => ?_)
    · skip
      refine v_iconst (nI 0) dX6_minute_47 (by decide +kernel) ?_
      refine v_iadd dX6_minute_48 ?_
      refine m_st1 (58 + 10 * k + 2) hM (rfl) (by omega) dX6_minute_49 ?_
      generalize hg5 : upd (certTo g1 k) (58 + 10 * k + 2) (((certTo g1 k) (58 + 10 * k + 2)) + (nI 0)) = g5
      have ez : g5 = certTo g1 (k + 1) := by rw [← hg5]; simp only [certTo, certF]; rw [ic_f h40]
      rw [ez]
      refine v_iincN 0 [(2, .int (nI (k + 1))), (1, .int (nI 0)), (0, .ref (G b))] dX6_minute_50 rfl (by decide) rfl ?_
      refine v_goto 14 dX6_minute_53 rfl ?_
      refine v_loc [0, 1, 2] [(2, .int (nI (k + 1))), (1, .int (nI 0)), (0, .ref (G b))] rfl ?_
      exact ih _ (k + 1) (show n - 1 < n by omega) (by omega)
    · skip
      refine v_iconst (nI 1) dX6_minute_43 (by decide +kernel) ?_
      refine v_goto 48 dX6_minute_44 rfl ?_
      refine v_iadd dX6_minute_48 ?_
      refine m_st1 (58 + 10 * k + 2) hM (rfl) (by omega) dX6_minute_49 ?_
      generalize hg6 : upd (certTo g1 k) (58 + 10 * k + 2) (((certTo g1 k) (58 + 10 * k + 2)) + (nI 1)) = g6
      have ez : g6 = certTo g1 (k + 1) := by rw [← hg6]; simp only [certTo, certF]; rw [ic_t h40]
      rw [ez]
      refine v_iincN 0 [(2, .int (nI (k + 1))), (1, .int (nI 0)), (0, .ref (G b))] dX6_minute_50 rfl (by decide) rfl ?_
      refine v_goto 14 dX6_minute_53 rfl ?_
      refine v_loc [0, 1, 2] [(2, .int (nI (k + 1))), (1, .int (nI 0)), (0, .ref (G b))] rfl ?_
      exact ih _ (k + 1) (show n - 1 < n by omega) (by omega)

set_option maxHeartbeats 4000000 in
set_option maxRecDepth 100000 in
/-- goBy -/
theorem c_X6_goBy (lu : Launch) (Dg : va_G) (E : Nat → ClassId) (N : Nat) (G : Nat → Nat) (shp : Nat → (Nat → Int32) → va_E) (σ : Nat → Nat → Int32) {b : Nat} (hM : ModS E G shp N b) (f0 f1 f2 f3 f4 f5 f6 : Nat → Int32) (n0 : Nat) (hn0 : n0 < 2 ^ 31) (hJ : ∀ k, k < n0 → ∃ T, Inv T (goByS f1 k))  : CS lu yX6_goBy wsX6_goBy { frames := 4, cells := 0, slots := 0, locals := 86 } Dg E N G shp (mk7 σ b f0 f1 f2 f3 f4 f5 f6) [.ref (G b), .int (nI n0)] (some (.int (nI (goByN f1 n0)))) (mk7 σ b f0 (goByS f1 n0) f2 f3 f4 f5 f6) := by
  refine CS.of (cc := cX6_goBy) (maxL := 4) (ret := (some .int)) (by decide) rfl (Nat.le_of_ble_eq_true rfl) ?_
  intro p_ e_ s_ m_ args_ below_ meth_ c_
  refine v_eq (pc' := 0) (st' := []) rfl rfl ?_
  refine v_loc [0, 1] [(0, .ref (G b)), (1, .int (nI n0))] rfl ?_
  refine v_σ (mk7 σ b f0 (goByS f1 0) f2 f3 f4 f5 f6) (congrArg (fun z9 => mk7 σ b f0 z9 f2 f3 f4 f5 f6) (rfl)) ?_
  refine v_iconst (nI 0) dX6_goBy_0 (by decide +kernel) ?_
  refine v_istore_n [(2, .int (nI 0)), (0, .ref (G b)), (1, .int (nI n0))] dX6_goBy_1 rfl (by decide) rfl ?_
  refine v_iconst (nI 0) dX6_goBy_2 (by decide +kernel) ?_
  refine v_istore_n [(3, .int (nI 0)), (2, .int (nI 0)), (0, .ref (G b)), (1, .int (nI n0))] dX6_goBy_3 rfl (by decide) rfl ?_
  refine v_loc [0, 1, 3, 2] [(3, .int (nI 0)), (2, .int (nI 0)), (1, .int (nI n0)), (0, .ref (G b))] rfl ?_
  refine u_loop1 (fun n (k : Nat) => k + n = n0) (fun (k : Nat) => mk7 σ b f0 (goByS f1 k) f2 f3 f4 f5 f6) (fun (k : Nat) => [(3, .int (nI k)), (2, .int (nI (goByN f1 k))), (1, .int (nI n0)), (0, .ref (G b))]) (n0) 0 ((by omega)) ?_
  intro n k hL ih
  refine v_iload_n 0 dX6_goBy_4 rfl rfl ?_
  refine v_iload_n 2 dX6_goBy_5 rfl rfl ?_
  refine v_icmp_geN 22 (by omega) (by omega) dX6_goBy_6 rfl (fun h6 => ?_) (fun h6 => ?_)
  · skip
    refine v_iload_n 1 dX6_goBy_22 rfl rfl ?_
    refine v_iret rfl dX6_goBy_23 ⟨congrArg (fun z => some (Value.int z)) ?_, congrArg (φ shp) ?_⟩
    · obtain rfl : k = n0 := (by omega); rfl
    · obtain rfl : k = n0 := (by omega); rfl
  · skip
    obtain ⟨T9, hI9⟩ := hJ k h6
    refine v_iload_n 1 dX6_goBy_9 rfl rfl ?_
    refine v_aload_n 3 dX6_goBy_10 rfl rfl ?_
    refine u_callVv [] [.int (nI (goByN f1 k))] 0 (c_X6_minute lu Dg E N G shp σ hM f0 (goByS f1 k) f2 f3 f4 f5 f6 (T := T9) hI9) (ci := 6) (C := RX6) (T := TX6) (NF := 13) hM.n hM.s rfl gX6_goBy_X6_minute rfl rfl rfl (by decide +kernel) rfl ⟨Nat.le_of_ble_eq_true rfl, Nat.le_of_ble_eq_true rfl⟩ ⟨Nat.le_of_ble_eq_true rfl, Nat.le_of_ble_eq_true rfl⟩ (Nat.le_of_ble_eq_true rfl) rfl dX6_goBy_11 ?_
    refine v_iaddN dX6_goBy_14 ?_
    refine v_istore_n [(2, .int (nI (goByN f1 k + (minuteN (goByS f1 k))))), (3, .int (nI k)), (1, .int (nI n0)), (0, .ref (G b))] dX6_goBy_15 rfl (by decide) rfl ?_
    refine v_iincN 1 [(3, .int (nI (k + 1))), (2, .int (nI (goByN f1 k + (minuteN (goByS f1 k))))), (1, .int (nI n0)), (0, .ref (G b))] dX6_goBy_16 rfl (by decide) rfl ?_
    refine v_goto 4 dX6_goBy_19 rfl ?_
    refine v_loc [0, 1, 2, 3] [(3, .int (nI (k + 1))), (2, .int (nI (goByN f1 k + (minuteN (goByS f1 k))))), (1, .int (nI n0)), (0, .ref (G b))] rfl ?_
    exact ih _ (k + 1) (show n - 1 < n by omega) (by omega)
