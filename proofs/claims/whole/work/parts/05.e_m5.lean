theorem jst_out {t : Nat → Int32} {a m p i : Nat} (h : i < 58) (h5 : i ≠ 5) (hm : i ≠ a + m) : jst t a m p i = t i := by
  simp only [jst]
  by_cases hc : upd (upd (upd t (a + m) (nI (tn (t (a + m - 1))))) (58 + 10 * tn (t (a + m - 1)) + 3) (upd t (a + m) (nI (tn (t (a + m - 1)))) (58 + 10 * tn (t (a + m - 1)) + 3) + upd t (a + m) (nI (tn (t (a + m - 1)))) 8)) (58 + 10 * tn (t (a + m - 1)) + 7) (upd (upd t (a + m) (nI (tn (t (a + m - 1))))) (58 + 10 * tn (t (a + m - 1)) + 3) (upd t (a + m) (nI (tn (t (a + m - 1)))) (58 + 10 * tn (t (a + m - 1)) + 3) + upd t (a + m) (nI (tn (t (a + m - 1)))) 8) (58 + 10 * tn (t (a + m - 1)) + 7) + nI 1) (58 + 10 * p + 0) = nI 1
  · rw [ic_t hc]; simp only [upd_ap]; rw [if_neg h5, if_neg (by omega), if_neg (by omega), if_neg (by omega), if_neg hm]
  · rw [ic_f hc]; simp only [upd_ap]; rw [if_neg (by omega), if_neg (by omega), if_neg (by omega), if_neg hm]
theorem jTo_out {s : Nat → Int32} {a m p i : Nat} (h : i < 58) (h5 : i ≠ 5) : ∀ {k : Nat}, (∀ j, j < k → i ≠ a + (m - j)) → jTo s a m p k i = s i
  | 0, _ => rfl
  | k + 1, hk => by
    simp only [jTo]
    rw [jst_out h h5 (hk k (by omega)), jTo_out h h5 (fun j hj => hk j (by omega))]
set_option maxRecDepth 100000 in
theorem inX6_jumps_X6 : ∀ w ∈ wsX60, w ∈ wsX6_jumps := by decide +kernel
set_option maxHeartbeats 4000000 in
set_option maxRecDepth 100000 in
/-- jumps -/
theorem c_X6_jumps (lu : Launch) (Dg : va_G) (E : Nat → ClassId) (N : Nat) (G : Nat → Nat) (shp : Nat → (Nat → Int32) → va_E) (σ : Nat → Nat → Int32) {b : Nat} (hM : ModS E G shp N b) (f0 f1 f2 f3 f4 f5 f6 : Nat → Int32) {T : Nat} (hI : Inv T f1) {p : Nat} (hp : p < tn (f1 2)) (hm : MayJ f1 p)  : CS lu yX6_jumps wsX6_jumps { frames := 2, cells := 0, slots := 0, locals := 45 } Dg E N G shp (mk7 σ b f0 f1 f2 f3 f4 f5 f6) [.ref (G b), .int (nI p)] (some (.int (nI (jsteps f1 p)))) (mk7 σ b f0 (jumpsF f1 (22 + 12 * liN f1 p) (plc f1 p) p (jsteps f1 p)) f2 f3 f4 f5 f6) := by
  refine CS.of (cc := cX6_jumps) (maxL := 7) (ret := (some .int)) (by decide) rfl (Nat.le_of_ble_eq_true rfl) ?_
  intro p_ e_ s_ m_ args_ below_ meth_ c_
  refine v_eq (pc' := 0) (st' := []) rfl rfl ?_
  refine v_loc [0, 1] [(0, .ref (G b)), (1, .int (nI p))] rfl ?_
  have hp30 := Nat.lt_of_lt_of_le hp hI.np30
  have hq := hI.plcs hp hm.1
  have hl3 := Nat.lt_of_lt_of_le hq.1 hI.nl3
  have hk12 := hI.len12 hq.1
  have hpl := hq.2.2.1
  have hj5 := hI.jump5
  have hst : jsteps f1 p ≤ plc f1 p := Nat.min_le_left _ _
  refine v_bipush (nI 22) dX6_jumps_0 (by decide +kernel) ?_
  refine v_bipush (nI 12) dX6_jumps_2 (by decide +kernel) ?_
  refine v_aload_n 0 dX6_jumps_4 rfl rfl ?_
  refine u_getr (k := 1) (C := RX6) (T := TX6) (NF := 13) hM.n hM.s rfl rfl inX6_jumps_X6 (by decide) (by decide +kernel) rfl dX6_jumps_5 ?_
  refine v_iload_n 1 dX6_jumps_8 rfl rfl ?_
  refine v_iconst (nI 1) dX6_jumps_9 (by decide +kernel) ?_
  refine u_callSv [.int (nI p), .int (nI 1)] [.ref (G (b + 1)), .int (nI 12), .int (nI 22)] 2 (c_X6_of lu Dg E N G shp (mk7 σ b f0 f1 f2 f3 f4 f5 f6) p 1) gX6_jumps_X6_of rfl rfl rfl (by decide +kernel) rfl ⟨Nat.le_of_ble_eq_true rfl, Nat.le_of_ble_eq_true rfl⟩ ⟨Nat.le_of_ble_eq_true rfl, Nat.le_of_ble_eq_true rfl⟩ (Nat.le_of_ble_eq_true rfl) rfl dX6_jumps_10 ?_
  refine m_ld1 (58 + 10 * p + 1) hM (rfl) (by omega) dX6_jumps_13 ?_
  refine v_topi (nI (liN f1 p)) (hq.2.1) ?_
  refine v_imulN dX6_jumps_14 ?_
  refine v_iaddN dX6_jumps_15 ?_
  refine v_istore_n [(2, .int (nI (22 + (12 * (liN f1 p))))), (0, .ref (G b)), (1, .int (nI p))] dX6_jumps_16 rfl (by decide) rfl ?_
  refine v_aload_n 1 dX6_jumps_17 rfl rfl ?_
  refine v_iload_n 2 dX6_jumps_18 rfl rfl ?_
  refine u_callVv [.int (nI p)] [] 1 ((c_X6_placeOf lu Dg E N G shp σ hM f0 f1 f2 f3 f4 f5 f6 (p := p) (by omega) (l := liN f1 p) (by have := hI.nl3; omega) hq.2.1 (hI.len hq.1) (hI.len12 hq.1)).to (v' := some (.int (nI (plc f1 p)))) (congrArg (fun z => some (Value.int z)) hq.2.2.2.2) rfl) (ci := 6) (C := RX6) (T := TX6) (NF := 13) hM.n hM.s rfl gX6_jumps_X6_placeOf rfl rfl rfl (by decide +kernel) rfl ⟨Nat.le_of_ble_eq_true rfl, Nat.le_of_ble_eq_true rfl⟩ ⟨Nat.le_of_ble_eq_true rfl, Nat.le_of_ble_eq_true rfl⟩ (Nat.le_of_ble_eq_true rfl) rfl dX6_jumps_19 ?_
  refine v_istore_n [(3, .int (nI (plc f1 p))), (2, .int (nI (22 + (12 * (liN f1 p))))), (0, .ref (G b)), (1, .int (nI p))] dX6_jumps_22 rfl (by decide) rfl ?_
  refine v_iload_n 0 dX6_jumps_23 rfl rfl ?_
  refine v_join (mk7 σ b f0 f1 f2 f3 f4 f5 f6) 45 [(3, .int (nI (plc f1 p))), (2, .int (nI (22 + (12 * (liN f1 p))))), (0, .ref (G b)), (1, .int (nI p))] [.int (nI (jsteps f1 p))] ?_ (fun hj => ?_)
  · skip
    refine v_istore [(4, .int (nI (jsteps f1 p))), (3, .int (nI (plc f1 p))), (2, .int (nI (22 + (12 * (liN f1 p))))), (0, .ref (G b)), (1, .int (nI p))] dX6_jumps_45 (by decide) rfl ?_
    refine v_σ (mk7 σ b f0 (jTo f1 (22 + 12 * liN f1 p) (plc f1 p) p 0) f2 f3 f4 f5 f6) (congrArg (fun z9 => mk7 σ b f0 z9 f2 f3 f4 f5 f6) (rfl)) ?_
    refine v_iconst (nI 0) dX6_jumps_47 (by decide +kernel) ?_
    refine v_istore [(5, .int (nI 0)), (4, .int (nI (jsteps f1 p))), (3, .int (nI (plc f1 p))), (2, .int (nI (22 + (12 * (liN f1 p))))), (0, .ref (G b)), (1, .int (nI p))] dX6_jumps_48 (by decide) rfl ?_
    refine v_loc [0, 1, 2, 3, 5, 4] [(5, .int (nI 0)), (4, .int (nI (jsteps f1 p))), (3, .int (nI (plc f1 p))), (2, .int (nI (22 + (12 * (liN f1 p))))), (1, .int (nI p)), (0, .ref (G b))] rfl ?_
    refine u_loop1 (fun n (k : Nat) => k + n = jsteps f1 p) (fun (k : Nat) => mk7 σ b f0 (jTo f1 (22 + 12 * liN f1 p) (plc f1 p) p k) f2 f3 f4 f5 f6) (fun (k : Nat) => [(5, .int (nI k)), (4, .int (nI (jsteps f1 p))), (3, .int (nI (plc f1 p))), (2, .int (nI (22 + 12 * liN f1 p))), (1, .int (nI p)), (0, .ref (G b))]) (jsteps f1 p) 0 ((by omega)) ?_
    intro n k hL ih
    refine v_iload 0 dX6_jumps_50 rfl ?_
    refine v_iload 1 dX6_jumps_52 rfl ?_
    refine v_icmp_geN 202 (by omega) (by omega) dX6_jumps_54 rfl (fun h54 => ?_) (fun h54 => ?_)
    · skip
      obtain rfl : k = jsteps f1 p := by omega
      refine v_aload_n 5 dX6_jumps_202 rfl rfl ?_
      refine u_getr (k := 1) (C := RX6) (T := TX6) (NF := 13) hM.n hM.s rfl rfl inX6_jumps_X6 (by decide) (by decide +kernel) rfl dX6_jumps_203 ?_
      refine v_iload_n 3 dX6_jumps_206 rfl rfl ?_
      refine v_iload_n 2 dX6_jumps_207 rfl rfl ?_
      refine v_iaddN dX6_jumps_208 ?_
      refine v_iload 1 dX6_jumps_209 rfl ?_
      refine v_isubN (by omega) dX6_jumps_211 ?_
      refine v_iload_n 4 dX6_jumps_212 rfl rfl ?_
      refine m_st1 ((22 + 12 * liN f1 p + (plc f1 p)) - (jsteps f1 p)) hM (rfl) (by omega) dX6_jumps_213 ?_
      generalize hg1 : upd (jTo f1 (22 + 12 * liN f1 p) (plc f1 p) p (jsteps f1 p)) ((22 + 12 * liN f1 p + (plc f1 p)) - (jsteps f1 p)) (nI p) = g1
      refine v_aload_n 5 dX6_jumps_214 rfl rfl ?_
      refine u_getr (k := 1) (C := RX6) (T := TX6) (NF := 13) hM.n hM.s rfl rfl inX6_jumps_X6 (by decide) (by decide +kernel) rfl dX6_jumps_215 ?_
      refine v_iload_n 4 dX6_jumps_218 rfl rfl ?_
      refine v_bipush (nI 7) dX6_jumps_219 (by decide +kernel) ?_
      refine u_callSv [.int (nI p), .int (nI 7)] [.ref (G (b + 1))] 2 (c_X6_of lu Dg E N G shp (mk7 σ b f0 g1 f2 f3 f4 f5 f6) p 7) gX6_jumps_X6_of rfl rfl rfl (by decide +kernel) rfl ⟨Nat.le_of_ble_eq_true rfl, Nat.le_of_ble_eq_true rfl⟩ ⟨Nat.le_of_ble_eq_true rfl, Nat.le_of_ble_eq_true rfl⟩ (Nat.le_of_ble_eq_true rfl) rfl dX6_jumps_221 ?_
      refine v_dup2 dX6_jumps_224 rfl rfl ?_
      refine m_ld1 (58 + 10 * p + 7) hM (rfl) (by omega) dX6_jumps_225 ?_
      refine v_iload 1 dX6_jumps_226 rfl ?_
      refine v_isub dX6_jumps_228 ?_
      refine m_st1 (58 + 10 * p + 7) hM (rfl) (by omega) dX6_jumps_229 ?_
      generalize hg2 : upd g1 (58 + 10 * p + 7) ((g1 (58 + 10 * p + 7)) - (nI (jsteps f1 p))) = g2
      refine v_aload_n 5 dX6_jumps_230 rfl rfl ?_
      refine u_getr (k := 1) (C := RX6) (T := TX6) (NF := 13) hM.n hM.s rfl rfl inX6_jumps_X6 (by decide) (by decide +kernel) rfl dX6_jumps_231 ?_
      refine v_iload_n 4 dX6_jumps_234 rfl rfl ?_
      refine v_bipush (nI 8) dX6_jumps_235 (by decide +kernel) ?_
      refine u_callSv [.int (nI p), .int (nI 8)] [.ref (G (b + 1))] 2 (c_X6_of lu Dg E N G shp (mk7 σ b f0 g2 f2 f3 f4 f5 f6) p 8) gX6_jumps_X6_of rfl rfl rfl (by decide +kernel) rfl ⟨Nat.le_of_ble_eq_true rfl, Nat.le_of_ble_eq_true rfl⟩ ⟨Nat.le_of_ble_eq_true rfl, Nat.le_of_ble_eq_true rfl⟩ (Nat.le_of_ble_eq_true rfl) rfl dX6_jumps_237 ?_
      refine v_aload_n 5 dX6_jumps_240 rfl rfl ?_
      refine u_getr (k := 1) (C := RX6) (T := TX6) (NF := 13) hM.n hM.s rfl rfl inX6_jumps_X6 (by decide) (by decide +kernel) rfl dX6_jumps_241 ?_
      refine v_iconst (nI 0) dX6_jumps_244 (by decide +kernel) ?_
      refine m_ld1 0 hM (rfl) (by omega) dX6_jumps_245 ?_
      refine m_st1 (58 + 10 * p + 8) hM (rfl) (by omega) dX6_jumps_246 ?_
      generalize hg3 : upd g2 (58 + 10 * p + 8) (g2 0) = g3
      refine v_aload_n 5 dX6_jumps_247 rfl rfl ?_
      refine u_getr (k := 1) (C := RX6) (T := TX6) (NF := 13) hM.n hM.s rfl rfl inX6_jumps_X6 (by decide) (by decide +kernel) rfl dX6_jumps_248 ?_
      refine v_iconst (nI 4) dX6_jumps_251 (by decide +kernel) ?_
      refine v_dup2 dX6_jumps_252 rfl rfl ?_
      refine m_ld1 4 hM (rfl) (by omega) dX6_jumps_253 ?_
      refine v_iconst (nI 1) dX6_jumps_254 (by decide +kernel) ?_
      refine v_iadd dX6_jumps_255 ?_
      refine m_st1 4 hM (rfl) (by omega) dX6_jumps_256 ?_
      generalize hg4 : upd g3 4 ((g3 4) + (nI 1)) = g4
      refine v_iload 1 dX6_jumps_257 rfl ?_
      refine v_iret rfl dX6_jumps_259 ⟨congrArg (fun z => some (Value.int z)) ?_, congrArg (φ shp) ?_⟩
      · rfl
      · subst hg1; subst hg2; subst hg3; subst hg4; rfl
    · skip
      have er : (jTo f1 (22 + 12 * liN f1 p) (plc f1 p) p k) (22 + 12 * liN f1 p + (plc f1 p - k) - 1) = f1 (22 + 12 * liN f1 p + (plc f1 p - k - 1)) := by rw [jTo_out (by omega) (by omega) (fun j hj => by omega)]; congr 1; omega
      have hr := hI.row (l := liN f1 p) (k := plc f1 p - k - 1) hq.1 (by omega)
      have hr2 := hI.rowP (l := liN f1 p) (k := plc f1 p - k - 1) hq.1 (by omega)
      obtain ⟨q, hqe⟩ : ∃ q, q = tn ((jTo f1 (22 + 12 * liN f1 p) (plc f1 p) p k) (22 + 12 * liN f1 p + (plc f1 p - k) - 1)) := ⟨_, rfl⟩
      have hq30 : q < 30 := by rw [hqe, er]; have := hI.np30; omega
      have eq : (jTo f1 (22 + 12 * liN f1 p) (plc f1 p) p k) (22 + 12 * liN f1 p + (plc f1 p - k) - 1) = nI q := by rw [hqe, er]; exact hr
      refine v_aload_n 5 dX6_jumps_57 rfl rfl ?_
      refine u_getr (k := 1) (C := RX6) (T := TX6) (NF := 13) hM.n hM.s rfl rfl inX6_jumps_X6 (by decide) (by decide +kernel) rfl dX6_jumps_58 ?_
      refine v_iload_n 3 dX6_jumps_61 rfl rfl ?_
      refine v_iload_n 2 dX6_jumps_62 rfl rfl ?_
      refine v_iaddN dX6_jumps_63 ?_
      refine v_iload 0 dX6_jumps_64 rfl ?_
      refine v_isubN (by omega) dX6_jumps_66 ?_
      refine v_iconst (nI 1) dX6_jumps_67 (by decide +kernel) ?_
      refine v_isubN (by omega) dX6_jumps_68 ?_
      refine m_ld1 (22 + 12 * liN f1 p + (plc f1 p - k) - 1) hM (congrArg nI (by omega)) (by omega) dX6_jumps_69 ?_
      refine v_topi (nI q) (eq) ?_
      refine v_istore [(6, .int (nI q)), (5, .int (nI k)), (4, .int (nI (jsteps f1 p))), (3, .int (nI (plc f1 p))), (2, .int (nI (22 + 12 * liN f1 p))), (1, .int (nI p)), (0, .ref (G b))] dX6_jumps_70 (by decide) rfl ?_
      refine v_aload_n 6 dX6_jumps_72 rfl rfl ?_
      refine u_getr (k := 1) (C := RX6) (T := TX6) (NF := 13) hM.n hM.s rfl rfl inX6_jumps_X6 (by decide) (by decide +kernel) rfl dX6_jumps_73 ?_
      refine v_iload_n 4 dX6_jumps_76 rfl rfl ?_
      refine v_iload_n 3 dX6_jumps_77 rfl rfl ?_
      refine v_iaddN dX6_jumps_78 ?_
      refine v_iload 1 dX6_jumps_79 rfl ?_
      refine v_isubN (by omega) dX6_jumps_81 ?_
      refine v_iload 0 dX6_jumps_82 rfl ?_
      refine m_st1 (22 + 12 * liN f1 p + (plc f1 p - k)) hM (congrArg nI (by omega)) (by omega) dX6_jumps_84 ?_
      generalize hg5 : upd (jTo f1 (22 + 12 * liN f1 p) (plc f1 p) p k) (22 + 12 * liN f1 p + (plc f1 p - k)) (nI q) = g5
      refine v_aload_n 6 dX6_jumps_85 rfl rfl ?_
      refine u_getr (k := 1) (C := RX6) (T := TX6) (NF := 13) hM.n hM.s rfl rfl inX6_jumps_X6 (by decide) (by decide +kernel) rfl dX6_jumps_86 ?_
      refine v_iload 0 dX6_jumps_89 rfl ?_
      refine v_iconst (nI 3) dX6_jumps_91 (by decide +kernel) ?_
      refine u_callSv [.int (nI q), .int (nI 3)] [.ref (G (b + 1))] 2 (c_X6_of lu Dg E N G shp (mk7 σ b f0 g5 f2 f3 f4 f5 f6) q 3) gX6_jumps_X6_of rfl rfl rfl (by decide +kernel) rfl ⟨Nat.le_of_ble_eq_true rfl, Nat.le_of_ble_eq_true rfl⟩ ⟨Nat.le_of_ble_eq_true rfl, Nat.le_of_ble_eq_true rfl⟩ (Nat.le_of_ble_eq_true rfl) rfl dX6_jumps_92 ?_
      refine v_dup2 dX6_jumps_95 rfl rfl ?_
      refine m_ld1 (58 + 10 * q + 3) hM (rfl) (by omega) dX6_jumps_96 ?_
      refine v_aload_n 6 dX6_jumps_97 rfl rfl ?_
      refine u_getr (k := 1) (C := RX6) (T := TX6) (NF := 13) hM.n hM.s rfl rfl inX6_jumps_X6 (by decide) (by decide +kernel) rfl dX6_jumps_98 ?_
      refine v_bipush (nI 8) dX6_jumps_101 (by decide +kernel) ?_
      refine m_ld1 8 hM (rfl) (by omega) dX6_jumps_103 ?_
      refine v_iadd dX6_jumps_104 ?_
      refine m_st1 (58 + 10 * q + 3) hM (rfl) (by omega) dX6_jumps_105 ?_
      generalize hg6 : upd g5 (58 + 10 * q + 3) ((g5 (58 + 10 * q + 3)) + (g5 8)) = g6
      refine v_aload_n 6 dX6_jumps_106 rfl rfl ?_
      refine u_getr (k := 1) (C := RX6) (T := TX6) (NF := 13) hM.n hM.s rfl rfl inX6_jumps_X6 (by decide) (by decide +kernel) rfl dX6_jumps_107 ?_
      refine v_iload 0 dX6_jumps_110 rfl ?_
      refine v_bipush (nI 7) dX6_jumps_112 (by decide +kernel) ?_
      refine u_callSv [.int (nI q), .int (nI 7)] [.ref (G (b + 1))] 2 (c_X6_of lu Dg E N G shp (mk7 σ b f0 g6 f2 f3 f4 f5 f6) q 7) gX6_jumps_X6_of rfl rfl rfl (by decide +kernel) rfl ⟨Nat.le_of_ble_eq_true rfl, Nat.le_of_ble_eq_true rfl⟩ ⟨Nat.le_of_ble_eq_true rfl, Nat.le_of_ble_eq_true rfl⟩ (Nat.le_of_ble_eq_true rfl) rfl dX6_jumps_114 ?_
      refine v_dup2 dX6_jumps_117 rfl rfl ?_
      refine m_ld1 (58 + 10 * q + 7) hM (rfl) (by omega) dX6_jumps_118 ?_
      refine v_iconst (nI 1) dX6_jumps_119 (by decide +kernel) ?_
      refine v_iadd dX6_jumps_120 ?_
      refine m_st1 (58 + 10 * q + 7) hM (rfl) (by omega) dX6_jumps_121 ?_
      generalize hg7 : upd g6 (58 + 10 * q + 7) ((g6 (58 + 10 * q + 7)) + (nI 1)) = g7
      refine v_aload_n 6 dX6_jumps_122 rfl rfl ?_
      refine u_getr (k := 1) (C := RX6) (T := TX6) (NF := 13) hM.n hM.s rfl rfl inX6_jumps_X6 (by decide) (by decide +kernel) rfl dX6_jumps_123 ?_
      refine v_iload_n 5 dX6_jumps_126 rfl rfl ?_
      refine v_iconst (nI 0) dX6_jumps_127 (by decide +kernel) ?_
      refine u_callSv [.int (nI p), .int (nI 0)] [.ref (G (b + 1))] 2 (c_X6_of lu Dg E N G shp (mk7 σ b f0 g7 f2 f3 f4 f5 f6) p 0) gX6_jumps_X6_of rfl rfl rfl (by decide +kernel) rfl ⟨Nat.le_of_ble_eq_true rfl, Nat.le_of_ble_eq_true rfl⟩ ⟨Nat.le_of_ble_eq_true rfl, Nat.le_of_ble_eq_true rfl⟩ (Nat.le_of_ble_eq_true rfl) rfl dX6_jumps_128 ?_
      refine m_ld1 (58 + 10 * p + 0) hM (rfl) (by omega) dX6_jumps_131 ?_
      refine v_iconst (nI 1) dX6_jumps_132 (by decide +kernel) ?_
      refine v_icmp_ne 176 dX6_jumps_133 rfl (fun h133 => ?_) (fun h133 => ?_)
      · skip
        refine v_aload_n 6 dX6_jumps_176 rfl rfl ?_
        refine u_getr (k := 1) (C := RX6) (T := TX6) (NF := 13) hM.n hM.s rfl rfl inX6_jumps_X6 (by decide) (by decide +kernel) rfl dX6_jumps_177 ?_
        refine v_iload_n 5 dX6_jumps_180 rfl rfl ?_
        refine v_iconst (nI 3) dX6_jumps_181 (by decide +kernel) ?_
        refine u_callSv [.int (nI p), .int (nI 3)] [.ref (G (b + 1))] 2 (c_X6_of lu Dg E N G shp (mk7 σ b f0 g7 f2 f3 f4 f5 f6) p 3) gX6_jumps_X6_of rfl rfl rfl (by decide +kernel) rfl ⟨Nat.le_of_ble_eq_true rfl, Nat.le_of_ble_eq_true rfl⟩ ⟨Nat.le_of_ble_eq_true rfl, Nat.le_of_ble_eq_true rfl⟩ (Nat.le_of_ble_eq_true rfl) rfl dX6_jumps_182 ?_
        refine v_dup2 dX6_jumps_185 rfl rfl ?_
        refine m_ld1 (58 + 10 * p + 3) hM (rfl) (by omega) dX6_jumps_186 ?_
        refine v_aload_n 6 dX6_jumps_187 rfl rfl ?_
        refine u_getr (k := 1) (C := RX6) (T := TX6) (NF := 13) hM.n hM.s rfl rfl inX6_jumps_X6 (by decide) (by decide +kernel) rfl dX6_jumps_188 ?_
        refine v_bipush (nI 8) dX6_jumps_191 (by decide +kernel) ?_
        refine m_ld1 8 hM (rfl) (by omega) dX6_jumps_193 ?_
        refine v_isub dX6_jumps_194 ?_
        refine m_st1 (58 + 10 * p + 3) hM (rfl) (by omega) dX6_jumps_195 ?_
        generalize hg8 : upd g7 (58 + 10 * p + 3) ((g7 (58 + 10 * p + 3)) - (g7 8)) = g8
        refine v_σ (mk7 σ b f0 (jTo f1 (22 + 12 * liN f1 p) (plc f1 p) p (k + 1)) f2 f3 f4 f5 f6) (congrArg (fun z9 => mk7 σ b f0 z9 f2 f3 f4 f5 f6) ((by rw [jTo]; simp only [jst]; rw [← hqe, ic_f (by subst hg5; subst hg6; subst hg7; subst hg8; exact h133)]; subst hg5; subst hg6; subst hg7; subst hg8; rfl))) ?_
        refine v_iincN 1 [(5, .int (nI (k + 1))), (6, .int (nI q)), (4, .int (nI (jsteps f1 p))), (3, .int (nI (plc f1 p))), (2, .int (nI (22 + 12 * liN f1 p))), (1, .int (nI p)), (0, .ref (G b))] dX6_jumps_196 rfl (by decide) rfl ?_
        refine v_goto 50 dX6_jumps_199 rfl ?_
        refine v_loc [0, 2, 3, 4, 5, 6] [(5, .int (nI (k + 1))), (4, .int (nI (jsteps f1 p))), (3, .int (nI (plc f1 p))), (2, .int (nI (22 + 12 * liN f1 p))), (1, .int (nI p)), (0, .ref (G b))] rfl ?_
        exact ih _ (k + 1) (show n - 1 < n by omega) (by omega)
      · skip
        refine v_aload_n 6 dX6_jumps_136 rfl rfl ?_
        refine u_getr (k := 1) (C := RX6) (T := TX6) (NF := 13) hM.n hM.s rfl rfl inX6_jumps_X6 (by decide) (by decide +kernel) rfl dX6_jumps_137 ?_
        refine v_iload 0 dX6_jumps_140 rfl ?_
        refine v_iconst (nI 4) dX6_jumps_142 (by decide +kernel) ?_
        refine u_callSv [.int (nI q), .int (nI 4)] [.ref (G (b + 1))] 2 (c_X6_of lu Dg E N G shp (mk7 σ b f0 g7 f2 f3 f4 f5 f6) q 4) gX6_jumps_X6_of rfl rfl rfl (by decide +kernel) rfl ⟨Nat.le_of_ble_eq_true rfl, Nat.le_of_ble_eq_true rfl⟩ ⟨Nat.le_of_ble_eq_true rfl, Nat.le_of_ble_eq_true rfl⟩ (Nat.le_of_ble_eq_true rfl) rfl dX6_jumps_143 ?_
        refine v_dup2 dX6_jumps_146 rfl rfl ?_
        refine m_ld1 (58 + 10 * q + 4) hM (rfl) (by omega) dX6_jumps_147 ?_
        refine v_aload_n 6 dX6_jumps_148 rfl rfl ?_
        refine u_getr (k := 1) (C := RX6) (T := TX6) (NF := 13) hM.n hM.s rfl rfl inX6_jumps_X6 (by decide) (by decide +kernel) rfl dX6_jumps_149 ?_
        refine v_bipush (nI 8) dX6_jumps_152 (by decide +kernel) ?_
        refine m_ld1 8 hM (rfl) (by omega) dX6_jumps_154 ?_
        refine v_iadd dX6_jumps_155 ?_
        refine m_st1 (58 + 10 * q + 4) hM (rfl) (by omega) dX6_jumps_156 ?_
        generalize hg9 : upd g7 (58 + 10 * q + 4) ((g7 (58 + 10 * q + 4)) + (g7 8)) = g9
        refine v_aload_n 6 dX6_jumps_157 rfl rfl ?_
        refine u_getr (k := 1) (C := RX6) (T := TX6) (NF := 13) hM.n hM.s rfl rfl inX6_jumps_X6 (by decide) (by decide +kernel) rfl dX6_jumps_158 ?_
        refine v_iconst (nI 5) dX6_jumps_161 (by decide +kernel) ?_
        refine v_dup2 dX6_jumps_162 rfl rfl ?_
        refine m_ld1 5 hM (rfl) (by omega) dX6_jumps_163 ?_
        refine v_aload_n 6 dX6_jumps_164 rfl rfl ?_
        refine u_getr (k := 1) (C := RX6) (T := TX6) (NF := 13) hM.n hM.s rfl rfl inX6_jumps_X6 (by decide) (by decide +kernel) rfl dX6_jumps_165 ?_
        refine v_bipush (nI 8) dX6_jumps_168 (by decide +kernel) ?_
        refine m_ld1 8 hM (rfl) (by omega) dX6_jumps_170 ?_
        refine v_iadd dX6_jumps_171 ?_
        refine m_st1 5 hM (rfl) (by omega) dX6_jumps_172 ?_
        generalize hg10 : upd g9 5 ((g9 5) + (g9 8)) = g10
        refine v_goto 196 dX6_jumps_173 rfl ?_
        refine v_σ (mk7 σ b f0 (jTo f1 (22 + 12 * liN f1 p) (plc f1 p) p (k + 1)) f2 f3 f4 f5 f6) (congrArg (fun z9 => mk7 σ b f0 z9 f2 f3 f4 f5 f6) ((by rw [jTo]; simp only [jst]; rw [← hqe, ic_t (by subst hg5; subst hg6; subst hg7; subst hg9; subst hg10; exact h133)]; subst hg5; subst hg6; subst hg7; subst hg9; subst hg10; rfl))) ?_
        refine v_iincN 1 [(5, .int (nI (k + 1))), (6, .int (nI q)), (4, .int (nI (jsteps f1 p))), (3, .int (nI (plc f1 p))), (2, .int (nI (22 + 12 * liN f1 p))), (1, .int (nI p)), (0, .ref (G b))] dX6_jumps_196 rfl (by decide) rfl ?_
        refine v_goto 50 dX6_jumps_199 rfl ?_
        refine v_loc [0, 2, 3, 4, 5, 6] [(5, .int (nI (k + 1))), (4, .int (nI (jsteps f1 p))), (3, .int (nI (plc f1 p))), (2, .int (nI (22 + 12 * liN f1 p))), (1, .int (nI p)), (0, .ref (G b))] rfl ?_
        exact ih _ (k + 1) (show n - 1 < n by omega) (by omega)
  · skip
    refine v_aload_n 2 dX6_jumps_24 rfl rfl ?_
    refine u_getr (k := 1) (C := RX6) (T := TX6) (NF := 13) hM.n hM.s rfl rfl inX6_jumps_X6 (by decide) (by decide +kernel) rfl dX6_jumps_25 ?_
    refine v_bipush (nI 9) dX6_jumps_28 (by decide +kernel) ?_
    refine m_ld1 9 hM (rfl) (by omega) dX6_jumps_30 ?_
    refine v_topi (nI (tn (f1 9))) (hI.jump) ?_
    refine v_icmp_geN 38 (by omega) (by omega) dX6_jumps_31 rfl (fun h31 => ?_) (fun h31 => ?_)
    · skip
      refine v_aload_n 2 dX6_jumps_38 rfl rfl ?_
      refine u_getr (k := 1) (C := RX6) (T := TX6) (NF := 13) hM.n hM.s rfl rfl inX6_jumps_X6 (by decide) (by decide +kernel) rfl dX6_jumps_39 ?_
      refine v_bipush (nI 9) dX6_jumps_42 (by decide +kernel) ?_
      refine m_ld1 9 hM (rfl) (by omega) dX6_jumps_44 ?_
      refine v_topi (nI (tn (f1 9))) (hI.jump) ?_
      refine v_topi (nI (jsteps f1 p)) (congrArg nI (by unfold jsteps; omega)) ?_
      exact hj
    · skip
      refine v_iload_n 0 dX6_jumps_34 rfl rfl ?_
      refine v_goto 45 dX6_jumps_35 rfl ?_
      refine v_topi (nI (jsteps f1 p)) (congrArg nI (by unfold jsteps; omega)) ?_
      exact hj
