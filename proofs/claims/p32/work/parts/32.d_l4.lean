theorem Wb.cong {T : Nat} {B : Int} {σ τ : Nat → Nat → Int32} {c : Nat → Int32} {og rg : Nat} (h : Wb T B σ c og rg) (e : ∀ n, n < 782 → τ n = σ n) : Wb T B τ c og rg := by
  obtain ⟨hO, h5, hI, hE, hJ, h6⟩ := h
  exact ⟨hO.cong (fun n h1 h2 => e n (by omega)), by rw [e 5 (by omega)]; exact h5, hI, hE, by rw [e 781 (by omega)]; exact hJ, h6⟩
theorem Wb.mono {T U : Nat} {A B : Int} {σ : Nat → Nat → Int32} {c : Nat → Int32} {og rg : Nat} (h : Wb T A σ c og rg) (hT : T ≤ U) (hU : U ≤ 900000) (hA : A ≤ B) (hB : B ≤ 50000000) : Wb U B σ c og rg := by
  obtain ⟨hO, h5, hI, hE, hJ, h6, h7, h8⟩ := h
  exact ⟨hO, h5, hI.mono hT (by omega), hE.mono hA, hJ, hU, by omega, hB⟩
theorem Wb.kp {T : Nat} {B : Int} {σ σ' : Nat → Nat → Int32} {c : Nat → Int32} {og rg o r : Nat} (h : Wb T B σ c og rg) (hO : HistOk σ' o r) (e5 : σ' 5 = σ 5) (e1 : σ' 781 = σ 781) : Wb T B σ' c o r := by
  obtain ⟨-, h5, hI, hE, hJ, h6⟩ := h
  exact ⟨hO, by rw [e5]; exact h5, hI, hE, by rw [e1]; exact hJ, h6⟩
theorem cpA_hs {σ : Nat → Nat → Int32} {c : Nat → Int32} {a b m : Nat} (ha : 44 ≤ a) (hb : 44 ≤ b) : cpA (hs σ 1 c) a b m = hs (cpA σ a b m) 1 c := by
  funext n
  unfold cpA
  have ea : hs σ 1 c a = σ a := hs_out (by omega)
  have eb : hs σ 1 c b = σ b := hs_out (by omega)
  rw [ea, eb]
  by_cases e : n = b
  · rw [e, va_up_self, hs_out (by omega), va_up_self]
  · rw [va_up_ne _ _ e]
    by_cases h2 : n < 1 ∨ (1 + 2 ≤ n ∧ n < 1 + 7) ∨ 1 + 43 ≤ n
    · rw [hs_out h2, hs_out h2, va_up_ne _ _ e]
    · exact hs_cell h2
theorem cpA_out {σ : Nat → Nat → Int32} {a b m n : Nat} (h : n ≠ b) : cpA σ a b m n = σ n := va_up_ne _ _ h
theorem cpA_at {σ : Nat → Nat → Int32} {a b m k : Nat} (h : k < m) : cpA σ a b m b k = σ a k := by
  unfold cpA; rw [va_up_self]; unfold cpN; rw [if_pos h]
theorem lg_self (x : Int64) : lg_cmp x x = 0 := by
  unfold lg_cmp
  rw [if_neg (show ¬ x > x from Int64.lt_irrefl), if_pos rfl]
def lpL (G : Nat → Nat) (b e : Nat) : List (Nat × Value) := [(4, .int (nI e)), (3, .ref (G 782)), (2, .ref (G 781)), (1, .ref (G 0)), (0, .ref b)]
section LAW9
variable {p_ : Program} {lu : Launch} {e_ : Env} {s_ : State} {m_ : MethodId} {args_ : Array Value} {below_ : List Frame} {meth_ : Method} {c_ : Code} {Q_ : State → Prop} {Dg : va_G} {E : Nat → ClassId} {A_ : Nat → Prop} {ret_ : Option FieldType} {N : Nat} {G : Nat → Nat} {shp : Nat → (Nat → Int32) → va_E} {σ : Nat → Nat → Int32} {c : Nat → Int32} {T og rg e b : Nat} {B : Int}
set_option maxHeartbeats 4000000 in
set_option maxRecDepth 100000 in
/-- a round, from the exchange on -/
theorem law_c (hS : StoodS E G shp N) (h781 : 781 < N ∧ shp 781 = ArS E 0 30) (h782 : 782 < N ∧ shp 782 = ArS E 0 30) (hW : Wb T B σ c og rg) (v : Int32) (k : ∀ (σ' : Nat → Nat → Int32) (o r : Nat), Wb T B σ' c o r → V p_ lu e_ room_1 s_ m_ args_ below_ meth_ c_ Q_ Dg E A_ cL_law 12 RL ret_ wsL_law N G 783 7300 (φ shp (hs σ' 1 c)) 21 (lpL G b (e + 1)) []) :
    V p_ lu e_ room_1 s_ m_ args_ below_ meth_ c_ Q_ Dg E A_ cL_law 12 RL ret_ wsL_law N G 783 7300 (φ shp (hs σ 1 c)) 148 [(9, .int (nI (tn (c 2)))), (5, .int v), (4, .int (nI e)), (3, .ref (G 782)), (2, .ref (G 781)), (1, .ref (G 0)), (0, .ref b)] [] := by
  have hW9 := hW
  obtain ⟨hO, h5n, hI, hE, hJ, hT9, hB0, hB9⟩ := hW
  have hnp30 := hI.np30
  refine v_iload 0 dL_law_148 rfl ?_
  refine v_if_neN 157 (by omega) dL_law_150 rfl (fun h150 => ?_) (fun h150 => ?_)
  · skip
    refine v_iload 1 dL_law_157 rfl ?_
    refine v_bipush (nI 13) dL_law_159 (by decide +kernel) ?_
    refine v_ishr dL_law_161 ?_
    refine v_iload 0 dL_law_162 rfl ?_
    refine u_callSv [.int (v >>> (nI 13 &&& 31)), .int (nI (tn (c 2)))] [] 2 (c_L_low lu Dg E N G shp (hs σ 1 c) (v >>> (nI 13 &&& 31)) (m := tn (c 2)) (by omega) (by omega)) gL_law_L_low rfl rfl rfl (by decide +kernel) rfl ⟨Nat.le_of_ble_eq_true rfl, Nat.le_of_ble_eq_true rfl⟩ ⟨Nat.le_of_ble_eq_true rfl, Nat.le_of_ble_eq_true rfl⟩ (Nat.le_of_ble_eq_true rfl) rfl dL_law_164 ?_
    obtain ⟨oz, hoz⟩ : ∃ oz, oz = lowN (v >>> (nI 13 &&& 31)) (tn (c 2)) := ⟨_, rfl⟩
    refine v_topi (nI oz) (congrArg nI hoz.symm) ?_
    have hozl : oz < tn (c 2) := by rw [hoz]; exact lowN_lt (by omega)
    refine v_istore [(10, .int (nI oz)), (9, .int (nI (tn (c 2)))), (5, .int v), (4, .int (nI e)), (3, .ref (G 782)), (2, .ref (G 781)), (1, .ref (G 0)), (0, .ref b)] dL_law_167 (by decide) rfl ?_
    refine v_iload 1 dL_law_169 rfl ?_
    refine v_if_neN 178 (by omega) dL_law_171 rfl (fun h171 => ?_) (fun h171 => ?_)
    · skip
      refine v_iload 2 dL_law_178 rfl ?_
      refine v_bipush (nI 17) dL_law_180 (by decide +kernel) ?_
      refine v_ishr dL_law_182 ?_
      refine v_iload 1 dL_law_183 rfl ?_
      refine u_callSv [.int (v >>> (nI 17 &&& 31)), .int (nI (tn (c 2)))] [] 2 (c_L_low lu Dg E N G shp (hs σ 1 c) (v >>> (nI 17 &&& 31)) (m := tn (c 2)) (by omega) (by omega)) gL_law_L_low rfl rfl rfl (by decide +kernel) rfl ⟨Nat.le_of_ble_eq_true rfl, Nat.le_of_ble_eq_true rfl⟩ ⟨Nat.le_of_ble_eq_true rfl, Nat.le_of_ble_eq_true rfl⟩ (Nat.le_of_ble_eq_true rfl) rfl dL_law_185 ?_
      obtain ⟨wz, hwz⟩ : ∃ wz, wz = lowN (v >>> (nI 17 &&& 31)) (tn (c 2)) := ⟨_, rfl⟩
      refine v_topi (nI wz) (congrArg nI hwz.symm) ?_
      have hwzl : wz < tn (c 2) := by rw [hwz]; exact lowN_lt (by omega)
      refine v_istore [(11, .int (nI wz)), (10, .int (nI oz)), (9, .int (nI (tn (c 2)))), (5, .int v), (4, .int (nI e)), (3, .ref (G 782)), (2, .ref (G 781)), (1, .ref (G 0)), (0, .ref b)] dL_law_188 (by decide) rfl ?_
      refine v_iload 2 dL_law_190 rfl ?_
      refine v_if_leN 219 (by omega) dL_law_192 rfl (fun h192 => ?_) (fun h192 => ?_)
      · skip
        omega
      · skip
        refine v_aload_n 7 dL_law_195 rfl rfl ?_
        refine v_iload 1 dL_law_196 rfl ?_
        refine v_iload 0 dL_law_198 rfl ?_
        refine u_callSv [.ref (G 0), .int (nI oz), .int (nI wz)] [] 3 (c_L_mayExchange lu Dg E N G shp σ hS c hI (pz := oz) (qz := wz) (by omega) (by omega)) gL_law_L_mayExchange rfl rfl rfl (by decide +kernel) rfl ⟨Nat.le_of_ble_eq_true rfl, Nat.le_of_ble_eq_true rfl⟩ ⟨Nat.le_of_ble_eq_true rfl, Nat.le_of_ble_eq_true rfl⟩ (Nat.le_of_ble_eq_true rfl) rfl dL_law_200 ?_
        refine v_if_eqB 219 dL_law_203 rfl (fun h203 => ?_) (fun h203 => ?_)
        · skip
          refine v_iincN 4 [(4, .int (nI (e + 1))), (11, .int (nI wz)), (10, .int (nI oz)), (9, .int (nI (tn (c 2)))), (5, .int v), (3, .ref (G 782)), (2, .ref (G 781)), (1, .ref (G 0)), (0, .ref b)] dL_law_219 rfl (by decide) rfl ?_
          refine v_goto 21 dL_law_222 rfl ?_
          refine v_loc [0, 5, 6, 7, 8] [(4, .int (nI (e + 1))), (3, .ref (G 782)), (2, .ref (G 781)), (1, .ref (G 0)), (0, .ref b)] rfl ?_
          exact k _ _ _ hW9
        · skip
          refine v_aload_n 7 dL_law_206 rfl rfl ?_
          refine v_iload 1 dL_law_207 rfl ?_
          refine v_iload 0 dL_law_209 rfl ?_
          refine u_callSx [.ref (G 0), .int (nI oz), .int (nI wz)] [] 3 (c_L_isGainSo lu Dg E N G shp σ hS c hW9 (pz := oz) (qz := wz) h203.1.1 h203.2.1.1 (MayX.of hE hI (by omega) h203.1.1 h203.2.1.1 h203.1.2 h203.2.1.2 h203.2.2.1 h203.2.2.2.1 h203.2.2.2.2)) gL_law_L_isGainSo rfl rfl rfl (by decide +kernel) rfl ⟨Nat.le_of_ble_eq_true rfl, Nat.le_of_ble_eq_true rfl⟩ ⟨Nat.le_of_ble_eq_true rfl, Nat.le_of_ble_eq_true rfl⟩ (Nat.le_of_ble_eq_true rfl) rfl dL_law_211 (fun v9 τ9 hp9 => ?_)
          obtain ⟨hv9, σ7, o7, r7, hτ9, hO7, h57, h71, h72⟩ := hp9
          subst hv9; subst hτ9
          refine v_st (st' := [.int (nI 1)]) rfl ?_
          have hW7 := hW9.kp hO7 h57 h71
          refine v_if_neN 219 (by omega) dL_law_214 rfl (fun h214 => ?_) (fun h214 => ?_)
          · skip
            refine v_iincN 4 [(4, .int (nI (e + 1))), (11, .int (nI wz)), (10, .int (nI oz)), (9, .int (nI (tn (c 2)))), (5, .int v), (3, .ref (G 782)), (2, .ref (G 781)), (1, .ref (G 0)), (0, .ref b)] dL_law_219 rfl (by decide) rfl ?_
            refine v_goto 21 dL_law_222 rfl ?_
            refine v_loc [0, 5, 6, 7, 8] [(4, .int (nI (e + 1))), (3, .ref (G 782)), (2, .ref (G 781)), (1, .ref (G 0)), (0, .ref b)] rfl ?_
            exact k _ _ _ hW7
          · skip
            omega
    · skip
      omega
  · skip
    refine v_iconst (nI 0) dL_law_153 (by decide +kernel) ?_
    refine v_goto 167 dL_law_154 rfl ?_
    refine v_istore [(10, .int (nI 0)), (9, .int (nI (tn (c 2)))), (5, .int v), (4, .int (nI e)), (3, .ref (G 782)), (2, .ref (G 781)), (1, .ref (G 0)), (0, .ref b)] dL_law_167 (by decide) rfl ?_
    refine v_iload 1 dL_law_169 rfl ?_
    refine v_if_neN 178 (by omega) dL_law_171 rfl (fun h171 => ?_) (fun h171 => ?_)
    · skip
      omega
    · skip
      refine v_iconst (nI 0) dL_law_174 (by decide +kernel) ?_
      refine v_goto 188 dL_law_175 rfl ?_
      refine v_istore [(11, .int (nI 0)), (10, .int (nI 0)), (9, .int (nI (tn (c 2)))), (5, .int v), (4, .int (nI e)), (3, .ref (G 782)), (2, .ref (G 781)), (1, .ref (G 0)), (0, .ref b)] dL_law_188 (by decide) rfl ?_
      refine v_iload 2 dL_law_190 rfl ?_
      refine v_if_leN 219 (by omega) dL_law_192 rfl (fun h192 => ?_) (fun h192 => ?_)
      · skip
        refine v_iincN 4 [(4, .int (nI (e + 1))), (11, .int (nI 0)), (10, .int (nI 0)), (9, .int (nI (tn (c 2)))), (5, .int v), (3, .ref (G 782)), (2, .ref (G 781)), (1, .ref (G 0)), (0, .ref b)] dL_law_219 rfl (by decide) rfl ?_
        refine v_goto 21 dL_law_222 rfl ?_
        refine v_loc [0, 5, 6, 7, 8] [(4, .int (nI (e + 1))), (3, .ref (G 782)), (2, .ref (G 781)), (1, .ref (G 0)), (0, .ref b)] rfl ?_
        exact k _ _ _ hW9
      · skip
        omega
set_option maxHeartbeats 4000000 in
set_option maxRecDepth 100000 in
/-- a round, from the sums on -/
theorem law_b (hS : StoodS E G shp N) (h781 : 781 < N ∧ shp 781 = ArS E 0 30) (h782 : 782 < N ∧ shp 782 = ArS E 0 30) (hW : Wb T B σ c og rg) (v : Int32) (k : ∀ (σ' : Nat → Nat → Int32) (o r : Nat), Wb T B σ' c o r → V p_ lu e_ room_1 s_ m_ args_ below_ meth_ c_ Q_ Dg E A_ cL_law 12 RL ret_ wsL_law N G 783 7300 (φ shp (hs σ' 1 c)) 148 [(9, .int (nI (tn (c 2)))), (5, .int v), (4, .int (nI e)), (3, .ref (G 782)), (2, .ref (G 781)), (1, .ref (G 0)), (0, .ref b)] []) :
    V p_ lu e_ room_1 s_ m_ args_ below_ meth_ c_ Q_ Dg E A_ cL_law 12 RL ret_ wsL_law N G 783 7300 (φ shp (hs σ 1 c)) 93 [(5, .int v), (4, .int (nI e)), (3, .ref (G 782)), (2, .ref (G 781)), (1, .ref (G 0)), (0, .ref b)] [] := by
  have hW9 := hW
  obtain ⟨hO, h5n, hI, hE, hJ, hT9, hB0, hB9⟩ := hW
  have hnp30 := hI.np30
  refine v_aload_n 4 dL_law_93 rfl rfl ?_
  refine v_iconst (nI 2) dL_law_94 (by decide +kernel) ?_
  refine u_callVv [.int (nI 2)] [] 1 (c_X5_about_0_2 lu Dg E N G shp σ hS c hI) (ci := 5) (C := RX5) (T := TX5) (NF := 6) hS.o.1 hS.o.2 rfl gL_law_X5_about rfl rfl rfl (by decide +kernel) rfl ⟨Nat.le_of_ble_eq_true rfl, Nat.le_of_ble_eq_true rfl⟩ ⟨Nat.le_of_ble_eq_true rfl, Nat.le_of_ble_eq_true rfl⟩ (Nat.le_of_ble_eq_true rfl) rfl dL_law_95 ?_
  refine v_topi (nI (tn (c 2))) (hI.np) ?_
  refine v_istore [(9, .int (nI (tn (c 2)))), (5, .int v), (4, .int (nI e)), (3, .ref (G 782)), (2, .ref (G 781)), (1, .ref (G 0)), (0, .ref b)] dL_law_98 (by decide) rfl ?_
  refine v_aload_n 5 dL_law_100 rfl rfl ?_
  refine u_callSv [.ref (G 0)] [] 1 (c_L_areSumsSo lu Dg E N G shp σ hS c hW9) gL_law_L_areSumsSo rfl rfl rfl (by decide +kernel) rfl ⟨Nat.le_of_ble_eq_true rfl, Nat.le_of_ble_eq_true rfl⟩ ⟨Nat.le_of_ble_eq_true rfl, Nat.le_of_ble_eq_true rfl⟩ (Nat.le_of_ble_eq_true rfl) rfl dL_law_101 ?_
  refine v_if_eqN 146 (by omega) dL_law_104 rfl (fun h104 => ?_) (fun h104 => ?_)
  · skip
    omega
  · skip
    refine v_iload 0 dL_law_107 rfl ?_
    refine v_if_leN 148 (by omega) dL_law_109 rfl (fun h109 => ?_) (fun h109 => ?_)
    · skip
      refine v_loc [0, 1, 2, 3, 4, 5, 6] [(9, .int (nI (tn (c 2)))), (5, .int v), (4, .int (nI e)), (3, .ref (G 782)), (2, .ref (G 781)), (1, .ref (G 0)), (0, .ref b)] rfl ?_
      exact k _ _ _ hW9
    · skip
      refine v_aload_n 5 dL_law_112 rfl rfl ?_
      refine v_iload 1 dL_law_113 rfl ?_
      refine v_bipush (nI 11) dL_law_115 (by decide +kernel) ?_
      refine v_ishr dL_law_117 ?_
      refine v_iload 0 dL_law_118 rfl ?_
      refine u_callSv [.int (v >>> (nI 11 &&& 31)), .int (nI (tn (c 2)))] [.ref (G 0)] 2 (c_L_low lu Dg E N G shp (hs σ 1 c) (v >>> (nI 11 &&& 31)) (m := tn (c 2)) (by omega) (by omega)) gL_law_L_low rfl rfl rfl (by decide +kernel) rfl ⟨Nat.le_of_ble_eq_true rfl, Nat.le_of_ble_eq_true rfl⟩ ⟨Nat.le_of_ble_eq_true rfl, Nat.le_of_ble_eq_true rfl⟩ (Nat.le_of_ble_eq_true rfl) rfl dL_law_120 ?_
      obtain ⟨dz, hdz⟩ : ∃ dz, dz = lowN (v >>> (nI 11 &&& 31)) (tn (c 2)) := ⟨_, rfl⟩
      refine v_topi (nI dz) (congrArg nI hdz.symm) ?_
      have hdzl : dz < tn (c 2) := by rw [hdz]; exact lowN_lt (by omega)
      refine u_callSv [.ref (G 0), .int (nI dz)] [] 2 (c_L_isStanding lu Dg E N G shp σ hS c hI (pz := dz) (by omega)) gL_law_L_isStanding rfl rfl rfl (by decide +kernel) rfl ⟨Nat.le_of_ble_eq_true rfl, Nat.le_of_ble_eq_true rfl⟩ ⟨Nat.le_of_ble_eq_true rfl, Nat.le_of_ble_eq_true rfl⟩ (Nat.le_of_ble_eq_true rfl) rfl dL_law_123 ?_
      refine v_if_eqB 148 dL_law_126 rfl (fun h126 => ?_) (fun h126 => ?_)
      · skip
        refine v_loc [0, 1, 2, 3, 4, 5, 6] [(9, .int (nI (tn (c 2)))), (5, .int v), (4, .int (nI e)), (3, .ref (G 782)), (2, .ref (G 781)), (1, .ref (G 0)), (0, .ref b)] rfl ?_
        exact k _ _ _ hW9
      · skip
        refine v_aload_n 5 dL_law_129 rfl rfl ?_
        refine v_iload 1 dL_law_130 rfl ?_
        refine v_bipush (nI 11) dL_law_132 (by decide +kernel) ?_
        refine v_ishr dL_law_134 ?_
        refine v_iload 0 dL_law_135 rfl ?_
        refine u_callSv [.int (v >>> (nI 11 &&& 31)), .int (nI (tn (c 2)))] [.ref (G 0)] 2 (c_L_low lu Dg E N G shp (hs σ 1 c) (v >>> (nI 11 &&& 31)) (m := tn (c 2)) (by omega) (by omega)) gL_law_L_low rfl rfl rfl (by decide +kernel) rfl ⟨Nat.le_of_ble_eq_true rfl, Nat.le_of_ble_eq_true rfl⟩ ⟨Nat.le_of_ble_eq_true rfl, Nat.le_of_ble_eq_true rfl⟩ (Nat.le_of_ble_eq_true rfl) rfl dL_law_137 ?_
        refine v_topi (nI dz) (congrArg nI hdz.symm) ?_
        refine u_callSx [.ref (G 0), .int (nI dz)] [] 2 (c_L_isForetold lu Dg E N G shp σ hS c hW9 (pz := dz) h126.1 h126.2) gL_law_L_isForetold rfl rfl rfl (by decide +kernel) rfl ⟨Nat.le_of_ble_eq_true rfl, Nat.le_of_ble_eq_true rfl⟩ ⟨Nat.le_of_ble_eq_true rfl, Nat.le_of_ble_eq_true rfl⟩ (Nat.le_of_ble_eq_true rfl) rfl dL_law_140 (fun v9 τ9 hp9 => ?_)
        obtain ⟨hv9, σ7, o7, r7, hτ9, hO7, h57, h71, h72⟩ := hp9
        subst hv9; subst hτ9
        refine v_st (st' := [.int (nI 1)]) rfl ?_
        have hW7 := hW9.kp hO7 h57 h71
        refine v_if_neN 148 (by omega) dL_law_143 rfl (fun h143 => ?_) (fun h143 => ?_)
        · skip
          refine v_loc [0, 1, 2, 3, 4, 5, 6] [(9, .int (nI (tn (c 2)))), (5, .int v), (4, .int (nI e)), (3, .ref (G 782)), (2, .ref (G 781)), (1, .ref (G 0)), (0, .ref b)] rfl ?_
          exact k _ _ _ hW7
        · skip
          omega
set_option maxHeartbeats 4000000 in
set_option maxRecDepth 100000 in
/-- a round, from its head on -/
theorem law_a (hS : StoodS E G shp N) (h781 : 781 < N ∧ shp 781 = ArS E 0 30) (h782 : 782 < N ∧ shp 782 = ArS E 0 30) (hB : ScrB b A_ s_) (hW : Wb T B σ c og rg) (hT1 : T + 9 ≤ 900000) (hB1 : B + 13500 ≤ 50000000) (he : e ≤ 36) (hend : ∀ (Φ : Nat → va_E) (loc : List (Nat × Value)), V p_ lu e_ room_1 s_ m_ args_ below_ meth_ c_ Q_ Dg E A_ cL_law 12 RL ret_ wsL_law N G 783 7300 Φ 226 loc [.int (nI 1)]) (k : ∀ (v : Int32) (σ' : Nat → Nat → Int32) (c' : Nat → Int32) (o r : Nat), e < 36 → Wb (T + 9) (B + 13500) σ' c' o r → V p_ lu e_ room_1 s_ m_ args_ below_ meth_ c_ Q_ Dg E A_ cL_law 12 RL ret_ wsL_law N G 783 7300 (φ shp (hs σ' 1 c')) 93 [(5, .int v), (4, .int (nI e)), (3, .ref (G 782)), (2, .ref (G 781)), (1, .ref (G 0)), (0, .ref b)] []) :
    V p_ lu e_ room_1 s_ m_ args_ below_ meth_ c_ Q_ Dg E A_ cL_law 12 RL ret_ wsL_law N G 783 7300 (φ shp (hs σ 1 c)) 21 [(4, .int (nI e)), (3, .ref (G 782)), (2, .ref (G 781)), (1, .ref (G 0)), (0, .ref b)] [] := by
  have hW9 := hW
  obtain ⟨hO, h5n, hI, hE, hJ, hT9, hB0, hB9⟩ := hW
  have hnp30 := hI.np30
  refine v_iload 0 dL_law_21 rfl ?_
  refine v_bipush (nI 36) dL_law_23 (by decide +kernel) ?_
  refine v_icmp_geN 225 (by omega) (by omega) dL_law_25 rfl (fun h25 => ?_) (fun h25 => ?_)
  · skip
    refine v_iconst (nI 1) dL_law_225 (by decide +kernel) ?_
    exact hend _ _
  · skip
    refine v_aload_n 4 dL_law_28 rfl rfl ?_
    refine v_iload 0 dL_law_29 rfl ?_
    refine v_callSB (As := [.ref b, .int (nI e)]) (rest := []) hB (c_L_cell lu Dg E N G (φ shp (hs σ 1 c)) b (k := e) (by omega)) gL_law_L_cell rfl rfl rfl ⟨by decide +kernel, by decide +kernel, Eq.trans (b := some 2) (by decide +kernel) rfl⟩ ⟨Nat.le_of_ble_eq_true rfl, Nat.le_of_ble_eq_true rfl⟩ ⟨Nat.le_of_ble_eq_true rfl, Nat.le_of_ble_eq_true rfl⟩ (Nat.le_of_ble_eq_true rfl) rfl dL_law_31 (fun v9 Φ9 hp9 => ?_)
    obtain ⟨⟨v, hv9⟩, hΦ9⟩ := hp9
    subst hv9; subst hΦ9
    refine v_st (st' := [.int v]) rfl ?_
    refine v_istore [(5, .int v), (4, .int (nI e)), (3, .ref (G 782)), (2, .ref (G 781)), (1, .ref (G 0)), (0, .ref b)] dL_law_34 (by decide) rfl ?_
    refine v_aload_n 3 dL_law_36 rfl rfl ?_
    refine v_aload_n 2 dL_law_37 rfl rfl ?_
    refine u_callSn [.ref (G 781), .ref (G 782)] [] 2 (c_L_copy lu Dg E N G shp (hs σ 1 c) (a := 781) (b := 782) (by decide) h781 h782) gL_law_L_copy rfl rfl rfl (by decide +kernel) rfl ⟨Nat.le_of_ble_eq_true rfl, Nat.le_of_ble_eq_true rfl⟩ ⟨Nat.le_of_ble_eq_true rfl, Nat.le_of_ble_eq_true rfl⟩ (Nat.le_of_ble_eq_true rfl) rfl dL_law_38 ?_
    obtain ⟨σ1, hσ1⟩ : ∃ σ1, σ1 = cpA σ 781 782 30 := ⟨_, rfl⟩
    refine v_σ (hs σ1 1 c) (by rw [hσ1]; exact cpA_hs (by omega) (by omega)) ?_
    have hW1 : Wb T B σ1 c og rg := hW9.cong (fun n hn => by rw [hσ1]; exact cpA_out (by omega))
    have hk1 : ∀ k, k < 30 → σ1 782 k = σ 781 k := fun k hk => by rw [hσ1]; exact cpA_at hk
    have h51 := hW1.2.1
    refine v_aload_n 4 dL_law_41 rfl rfl ?_
    refine u_callSv [.ref (G 0)] [] 1 (c_L_tale lu Dg E N G shp σ1 hS c hI h51) gL_law_L_tale rfl rfl rfl (by decide +kernel) rfl ⟨Nat.le_of_ble_eq_true rfl, Nat.le_of_ble_eq_true rfl⟩ ⟨Nat.le_of_ble_eq_true rfl, Nat.le_of_ble_eq_true rfl⟩ (Nat.le_of_ble_eq_true rfl) rfl dL_law_42 ?_
    refine v_lstore [(6, .long (taleV c)), (5, .int v), (4, .int (nI e)), (3, .ref (G 782)), (2, .ref (G 781)), (1, .ref (G 0)), (0, .ref b)] dL_law_45 (by decide) rfl ?_
    refine v_aload_n 5 dL_law_47 rfl rfl ?_
    refine v_aload_n 4 dL_law_48 rfl rfl ?_
    refine v_iload 1 dL_law_49 rfl ?_
    refine u_callSx [.ref (G 0), .ref (G 781), .int v] [] 3 (c_L_does lu Dg E N G shp σ1 hS c hW1 h781 v) gL_law_L_does rfl rfl rfl (by decide +kernel) rfl ⟨Nat.le_of_ble_eq_true rfl, Nat.le_of_ble_eq_true rfl⟩ ⟨Nat.le_of_ble_eq_true rfl, Nat.le_of_ble_eq_true rfl⟩ (Nat.le_of_ble_eq_true rfl) rfl dL_law_51 (fun v9 τ9 hp9 => ?_)
    obtain ⟨σ2, c2, o2, r2, k2, hv9, hk2, hτ9, hr2, hO2, hA2, h52, h72, hI2, hE2, hJ2⟩ := hp9
    subst hv9; subst hτ9
    refine v_st (st' := [.int (nI k2)]) rfl ?_
    refine v_istore [(8, .int (nI k2)), (6, .long (taleV c)), (5, .int v), (4, .int (nI e)), (3, .ref (G 782)), (2, .ref (G 781)), (1, .ref (G 0)), (0, .ref b)] dL_law_54 (by decide) rfl ?_
    refine v_iload 2 dL_law_56 rfl ?_
    refine v_bipush (nI 27) dL_law_58 (by decide +kernel) ?_
    refine v_ishr dL_law_60 ?_
    refine v_iconst (nI 3) dL_law_61 (by decide +kernel) ?_
    refine v_iand dL_law_62 ?_
    refine v_if_ne 93 dL_law_63 rfl (fun h63 => ?_) (fun h63 => ?_)
    · skip
      refine v_loc [2, 3, 4, 5, 6, 7] [(5, .int v), (4, .int (nI e)), (3, .ref (G 782)), (2, .ref (G 781)), (1, .ref (G 0)), (0, .ref b)] rfl ?_
      exact k v _ _ _ _ (by omega) ⟨hO2, h52, hI2, hE2, hJ2, hT1, by omega, hB1⟩
    · skip
      refine v_aload_n 6 dL_law_66 rfl rfl ?_
      refine u_callVv [] [] 0 (c_X5_undo_0 lu Dg E N G shp σ2 hS c2 c hO2.1.1 hO2.1.2 hO2.2.1.1 hr2 hA2) (ci := 5) (C := RX5) (T := TX5) (NF := 6) hS.o.1 hS.o.2 rfl gL_law_X5_undo rfl rfl rfl (by decide +kernel) rfl ⟨Nat.le_of_ble_eq_true rfl, Nat.le_of_ble_eq_true rfl⟩ ⟨Nat.le_of_ble_eq_true rfl, Nat.le_of_ble_eq_true rfl⟩ (Nat.le_of_ble_eq_true rfl) rfl dL_law_67 ?_
      have hO3 := undo_ok hO2
      refine v_pop dL_law_70 rfl ?_
      refine v_aload_n 4 dL_law_71 rfl rfl ?_
      refine v_aload_n 5 dL_law_72 rfl rfl ?_
      refine u_callSn [.ref (G 782), .ref (G 781)] [] 2 (c_L_copy lu Dg E N G shp (hs (st2 σ2 87 2 (nI r2)) 1 c) (a := 782) (b := 781) (by decide) h782 h781) gL_law_L_copy rfl rfl rfl (by decide +kernel) rfl ⟨Nat.le_of_ble_eq_true rfl, Nat.le_of_ble_eq_true rfl⟩ ⟨Nat.le_of_ble_eq_true rfl, Nat.le_of_ble_eq_true rfl⟩ (Nat.le_of_ble_eq_true rfl) rfl dL_law_73 ?_
      obtain ⟨σ4, hσ4⟩ : ∃ σ4, σ4 = cpA (st2 σ2 87 2 (nI r2)) 782 781 30 := ⟨_, rfl⟩
      refine v_σ (hs σ4 1 c) (by rw [hσ4]; exact cpA_hs (by omega) (by omega)) ?_
      have ho4 : ∀ n, n ≠ 781 → n ≠ 87 → σ4 n = σ2 n := fun n h1 h2 => by rw [hσ4]; exact (cpA_out h1).trans (st2_row _ h2 _ _)
      have h54 : σ4 5 3 = nI 0 := by rw [ho4 5 (by omega) (by omega)]; exact h52
      have hO4 : HistOk σ4 o2 r2 := hO3.cong (fun n h1 h2 => by rw [hσ4]; exact cpA_out (by omega))
      have hJ4 : Jl c (σ4 781) := hJ.cong (fun k hk => by
        rw [hσ4, cpA_at hk, st2_row _ (by omega), h72]; exact hk1 k hk)
      have hW4 : Wb (T + 9) (B + 13500) σ4 c o2 r2 := ⟨hO4, h54, hI.mono (by omega) (by omega), hE.mono (by omega), hJ4, hT1, by omega, hB1⟩
      refine v_aload_n 6 dL_law_76 rfl rfl ?_
      refine u_callSv [.ref (G 0)] [] 1 (c_L_tale lu Dg E N G shp σ4 hS c hI h54) gL_law_L_tale rfl rfl rfl (by decide +kernel) rfl ⟨Nat.le_of_ble_eq_true rfl, Nat.le_of_ble_eq_true rfl⟩ ⟨Nat.le_of_ble_eq_true rfl, Nat.le_of_ble_eq_true rfl⟩ (Nat.le_of_ble_eq_true rfl) rfl dL_law_77 ?_
      refine v_lload 1 dL_law_80 rfl ?_
      refine v_lcmp dL_law_82 ?_
      refine v_if_ne 91 dL_law_83 rfl (fun h83 => ?_) (fun h83 => ?_)
      · skip
        exact absurd (lg_self _) h83
      · skip
        refine v_iload 0 dL_law_86 rfl ?_
        refine v_if_geN 93 (by omega) dL_law_88 rfl ?_
        refine v_loc [2, 3, 4, 5, 6, 7] [(5, .int v), (4, .int (nI e)), (3, .ref (G 782)), (2, .ref (G 781)), (1, .ref (G 0)), (0, .ref b)] rfl ?_
        exact k v _ _ _ _ (by omega) hW4
theorem law_loop (hS : StoodS E G shp N) (h781 : 781 < N ∧ shp 781 = ArS E 0 30) (h782 : 782 < N ∧ shp 782 = ArS E 0 30) (hB : ScrB b A_ s_) (hend : ∀ (Φ : Nat → va_E) (loc : List (Nat × Value)), V p_ lu e_ room_1 s_ m_ args_ below_ meth_ c_ Q_ Dg E A_ cL_law 12 RL ret_ wsL_law N G 783 7300 Φ 226 loc [.int (nI 1)]) : ∀ (n e : Nat) (σ : Nat → Nat → Int32) (c : Nat → Int32) (og rg : Nat), e + n = 36 → Wb (9 * e) (13500 * (e : Int)) σ c og rg → V p_ lu e_ room_1 s_ m_ args_ below_ meth_ c_ Q_ Dg E A_ cL_law 12 RL ret_ wsL_law N G 783 7300 (φ shp (hs σ 1 c)) 21 (lpL G b e) []
  | 0, e, σ, c, og, rg, hn, hW => law_a hS h781 h782 hB hW (by omega) (by omega) (by omega) hend (fun v σ' c' o r he _ => by omega)
  | n + 1, e, σ, c, og, rg, hn, hW => law_a hS h781 h782 hB hW (by omega) (by omega) (by omega) hend (fun v σ' c' o r he hW' =>
      law_b hS h781 h782 hW' v (fun σ2 o2 r2 hW2 => law_c hS h781 h782 hW2 v (fun σ3 o3 r3 hW3 =>
        law_loop hS h781 h782 hB hend n (e + 1) σ3 c' o3 r3 (by omega) (hW3.mono (by omega) (by omega) (by omega) (by omega)))))
end LAW9
