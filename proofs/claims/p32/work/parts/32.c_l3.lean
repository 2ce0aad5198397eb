theorem come_ok {T : Nat} {c : Nat → Int32} {lz kz : Nat} (hI : Inv T c) (hl : lz < tn (c 1)) (hk : kz < 3) (hp : tn (c 2) < 30) (hlen : tn (c (13 + lz)) < 12) : comeFl c (nI lz) (nI kz) = 0 := by
  have hnl3 := hI.nl3
  rw [comeFl_0, tn_nI (show lz < 2 ^ 31 by omega)]
  refine ⟨⟨lz, hl, rfl⟩, ⟨kz, hk, rfl⟩, fun z => ?_, fun z => ?_⟩
  · rw [z, tn_nI (by omega)] at hp; omega
  · rw [z, tn_nI (by omega)] at hlen; omega
theorem mg_ok {T : Nat} {c : Nat → Int32} {lz oz : Nat} (hI : Inv T c) (hl : lz < tn (c 1)) (ho : oz < tn (c 1)) (h : lz ≠ oz ∧ tn (c (13 + lz)) + tn (c (13 + oz)) ≤ 12) : mergeFl c (nI lz) (nI oz) = 0 := by
  have hnl3 := hI.nl3
  rw [mergeFl_0, tn_nI (show lz < 2 ^ 31 by omega), tn_nI (show oz < 2 ^ 31 by omega)]
  exact ⟨⟨⟨lz, hl, rfl⟩, ⟨oz, ho, rfl⟩⟩, fun z => h.1 ((nI_eq (by omega) (by omega)).mp z), h.2⟩
theorem wkN_1 (s : Nat → Int32) (y : Nat) : wkN s y ≤ 1 := by
  unfold wkN ic
  split
  · split
    · exact Nat.zero_le _
    · exact Nat.le_refl _
  · exact Nat.zero_le _
theorem workN_n (s : Nat → Int32) : ∀ n, workN s n ≤ n
  | 0 => Nat.le_refl _
  | n + 1 => by
    have h1 := workN_n s n
    have h2 := wkN_1 (workTo s n) n
    show workN s n + wkN (workTo s n) n ≤ n + 1
    omega
theorem goByN_le {T : Nat} {c : Nat → Int32} (hI : Inv T c) : ∀ {n : Nat}, T + n ≤ 1000000 → goByN c n ≤ 3 * n
  | 0, _ => Nat.zero_le _
  | n + 1, h => by
    have h1 := goByN_le hI (n := n) (by omega)
    have h2 := workN_n (min1 (goByS c n)) (tn (goByS c n 1))
    have h3 := (hI.goBy (n := n) (by omega)).nl3
    show goByN c n + workN (min1 (goByS c n)) (tn (goByS c n 1)) ≤ 3 * (n + 1)
    omega
set_option maxHeartbeats 4000000 in
set_option maxRecDepth 100000 in
/-- does -/
theorem c_L_does (lu : Launch) (Dg : va_G) (E : Nat → ClassId) (N : Nat) (G : Nat → Nat) (shp : Nat → (Nat → Int32) → va_E) (σ : Nat → Nat → Int32) (hS : StoodS E G shp N) (c : Nat → Int32) {T : Nat} {B : Int} {og rg : Nat} (hW : Wb T B σ c og rg) (h781 : 781 < N ∧ shp 781 = ArS E 0 30) (v : Int32)  : CX lu yL_does wsL_does { frames := 9, cells := 0, slots := 0, locals := 207 } Dg E N G shp (hs σ 1 c) [.ref (G 0), .ref (G 781), .int v] (Dn T B σ c) := by
  refine CX.of (cc := cL_does) (maxL := 9) (ret := (some .int)) (by decide) rfl (Nat.le_of_ble_eq_true rfl) ?_
  intro p_ e_ s_ m_ args_ below_ meth_ c_
  refine v_eq (pc' := 0) (st' := []) rfl rfl ?_
  refine v_loc [0, 1, 2] [(0, .ref (G 0)), (1, .ref (G 781)), (2, .int v)] rfl ?_
  have hW9 := hW
  obtain ⟨hO, h5n, hI, hE, hJ, hT9, hB0, hB9⟩ := hW
  have hnp30 := hI.np30
  have hnl3 := hI.nl3
  have hl1 := hE.1
  obtain ⟨nn, hnn⟩ : ∃ nn, nn = max 1 (tn (c 2)) := ⟨_, rfl⟩
  have hnn1 : 1 ≤ nn := by omega
  have hnn30 : nn ≤ 30 := by omega
  refine v_aload_n 0 dL_does_0 rfl rfl ?_
  refine v_iconst (nI 2) dL_does_1 (by decide +kernel) ?_
  refine u_callVv [.int (nI 2)] [] 1 (c_X5_about_0_2 lu Dg E N G shp σ hS c hI) (ci := 5) (C := RX5) (T := TX5) (NF := 6) hS.o.1 hS.o.2 rfl gL_does_X5_about rfl rfl rfl (by decide +kernel) rfl ⟨Nat.le_of_ble_eq_true rfl, Nat.le_of_ble_eq_true rfl⟩ ⟨Nat.le_of_ble_eq_true rfl, Nat.le_of_ble_eq_true rfl⟩ (Nat.le_of_ble_eq_true rfl) rfl dL_does_2 ?_
  refine v_topi (nI (tn (c 2))) (hI.np) ?_
  refine v_join (hs σ 1 c) 17 [(0, .ref (G 0)), (1, .ref (G 781)), (2, .int v)] [.int (nI nn)] ?_ (fun hj => ?_)
  · skip
    refine v_istore_n [(3, .int (nI nn)), (0, .ref (G 0)), (1, .ref (G 781)), (2, .int v)] dL_does_17 rfl (by decide) rfl ?_
    refine v_iload_n 3 dL_does_18 rfl rfl ?_
    refine v_iconst (nI 4) dL_does_19 (by decide +kernel) ?_
    refine v_ishr dL_does_20 ?_
    refine v_aload_n 1 dL_does_21 rfl rfl ?_
    refine v_iconst (nI 1) dL_does_22 (by decide +kernel) ?_
    refine u_callVv [.int (nI 1)] [.int (v >>> (nI 4 &&& 31))] 1 (c_X5_about_0_1 lu Dg E N G shp σ hS c hI) (ci := 5) (C := RX5) (T := TX5) (NF := 6) hS.o.1 hS.o.2 rfl gL_does_X5_about rfl rfl rfl (by decide +kernel) rfl ⟨Nat.le_of_ble_eq_true rfl, Nat.le_of_ble_eq_true rfl⟩ ⟨Nat.le_of_ble_eq_true rfl, Nat.le_of_ble_eq_true rfl⟩ (Nat.le_of_ble_eq_true rfl) rfl dL_does_23 ?_
    refine v_topi (nI (tn (c 1))) (hI.nl) ?_
    refine u_callSv [.int (v >>> (nI 4 &&& 31)), .int (nI (tn (c 1)))] [] 2 (c_L_low lu Dg E N G shp (hs σ 1 c) (v >>> (nI 4 &&& 31)) (m := tn (c 1)) (by omega) (by omega)) gL_does_L_low rfl rfl rfl (by decide +kernel) rfl ⟨Nat.le_of_ble_eq_true rfl, Nat.le_of_ble_eq_true rfl⟩ ⟨Nat.le_of_ble_eq_true rfl, Nat.le_of_ble_eq_true rfl⟩ (Nat.le_of_ble_eq_true rfl) rfl dL_does_26 ?_
    obtain ⟨lz, hlz⟩ : ∃ lz, lz = lowN (v >>> (nI 4 &&& 31)) (tn (c 1)) := ⟨_, rfl⟩
    refine v_topi (nI lz) (congrArg nI hlz.symm) ?_
    have hlzl : lz < tn (c 1) := by rw [hlz]; exact lowN_lt (by omega)
    refine v_istore [(4, .int (nI lz)), (3, .int (nI nn)), (0, .ref (G 0)), (1, .ref (G 781)), (2, .int v)] dL_does_29 (by decide) rfl ?_
    refine v_iload_n 4 dL_does_31 rfl rfl ?_
    refine v_iconst (nI 4) dL_does_32 (by decide +kernel) ?_
    refine v_ishr dL_does_33 ?_
    refine v_iload_n 1 dL_does_34 rfl rfl ?_
    refine u_callSv [.int (v >>> (nI 4 &&& 31)), .int (nI nn)] [] 2 (c_L_low lu Dg E N G shp (hs σ 1 c) (v >>> (nI 4 &&& 31)) (m := nn) (by omega) (by omega)) gL_does_L_low rfl rfl rfl (by decide +kernel) rfl ⟨Nat.le_of_ble_eq_true rfl, Nat.le_of_ble_eq_true rfl⟩ ⟨Nat.le_of_ble_eq_true rfl, Nat.le_of_ble_eq_true rfl⟩ (Nat.le_of_ble_eq_true rfl) rfl dL_does_35 ?_
    obtain ⟨pz, hpz⟩ : ∃ pz, pz = lowN (v >>> (nI 4 &&& 31)) nn := ⟨_, rfl⟩
    refine v_topi (nI pz) (congrArg nI hpz.symm) ?_
    have hpzl : pz < nn := by rw [hpz]; exact lowN_lt (by omega)
    refine v_istore [(5, .int (nI pz)), (4, .int (nI lz)), (3, .int (nI nn)), (0, .ref (G 0)), (1, .ref (G 781)), (2, .int v)] dL_does_38 (by decide) rfl ?_
    refine v_iload_n 5 dL_does_40 rfl rfl ?_
    refine v_bipush (nI 9) dL_does_41 (by decide +kernel) ?_
    refine v_ishr dL_does_43 ?_
    refine v_iload_n 2 dL_does_44 rfl rfl ?_
    refine u_callSv [.int (v >>> (nI 9 &&& 31)), .int (nI nn)] [] 2 (c_L_low lu Dg E N G shp (hs σ 1 c) (v >>> (nI 9 &&& 31)) (m := nn) (by omega) (by omega)) gL_does_L_low rfl rfl rfl (by decide +kernel) rfl ⟨Nat.le_of_ble_eq_true rfl, Nat.le_of_ble_eq_true rfl⟩ ⟨Nat.le_of_ble_eq_true rfl, Nat.le_of_ble_eq_true rfl⟩ (Nat.le_of_ble_eq_true rfl) rfl dL_does_45 ?_
    obtain ⟨qz, hqz⟩ : ∃ qz, qz = lowN (v >>> (nI 9 &&& 31)) nn := ⟨_, rfl⟩
    refine v_topi (nI qz) (congrArg nI hqz.symm) ?_
    have hqzl : qz < nn := by rw [hqz]; exact lowN_lt (by omega)
    refine v_istore [(6, .int (nI qz)), (5, .int (nI pz)), (4, .int (nI lz)), (3, .int (nI nn)), (0, .ref (G 0)), (1, .ref (G 781)), (2, .int v)] dL_does_48 (by decide) rfl ?_
    refine v_iload_n 6 dL_does_50 rfl rfl ?_
    refine v_bipush (nI 15) dL_does_51 (by decide +kernel) ?_
    refine v_iand dL_does_53 ?_
    refine v_topi (nI (v.toBitVec.toNat % 2 ^ 4)) (pk_and v 4 (by decide +kernel)) ?_
    obtain ⟨w4, hw4⟩ : ∃ w4, w4 = v.toBitVec.toNat % 2 ^ 4 := ⟨_, rfl⟩
    have hw16 : w4 < 16 := by rw [hw4]; exact Nat.mod_lt _ (by decide)
    refine v_topi (nI w4) (congrArg nI hw4.symm) ?_
    refine v_istore [(7, .int (nI w4)), (6, .int (nI qz)), (5, .int (nI pz)), (4, .int (nI lz)), (3, .int (nI nn)), (0, .ref (G 0)), (1, .ref (G 781)), (2, .int v)] dL_does_54 (by decide) rfl ?_
    refine v_join (hs σ 1 c) 379 [(7, .int (nI w4)), (6, .int (nI qz)), (5, .int (nI pz)), (4, .int (nI lz)), (3, .int (nI nn)), (0, .ref (G 0)), (1, .ref (G 781)), (2, .int v)] [] ?_ (fun hj379 => ?_)
    · skip
      refine v_aload_n 5 dL_does_379 rfl rfl ?_
      refine v_iconst (nI 1) dL_does_380 (by decide +kernel) ?_
      refine v_iload_n 7 dL_does_381 rfl rfl ?_
      refine v_iconst (nI 4) dL_does_382 (by decide +kernel) ?_
      refine v_ishr dL_does_383 ?_
      refine v_bipush (nI 9) dL_does_384 (by decide +kernel) ?_
      refine u_callSv [.int (v >>> (nI 4 &&& 31)), .int (nI 9)] [.int (nI 1), .ref (G 0)] 2 (c_L_low lu Dg E N G shp (hs σ 1 c) (v >>> (nI 4 &&& 31)) (m := 9) (by omega) (by omega)) gL_does_L_low rfl rfl rfl (by decide +kernel) rfl ⟨Nat.le_of_ble_eq_true rfl, Nat.le_of_ble_eq_true rfl⟩ ⟨Nat.le_of_ble_eq_true rfl, Nat.le_of_ble_eq_true rfl⟩ (Nat.le_of_ble_eq_true rfl) rfl dL_does_386 ?_
      obtain ⟨mz, hmz⟩ : ∃ mz, mz = lowN (v >>> (nI 4 &&& 31)) 9 := ⟨_, rfl⟩
      refine v_topi (nI mz) (congrArg nI hmz.symm) ?_
      have hmzl : mz < 9 := by rw [hmz]; exact lowN_lt (by omega)
      refine v_iaddN dL_does_389 ?_
      refine u_callVv [.int (nI (1 + mz))] [] 1 (c_X5_minutes_0 lu Dg E N G shp σ hS c hI (by omega) (kz := 1 + mz) (by omega) (by omega) hO) (ci := 5) (C := RX5) (T := TX5) (NF := 6) hS.o.1 hS.o.2 rfl gL_does_X5_minutes rfl rfl rfl (by decide +kernel) rfl ⟨Nat.le_of_ble_eq_true rfl, Nat.le_of_ble_eq_true rfl⟩ ⟨Nat.le_of_ble_eq_true rfl, Nat.le_of_ble_eq_true rfl⟩ (Nat.le_of_ble_eq_true rfl) rfl dL_does_390 ?_
      refine v_iret rfl dL_does_393 ⟨hs (puH σ c og rg) 1 (goByS c (1 + mz)), rfl, Dn.mins hW9 (by omega) (by have := goByN_le hI (n := 1 + mz) (by omega); omega)⟩
    · skip
      refine v_join (hs σ 1 c) 274 [(7, .int (nI w4)), (6, .int (nI qz)), (5, .int (nI pz)), (4, .int (nI lz)), (3, .int (nI nn)), (0, .ref (G 0)), (1, .ref (G 781)), (2, .int v)] [] ?_ (fun hj274 => ?_)
      · skip
        refine v_iload 0 dL_does_274 rfl ?_
        refine v_bipush (nI 11) dL_does_276 (by decide +kernel) ?_
        refine v_icmp_neN 379 (by omega) (by omega) dL_does_278 rfl (fun h278 => ?_) (fun h278 => ?_)
        · skip
          exact hj379
        · skip
          refine v_iload_n 7 dL_does_281 rfl rfl ?_
          refine v_iconst (nI 4) dL_does_282 (by decide +kernel) ?_
          refine v_ishr dL_does_283 ?_
          refine v_iconst (nI 4) dL_does_284 (by decide +kernel) ?_
          refine u_callSv [.int (v >>> (nI 4 &&& 31)), .int (nI 4)] [] 2 (c_L_low lu Dg E N G shp (hs σ 1 c) (v >>> (nI 4 &&& 31)) (m := 4) (by omega) (by omega)) gL_does_L_low rfl rfl rfl (by decide +kernel) rfl ⟨Nat.le_of_ble_eq_true rfl, Nat.le_of_ble_eq_true rfl⟩ ⟨Nat.le_of_ble_eq_true rfl, Nat.le_of_ble_eq_true rfl⟩ (Nat.le_of_ble_eq_true rfl) rfl dL_does_285 ?_
          obtain ⟨kk, hkk⟩ : ∃ kk, kk = lowN (v >>> (nI 4 &&& 31)) 4 := ⟨_, rfl⟩
          refine v_topi (nI kk) (congrArg nI hkk.symm) ?_
          have hkkl : kk < 4 := by rw [hkk]; exact lowN_lt (by omega)
          refine v_istore [(8, .int (nI kk)), (7, .int (nI w4)), (6, .int (nI qz)), (5, .int (nI pz)), (4, .int (nI lz)), (3, .int (nI nn)), (0, .ref (G 0)), (1, .ref (G 781)), (2, .int v)] dL_does_288 (by decide) rfl ?_
          refine v_iload 0 dL_does_290 rfl ?_
          refine v_if_neN 315 (by omega) dL_does_292 rfl (fun h292 => ?_) (fun h292 => ?_)
          · skip
            refine v_iload 0 dL_does_315 rfl ?_
            refine v_iconst (nI 1) dL_does_317 (by decide +kernel) ?_
            refine v_icmp_neN 338 (by omega) (by omega) dL_does_318 rfl (fun h318 => ?_) (fun h318 => ?_)
            · skip
              refine v_iload 0 dL_does_338 rfl ?_
              refine v_iconst (nI 2) dL_does_340 (by decide +kernel) ?_
              refine v_icmp_neN 363 (by omega) (by omega) dL_does_341 rfl (fun h341 => ?_) (fun h341 => ?_)
              · skip
                refine v_aload_n 6 dL_does_363 rfl rfl ?_
                refine v_iconst (nI 3) dL_does_364 (by decide +kernel) ?_
                refine v_iconst (nI 1) dL_does_365 (by decide +kernel) ?_
                refine v_iload_n 8 dL_does_366 rfl rfl ?_
                refine v_bipush (nI 6) dL_does_367 (by decide +kernel) ?_
                refine v_ishr dL_does_369 ?_
                refine v_iconst (nI 5) dL_does_370 (by decide +kernel) ?_
                refine u_callSv [.int (v >>> (nI 6 &&& 31)), .int (nI 5)] [.int (nI 1), .int (nI 3), .ref (G 0)] 2 (c_L_low lu Dg E N G shp (hs σ 1 c) (v >>> (nI 6 &&& 31)) (m := 5) (by omega) (by omega)) gL_does_L_low rfl rfl rfl (by decide +kernel) rfl ⟨Nat.le_of_ble_eq_true rfl, Nat.le_of_ble_eq_true rfl⟩ ⟨Nat.le_of_ble_eq_true rfl, Nat.le_of_ble_eq_true rfl⟩ (Nat.le_of_ble_eq_true rfl) rfl dL_does_371 ?_
                obtain ⟨jz, hjz⟩ : ∃ jz, jz = lowN (v >>> (nI 6 &&& 31)) 5 := ⟨_, rfl⟩
                refine v_topi (nI jz) (congrArg nI hjz.symm) ?_
                have hjzl : jz < 5 := by rw [hjz]; exact lowN_lt (by omega)
                refine v_iaddN dL_does_374 ?_
                refine u_callVv [.int (nI 3), .int (nI (1 + jz))] [] 2 (c_X5_set_0 lu Dg E N G shp σ hS c (kz := 3) (by omega) (nI (1 + jz)) (stLM (Or.inr (Or.inr (Or.inr ⟨rfl, by omega, by omega⟩)))) hO) (ci := 5) (C := RX5) (T := TX5) (NF := 6) hS.o.1 hS.o.2 rfl gL_does_X5_set rfl rfl rfl (by decide +kernel) rfl ⟨Nat.le_of_ble_eq_true rfl, Nat.le_of_ble_eq_true rfl⟩ ⟨Nat.le_of_ble_eq_true rfl, Nat.le_of_ble_eq_true rfl⟩ (Nat.le_of_ble_eq_true rfl) rfl dL_does_375 ?_
                refine v_iret rfl dL_does_378 ⟨hs (puH σ c og rg) 1 (upd c (6 + 3) (nI (1 + jz))), rfl, Dn.sets hW9 (k := 3) (by omega) (hI.set3 (by omega) (by omega))⟩
              · skip
                refine v_aload_n 6 dL_does_344 rfl rfl ?_
                refine v_iconst (nI 2) dL_does_345 (by decide +kernel) ?_
                refine v_iconst (nI 1) dL_does_346 (by decide +kernel) ?_
                refine v_iload_n 8 dL_does_347 rfl rfl ?_
                refine v_bipush (nI 6) dL_does_348 (by decide +kernel) ?_
                refine v_ishr dL_does_350 ?_
                refine v_bipush (nI 9) dL_does_351 (by decide +kernel) ?_
                refine u_callSv [.int (v >>> (nI 6 &&& 31)), .int (nI 9)] [.int (nI 1), .int (nI 2), .ref (G 0)] 2 (c_L_low lu Dg E N G shp (hs σ 1 c) (v >>> (nI 6 &&& 31)) (m := 9) (by omega) (by omega)) gL_does_L_low rfl rfl rfl (by decide +kernel) rfl ⟨Nat.le_of_ble_eq_true rfl, Nat.le_of_ble_eq_true rfl⟩ ⟨Nat.le_of_ble_eq_true rfl, Nat.le_of_ble_eq_true rfl⟩ (Nat.le_of_ble_eq_true rfl) rfl dL_does_353 ?_
                obtain ⟨jz, hjz⟩ : ∃ jz, jz = lowN (v >>> (nI 6 &&& 31)) 9 := ⟨_, rfl⟩
                refine v_topi (nI jz) (congrArg nI hjz.symm) ?_
                have hjzl : jz < 9 := by rw [hjz]; exact lowN_lt (by omega)
                refine v_iaddN dL_does_356 ?_
                refine u_callVv [.int (nI 2), .int (nI (1 + jz))] [] 2 (c_X5_set_0 lu Dg E N G shp σ hS c (kz := 2) (by omega) (nI (1 + jz)) (stLM (Or.inr (Or.inr (Or.inl ⟨rfl, by omega, by omega⟩)))) hO) (ci := 5) (C := RX5) (T := TX5) (NF := 6) hS.o.1 hS.o.2 rfl gL_does_X5_set rfl rfl rfl (by decide +kernel) rfl ⟨Nat.le_of_ble_eq_true rfl, Nat.le_of_ble_eq_true rfl⟩ ⟨Nat.le_of_ble_eq_true rfl, Nat.le_of_ble_eq_true rfl⟩ (Nat.le_of_ble_eq_true rfl) rfl dL_does_357 ?_
                refine v_goto 378 dL_does_360 rfl ?_
                refine v_iret rfl dL_does_378 ⟨hs (puH σ c og rg) 1 (upd c (6 + 2) (nI (1 + jz))), rfl, Dn.sets hW9 (k := 2) (by omega) (hI.set2 (by omega) (by omega))⟩
            · skip
              refine v_aload_n 6 dL_does_321 rfl rfl ?_
              refine v_iconst (nI 1) dL_does_322 (by decide +kernel) ?_
              refine v_iload_n 8 dL_does_323 rfl rfl ?_
              refine v_bipush (nI 6) dL_does_324 (by decide +kernel) ?_
              refine v_ishr dL_does_326 ?_
              refine v_bipush (nI 51) dL_does_327 (by decide +kernel) ?_
              refine u_callSv [.int (v >>> (nI 6 &&& 31)), .int (nI 51)] [.int (nI 1), .ref (G 0)] 2 (c_L_low lu Dg E N G shp (hs σ 1 c) (v >>> (nI 6 &&& 31)) (m := 51) (by omega) (by omega)) gL_does_L_low rfl rfl rfl (by decide +kernel) rfl ⟨Nat.le_of_ble_eq_true rfl, Nat.le_of_ble_eq_true rfl⟩ ⟨Nat.le_of_ble_eq_true rfl, Nat.le_of_ble_eq_true rfl⟩ (Nat.le_of_ble_eq_true rfl) rfl dL_does_329 ?_
              obtain ⟨jz, hjz⟩ : ∃ jz, jz = lowN (v >>> (nI 6 &&& 31)) 51 := ⟨_, rfl⟩
              refine v_topi (nI jz) (congrArg nI hjz.symm) ?_
              have hjzl : jz < 51 := by rw [hjz]; exact lowN_lt (by omega)
              refine u_callVv [.int (nI 1), .int (nI jz)] [] 2 (c_X5_set_0 lu Dg E N G shp σ hS c (kz := 1) (by omega) (nI (jz)) (stLM (Or.inr (Or.inl ⟨rfl, by omega⟩))) hO) (ci := 5) (C := RX5) (T := TX5) (NF := 6) hS.o.1 hS.o.2 rfl gL_does_X5_set rfl rfl rfl (by decide +kernel) rfl ⟨Nat.le_of_ble_eq_true rfl, Nat.le_of_ble_eq_true rfl⟩ ⟨Nat.le_of_ble_eq_true rfl, Nat.le_of_ble_eq_true rfl⟩ (Nat.le_of_ble_eq_true rfl) rfl dL_does_332 ?_
              refine v_goto 378 dL_does_335 rfl ?_
              refine v_iret rfl dL_does_378 ⟨hs (puH σ c og rg) 1 (upd c (6 + 1) (nI (jz))), rfl, Dn.sets hW9 (k := 1) (by omega) (hI.set1 (by omega))⟩
          · skip
            refine v_aload_n 6 dL_does_295 rfl rfl ?_
            refine v_iconst (nI 0) dL_does_296 (by decide +kernel) ?_
            refine v_bipush (nI 10) dL_does_297 (by decide +kernel) ?_
            refine v_iload_n 8 dL_does_299 rfl rfl ?_
            refine v_bipush (nI 6) dL_does_300 (by decide +kernel) ?_
            refine v_ishr dL_does_302 ?_
            refine v_bipush (nI 90) dL_does_303 (by decide +kernel) ?_
            refine u_callSv [.int (v >>> (nI 6 &&& 31)), .int (nI 90)] [.int (nI 10), .int (nI 0), .ref (G 0)] 2 (c_L_low lu Dg E N G shp (hs σ 1 c) (v >>> (nI 6 &&& 31)) (m := 90) (by omega) (by omega)) gL_does_L_low rfl rfl rfl (by decide +kernel) rfl ⟨Nat.le_of_ble_eq_true rfl, Nat.le_of_ble_eq_true rfl⟩ ⟨Nat.le_of_ble_eq_true rfl, Nat.le_of_ble_eq_true rfl⟩ (Nat.le_of_ble_eq_true rfl) rfl dL_does_305 ?_
            obtain ⟨jz, hjz⟩ : ∃ jz, jz = lowN (v >>> (nI 6 &&& 31)) 90 := ⟨_, rfl⟩
            refine v_topi (nI jz) (congrArg nI hjz.symm) ?_
            have hjzl : jz < 90 := by rw [hjz]; exact lowN_lt (by omega)
            refine v_iaddN dL_does_308 ?_
            refine u_callVv [.int (nI 0), .int (nI (10 + jz))] [] 2 (c_X5_set_0 lu Dg E N G shp σ hS c (kz := 0) (by omega) (nI (10 + jz)) (stLM (Or.inl ⟨rfl, by omega, by omega⟩)) hO) (ci := 5) (C := RX5) (T := TX5) (NF := 6) hS.o.1 hS.o.2 rfl gL_does_X5_set rfl rfl rfl (by decide +kernel) rfl ⟨Nat.le_of_ble_eq_true rfl, Nat.le_of_ble_eq_true rfl⟩ ⟨Nat.le_of_ble_eq_true rfl, Nat.le_of_ble_eq_true rfl⟩ (Nat.le_of_ble_eq_true rfl) rfl dL_does_309 ?_
            refine v_goto 378 dL_does_312 rfl ?_
            refine v_iret rfl dL_does_378 ⟨hs (puH σ c og rg) 1 (upd c (6 + 0) (nI (10 + jz))), rfl, Dn.sets hW9 (k := 0) (by omega) (hI.set0 (by omega) (by omega))⟩
      · skip
        refine v_join (hs σ 1 c) 243 [(7, .int (nI w4)), (6, .int (nI qz)), (5, .int (nI pz)), (4, .int (nI lz)), (3, .int (nI nn)), (0, .ref (G 0)), (1, .ref (G 781)), (2, .int v)] [] ?_ (fun hj243 => ?_)
        · skip
          refine v_iload 0 dL_does_243 rfl ?_
          refine v_bipush (nI 10) dL_does_245 (by decide +kernel) ?_
          refine v_icmp_neN 274 (by omega) (by omega) dL_does_247 rfl (fun h247 => ?_) (fun h247 => ?_)
          · skip
            exact hj274
          · skip
            refine v_aload_n 5 dL_does_250 rfl rfl ?_
            refine v_iconst (nI 1) dL_does_251 (by decide +kernel) ?_
            refine u_callVv [.int (nI 1)] [] 1 (c_X5_about_0_1 lu Dg E N G shp σ hS c hI) (ci := 5) (C := RX5) (T := TX5) (NF := 6) hS.o.1 hS.o.2 rfl gL_does_X5_about rfl rfl rfl (by decide +kernel) rfl ⟨Nat.le_of_ble_eq_true rfl, Nat.le_of_ble_eq_true rfl⟩ ⟨Nat.le_of_ble_eq_true rfl, Nat.le_of_ble_eq_true rfl⟩ (Nat.le_of_ble_eq_true rfl) rfl dL_does_252 ?_
            refine v_topi (nI (tn (c 1))) (hI.nl) ?_
            refine v_iconst (nI 3) dL_does_255 (by decide +kernel) ?_
            refine v_icmp_geN 274 (by omega) (by omega) dL_does_256 rfl (fun h256 => ?_) (fun h256 => ?_)
            · skip
              exact hj274
            · skip
              refine v_aload_n 5 dL_does_259 rfl rfl ?_
              refine v_iconst (nI 1) dL_does_260 (by decide +kernel) ?_
              refine v_iload_n 7 dL_does_261 rfl rfl ?_
              refine v_iconst (nI 4) dL_does_262 (by decide +kernel) ?_
              refine v_ishr dL_does_263 ?_
              refine v_bipush (nI 20) dL_does_264 (by decide +kernel) ?_
              refine u_callSv [.int (v >>> (nI 4 &&& 31)), .int (nI 20)] [.int (nI 1), .ref (G 0)] 2 (c_L_low lu Dg E N G shp (hs σ 1 c) (v >>> (nI 4 &&& 31)) (m := 20) (by omega) (by omega)) gL_does_L_low rfl rfl rfl (by decide +kernel) rfl ⟨Nat.le_of_ble_eq_true rfl, Nat.le_of_ble_eq_true rfl⟩ ⟨Nat.le_of_ble_eq_true rfl, Nat.le_of_ble_eq_true rfl⟩ (Nat.le_of_ble_eq_true rfl) rfl dL_does_266 ?_
              obtain ⟨kz, hkz⟩ : ∃ kz, kz = lowN (v >>> (nI 4 &&& 31)) 20 := ⟨_, rfl⟩
              refine v_topi (nI kz) (congrArg nI hkz.symm) ?_
              have hkzl : kz < 20 := by rw [hkz]; exact lowN_lt (by omega)
              refine v_iaddN dL_does_269 ?_
              refine u_callVv [.int (nI (1 + kz))] [] 1 (c_X5_open_0 lu Dg E N G shp σ hS c hI (kz := 1 + kz) (by omega) (by omega) (by omega) hO) (ci := 5) (C := RX5) (T := TX5) (NF := 6) hS.o.1 hS.o.2 rfl gL_does_X5_open rfl rfl rfl (by decide +kernel) rfl ⟨Nat.le_of_ble_eq_true rfl, Nat.le_of_ble_eq_true rfl⟩ ⟨Nat.le_of_ble_eq_true rfl, Nat.le_of_ble_eq_true rfl⟩ (Nat.le_of_ble_eq_true rfl) rfl dL_does_270 ?_
              refine v_iret rfl dL_does_273 ⟨hs (puH σ c og rg) 1 (addLS c (nI (1 + kz))), rfl, Dn.opens hW9 (by omega) (by omega) (by omega)⟩
        · skip
          refine v_join (hs σ 1 c) 196 [(7, .int (nI w4)), (6, .int (nI qz)), (5, .int (nI pz)), (4, .int (nI lz)), (3, .int (nI nn)), (0, .ref (G 0)), (1, .ref (G 781)), (2, .int v)] [] ?_ (fun hj196 => ?_)
          · skip
            refine v_iload 0 dL_does_196 rfl ?_
            refine v_bipush (nI 9) dL_does_198 (by decide +kernel) ?_
            refine v_icmp_neN 243 (by omega) (by omega) dL_does_200 rfl (fun h200 => ?_) (fun h200 => ?_)
            · skip
              exact hj243
            · skip
              refine v_aload_n 5 dL_does_203 rfl rfl ?_
              refine v_iload 3 dL_does_204 rfl ?_
              refine v_iload_n 7 dL_does_206 rfl rfl ?_
              refine v_bipush (nI 9) dL_does_207 (by decide +kernel) ?_
              refine v_ishr dL_does_209 ?_
              refine v_aload_n 5 dL_does_210 rfl rfl ?_
              refine v_iconst (nI 1) dL_does_211 (by decide +kernel) ?_
              refine u_callVv [.int (nI 1)] [.int (v >>> (nI 9 &&& 31)), .int (nI lz), .ref (G 0)] 1 (c_X5_about_0_1 lu Dg E N G shp σ hS c hI) (ci := 5) (C := RX5) (T := TX5) (NF := 6) hS.o.1 hS.o.2 rfl gL_does_X5_about rfl rfl rfl (by decide +kernel) rfl ⟨Nat.le_of_ble_eq_true rfl, Nat.le_of_ble_eq_true rfl⟩ ⟨Nat.le_of_ble_eq_true rfl, Nat.le_of_ble_eq_true rfl⟩ (Nat.le_of_ble_eq_true rfl) rfl dL_does_212 ?_
              refine v_topi (nI (tn (c 1))) (hI.nl) ?_
              refine u_callSv [.int (v >>> (nI 9 &&& 31)), .int (nI (tn (c 1)))] [.int (nI lz), .ref (G 0)] 2 (c_L_low lu Dg E N G shp (hs σ 1 c) (v >>> (nI 9 &&& 31)) (m := tn (c 1)) (by omega) (by omega)) gL_does_L_low rfl rfl rfl (by decide +kernel) rfl ⟨Nat.le_of_ble_eq_true rfl, Nat.le_of_ble_eq_true rfl⟩ ⟨Nat.le_of_ble_eq_true rfl, Nat.le_of_ble_eq_true rfl⟩ (Nat.le_of_ble_eq_true rfl) rfl dL_does_215 ?_
              obtain ⟨oz, hoz⟩ : ∃ oz, oz = lowN (v >>> (nI 9 &&& 31)) (tn (c 1)) := ⟨_, rfl⟩
              refine v_topi (nI oz) (congrArg nI hoz.symm) ?_
              have hozl : oz < tn (c 1) := by rw [hoz]; exact lowN_lt (by omega)
              refine u_callSv [.ref (G 0), .int (nI lz), .int (nI oz)] [] 3 (c_L_mayMerge lu Dg E N G shp σ hS c hI (lz := lz) (oz := oz) hlzl hozl) gL_does_L_mayMerge rfl rfl rfl (by decide +kernel) rfl ⟨Nat.le_of_ble_eq_true rfl, Nat.le_of_ble_eq_true rfl⟩ ⟨Nat.le_of_ble_eq_true rfl, Nat.le_of_ble_eq_true rfl⟩ (Nat.le_of_ble_eq_true rfl) rfl dL_does_218 ?_
              refine v_if_eqB 243 dL_does_221 rfl (fun h221 => ?_) (fun h221 => ?_)
              · skip
                exact hj243
              · skip
                refine v_aload_n 5 dL_does_224 rfl rfl ?_
                refine v_iload 3 dL_does_225 rfl ?_
                refine v_iload_n 7 dL_does_227 rfl rfl ?_
                refine v_bipush (nI 9) dL_does_228 (by decide +kernel) ?_
                refine v_ishr dL_does_230 ?_
                refine v_aload_n 5 dL_does_231 rfl rfl ?_
                refine v_iconst (nI 1) dL_does_232 (by decide +kernel) ?_
                refine u_callVv [.int (nI 1)] [.int (v >>> (nI 9 &&& 31)), .int (nI lz), .ref (G 0)] 1 (c_X5_about_0_1 lu Dg E N G shp σ hS c hI) (ci := 5) (C := RX5) (T := TX5) (NF := 6) hS.o.1 hS.o.2 rfl gL_does_X5_about rfl rfl rfl (by decide +kernel) rfl ⟨Nat.le_of_ble_eq_true rfl, Nat.le_of_ble_eq_true rfl⟩ ⟨Nat.le_of_ble_eq_true rfl, Nat.le_of_ble_eq_true rfl⟩ (Nat.le_of_ble_eq_true rfl) rfl dL_does_233 ?_
                refine v_topi (nI (tn (c 1))) (hI.nl) ?_
                refine u_callSv [.int (v >>> (nI 9 &&& 31)), .int (nI (tn (c 1)))] [.int (nI lz), .ref (G 0)] 2 (c_L_low lu Dg E N G shp (hs σ 1 c) (v >>> (nI 9 &&& 31)) (m := tn (c 1)) (by omega) (by omega)) gL_does_L_low rfl rfl rfl (by decide +kernel) rfl ⟨Nat.le_of_ble_eq_true rfl, Nat.le_of_ble_eq_true rfl⟩ ⟨Nat.le_of_ble_eq_true rfl, Nat.le_of_ble_eq_true rfl⟩ (Nat.le_of_ble_eq_true rfl) rfl dL_does_236 ?_
                refine v_topi (nI oz) (congrArg nI hoz.symm) ?_
                refine u_callVv [.int (nI lz), .int (nI oz)] [] 2 (c_X5_merge_0 lu Dg E N G shp σ hS c hI (lz := lz) (oz := oz) hlzl hozl (mg_ok hI hlzl hozl h221) hO) (ci := 5) (C := RX5) (T := TX5) (NF := 6) hS.o.1 hS.o.2 rfl gL_does_X5_merge rfl rfl rfl (by decide +kernel) rfl ⟨Nat.le_of_ble_eq_true rfl, Nat.le_of_ble_eq_true rfl⟩ ⟨Nat.le_of_ble_eq_true rfl, Nat.le_of_ble_eq_true rfl⟩ (Nat.le_of_ble_eq_true rfl) rfl dL_does_239 ?_
                refine v_iret rfl dL_does_242 ⟨hs (puH σ c og rg) 1 (mergesF c lz oz), rfl, Dn.merges hW9 hlzl hozl h221.1 h221.2⟩
          · skip
            refine v_join (hs σ 1 c) 173 [(7, .int (nI w4)), (6, .int (nI qz)), (5, .int (nI pz)), (4, .int (nI lz)), (3, .int (nI nn)), (0, .ref (G 0)), (1, .ref (G 781)), (2, .int v)] [] ?_ (fun hj173 => ?_)
            · skip
              refine v_iload 0 dL_does_173 rfl ?_
              refine v_bipush (nI 8) dL_does_175 (by decide +kernel) ?_
              refine v_icmp_neN 196 (by omega) (by omega) dL_does_177 rfl (fun h177 => ?_) (fun h177 => ?_)
              · skip
                exact hj196
              · skip
                refine v_aload_n 5 dL_does_180 rfl rfl ?_
                refine v_iload 2 dL_does_181 rfl ?_
                refine u_callSv [.ref (G 0), .int (nI pz)] [] 2 (c_L_isStanding lu Dg E N G shp σ hS c hI (pz := pz) (by omega)) gL_does_L_isStanding rfl rfl rfl (by decide +kernel) rfl ⟨Nat.le_of_ble_eq_true rfl, Nat.le_of_ble_eq_true rfl⟩ ⟨Nat.le_of_ble_eq_true rfl, Nat.le_of_ble_eq_true rfl⟩ (Nat.le_of_ble_eq_true rfl) rfl dL_does_183 ?_
                refine v_if_eqB 196 dL_does_186 rfl (fun h186 => ?_) (fun h186 => ?_)
                · skip
                  exact hj196
                · skip
                  refine v_aload_n 5 dL_does_189 rfl rfl ?_
                  refine v_iload 2 dL_does_190 rfl ?_
                  refine u_callVv [.int (nI pz)] [] 1 (c_X5_go_0 lu Dg E N G shp σ hS c hI (pz := pz) h186.1 h186.2 hO) (ci := 5) (C := RX5) (T := TX5) (NF := 6) hS.o.1 hS.o.2 rfl gL_does_X5_go rfl rfl rfl (by decide +kernel) rfl ⟨Nat.le_of_ble_eq_true rfl, Nat.le_of_ble_eq_true rfl⟩ ⟨Nat.le_of_ble_eq_true rfl, Nat.le_of_ble_eq_true rfl⟩ (Nat.le_of_ble_eq_true rfl) rfl dL_does_192 ?_
                  refine v_iret rfl dL_does_195 ⟨hs (puH σ c og rg) 1 (goesS c pz), rfl, Dn.goes hW9 h186.1 h186.2⟩
            · skip
              refine v_join (hs σ 1 c) 145 [(7, .int (nI w4)), (6, .int (nI qz)), (5, .int (nI pz)), (4, .int (nI lz)), (3, .int (nI nn)), (0, .ref (G 0)), (1, .ref (G 781)), (2, .int v)] [] ?_ (fun hj145 => ?_)
              · skip
                refine v_aload_n 5 dL_does_145 rfl rfl ?_
                refine v_aload_n 6 dL_does_146 rfl rfl ?_
                refine v_iload 2 dL_does_147 rfl ?_
                refine u_callSv [.ref (G 0), .ref (G 781), .int (nI pz)] [] 3 (c_L_mayJump lu Dg E N G shp σ hS c hI h781 (pz := pz) (by omega)) gL_does_L_mayJump rfl rfl rfl (by decide +kernel) rfl ⟨Nat.le_of_ble_eq_true rfl, Nat.le_of_ble_eq_true rfl⟩ ⟨Nat.le_of_ble_eq_true rfl, Nat.le_of_ble_eq_true rfl⟩ (Nat.le_of_ble_eq_true rfl) rfl dL_does_149 ?_
                refine v_if_eqB 173 dL_does_152 rfl (fun h152 => ?_) (fun h152 => ?_)
                · skip
                  exact hj173
                · skip
                  refine v_aload_n 6 dL_does_155 rfl rfl ?_
                  refine v_iload 2 dL_does_156 rfl ?_
                  refine v_aload_n 5 dL_does_158 rfl rfl ?_
                  refine v_iconst (nI 0) dL_does_159 (by decide +kernel) ?_
                  refine u_callVv [.int (nI 0)] [.int (nI pz), .ref (G 781)] 1 (c_X5_about_0_0 lu Dg E N G shp σ hS c hI) (ci := 5) (C := RX5) (T := TX5) (NF := 6) hS.o.1 hS.o.2 rfl gL_does_X5_about rfl rfl rfl (by decide +kernel) rfl ⟨Nat.le_of_ble_eq_true rfl, Nat.le_of_ble_eq_true rfl⟩ ⟨Nat.le_of_ble_eq_true rfl, Nat.le_of_ble_eq_true rfl⟩ (Nat.le_of_ble_eq_true rfl) rfl dL_does_160 ?_
                  refine v_iconst (nI 1) dL_does_163 (by decide +kernel) ?_
                  refine v_iadd dL_does_164 ?_
                  refine u_iast pz h781.1 h781.2 rfl (by have := h152.1.1; omega) (by decide) dL_does_165 ?_
                  generalize hσ1 : st2 (hs σ 1 c) 781 pz ((c 0) + (nI 1)) = σ1
                  refine v_σ (hs (st2 σ 781 pz (c 0 + nI 1)) 1 c) (by rw [← hσ1]; exact st2_hs (by omega)) ?_
                  refine v_aload_n 5 dL_does_166 rfl rfl ?_
                  refine v_iload 2 dL_does_167 rfl ?_
                  refine u_callVv [.int (nI pz)] [] 1 (c_X5_jump_0 lu Dg E N G shp (st2 σ 781 pz (c 0 + nI 1)) hS c hI (pz := pz) h152.1.1 (hJ.may hI h152.1.1 h152.1.2 h152.2.1 h152.2.2.1 h152.2.2.2) (hO.cong (fun n h1 h2 => st2_row _ (by omega) _ _))) (ci := 5) (C := RX5) (T := TX5) (NF := 6) hS.o.1 hS.o.2 rfl gL_does_X5_jump rfl rfl rfl (by decide +kernel) rfl ⟨Nat.le_of_ble_eq_true rfl, Nat.le_of_ble_eq_true rfl⟩ ⟨Nat.le_of_ble_eq_true rfl, Nat.le_of_ble_eq_true rfl⟩ (Nat.le_of_ble_eq_true rfl) rfl dL_does_169 ?_
                  refine v_iret rfl dL_does_172 ⟨hs (puH (st2 σ 781 pz (c 0 + nI 1)) c og rg) 1 (jumpsS c pz), rfl, Dn.jumps hW9 h152.1.1 h152.1.2⟩
              · skip
                refine v_join (hs σ 1 c) 131 [(7, .int (nI w4)), (6, .int (nI qz)), (5, .int (nI pz)), (4, .int (nI lz)), (3, .int (nI nn)), (0, .ref (G 0)), (1, .ref (G 781)), (2, .int v)] [] ?_ (fun hj131 => ?_)
                · skip
                  refine v_iload 0 dL_does_131 rfl ?_
                  refine v_bipush (nI 6) dL_does_133 (by decide +kernel) ?_
                  refine v_icmp_eqN 145 (by omega) (by omega) dL_does_135 rfl (fun h135 => ?_) (fun h135 => ?_)
                  · skip
                    exact hj145
                  · skip
                    refine v_iload 0 dL_does_138 rfl ?_
                    refine v_bipush (nI 7) dL_does_140 (by decide +kernel) ?_
                    refine v_icmp_neN 173 (by omega) (by omega) dL_does_142 rfl (fun h142 => ?_) (fun h142 => ?_)
                    · skip
                      exact hj173
                    · skip
                      exact hj145
                · skip
                  refine v_join (hs σ 1 c) 111 [(7, .int (nI w4)), (6, .int (nI qz)), (5, .int (nI pz)), (4, .int (nI lz)), (3, .int (nI nn)), (0, .ref (G 0)), (1, .ref (G 781)), (2, .int v)] [] ?_ (fun hj111 => ?_)
                  · skip
                    refine v_aload_n 5 dL_does_111 rfl rfl ?_
                    refine v_iload 2 dL_does_112 rfl ?_
                    refine v_iload 1 dL_does_114 rfl ?_
                    refine u_callSv [.ref (G 0), .int (nI pz), .int (nI qz)] [] 3 (c_L_mayExchange lu Dg E N G shp σ hS c hI (pz := pz) (qz := qz) (by omega) (by omega)) gL_does_L_mayExchange rfl rfl rfl (by decide +kernel) rfl ⟨Nat.le_of_ble_eq_true rfl, Nat.le_of_ble_eq_true rfl⟩ ⟨Nat.le_of_ble_eq_true rfl, Nat.le_of_ble_eq_true rfl⟩ (Nat.le_of_ble_eq_true rfl) rfl dL_does_116 ?_
                    refine v_if_eqB 131 dL_does_119 rfl (fun h119 => ?_) (fun h119 => ?_)
                    · skip
                      exact hj131
                    · skip
                      refine v_aload_n 5 dL_does_122 rfl rfl ?_
                      refine v_iload 2 dL_does_123 rfl ?_
                      refine v_iload 1 dL_does_125 rfl ?_
                      refine u_callVv [.int (nI pz), .int (nI qz)] [] 2 (c_X5_exchange_0 lu Dg E N G shp σ hS c hI (pz := pz) (qz := qz) h119.1.1 h119.2.1.1 (MayX.of hE hI (by omega) h119.1.1 h119.2.1.1 h119.1.2 h119.2.1.2 h119.2.2.1 h119.2.2.2.1 h119.2.2.2.2) hO) (ci := 5) (C := RX5) (T := TX5) (NF := 6) hS.o.1 hS.o.2 rfl gL_does_X5_exchange rfl rfl rfl (by decide +kernel) rfl ⟨Nat.le_of_ble_eq_true rfl, Nat.le_of_ble_eq_true rfl⟩ ⟨Nat.le_of_ble_eq_true rfl, Nat.le_of_ble_eq_true rfl⟩ (Nat.le_of_ble_eq_true rfl) rfl dL_does_127 ?_
                      refine v_iret rfl dL_does_130 ⟨hs (puH σ c og rg) 1 (exchS c pz qz), rfl, Dn.exch hW9 h119.1.1 h119.2.1.1 (MayX.of hE hI (by omega) h119.1.1 h119.2.1.1 h119.1.2 h119.2.1.2 h119.2.2.1 h119.2.2.2.1 h119.2.2.2.2)⟩
                  · skip
                    refine v_join (hs σ 1 c) 99 [(7, .int (nI w4)), (6, .int (nI qz)), (5, .int (nI pz)), (4, .int (nI lz)), (3, .int (nI nn)), (0, .ref (G 0)), (1, .ref (G 781)), (2, .int v)] [] ?_ (fun hj99 => ?_)
                    · skip
                      refine v_iload 0 dL_does_99 rfl ?_
                      refine v_iconst (nI 4) dL_does_101 (by decide +kernel) ?_
                      refine v_icmp_eqN 111 (by omega) (by omega) dL_does_102 rfl (fun h102 => ?_) (fun h102 => ?_)
                      · skip
                        exact hj111
                      · skip
                        refine v_iload 0 dL_does_105 rfl ?_
                        refine v_iconst (nI 5) dL_does_107 (by decide +kernel) ?_
                        refine v_icmp_neN 131 (by omega) (by omega) dL_does_108 rfl (fun h108 => ?_) (fun h108 => ?_)
                        · skip
                          exact hj131
                        · skip
                          exact hj111
                    · skip
                      refine v_iload 0 dL_does_56 rfl ?_
                      refine v_iconst (nI 4) dL_does_58 (by decide +kernel) ?_
                      refine v_icmp_geN 99 (by omega) (by omega) dL_does_59 rfl (fun h59 => ?_) (fun h59 => ?_)
                      · skip
                        exact hj99
                      · skip
                        refine v_aload_n 5 dL_does_62 rfl rfl ?_
                        refine v_iconst (nI 2) dL_does_63 (by decide +kernel) ?_
                        refine u_callVv [.int (nI 2)] [] 1 (c_X5_about_0_2 lu Dg E N G shp σ hS c hI) (ci := 5) (C := RX5) (T := TX5) (NF := 6) hS.o.1 hS.o.2 rfl gL_does_X5_about rfl rfl rfl (by decide +kernel) rfl ⟨Nat.le_of_ble_eq_true rfl, Nat.le_of_ble_eq_true rfl⟩ ⟨Nat.le_of_ble_eq_true rfl, Nat.le_of_ble_eq_true rfl⟩ (Nat.le_of_ble_eq_true rfl) rfl dL_does_64 ?_
                        refine v_topi (nI (tn (c 2))) (hI.np) ?_
                        refine v_bipush (nI 30) dL_does_67 (by decide +kernel) ?_
                        refine v_icmp_geN 99 (by omega) (by omega) dL_does_69 rfl (fun h69 => ?_) (fun h69 => ?_)
                        · skip
                          exact hj99
                        · skip
                          have hl12 := hI.len12 hlzl
                          refine v_aload_n 5 dL_does_72 rfl rfl ?_
                          refine v_iload 3 dL_does_73 rfl ?_
                          refine v_iconst (nI 1) dL_does_75 (by decide +kernel) ?_
                          refine u_callVv [.int (nI lz), .int (nI 1)] [] 2 (c_X5_line_0_1 lu Dg E N G shp σ hS c hI (lz := lz) hlzl) (ci := 5) (C := RX5) (T := TX5) (NF := 6) hS.o.1 hS.o.2 rfl gL_does_X5_line rfl rfl rfl (by decide +kernel) rfl ⟨Nat.le_of_ble_eq_true rfl, Nat.le_of_ble_eq_true rfl⟩ ⟨Nat.le_of_ble_eq_true rfl, Nat.le_of_ble_eq_true rfl⟩ (Nat.le_of_ble_eq_true rfl) rfl dL_does_76 ?_
                          refine v_topi (nI (tn (c (13 + lz)))) (hI.len hlzl) ?_
                          refine v_bipush (nI 12) dL_does_79 (by decide +kernel) ?_
                          refine v_icmp_geN 99 (by omega) (by omega) dL_does_81 rfl (fun h81 => ?_) (fun h81 => ?_)
                          · skip
                            exact hj99
                          · skip
                            refine v_aload_n 5 dL_does_84 rfl rfl ?_
                            refine v_iload 3 dL_does_85 rfl ?_
                            refine v_iload_n 7 dL_does_87 rfl rfl ?_
                            refine v_bipush (nI 8) dL_does_88 (by decide +kernel) ?_
                            refine v_ishr dL_does_90 ?_
                            refine v_iconst (nI 3) dL_does_91 (by decide +kernel) ?_
                            refine u_callSv [.int (v >>> (nI 8 &&& 31)), .int (nI 3)] [.int (nI lz), .ref (G 0)] 2 (c_L_low lu Dg E N G shp (hs σ 1 c) (v >>> (nI 8 &&& 31)) (m := 3) (by omega) (by omega)) gL_does_L_low rfl rfl rfl (by decide +kernel) rfl ⟨Nat.le_of_ble_eq_true rfl, Nat.le_of_ble_eq_true rfl⟩ ⟨Nat.le_of_ble_eq_true rfl, Nat.le_of_ble_eq_true rfl⟩ (Nat.le_of_ble_eq_true rfl) rfl dL_does_92 ?_
                            obtain ⟨kz, hkz⟩ : ∃ kz, kz = lowN (v >>> (nI 8 &&& 31)) 3 := ⟨_, rfl⟩
                            refine v_topi (nI kz) (congrArg nI hkz.symm) ?_
                            have hkzl : kz < 3 := by rw [hkz]; exact lowN_lt (by omega)
                            refine u_callVv [.int (nI lz), .int (nI kz)] [] 2 (c_X5_come_0 lu Dg E N G shp σ hS c hI (lz := lz) hlzl (kz := kz) hkzl (come_ok hI hlzl hkzl (by omega) (by omega)) hO) (ci := 5) (C := RX5) (T := TX5) (NF := 6) hS.o.1 hS.o.2 rfl gL_does_X5_come rfl rfl rfl (by decide +kernel) rfl ⟨Nat.le_of_ble_eq_true rfl, Nat.le_of_ble_eq_true rfl⟩ ⟨Nat.le_of_ble_eq_true rfl, Nat.le_of_ble_eq_true rfl⟩ (Nat.le_of_ble_eq_true rfl) rfl dL_does_95 ?_
                            refine v_iret rfl dL_does_98 ⟨hs (puH σ c og rg) 1 (comesC c lz kz), rfl, Dn.comes hW9 hlzl (by omega) (by omega)⟩
  · skip
    refine v_if_neN 12 (by omega) dL_does_5 rfl (fun h5 => ?_) (fun h5 => ?_)
    · skip
      refine v_aload_n 0 dL_does_12 rfl rfl ?_
      refine v_iconst (nI 2) dL_does_13 (by decide +kernel) ?_
      refine u_callVv [.int (nI 2)] [] 1 (c_X5_about_0_2 lu Dg E N G shp σ hS c hI) (ci := 5) (C := RX5) (T := TX5) (NF := 6) hS.o.1 hS.o.2 rfl gL_does_X5_about rfl rfl rfl (by decide +kernel) rfl ⟨Nat.le_of_ble_eq_true rfl, Nat.le_of_ble_eq_true rfl⟩ ⟨Nat.le_of_ble_eq_true rfl, Nat.le_of_ble_eq_true rfl⟩ (Nat.le_of_ble_eq_true rfl) rfl dL_does_14 ?_
      refine v_topi (nI (tn (c 2))) (hI.np) ?_
      refine v_topi (nI nn) (congrArg nI (by omega)) ?_
      exact hj
    · skip
      refine v_iconst (nI 1) dL_does_8 (by decide +kernel) ?_
      refine v_goto 17 dL_does_9 rfl ?_
      refine v_topi (nI nn) (congrArg nI (by omega)) ?_
      exact hj

