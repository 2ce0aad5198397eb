section LAW9
variable {p : Program} {l : Launch} {e : Env} {s : State} {m : MethodId} {args : Array Value} {below : List Frame} {meth : Method} {c : Code} {Q : State → Prop} {D : va_G} {E : Nat → ClassId} {A : Nat → Prop} {ret : Option FieldType} {G : Nat → Nat} {shp : Nat → (Nat → Int32) → va_E} {b L : Nat} {xs : Nat → Int32}
set_option maxHeartbeats 4000000 in
set_option maxRecDepth 100000 in
theorem law_errorPosition (hl9 : l.stackTraces = false) (hX : StX A s) (hC : StC s) (hS : StoodS E G shp 789) (hO : shp 788 = LoS E 1) (hM : ModS E G shp 789 781) (hb : va_X b L xs s s.heap) (hbl : b < s.heap.size) (hbA : ¬ A b) (hL : L ≤ 2048) {σ : Nat → Nat → Int32} {a : AB} {T i cells slots : Nat} (hCk : Ck σ a) (hMo : Mo σ a) (hG : Go T a) (hT : T ≤ 990000) (hi : i + 4 ≤ L) (hc : cells + 1 ≤ 601024) (hs : slots + 6 ≤ 7293034)
    (hk : ∀ σ' a' cells' slots', Ck σ' a' → Mo σ' a' → Go (T + 1000) a' → cells' ≤ cells + 1 → slots' ≤ slots + 6 → V p l e room_1 s m args below meth c Q D E A cL_law 7 RL ret wsL_law 789 G cells' slots' (φ shp σ') 1792 (lw_loc G b i) []) : V p l e room_1 s m args below meth c Q D E A cL_law 7 RL ret wsL_law 789 G cells slots (φ shp σ) 237 (lw_loc G b i) [] := by
  obtain ⟨v', a', hG', hW, h6⟩ := op_errorPosition l hl9 D E 789 G shp σ hS (by decide) hO hM hCk hG hT
  refine v_aload_n 2 dL_law_237 rfl rfl ?_
  refine u_callVx [] [] 0 hW (ci := 5) (C := RX5) (T := TX5) (NF := 6) hS.o.1 hS.o.2 rfl gL_law_X5_errorPosition rfl rfl rfl (by decide +kernel) rfl ⟨Nat.le_of_ble_eq_true rfl, Nat.le_of_ble_eq_true rfl⟩ ⟨by show _ ≤ 601024; omega, by show _ ≤ 7293034; omega⟩ (Nat.le_of_ble_eq_true rfl) rfl dL_law_238 (fun v9 τ9 hp9 => ?_)
  obtain ⟨hv9, hck9, hfr9⟩ := hp9
  subst hv9
  refine v_st (st' := [.int v']) rfl ?_
  refine v_aload_n 3 dL_law_241 rfl rfl ?_
  refine u_callVx [] [.int v'] 0 (h6 τ9 (hMo.cong (fun n g1 g2 => hfr9 n g1 (by omega)))) (ci := 6) (C := RX6) (T := TX6) (NF := 13) hM.n hM.s rfl gL_law_X6_errorPosition rfl rfl rfl (by decide +kernel) rfl ⟨Nat.le_of_ble_eq_true rfl, Nat.le_of_ble_eq_true rfl⟩ ⟨by show _ ≤ 601024; omega, by show _ ≤ 7293034; omega⟩ (Nat.le_of_ble_eq_true rfl) rfl dL_law_242 (fun v8 τ8 hp8 => ?_)
  obtain ⟨⟨w8, hv8, hw8⟩, hth8, hmo8, hfr8⟩ := hp8
  subst hv8
  refine v_st (st' := [.int w8, .int v']) rfl ?_
  refine v_icmp_eq 1792 dL_law_245 rfl (fun _ => ?_) (fun z => absurd (hw8 rfl).symm z)
  exact hk τ8 a' cells slots (hck9.far (fun n hn => hfr8 n (Or.inl hn))) hmo8 hG' (by omega) (by omega)
set_option maxHeartbeats 4000000 in
set_option maxRecDepth 100000 in
theorem law_load (hl9 : l.stackTraces = false) (hX : StX A s) (hC : StC s) (hS : StoodS E G shp 789) (hO : shp 788 = LoS E 1) (hM : ModS E G shp 789 781) (hb : va_X b L xs s s.heap) (hbl : b < s.heap.size) (hbA : ¬ A b) (hL : L ≤ 2048) {σ : Nat → Nat → Int32} {a : AB} {T i cells slots : Nat} (hCk : Ck σ a) (hMo : Mo σ a) (hG : Go T a) (hT : T ≤ 990000) (hi : i + 4 ≤ L) (hc : cells + 1 ≤ 601024) (hs : slots + 6 ≤ 7293034)
    (hk : ∀ σ' a' cells' slots', Ck σ' a' → Mo σ' a' → Go (T + 1000) a' → cells' ≤ cells + 1 → slots' ≤ slots + 6 → V p l e room_1 s m args below meth c Q D E A cL_law 7 RL ret wsL_law 789 G cells' slots' (φ shp σ') 1792 (lw_loc G b i) []) : V p l e room_1 s m args below meth c Q D E A cL_law 7 RL ret wsL_law 789 G cells slots (φ shp σ) 250 (lw_loc G b i) [] := by
  obtain ⟨k, v', a', hk3, hG', hW, h6⟩ := op_load l hl9 D E 789 G shp σ hS (by decide) hO hM hCk hG hT 
  refine v_aload_n 2 dL_law_250 rfl rfl ?_
  refine v_aload_n 4 dL_law_251 rfl rfl ?_
  refine u_callSW [.ref (G 0), .ref (G 788)] [] hX hC hW gL_law_L_load rfl rfl rfl ⟨by decide +kernel, by decide +kernel, Eq.trans (b := some 2) (by decide +kernel) rfl⟩ ⟨Nat.le_of_ble_eq_true rfl, Nat.le_of_ble_eq_true rfl⟩ ⟨hc, hs⟩ (Nat.le_of_ble_eq_true rfl) rfl dL_law_252 (fun v9 τ9 hp9 => ?_)
  obtain ⟨hv9, hck9, hout9, hfr9⟩ := hp9
  subst hv9
  refine v_st (st' := [.int (nI k)]) rfl ?_
  refine v_istore ((5, .int (nI k)) :: lw_loc G b i) dL_law_255 (by decide) rfl ?_
  refine v_aload_n 4 dL_law_257 rfl rfl ?_
  refine u_callVx [] [] 0 (h6 τ9 (hMo.cong hfr9)) (ci := 6) (C := RX6) (T := TX6) (NF := 13) hM.n hM.s rfl gL_law_X6_load rfl rfl rfl (by decide +kernel) rfl ⟨Nat.le_of_ble_eq_true rfl, Nat.le_of_ble_eq_true rfl⟩ ⟨hc, hs⟩ (Nat.le_of_ble_eq_true rfl) rfl dL_law_258 (fun v8 τ8 hp8 => ?_)
  obtain ⟨⟨w8, hv8, hw8⟩, hth8, hmo8, hfr8⟩ := hp8
  subst hv8
  refine v_st (st' := [.int w8]) rfl ?_
  refine v_istore ((6, .int w8) :: (5, .int (nI k)) :: lw_loc G b i) dL_law_261 (by decide) rfl ?_
  refine v_aload_n 5 dL_law_263 rfl rfl ?_
  refine u_callVx [] [] 0 (lw_thrown l D E 789 G shp τ8 hM hth8) (ci := 6) (C := RX6) (T := TX6) (NF := 13) hM.n hM.s rfl gL_law_X6_thrown rfl rfl rfl (by decide +kernel) rfl ⟨Nat.le_of_ble_eq_true rfl, Nat.le_of_ble_eq_true rfl⟩ ⟨hc, hs⟩ (Nat.le_of_ble_eq_true rfl) rfl dL_law_264 (fun v7 τ7 hp7 => ?_)
  obtain ⟨hv7, h7⟩ := hp7
  subst hv7
  subst h7
  refine v_st (st' := [.int (nI k)]) rfl ?_
  refine v_iload 1 dL_law_267 rfl ?_
  refine v_icmp_eqN 274 (by omega) (by omega) dL_law_269 rfl (fun _ => ?_) (fun z => absurd rfl z)
  refine v_iload 1 dL_law_274 rfl ?_
  refine v_if_neN 291 (by omega) dL_law_276 rfl (fun _ => ?_) (fun hk0 => ?_)
  · refine v_goto 1792 dL_law_291 rfl ?_
    refine v_loc [2, 3, 4, 5, 6] (lw_loc G b i) rfl ?_
    exact hk τ7 a' (cells + 1) (slots + 6) (hck9.far (fun n hn => hfr8 n (Or.inl hn))) hmo8 hG' (Nat.le_refl _) (Nat.le_refl _)
  · refine v_aload_n 6 dL_law_279 rfl rfl ?_
    refine v_iconst (nI 0) dL_law_280 (by decide +kernel) ?_
    refine u_lald 0 (by decide) hO rfl (by decide) (by decide) dL_law_281 ?_
    refine v_iload 0 dL_law_282 rfl ?_
    refine v_i2l dL_law_284 ?_
    refine v_lcmp dL_law_285 ?_
    refine v_if_eq 291 dL_law_286 rfl (fun _ => ?_) (fun z => absurd ((lg_cmp_eq _ _).mpr (by rw [hfr8 788 (Or.inr rfl), hout9 hk0, hw8 hk0])) z)
    refine v_goto 1792 dL_law_291 rfl ?_
    refine v_loc [2, 3, 4, 5, 6] (lw_loc G b i) rfl ?_
    exact hk τ7 a' (cells + 1) (slots + 6) (hck9.far (fun n hn => hfr8 n (Or.inl hn))) hmo8 hG' (Nat.le_refl _) (Nat.le_refl _)
set_option maxHeartbeats 4000000 in
set_option maxRecDepth 100000 in
theorem law_line (hl9 : l.stackTraces = false) (hX : StX A s) (hC : StC s) (hS : StoodS E G shp 789) (hO : shp 788 = LoS E 1) (hM : ModS E G shp 789 781) (hb : va_X b L xs s s.heap) (hbl : b < s.heap.size) (hbA : ¬ A b) (hL : L ≤ 2048) {σ : Nat → Nat → Int32} {a : AB} {T i cells slots : Nat} (hCk : Ck σ a) (hMo : Mo σ a) (hG : Go T a) (hT : T ≤ 990000) (hi : i + 4 ≤ L) (hc : cells + 1 ≤ 601024) (hs : slots + 6 ≤ 7293034)
    (hk : ∀ σ' a' cells' slots', Ck σ' a' → Mo σ' a' → Go (T + 1000) a' → cells' ≤ cells + 1 → slots' ≤ slots + 6 → V p l e room_1 s m args below meth c Q D E A cL_law 7 RL ret wsL_law 789 G cells' slots' (φ shp σ') 1792 (lw_loc G b i) []) : V p l e room_1 s m args below meth c Q D E A cL_law 7 RL ret wsL_law 789 G cells slots (φ shp σ) 350 (lw_loc G b i) [] := by
  obtain ⟨k, v', a', hk3, hG', hW, h6⟩ := op_line l hl9 D E 789 G shp σ hS (by decide) hO hM hCk hG hT (xs (nI (i + 1)).toNatClampNeg) (xs (nI (i + 2)).toNatClampNeg)
  refine v_aload_n 2 dL_law_350 rfl rfl ?_
  refine v_aload_n 1 dL_law_351 rfl rfl ?_
  refine v_iload 0 dL_law_352 rfl ?_
  refine v_iconst (nI 1) dL_law_354 (by decide +kernel) ?_
  refine v_iaddN dL_law_355 ?_
  refine v_sld hb hbl hbA (vp_in_nI (by omega) (by omega)) dL_law_356 ?_
  refine v_aload_n 1 dL_law_357 rfl rfl ?_
  refine v_iload 0 dL_law_358 rfl ?_
  refine v_iconst (nI 2) dL_law_360 (by decide +kernel) ?_
  refine v_iaddN dL_law_361 ?_
  refine v_sld hb hbl hbA (vp_in_nI (by omega) (by omega)) dL_law_362 ?_
  refine v_aload_n 4 dL_law_363 rfl rfl ?_
  refine u_callSW [.ref (G 0), .int (xs (nI (i + 1)).toNatClampNeg), .int (xs (nI (i + 2)).toNatClampNeg), .ref (G 788)] [] hX hC hW gL_law_L_line rfl rfl rfl ⟨by decide +kernel, by decide +kernel, Eq.trans (b := some 4) (by decide +kernel) rfl⟩ ⟨Nat.le_of_ble_eq_true rfl, Nat.le_of_ble_eq_true rfl⟩ ⟨hc, hs⟩ (Nat.le_of_ble_eq_true rfl) rfl dL_law_364 (fun v9 τ9 hp9 => ?_)
  obtain ⟨hv9, hck9, hout9, hfr9⟩ := hp9
  subst hv9
  refine v_st (st' := [.int (nI k)]) rfl ?_
  refine v_istore ((5, .int (nI k)) :: lw_loc G b i) dL_law_367 (by decide) rfl ?_
  refine v_aload_n 4 dL_law_369 rfl rfl ?_
  refine v_aload_n 2 dL_law_370 rfl rfl ?_
  refine v_iload 1 dL_law_371 rfl ?_
  refine v_iconst (nI 1) dL_law_373 (by decide +kernel) ?_
  refine v_iaddN dL_law_374 ?_
  refine v_sld hb hbl hbA (vp_in_nI (by omega) (by omega)) dL_law_375 ?_
  refine v_aload_n 2 dL_law_376 rfl rfl ?_
  refine v_iload 1 dL_law_377 rfl ?_
  refine v_iconst (nI 2) dL_law_379 (by decide +kernel) ?_
  refine v_iaddN dL_law_380 ?_
  refine v_sld hb hbl hbA (vp_in_nI (by omega) (by omega)) dL_law_381 ?_
  refine u_callVx [.int (xs (nI (i + 1)).toNatClampNeg), .int (xs (nI (i + 2)).toNatClampNeg)] [] 2 (h6 τ9 (hMo.cong hfr9)) (ci := 6) (C := RX6) (T := TX6) (NF := 13) hM.n hM.s rfl gL_law_X6_line rfl rfl rfl (by decide +kernel) rfl ⟨Nat.le_of_ble_eq_true rfl, Nat.le_of_ble_eq_true rfl⟩ ⟨hc, hs⟩ (Nat.le_of_ble_eq_true rfl) rfl dL_law_382 (fun v8 τ8 hp8 => ?_)
  obtain ⟨⟨w8, hv8, hw8⟩, hth8, hmo8, hfr8⟩ := hp8
  subst hv8
  refine v_st (st' := [.int w8]) rfl ?_
  refine v_istore ((6, .int w8) :: (5, .int (nI k)) :: lw_loc G b i) dL_law_385 (by decide) rfl ?_
  refine v_aload_n 5 dL_law_387 rfl rfl ?_
  refine u_callVx [] [] 0 (lw_thrown l D E 789 G shp τ8 hM hth8) (ci := 6) (C := RX6) (T := TX6) (NF := 13) hM.n hM.s rfl gL_law_X6_thrown rfl rfl rfl (by decide +kernel) rfl ⟨Nat.le_of_ble_eq_true rfl, Nat.le_of_ble_eq_true rfl⟩ ⟨hc, hs⟩ (Nat.le_of_ble_eq_true rfl) rfl dL_law_388 (fun v7 τ7 hp7 => ?_)
  obtain ⟨hv7, h7⟩ := hp7
  subst hv7
  subst h7
  refine v_st (st' := [.int (nI k)]) rfl ?_
  refine v_iload 1 dL_law_391 rfl ?_
  refine v_icmp_eqN 398 (by omega) (by omega) dL_law_393 rfl (fun _ => ?_) (fun z => absurd rfl z)
  refine v_iload 1 dL_law_398 rfl ?_
  refine v_if_neN 415 (by omega) dL_law_400 rfl (fun _ => ?_) (fun hk0 => ?_)
  · refine v_goto 1792 dL_law_415 rfl ?_
    refine v_loc [2, 3, 4, 5, 6] (lw_loc G b i) rfl ?_
    exact hk τ7 a' (cells + 1) (slots + 6) (hck9.far (fun n hn => hfr8 n (Or.inl hn))) hmo8 hG' (Nat.le_refl _) (Nat.le_refl _)
  · refine v_aload_n 6 dL_law_403 rfl rfl ?_
    refine v_iconst (nI 0) dL_law_404 (by decide +kernel) ?_
    refine u_lald 0 (by decide) hO rfl (by decide) (by decide) dL_law_405 ?_
    refine v_iload 0 dL_law_406 rfl ?_
    refine v_i2l dL_law_408 ?_
    refine v_lcmp dL_law_409 ?_
    refine v_if_eq 415 dL_law_410 rfl (fun _ => ?_) (fun z => absurd ((lg_cmp_eq _ _).mpr (by rw [hfr8 788 (Or.inr rfl), hout9 hk0, hw8 hk0])) z)
    refine v_goto 1792 dL_law_415 rfl ?_
    refine v_loc [2, 3, 4, 5, 6] (lw_loc G b i) rfl ?_
    exact hk τ7 a' (cells + 1) (slots + 6) (hck9.far (fun n hn => hfr8 n (Or.inl hn))) hmo8 hG' (Nat.le_refl _) (Nat.le_refl _)
set_option maxHeartbeats 4000000 in
set_option maxRecDepth 100000 in
theorem law_at (hl9 : l.stackTraces = false) (hX : StX A s) (hC : StC s) (hS : StoodS E G shp 789) (hO : shp 788 = LoS E 1) (hM : ModS E G shp 789 781) (hb : va_X b L xs s s.heap) (hbl : b < s.heap.size) (hbA : ¬ A b) (hL : L ≤ 2048) {σ : Nat → Nat → Int32} {a : AB} {T i cells slots : Nat} (hCk : Ck σ a) (hMo : Mo σ a) (hG : Go T a) (hT : T ≤ 990000) (hi : i + 4 ≤ L) (hc : cells + 1 ≤ 601024) (hs : slots + 6 ≤ 7293034)
    (hk : ∀ σ' a' cells' slots', Ck σ' a' → Mo σ' a' → Go (T + 1000) a' → cells' ≤ cells + 1 → slots' ≤ slots + 6 → V p l e room_1 s m args below meth c Q D E A cL_law 7 RL ret wsL_law 789 G cells' slots' (φ shp σ') 1792 (lw_loc G b i) []) : V p l e room_1 s m args below meth c Q D E A cL_law 7 RL ret wsL_law 789 G cells slots (φ shp σ) 418 (lw_loc G b i) [] := by
  obtain ⟨k, v', a', hk3, hG', hW, h6⟩ := op_at l hl9 D E 789 G shp σ hS (by decide) hO hM hCk hG hT (xs (nI (i + 1)).toNatClampNeg) (xs (nI (i + 2)).toNatClampNeg)
  refine v_aload_n 2 dL_law_418 rfl rfl ?_
  refine v_aload_n 1 dL_law_419 rfl rfl ?_
  refine v_iload 0 dL_law_420 rfl ?_
  refine v_iconst (nI 1) dL_law_422 (by decide +kernel) ?_
  refine v_iaddN dL_law_423 ?_
  refine v_sld hb hbl hbA (vp_in_nI (by omega) (by omega)) dL_law_424 ?_
  refine v_aload_n 1 dL_law_425 rfl rfl ?_
  refine v_iload 0 dL_law_426 rfl ?_
  refine v_iconst (nI 2) dL_law_428 (by decide +kernel) ?_
  refine v_iaddN dL_law_429 ?_
  refine v_sld hb hbl hbA (vp_in_nI (by omega) (by omega)) dL_law_430 ?_
  refine v_aload_n 4 dL_law_431 rfl rfl ?_
  refine u_callSW [.ref (G 0), .int (xs (nI (i + 1)).toNatClampNeg), .int (xs (nI (i + 2)).toNatClampNeg), .ref (G 788)] [] hX hC hW gL_law_L_at rfl rfl rfl ⟨by decide +kernel, by decide +kernel, Eq.trans (b := some 4) (by decide +kernel) rfl⟩ ⟨Nat.le_of_ble_eq_true rfl, Nat.le_of_ble_eq_true rfl⟩ ⟨hc, hs⟩ (Nat.le_of_ble_eq_true rfl) rfl dL_law_432 (fun v9 τ9 hp9 => ?_)
  obtain ⟨hv9, hck9, hout9, hfr9⟩ := hp9
  subst hv9
  refine v_st (st' := [.int (nI k)]) rfl ?_
  refine v_istore ((5, .int (nI k)) :: lw_loc G b i) dL_law_435 (by decide) rfl ?_
  refine v_aload_n 4 dL_law_437 rfl rfl ?_
  refine v_aload_n 2 dL_law_438 rfl rfl ?_
  refine v_iload 1 dL_law_439 rfl ?_
  refine v_iconst (nI 1) dL_law_441 (by decide +kernel) ?_
  refine v_iaddN dL_law_442 ?_
  refine v_sld hb hbl hbA (vp_in_nI (by omega) (by omega)) dL_law_443 ?_
  refine v_aload_n 2 dL_law_444 rfl rfl ?_
  refine v_iload 1 dL_law_445 rfl ?_
  refine v_iconst (nI 2) dL_law_447 (by decide +kernel) ?_
  refine v_iaddN dL_law_448 ?_
  refine v_sld hb hbl hbA (vp_in_nI (by omega) (by omega)) dL_law_449 ?_
  refine u_callVx [.int (xs (nI (i + 1)).toNatClampNeg), .int (xs (nI (i + 2)).toNatClampNeg)] [] 2 (h6 τ9 (hMo.cong hfr9)) (ci := 6) (C := RX6) (T := TX6) (NF := 13) hM.n hM.s rfl gL_law_X6_at rfl rfl rfl (by decide +kernel) rfl ⟨Nat.le_of_ble_eq_true rfl, Nat.le_of_ble_eq_true rfl⟩ ⟨hc, hs⟩ (Nat.le_of_ble_eq_true rfl) rfl dL_law_450 (fun v8 τ8 hp8 => ?_)
  obtain ⟨⟨w8, hv8, hw8⟩, hth8, hmo8, hfr8⟩ := hp8
  subst hv8
  refine v_st (st' := [.int w8]) rfl ?_
  refine v_istore ((6, .int w8) :: (5, .int (nI k)) :: lw_loc G b i) dL_law_453 (by decide) rfl ?_
  refine v_aload_n 5 dL_law_455 rfl rfl ?_
  refine u_callVx [] [] 0 (lw_thrown l D E 789 G shp τ8 hM hth8) (ci := 6) (C := RX6) (T := TX6) (NF := 13) hM.n hM.s rfl gL_law_X6_thrown rfl rfl rfl (by decide +kernel) rfl ⟨Nat.le_of_ble_eq_true rfl, Nat.le_of_ble_eq_true rfl⟩ ⟨hc, hs⟩ (Nat.le_of_ble_eq_true rfl) rfl dL_law_456 (fun v7 τ7 hp7 => ?_)
  obtain ⟨hv7, h7⟩ := hp7
  subst hv7
  subst h7
  refine v_st (st' := [.int (nI k)]) rfl ?_
  refine v_iload 1 dL_law_459 rfl ?_
  refine v_icmp_eqN 466 (by omega) (by omega) dL_law_461 rfl (fun _ => ?_) (fun z => absurd rfl z)
  refine v_iload 1 dL_law_466 rfl ?_
  refine v_if_neN 483 (by omega) dL_law_468 rfl (fun _ => ?_) (fun hk0 => ?_)
  · refine v_goto 1792 dL_law_483 rfl ?_
    refine v_loc [2, 3, 4, 5, 6] (lw_loc G b i) rfl ?_
    exact hk τ7 a' (cells + 1) (slots + 6) (hck9.far (fun n hn => hfr8 n (Or.inl hn))) hmo8 hG' (Nat.le_refl _) (Nat.le_refl _)
  · refine v_aload_n 6 dL_law_471 rfl rfl ?_
    refine v_iconst (nI 0) dL_law_472 (by decide +kernel) ?_
    refine u_lald 0 (by decide) hO rfl (by decide) (by decide) dL_law_473 ?_
    refine v_iload 0 dL_law_474 rfl ?_
    refine v_i2l dL_law_476 ?_
    refine v_lcmp dL_law_477 ?_
    refine v_if_eq 483 dL_law_478 rfl (fun _ => ?_) (fun z => absurd ((lg_cmp_eq _ _).mpr (by rw [hfr8 788 (Or.inr rfl), hout9 hk0, hw8 hk0])) z)
    refine v_goto 1792 dL_law_483 rfl ?_
    refine v_loc [2, 3, 4, 5, 6] (lw_loc G b i) rfl ?_
    exact hk τ7 a' (cells + 1) (slots + 6) (hck9.far (fun n hn => hfr8 n (Or.inl hn))) hmo8 hG' (Nat.le_refl _) (Nat.le_refl _)
set_option maxHeartbeats 4000000 in
set_option maxRecDepth 100000 in
theorem law_person (hl9 : l.stackTraces = false) (hX : StX A s) (hC : StC s) (hS : StoodS E G shp 789) (hO : shp 788 = LoS E 1) (hM : ModS E G shp 789 781) (hb : va_X b L xs s s.heap) (hbl : b < s.heap.size) (hbA : ¬ A b) (hL : L ≤ 2048) {σ : Nat → Nat → Int32} {a : AB} {T i cells slots : Nat} (hCk : Ck σ a) (hMo : Mo σ a) (hG : Go T a) (hT : T ≤ 990000) (hi : i + 4 ≤ L) (hc : cells + 1 ≤ 601024) (hs : slots + 6 ≤ 7293034)
    (hk : ∀ σ' a' cells' slots', Ck σ' a' → Mo σ' a' → Go (T + 1000) a' → cells' ≤ cells + 1 → slots' ≤ slots + 6 → V p l e room_1 s m args below meth c Q D E A cL_law 7 RL ret wsL_law 789 G cells' slots' (φ shp σ') 1792 (lw_loc G b i) []) : V p l e room_1 s m args below meth c Q D E A cL_law 7 RL ret wsL_law 789 G cells slots (φ shp σ) 486 (lw_loc G b i) [] := by
  obtain ⟨k, v', a', hk3, hG', hW, h6⟩ := op_person l hl9 D E 789 G shp σ hS (by decide) hO hM hCk hG hT (xs (nI (i + 1)).toNatClampNeg) (xs (nI (i + 2)).toNatClampNeg)
  refine v_aload_n 2 dL_law_486 rfl rfl ?_
  refine v_aload_n 1 dL_law_487 rfl rfl ?_
  refine v_iload 0 dL_law_488 rfl ?_
  refine v_iconst (nI 1) dL_law_490 (by decide +kernel) ?_
  refine v_iaddN dL_law_491 ?_
  refine v_sld hb hbl hbA (vp_in_nI (by omega) (by omega)) dL_law_492 ?_
  refine v_aload_n 1 dL_law_493 rfl rfl ?_
  refine v_iload 0 dL_law_494 rfl ?_
  refine v_iconst (nI 2) dL_law_496 (by decide +kernel) ?_
  refine v_iaddN dL_law_497 ?_
  refine v_sld hb hbl hbA (vp_in_nI (by omega) (by omega)) dL_law_498 ?_
  refine v_aload_n 4 dL_law_499 rfl rfl ?_
  refine u_callSW [.ref (G 0), .int (xs (nI (i + 1)).toNatClampNeg), .int (xs (nI (i + 2)).toNatClampNeg), .ref (G 788)] [] hX hC hW gL_law_L_person rfl rfl rfl ⟨by decide +kernel, by decide +kernel, Eq.trans (b := some 4) (by decide +kernel) rfl⟩ ⟨Nat.le_of_ble_eq_true rfl, Nat.le_of_ble_eq_true rfl⟩ ⟨hc, hs⟩ (Nat.le_of_ble_eq_true rfl) rfl dL_law_500 (fun v9 τ9 hp9 => ?_)
  obtain ⟨hv9, hck9, hout9, hfr9⟩ := hp9
  subst hv9
  refine v_st (st' := [.int (nI k)]) rfl ?_
  refine v_istore ((5, .int (nI k)) :: lw_loc G b i) dL_law_503 (by decide) rfl ?_
  refine v_aload_n 4 dL_law_505 rfl rfl ?_
  refine v_aload_n 2 dL_law_506 rfl rfl ?_
  refine v_iload 1 dL_law_507 rfl ?_
  refine v_iconst (nI 1) dL_law_509 (by decide +kernel) ?_
  refine v_iaddN dL_law_510 ?_
  refine v_sld hb hbl hbA (vp_in_nI (by omega) (by omega)) dL_law_511 ?_
  refine v_aload_n 2 dL_law_512 rfl rfl ?_
  refine v_iload 1 dL_law_513 rfl ?_
  refine v_iconst (nI 2) dL_law_515 (by decide +kernel) ?_
  refine v_iaddN dL_law_516 ?_
  refine v_sld hb hbl hbA (vp_in_nI (by omega) (by omega)) dL_law_517 ?_
  refine u_callVx [.int (xs (nI (i + 1)).toNatClampNeg), .int (xs (nI (i + 2)).toNatClampNeg)] [] 2 (h6 τ9 (hMo.cong hfr9)) (ci := 6) (C := RX6) (T := TX6) (NF := 13) hM.n hM.s rfl gL_law_X6_person rfl rfl rfl (by decide +kernel) rfl ⟨Nat.le_of_ble_eq_true rfl, Nat.le_of_ble_eq_true rfl⟩ ⟨hc, hs⟩ (Nat.le_of_ble_eq_true rfl) rfl dL_law_518 (fun v8 τ8 hp8 => ?_)
  obtain ⟨⟨w8, hv8, hw8⟩, hth8, hmo8, hfr8⟩ := hp8
  subst hv8
  refine v_st (st' := [.int w8]) rfl ?_
  refine v_istore ((6, .int w8) :: (5, .int (nI k)) :: lw_loc G b i) dL_law_521 (by decide) rfl ?_
  refine v_aload_n 5 dL_law_523 rfl rfl ?_
  refine u_callVx [] [] 0 (lw_thrown l D E 789 G shp τ8 hM hth8) (ci := 6) (C := RX6) (T := TX6) (NF := 13) hM.n hM.s rfl gL_law_X6_thrown rfl rfl rfl (by decide +kernel) rfl ⟨Nat.le_of_ble_eq_true rfl, Nat.le_of_ble_eq_true rfl⟩ ⟨hc, hs⟩ (Nat.le_of_ble_eq_true rfl) rfl dL_law_524 (fun v7 τ7 hp7 => ?_)
  obtain ⟨hv7, h7⟩ := hp7
  subst hv7
  subst h7
  refine v_st (st' := [.int (nI k)]) rfl ?_
  refine v_iload 1 dL_law_527 rfl ?_
  refine v_icmp_eqN 534 (by omega) (by omega) dL_law_529 rfl (fun _ => ?_) (fun z => absurd rfl z)
  refine v_iload 1 dL_law_534 rfl ?_
  refine v_if_neN 551 (by omega) dL_law_536 rfl (fun _ => ?_) (fun hk0 => ?_)
  · refine v_goto 1792 dL_law_551 rfl ?_
    refine v_loc [2, 3, 4, 5, 6] (lw_loc G b i) rfl ?_
    exact hk τ7 a' (cells + 1) (slots + 6) (hck9.far (fun n hn => hfr8 n (Or.inl hn))) hmo8 hG' (Nat.le_refl _) (Nat.le_refl _)
  · refine v_aload_n 6 dL_law_539 rfl rfl ?_
    refine v_iconst (nI 0) dL_law_540 (by decide +kernel) ?_
    refine u_lald 0 (by decide) hO rfl (by decide) (by decide) dL_law_541 ?_
    refine v_iload 0 dL_law_542 rfl ?_
    refine v_i2l dL_law_544 ?_
    refine v_lcmp dL_law_545 ?_
    refine v_if_eq 551 dL_law_546 rfl (fun _ => ?_) (fun z => absurd ((lg_cmp_eq _ _).mpr (by rw [hfr8 788 (Or.inr rfl), hout9 hk0, hw8 hk0])) z)
    refine v_goto 1792 dL_law_551 rfl ?_
    refine v_loc [2, 3, 4, 5, 6] (lw_loc G b i) rfl ?_
    exact hk τ7 a' (cells + 1) (slots + 6) (hck9.far (fun n hn => hfr8 n (Or.inl hn))) hmo8 hG' (Nat.le_refl _) (Nat.le_refl _)
set_option maxHeartbeats 4000000 in
set_option maxRecDepth 100000 in
theorem law_setting (hl9 : l.stackTraces = false) (hX : StX A s) (hC : StC s) (hS : StoodS E G shp 789) (hO : shp 788 = LoS E 1) (hM : ModS E G shp 789 781) (hb : va_X b L xs s s.heap) (hbl : b < s.heap.size) (hbA : ¬ A b) (hL : L ≤ 2048) {σ : Nat → Nat → Int32} {a : AB} {T i cells slots : Nat} (hCk : Ck σ a) (hMo : Mo σ a) (hG : Go T a) (hT : T ≤ 990000) (hi : i + 4 ≤ L) (hc : cells + 1 ≤ 601024) (hs : slots + 6 ≤ 7293034)
    (hk : ∀ σ' a' cells' slots', Ck σ' a' → Mo σ' a' → Go (T + 1000) a' → cells' ≤ cells + 1 → slots' ≤ slots + 6 → V p l e room_1 s m args below meth c Q D E A cL_law 7 RL ret wsL_law 789 G cells' slots' (φ shp σ') 1792 (lw_loc G b i) []) : V p l e room_1 s m args below meth c Q D E A cL_law 7 RL ret wsL_law 789 G cells slots (φ shp σ) 554 (lw_loc G b i) [] := by
  obtain ⟨k, v', a', hk3, hG', hW, h6⟩ := op_setting l hl9 D E 789 G shp σ hS (by decide) hO hM hCk hG hT (xs (nI (i + 1)).toNatClampNeg)
  refine v_aload_n 2 dL_law_554 rfl rfl ?_
  refine v_aload_n 1 dL_law_555 rfl rfl ?_
  refine v_iload 0 dL_law_556 rfl ?_
  refine v_iconst (nI 1) dL_law_558 (by decide +kernel) ?_
  refine v_iaddN dL_law_559 ?_
  refine v_sld hb hbl hbA (vp_in_nI (by omega) (by omega)) dL_law_560 ?_
  refine v_aload_n 4 dL_law_561 rfl rfl ?_
  refine u_callSW [.ref (G 0), .int (xs (nI (i + 1)).toNatClampNeg), .ref (G 788)] [] hX hC hW gL_law_L_setting rfl rfl rfl ⟨by decide +kernel, by decide +kernel, Eq.trans (b := some 3) (by decide +kernel) rfl⟩ ⟨Nat.le_of_ble_eq_true rfl, Nat.le_of_ble_eq_true rfl⟩ ⟨hc, hs⟩ (Nat.le_of_ble_eq_true rfl) rfl dL_law_562 (fun v9 τ9 hp9 => ?_)
  obtain ⟨hv9, hck9, hout9, hfr9⟩ := hp9
  subst hv9
  refine v_st (st' := [.int (nI k)]) rfl ?_
  refine v_istore ((5, .int (nI k)) :: lw_loc G b i) dL_law_565 (by decide) rfl ?_
  refine v_aload_n 4 dL_law_567 rfl rfl ?_
  refine v_aload_n 2 dL_law_568 rfl rfl ?_
  refine v_iload 1 dL_law_569 rfl ?_
  refine v_iconst (nI 1) dL_law_571 (by decide +kernel) ?_
  refine v_iaddN dL_law_572 ?_
  refine v_sld hb hbl hbA (vp_in_nI (by omega) (by omega)) dL_law_573 ?_
  refine u_callVx [.int (xs (nI (i + 1)).toNatClampNeg)] [] 1 (h6 τ9 (hMo.cong hfr9)) (ci := 6) (C := RX6) (T := TX6) (NF := 13) hM.n hM.s rfl gL_law_X6_setting rfl rfl rfl (by decide +kernel) rfl ⟨Nat.le_of_ble_eq_true rfl, Nat.le_of_ble_eq_true rfl⟩ ⟨hc, hs⟩ (Nat.le_of_ble_eq_true rfl) rfl dL_law_574 (fun v8 τ8 hp8 => ?_)
  obtain ⟨⟨w8, hv8, hw8⟩, hth8, hmo8, hfr8⟩ := hp8
  subst hv8
  refine v_st (st' := [.int w8]) rfl ?_
  refine v_istore ((6, .int w8) :: (5, .int (nI k)) :: lw_loc G b i) dL_law_577 (by decide) rfl ?_
  refine v_aload_n 5 dL_law_579 rfl rfl ?_
  refine u_callVx [] [] 0 (lw_thrown l D E 789 G shp τ8 hM hth8) (ci := 6) (C := RX6) (T := TX6) (NF := 13) hM.n hM.s rfl gL_law_X6_thrown rfl rfl rfl (by decide +kernel) rfl ⟨Nat.le_of_ble_eq_true rfl, Nat.le_of_ble_eq_true rfl⟩ ⟨hc, hs⟩ (Nat.le_of_ble_eq_true rfl) rfl dL_law_580 (fun v7 τ7 hp7 => ?_)
  obtain ⟨hv7, h7⟩ := hp7
  subst hv7
  subst h7
  refine v_st (st' := [.int (nI k)]) rfl ?_
  refine v_iload 1 dL_law_583 rfl ?_
  refine v_icmp_eqN 590 (by omega) (by omega) dL_law_585 rfl (fun _ => ?_) (fun z => absurd rfl z)
  refine v_iload 1 dL_law_590 rfl ?_
  refine v_if_neN 607 (by omega) dL_law_592 rfl (fun _ => ?_) (fun hk0 => ?_)
  · refine v_goto 1792 dL_law_607 rfl ?_
    refine v_loc [2, 3, 4, 5, 6] (lw_loc G b i) rfl ?_
    exact hk τ7 a' (cells + 1) (slots + 6) (hck9.far (fun n hn => hfr8 n (Or.inl hn))) hmo8 hG' (Nat.le_refl _) (Nat.le_refl _)
  · refine v_aload_n 6 dL_law_595 rfl rfl ?_
    refine v_iconst (nI 0) dL_law_596 (by decide +kernel) ?_
    refine u_lald 0 (by decide) hO rfl (by decide) (by decide) dL_law_597 ?_
    refine v_iload 0 dL_law_598 rfl ?_
    refine v_i2l dL_law_600 ?_
    refine v_lcmp dL_law_601 ?_
    refine v_if_eq 607 dL_law_602 rfl (fun _ => ?_) (fun z => absurd ((lg_cmp_eq _ _).mpr (by rw [hfr8 788 (Or.inr rfl), hout9 hk0, hw8 hk0])) z)
    refine v_goto 1792 dL_law_607 rfl ?_
    refine v_loc [2, 3, 4, 5, 6] (lw_loc G b i) rfl ?_
    exact hk τ7 a' (cells + 1) (slots + 6) (hck9.far (fun n hn => hfr8 n (Or.inl hn))) hmo8 hG' (Nat.le_refl _) (Nat.le_refl _)
set_option maxHeartbeats 4000000 in
set_option maxRecDepth 100000 in
theorem law_open (hl9 : l.stackTraces = false) (hX : StX A s) (hC : StC s) (hS : StoodS E G shp 789) (hO : shp 788 = LoS E 1) (hM : ModS E G shp 789 781) (hb : va_X b L xs s s.heap) (hbl : b < s.heap.size) (hbA : ¬ A b) (hL : L ≤ 2048) {σ : Nat → Nat → Int32} {a : AB} {T i cells slots : Nat} (hCk : Ck σ a) (hMo : Mo σ a) (hG : Go T a) (hT : T ≤ 990000) (hi : i + 4 ≤ L) (hc : cells + 1 ≤ 601024) (hs : slots + 6 ≤ 7293034)
    (hk : ∀ σ' a' cells' slots', Ck σ' a' → Mo σ' a' → Go (T + 1000) a' → cells' ≤ cells + 1 → slots' ≤ slots + 6 → V p l e room_1 s m args below meth c Q D E A cL_law 7 RL ret wsL_law 789 G cells' slots' (φ shp σ') 1792 (lw_loc G b i) []) : V p l e room_1 s m args below meth c Q D E A cL_law 7 RL ret wsL_law 789 G cells slots (φ shp σ) 610 (lw_loc G b i) [] := by
  obtain ⟨k, v', a', hk3, hG', hW, h6⟩ := op_open l hl9 D E 789 G shp σ hS (by decide) hO hM hCk hG hT (xs (nI (i + 1)).toNatClampNeg)
  refine v_aload_n 2 dL_law_610 rfl rfl ?_
  refine v_aload_n 1 dL_law_611 rfl rfl ?_
  refine v_iload 0 dL_law_612 rfl ?_
  refine v_iconst (nI 1) dL_law_614 (by decide +kernel) ?_
  refine v_iaddN dL_law_615 ?_
  refine v_sld hb hbl hbA (vp_in_nI (by omega) (by omega)) dL_law_616 ?_
  refine v_aload_n 4 dL_law_617 rfl rfl ?_
  refine u_callSW [.ref (G 0), .int (xs (nI (i + 1)).toNatClampNeg), .ref (G 788)] [] hX hC hW gL_law_L_open rfl rfl rfl ⟨by decide +kernel, by decide +kernel, Eq.trans (b := some 3) (by decide +kernel) rfl⟩ ⟨Nat.le_of_ble_eq_true rfl, Nat.le_of_ble_eq_true rfl⟩ ⟨hc, hs⟩ (Nat.le_of_ble_eq_true rfl) rfl dL_law_618 (fun v9 τ9 hp9 => ?_)
  obtain ⟨hv9, hck9, hout9, hfr9⟩ := hp9
  subst hv9
  refine v_st (st' := [.int (nI k)]) rfl ?_
  refine v_istore ((5, .int (nI k)) :: lw_loc G b i) dL_law_621 (by decide) rfl ?_
  refine v_aload_n 4 dL_law_623 rfl rfl ?_
  refine v_aload_n 2 dL_law_624 rfl rfl ?_
  refine v_iload 1 dL_law_625 rfl ?_
  refine v_iconst (nI 1) dL_law_627 (by decide +kernel) ?_
  refine v_iaddN dL_law_628 ?_
  refine v_sld hb hbl hbA (vp_in_nI (by omega) (by omega)) dL_law_629 ?_
  refine u_callVx [.int (xs (nI (i + 1)).toNatClampNeg)] [] 1 (h6 τ9 (hMo.cong hfr9)) (ci := 6) (C := RX6) (T := TX6) (NF := 13) hM.n hM.s rfl gL_law_X6_open rfl rfl rfl (by decide +kernel) rfl ⟨Nat.le_of_ble_eq_true rfl, Nat.le_of_ble_eq_true rfl⟩ ⟨hc, hs⟩ (Nat.le_of_ble_eq_true rfl) rfl dL_law_630 (fun v8 τ8 hp8 => ?_)
  obtain ⟨⟨w8, hv8, hw8⟩, hth8, hmo8, hfr8⟩ := hp8
  subst hv8
  refine v_st (st' := [.int w8]) rfl ?_
  refine v_istore ((6, .int w8) :: (5, .int (nI k)) :: lw_loc G b i) dL_law_633 (by decide) rfl ?_
  refine v_aload_n 5 dL_law_635 rfl rfl ?_
  refine u_callVx [] [] 0 (lw_thrown l D E 789 G shp τ8 hM hth8) (ci := 6) (C := RX6) (T := TX6) (NF := 13) hM.n hM.s rfl gL_law_X6_thrown rfl rfl rfl (by decide +kernel) rfl ⟨Nat.le_of_ble_eq_true rfl, Nat.le_of_ble_eq_true rfl⟩ ⟨hc, hs⟩ (Nat.le_of_ble_eq_true rfl) rfl dL_law_636 (fun v7 τ7 hp7 => ?_)
  obtain ⟨hv7, h7⟩ := hp7
  subst hv7
  subst h7
  refine v_st (st' := [.int (nI k)]) rfl ?_
  refine v_iload 1 dL_law_639 rfl ?_
  refine v_icmp_eqN 646 (by omega) (by omega) dL_law_641 rfl (fun _ => ?_) (fun z => absurd rfl z)
  refine v_iload 1 dL_law_646 rfl ?_
  refine v_if_neN 663 (by omega) dL_law_648 rfl (fun _ => ?_) (fun hk0 => ?_)
  · refine v_goto 1792 dL_law_663 rfl ?_
    refine v_loc [2, 3, 4, 5, 6] (lw_loc G b i) rfl ?_
    exact hk τ7 a' (cells + 1) (slots + 6) (hck9.far (fun n hn => hfr8 n (Or.inl hn))) hmo8 hG' (Nat.le_refl _) (Nat.le_refl _)
  · refine v_aload_n 6 dL_law_651 rfl rfl ?_
    refine v_iconst (nI 0) dL_law_652 (by decide +kernel) ?_
    refine u_lald 0 (by decide) hO rfl (by decide) (by decide) dL_law_653 ?_
    refine v_iload 0 dL_law_654 rfl ?_
    refine v_i2l dL_law_656 ?_
    refine v_lcmp dL_law_657 ?_
    refine v_if_eq 663 dL_law_658 rfl (fun _ => ?_) (fun z => absurd ((lg_cmp_eq _ _).mpr (by rw [hfr8 788 (Or.inr rfl), hout9 hk0, hw8 hk0])) z)
    refine v_goto 1792 dL_law_663 rfl ?_
    refine v_loc [2, 3, 4, 5, 6] (lw_loc G b i) rfl ?_
    exact hk τ7 a' (cells + 1) (slots + 6) (hck9.far (fun n hn => hfr8 n (Or.inl hn))) hmo8 hG' (Nat.le_refl _) (Nat.le_refl _)
end LAW9
