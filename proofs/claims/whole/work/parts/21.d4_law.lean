section LAW9
variable {p : Program} {l : Launch} {e : Env} {s : State} {m : MethodId} {args : Array Value} {below : List Frame} {meth : Method} {c : Code} {Q : State → Prop} {D : va_G} {E : Nat → ClassId} {A : Nat → Prop} {ret : Option FieldType} {G : Nat → Nat} {shp : Nat → (Nat → Int32) → va_E} {b L : Nat} {xs : Nat → Int32}
set_option maxHeartbeats 4000000 in
set_option maxRecDepth 100000 in
theorem law_saved (hl9 : l.stackTraces = false) (hX : StX A s) (hC : StC s) (hS : StoodS E G shp 789) (hO : shp 788 = LoS E 1) (hM : ModS E G shp 789 781) (hb : va_X b L xs s s.heap) (hbl : b < s.heap.size) (hbA : ¬ A b) (hL : L ≤ 2048) {σ : Nat → Nat → Int32} {a : AB} {T i cells slots : Nat} (hCk : Ck σ a) (hMo : Mo σ a) (hG : Go T a) (hT : T ≤ 990000) (hi : i + 4 ≤ L) (hc : cells + 1 ≤ 601024) (hs : slots + 6 ≤ 7293034)
    (hk : ∀ σ' a' cells' slots', Ck σ' a' → Mo σ' a' → Go (T + 1000) a' → cells' ≤ cells + 1 → slots' ≤ slots + 6 → V p l e room_1 s m args below meth c Q D E A cL_law 7 RL ret wsL_law 789 G cells' slots' (φ shp σ') 1792 (lw_loc G b i) []) : V p l e room_1 s m args below meth c Q D E A cL_law 7 RL ret wsL_law 789 G cells slots (φ shp σ) 1412 (lw_loc G b i) [] := by
  obtain ⟨k, v', a', hk3, hG', hW, h6⟩ := op_saved l hl9 D E 789 G shp σ hS (by decide) hO hM hCk hG hT (xs (nI (i + 1)).toNatClampNeg) (xs (nI (i + 2)).toNatClampNeg)
  refine v_aload_n 2 dL_law_1412 rfl rfl ?_
  refine v_aload_n 1 dL_law_1413 rfl rfl ?_
  refine v_iload 0 dL_law_1414 rfl ?_
  refine v_iconst (nI 1) dL_law_1416 (by decide +kernel) ?_
  refine v_iaddN dL_law_1417 ?_
  refine v_sld hb hbl hbA (vp_in_nI (by omega) (by omega)) dL_law_1418 ?_
  refine v_aload_n 1 dL_law_1419 rfl rfl ?_
  refine v_iload 0 dL_law_1420 rfl ?_
  refine v_iconst (nI 2) dL_law_1422 (by decide +kernel) ?_
  refine v_iaddN dL_law_1423 ?_
  refine v_sld hb hbl hbA (vp_in_nI (by omega) (by omega)) dL_law_1424 ?_
  refine v_aload_n 4 dL_law_1425 rfl rfl ?_
  refine u_callSW [.ref (G 0), .int (xs (nI (i + 1)).toNatClampNeg), .int (xs (nI (i + 2)).toNatClampNeg), .ref (G 788)] [] hX hC hW gL_law_L_saved rfl rfl rfl ⟨by decide +kernel, by decide +kernel, Eq.trans (b := some 4) (by decide +kernel) rfl⟩ ⟨Nat.le_of_ble_eq_true rfl, Nat.le_of_ble_eq_true rfl⟩ ⟨hc, hs⟩ (Nat.le_of_ble_eq_true rfl) rfl dL_law_1426 (fun v9 τ9 hp9 => ?_)
  obtain ⟨hv9, hck9, hout9, hfr9⟩ := hp9
  subst hv9
  refine v_st (st' := [.int (nI k)]) rfl ?_
  refine v_istore ((5, .int (nI k)) :: lw_loc G b i) dL_law_1429 (by decide) rfl ?_
  refine v_aload_n 4 dL_law_1431 rfl rfl ?_
  refine v_aload_n 2 dL_law_1432 rfl rfl ?_
  refine v_iload 1 dL_law_1433 rfl ?_
  refine v_iconst (nI 1) dL_law_1435 (by decide +kernel) ?_
  refine v_iaddN dL_law_1436 ?_
  refine v_sld hb hbl hbA (vp_in_nI (by omega) (by omega)) dL_law_1437 ?_
  refine v_aload_n 2 dL_law_1438 rfl rfl ?_
  refine v_iload 1 dL_law_1439 rfl ?_
  refine v_iconst (nI 2) dL_law_1441 (by decide +kernel) ?_
  refine v_iaddN dL_law_1442 ?_
  refine v_sld hb hbl hbA (vp_in_nI (by omega) (by omega)) dL_law_1443 ?_
  refine u_callVx [.int (xs (nI (i + 1)).toNatClampNeg), .int (xs (nI (i + 2)).toNatClampNeg)] [] 2 (h6 τ9 (hMo.cong hfr9)) (ci := 6) (C := RX6) (T := TX6) (NF := 13) hM.n hM.s rfl gL_law_X6_saved rfl rfl rfl (by decide +kernel) rfl ⟨Nat.le_of_ble_eq_true rfl, Nat.le_of_ble_eq_true rfl⟩ ⟨hc, hs⟩ (Nat.le_of_ble_eq_true rfl) rfl dL_law_1444 (fun v8 τ8 hp8 => ?_)
  obtain ⟨⟨w8, hv8, hw8⟩, hth8, hmo8, hfr8⟩ := hp8
  subst hv8
  refine v_st (st' := [.int w8]) rfl ?_
  refine v_istore ((6, .int w8) :: (5, .int (nI k)) :: lw_loc G b i) dL_law_1447 (by decide) rfl ?_
  refine v_aload_n 5 dL_law_1449 rfl rfl ?_
  refine u_callVx [] [] 0 (lw_thrown l D E 789 G shp τ8 hM hth8) (ci := 6) (C := RX6) (T := TX6) (NF := 13) hM.n hM.s rfl gL_law_X6_thrown rfl rfl rfl (by decide +kernel) rfl ⟨Nat.le_of_ble_eq_true rfl, Nat.le_of_ble_eq_true rfl⟩ ⟨hc, hs⟩ (Nat.le_of_ble_eq_true rfl) rfl dL_law_1450 (fun v7 τ7 hp7 => ?_)
  obtain ⟨hv7, h7⟩ := hp7
  subst hv7
  subst h7
  refine v_st (st' := [.int (nI k)]) rfl ?_
  refine v_iload 1 dL_law_1453 rfl ?_
  refine v_icmp_eqN 1460 (by omega) (by omega) dL_law_1455 rfl (fun _ => ?_) (fun z => absurd rfl z)
  refine v_iload 1 dL_law_1460 rfl ?_
  refine v_if_neN 1477 (by omega) dL_law_1462 rfl (fun _ => ?_) (fun hk0 => ?_)
  · refine v_goto 1792 dL_law_1477 rfl ?_
    refine v_loc [2, 3, 4, 5, 6] (lw_loc G b i) rfl ?_
    exact hk τ7 a' (cells + 1) (slots + 6) (hck9.far (fun n hn => hfr8 n (Or.inl hn))) hmo8 hG' (Nat.le_refl _) (Nat.le_refl _)
  · refine v_aload_n 6 dL_law_1465 rfl rfl ?_
    refine v_iconst (nI 0) dL_law_1466 (by decide +kernel) ?_
    refine u_lald 0 (by decide) hO rfl (by decide) (by decide) dL_law_1467 ?_
    refine v_iload 0 dL_law_1468 rfl ?_
    refine v_i2l dL_law_1470 ?_
    refine v_lcmp dL_law_1471 ?_
    refine v_if_eq 1477 dL_law_1472 rfl (fun _ => ?_) (fun z => absurd ((lg_cmp_eq _ _).mpr (by rw [hfr8 788 (Or.inr rfl), hout9 hk0, hw8 hk0])) z)
    refine v_goto 1792 dL_law_1477 rfl ?_
    refine v_loc [2, 3, 4, 5, 6] (lw_loc G b i) rfl ?_
    exact hk τ7 a' (cells + 1) (slots + 6) (hck9.far (fun n hn => hfr8 n (Or.inl hn))) hmo8 hG' (Nat.le_refl _) (Nat.le_refl _)
set_option maxHeartbeats 4000000 in
set_option maxRecDepth 100000 in
theorem law_runScript (hl9 : l.stackTraces = false) (hX : StX A s) (hC : StC s) (hS : StoodS E G shp 789) (hO : shp 788 = LoS E 1) (hM : ModS E G shp 789 781) (hb : va_X b L xs s s.heap) (hbl : b < s.heap.size) (hbA : ¬ A b) (hL : L ≤ 2048) {σ : Nat → Nat → Int32} {a : AB} {T i cells slots : Nat} (hCk : Ck σ a) (hMo : Mo σ a) (hG : Go T a) (hT : T ≤ 990000) (hi : i + 4 ≤ L) (hc : cells + 1 ≤ 601024) (hs : slots + 6 ≤ 7293034)
    (hk : ∀ σ' a' cells' slots', Ck σ' a' → Mo σ' a' → Go (T + 1000) a' → cells' ≤ cells + 1 → slots' ≤ slots + 6 → V p l e room_1 s m args below meth c Q D E A cL_law 7 RL ret wsL_law 789 G cells' slots' (φ shp σ') 1792 (lw_loc G b i) []) : V p l e room_1 s m args below meth c Q D E A cL_law 7 RL ret wsL_law 789 G cells slots (φ shp σ) 1480 (lw_loc G b i) [] := by
  obtain ⟨k, v', a', hk3, hG', hW, h6⟩ := op_runScript l hl9 D E 789 G shp σ hS (by decide) hO hM hCk hG hT (xs (nI (i + 1)).toNatClampNeg) ((xs (nI (i + 2)).toNatClampNeg).toInt64 <<< ((nI 32).toInt64 &&& 63) ||| (xs (nI (i + 3)).toNatClampNeg).toInt64 &&& 4294967295)
  refine v_aload_n 2 dL_law_1480 rfl rfl ?_
  refine v_aload_n 1 dL_law_1481 rfl rfl ?_
  refine v_iload 0 dL_law_1482 rfl ?_
  refine v_iconst (nI 1) dL_law_1484 (by decide +kernel) ?_
  refine v_iaddN dL_law_1485 ?_
  refine v_sld hb hbl hbA (vp_in_nI (by omega) (by omega)) dL_law_1486 ?_
  refine v_aload_n 1 dL_law_1487 rfl rfl ?_
  refine v_iload 0 dL_law_1488 rfl ?_
  refine v_iconst (nI 2) dL_law_1490 (by decide +kernel) ?_
  refine v_iaddN dL_law_1491 ?_
  refine v_sld hb hbl hbA (vp_in_nI (by omega) (by omega)) dL_law_1492 ?_
  refine v_i2l dL_law_1493 ?_
  refine v_bipush (nI 32) dL_law_1494 (by decide +kernel) ?_
  refine v_lshl dL_law_1496 ?_
  refine v_aload_n 1 dL_law_1497 rfl rfl ?_
  refine v_iload 0 dL_law_1498 rfl ?_
  refine v_iconst (nI 3) dL_law_1500 (by decide +kernel) ?_
  refine v_iaddN dL_law_1501 ?_
  refine v_sld hb hbl hbA (vp_in_nI (by omega) (by omega)) dL_law_1502 ?_
  refine v_i2l dL_law_1503 ?_
  refine v_ldc2 (v := (4294967295)) lw_mask dL_law_1504 ?_
  refine v_land dL_law_1507 ?_
  refine v_lor dL_law_1508 ?_
  refine v_aload_n 4 dL_law_1509 rfl rfl ?_
  refine u_callSW [.ref (G 0), .int (xs (nI (i + 1)).toNatClampNeg), .long ((xs (nI (i + 2)).toNatClampNeg).toInt64 <<< ((nI 32).toInt64 &&& 63) ||| (xs (nI (i + 3)).toNatClampNeg).toInt64 &&& 4294967295), .ref (G 788)] [] hX hC hW gL_law_L_runScript rfl rfl rfl ⟨by decide +kernel, by decide +kernel, Eq.trans (b := some 4) (by decide +kernel) rfl⟩ ⟨Nat.le_of_ble_eq_true rfl, Nat.le_of_ble_eq_true rfl⟩ ⟨hc, hs⟩ (Nat.le_of_ble_eq_true rfl) rfl dL_law_1510 (fun v9 τ9 hp9 => ?_)
  obtain ⟨hv9, hck9, hout9, hfr9⟩ := hp9
  subst hv9
  refine v_st (st' := [.int (nI k)]) rfl ?_
  refine v_istore ((5, .int (nI k)) :: lw_loc G b i) dL_law_1513 (by decide) rfl ?_
  refine v_aload_n 4 dL_law_1515 rfl rfl ?_
  refine v_aload_n 2 dL_law_1516 rfl rfl ?_
  refine v_iload 1 dL_law_1517 rfl ?_
  refine v_iconst (nI 1) dL_law_1519 (by decide +kernel) ?_
  refine v_iaddN dL_law_1520 ?_
  refine v_sld hb hbl hbA (vp_in_nI (by omega) (by omega)) dL_law_1521 ?_
  refine v_aload_n 2 dL_law_1522 rfl rfl ?_
  refine v_iload 1 dL_law_1523 rfl ?_
  refine v_iconst (nI 2) dL_law_1525 (by decide +kernel) ?_
  refine v_iaddN dL_law_1526 ?_
  refine v_sld hb hbl hbA (vp_in_nI (by omega) (by omega)) dL_law_1527 ?_
  refine v_i2l dL_law_1528 ?_
  refine v_bipush (nI 32) dL_law_1529 (by decide +kernel) ?_
  refine v_lshl dL_law_1531 ?_
  refine v_aload_n 2 dL_law_1532 rfl rfl ?_
  refine v_iload 1 dL_law_1533 rfl ?_
  refine v_iconst (nI 3) dL_law_1535 (by decide +kernel) ?_
  refine v_iaddN dL_law_1536 ?_
  refine v_sld hb hbl hbA (vp_in_nI (by omega) (by omega)) dL_law_1537 ?_
  refine v_i2l dL_law_1538 ?_
  refine v_ldc2 (v := (4294967295)) lw_mask dL_law_1539 ?_
  refine v_land dL_law_1542 ?_
  refine v_lor dL_law_1543 ?_
  refine u_callVx [.int (xs (nI (i + 1)).toNatClampNeg), .long ((xs (nI (i + 2)).toNatClampNeg).toInt64 <<< ((nI 32).toInt64 &&& 63) ||| (xs (nI (i + 3)).toNatClampNeg).toInt64 &&& 4294967295)] [] 2 (h6 τ9 (hMo.cong hfr9)) (ci := 6) (C := RX6) (T := TX6) (NF := 13) hM.n hM.s rfl gL_law_X6_runScript rfl rfl rfl (by decide +kernel) rfl ⟨Nat.le_of_ble_eq_true rfl, Nat.le_of_ble_eq_true rfl⟩ ⟨hc, hs⟩ (Nat.le_of_ble_eq_true rfl) rfl dL_law_1544 (fun v8 τ8 hp8 => ?_)
  obtain ⟨⟨w8, hv8, hw8⟩, hth8, hmo8, hfr8⟩ := hp8
  subst hv8
  refine v_st (st' := [.int w8]) rfl ?_
  refine v_istore ((6, .int w8) :: (5, .int (nI k)) :: lw_loc G b i) dL_law_1547 (by decide) rfl ?_
  refine v_aload_n 5 dL_law_1549 rfl rfl ?_
  refine u_callVx [] [] 0 (lw_thrown l D E 789 G shp τ8 hM hth8) (ci := 6) (C := RX6) (T := TX6) (NF := 13) hM.n hM.s rfl gL_law_X6_thrown rfl rfl rfl (by decide +kernel) rfl ⟨Nat.le_of_ble_eq_true rfl, Nat.le_of_ble_eq_true rfl⟩ ⟨hc, hs⟩ (Nat.le_of_ble_eq_true rfl) rfl dL_law_1550 (fun v7 τ7 hp7 => ?_)
  obtain ⟨hv7, h7⟩ := hp7
  subst hv7
  subst h7
  refine v_st (st' := [.int (nI k)]) rfl ?_
  refine v_iload 1 dL_law_1553 rfl ?_
  refine v_icmp_eqN 1560 (by omega) (by omega) dL_law_1555 rfl (fun _ => ?_) (fun z => absurd rfl z)
  refine v_iload 1 dL_law_1560 rfl ?_
  refine v_if_neN 1577 (by omega) dL_law_1562 rfl (fun _ => ?_) (fun hk0 => ?_)
  · refine v_goto 1792 dL_law_1577 rfl ?_
    refine v_loc [2, 3, 4, 5, 6] (lw_loc G b i) rfl ?_
    exact hk τ7 a' (cells + 1) (slots + 6) (hck9.far (fun n hn => hfr8 n (Or.inl hn))) hmo8 hG' (Nat.le_refl _) (Nat.le_refl _)
  · refine v_aload_n 6 dL_law_1565 rfl rfl ?_
    refine v_iconst (nI 0) dL_law_1566 (by decide +kernel) ?_
    refine u_lald 0 (by decide) hO rfl (by decide) (by decide) dL_law_1567 ?_
    refine v_iload 0 dL_law_1568 rfl ?_
    refine v_i2l dL_law_1570 ?_
    refine v_lcmp dL_law_1571 ?_
    refine v_if_eq 1577 dL_law_1572 rfl (fun _ => ?_) (fun z => absurd ((lg_cmp_eq _ _).mpr (by rw [hfr8 788 (Or.inr rfl), hout9 hk0, hw8 hk0])) z)
    refine v_goto 1792 dL_law_1577 rfl ?_
    refine v_loc [2, 3, 4, 5, 6] (lw_loc G b i) rfl ?_
    exact hk τ7 a' (cells + 1) (slots + 6) (hck9.far (fun n hn => hfr8 n (Or.inl hn))) hmo8 hG' (Nat.le_refl _) (Nat.le_refl _)
set_option maxHeartbeats 4000000 in
set_option maxRecDepth 100000 in
theorem law_simulate (hl9 : l.stackTraces = false) (hX : StX A s) (hC : StC s) (hS : StoodS E G shp 789) (hO : shp 788 = LoS E 1) (hM : ModS E G shp 789 781) (hb : va_X b L xs s s.heap) (hbl : b < s.heap.size) (hbA : ¬ A b) (hL : L ≤ 2048) {σ : Nat → Nat → Int32} {a : AB} {T i cells slots : Nat} (hCk : Ck σ a) (hMo : Mo σ a) (hG : Go T a) (hT : T ≤ 990000) (hi : i + 4 ≤ L) (hc : cells + 1 ≤ 601024) (hs : slots + 6 ≤ 7293034)
    (hk : ∀ σ' a' cells' slots', Ck σ' a' → Mo σ' a' → Go (T + 1000) a' → cells' ≤ cells + 1 → slots' ≤ slots + 6 → V p l e room_1 s m args below meth c Q D E A cL_law 7 RL ret wsL_law 789 G cells' slots' (φ shp σ') 1792 (lw_loc G b i) []) : V p l e room_1 s m args below meth c Q D E A cL_law 7 RL ret wsL_law 789 G cells slots (φ shp σ) 1580 (lw_loc G b i) [] := by
  obtain ⟨k, v', a', hk3, hG', hW, h6⟩ := op_simulate l hl9 D E 789 G shp σ hS (by decide) hO hM hCk hG hT ((xs (nI (i + 1)).toNatClampNeg).toInt64 <<< ((nI 32).toInt64 &&& 63) ||| (xs (nI (i + 2)).toNatClampNeg).toInt64 &&& 4294967295) (xs (nI (i + 3)).toNatClampNeg)
  refine v_aload_n 2 dL_law_1580 rfl rfl ?_
  refine v_aload_n 1 dL_law_1581 rfl rfl ?_
  refine v_iload 0 dL_law_1582 rfl ?_
  refine v_iconst (nI 1) dL_law_1584 (by decide +kernel) ?_
  refine v_iaddN dL_law_1585 ?_
  refine v_sld hb hbl hbA (vp_in_nI (by omega) (by omega)) dL_law_1586 ?_
  refine v_i2l dL_law_1587 ?_
  refine v_bipush (nI 32) dL_law_1588 (by decide +kernel) ?_
  refine v_lshl dL_law_1590 ?_
  refine v_aload_n 1 dL_law_1591 rfl rfl ?_
  refine v_iload 0 dL_law_1592 rfl ?_
  refine v_iconst (nI 2) dL_law_1594 (by decide +kernel) ?_
  refine v_iaddN dL_law_1595 ?_
  refine v_sld hb hbl hbA (vp_in_nI (by omega) (by omega)) dL_law_1596 ?_
  refine v_i2l dL_law_1597 ?_
  refine v_ldc2 (v := (4294967295)) lw_mask dL_law_1598 ?_
  refine v_land dL_law_1601 ?_
  refine v_lor dL_law_1602 ?_
  refine v_aload_n 1 dL_law_1603 rfl rfl ?_
  refine v_iload 0 dL_law_1604 rfl ?_
  refine v_iconst (nI 3) dL_law_1606 (by decide +kernel) ?_
  refine v_iaddN dL_law_1607 ?_
  refine v_sld hb hbl hbA (vp_in_nI (by omega) (by omega)) dL_law_1608 ?_
  refine v_aload_n 4 dL_law_1609 rfl rfl ?_
  refine u_callSW [.ref (G 0), .long ((xs (nI (i + 1)).toNatClampNeg).toInt64 <<< ((nI 32).toInt64 &&& 63) ||| (xs (nI (i + 2)).toNatClampNeg).toInt64 &&& 4294967295), .int (xs (nI (i + 3)).toNatClampNeg), .ref (G 788)] [] hX hC hW gL_law_L_simulate rfl rfl rfl ⟨by decide +kernel, by decide +kernel, Eq.trans (b := some 4) (by decide +kernel) rfl⟩ ⟨Nat.le_of_ble_eq_true rfl, Nat.le_of_ble_eq_true rfl⟩ ⟨hc, hs⟩ (Nat.le_of_ble_eq_true rfl) rfl dL_law_1610 (fun v9 τ9 hp9 => ?_)
  obtain ⟨hv9, hck9, hout9, hfr9⟩ := hp9
  subst hv9
  refine v_st (st' := [.int (nI k)]) rfl ?_
  refine v_istore ((5, .int (nI k)) :: lw_loc G b i) dL_law_1613 (by decide) rfl ?_
  refine v_aload_n 4 dL_law_1615 rfl rfl ?_
  refine v_aload_n 2 dL_law_1616 rfl rfl ?_
  refine v_iload 1 dL_law_1617 rfl ?_
  refine v_iconst (nI 1) dL_law_1619 (by decide +kernel) ?_
  refine v_iaddN dL_law_1620 ?_
  refine v_sld hb hbl hbA (vp_in_nI (by omega) (by omega)) dL_law_1621 ?_
  refine v_i2l dL_law_1622 ?_
  refine v_bipush (nI 32) dL_law_1623 (by decide +kernel) ?_
  refine v_lshl dL_law_1625 ?_
  refine v_aload_n 2 dL_law_1626 rfl rfl ?_
  refine v_iload 1 dL_law_1627 rfl ?_
  refine v_iconst (nI 2) dL_law_1629 (by decide +kernel) ?_
  refine v_iaddN dL_law_1630 ?_
  refine v_sld hb hbl hbA (vp_in_nI (by omega) (by omega)) dL_law_1631 ?_
  refine v_i2l dL_law_1632 ?_
  refine v_ldc2 (v := (4294967295)) lw_mask dL_law_1633 ?_
  refine v_land dL_law_1636 ?_
  refine v_lor dL_law_1637 ?_
  refine v_aload_n 2 dL_law_1638 rfl rfl ?_
  refine v_iload 1 dL_law_1639 rfl ?_
  refine v_iconst (nI 3) dL_law_1641 (by decide +kernel) ?_
  refine v_iaddN dL_law_1642 ?_
  refine v_sld hb hbl hbA (vp_in_nI (by omega) (by omega)) dL_law_1643 ?_
  refine u_callVx [.long ((xs (nI (i + 1)).toNatClampNeg).toInt64 <<< ((nI 32).toInt64 &&& 63) ||| (xs (nI (i + 2)).toNatClampNeg).toInt64 &&& 4294967295), .int (xs (nI (i + 3)).toNatClampNeg)] [] 2 (h6 τ9 (hMo.cong hfr9)) (ci := 6) (C := RX6) (T := TX6) (NF := 13) hM.n hM.s rfl gL_law_X6_simulate rfl rfl rfl (by decide +kernel) rfl ⟨Nat.le_of_ble_eq_true rfl, Nat.le_of_ble_eq_true rfl⟩ ⟨hc, hs⟩ (Nat.le_of_ble_eq_true rfl) rfl dL_law_1644 (fun v8 τ8 hp8 => ?_)
  obtain ⟨⟨w8, hv8, hw8⟩, hth8, hmo8, hfr8⟩ := hp8
  subst hv8
  refine v_st (st' := [.int w8]) rfl ?_
  refine v_istore ((6, .int w8) :: (5, .int (nI k)) :: lw_loc G b i) dL_law_1647 (by decide) rfl ?_
  refine v_aload_n 5 dL_law_1649 rfl rfl ?_
  refine u_callVx [] [] 0 (lw_thrown l D E 789 G shp τ8 hM hth8) (ci := 6) (C := RX6) (T := TX6) (NF := 13) hM.n hM.s rfl gL_law_X6_thrown rfl rfl rfl (by decide +kernel) rfl ⟨Nat.le_of_ble_eq_true rfl, Nat.le_of_ble_eq_true rfl⟩ ⟨hc, hs⟩ (Nat.le_of_ble_eq_true rfl) rfl dL_law_1650 (fun v7 τ7 hp7 => ?_)
  obtain ⟨hv7, h7⟩ := hp7
  subst hv7
  subst h7
  refine v_st (st' := [.int (nI k)]) rfl ?_
  refine v_iload 1 dL_law_1653 rfl ?_
  refine v_icmp_eqN 1660 (by omega) (by omega) dL_law_1655 rfl (fun _ => ?_) (fun z => absurd rfl z)
  refine v_iload 1 dL_law_1660 rfl ?_
  refine v_if_neN 1677 (by omega) dL_law_1662 rfl (fun _ => ?_) (fun hk0 => ?_)
  · refine v_goto 1792 dL_law_1677 rfl ?_
    refine v_loc [2, 3, 4, 5, 6] (lw_loc G b i) rfl ?_
    exact hk τ7 a' (cells + 1) (slots + 6) (hck9.far (fun n hn => hfr8 n (Or.inl hn))) hmo8 hG' (Nat.le_refl _) (Nat.le_refl _)
  · refine v_aload_n 6 dL_law_1665 rfl rfl ?_
    refine v_iconst (nI 0) dL_law_1666 (by decide +kernel) ?_
    refine u_lald 0 (by decide) hO rfl (by decide) (by decide) dL_law_1667 ?_
    refine v_iload 0 dL_law_1668 rfl ?_
    refine v_i2l dL_law_1670 ?_
    refine v_lcmp dL_law_1671 ?_
    refine v_if_eq 1677 dL_law_1672 rfl (fun _ => ?_) (fun z => absurd ((lg_cmp_eq _ _).mpr (by rw [hfr8 788 (Or.inr rfl), hout9 hk0, hw8 hk0])) z)
    refine v_goto 1792 dL_law_1677 rfl ?_
    refine v_loc [2, 3, 4, 5, 6] (lw_loc G b i) rfl ?_
    exact hk τ7 a' (cells + 1) (slots + 6) (hck9.far (fun n hn => hfr8 n (Or.inl hn))) hmo8 hG' (Nat.le_refl _) (Nat.le_refl _)
set_option maxHeartbeats 4000000 in
set_option maxRecDepth 100000 in
theorem law_save (hl9 : l.stackTraces = false) (hX : StX A s) (hC : StC s) (hS : StoodS E G shp 789) (hO : shp 788 = LoS E 1) (hM : ModS E G shp 789 781) (hb : va_X b L xs s s.heap) (hbl : b < s.heap.size) (hbA : ¬ A b) (hL : L ≤ 2048) {σ : Nat → Nat → Int32} {a : AB} {T i cells slots : Nat} (hCk : Ck σ a) (hMo : Mo σ a) (hG : Go T a) (hT : T ≤ 990000) (hi : i + 4 ≤ L) (hc : cells + 1 ≤ 601024) (hs : slots + 6 ≤ 7293034)
    (hk : ∀ σ' a' cells' slots', Ck σ' a' → Mo σ' a' → Go (T + 1000) a' → cells' ≤ cells + 1 → slots' ≤ slots + 6 → V p l e room_1 s m args below meth c Q D E A cL_law 7 RL ret wsL_law 789 G cells' slots' (φ shp σ') 1792 (lw_loc G b i) []) : V p l e room_1 s m args below meth c Q D E A cL_law 7 RL ret wsL_law 789 G cells slots (φ shp σ) 1680 (lw_loc G b i) [] := by
  obtain ⟨k, v', a', hk3, hG', hW, h6⟩ := op_save l hl9 D E 789 G shp σ hS (by decide) hO hM hCk hG hT (xs (nI (i + 1)).toNatClampNeg)
  refine v_aload_n 2 dL_law_1680 rfl rfl ?_
  refine v_aload_n 1 dL_law_1681 rfl rfl ?_
  refine v_iload 0 dL_law_1682 rfl ?_
  refine v_iconst (nI 1) dL_law_1684 (by decide +kernel) ?_
  refine v_iaddN dL_law_1685 ?_
  refine v_sld hb hbl hbA (vp_in_nI (by omega) (by omega)) dL_law_1686 ?_
  refine v_aload_n 4 dL_law_1687 rfl rfl ?_
  refine u_callSW [.ref (G 0), .int (xs (nI (i + 1)).toNatClampNeg), .ref (G 788)] [] hX hC hW gL_law_L_save rfl rfl rfl ⟨by decide +kernel, by decide +kernel, Eq.trans (b := some 3) (by decide +kernel) rfl⟩ ⟨Nat.le_of_ble_eq_true rfl, Nat.le_of_ble_eq_true rfl⟩ ⟨hc, hs⟩ (Nat.le_of_ble_eq_true rfl) rfl dL_law_1688 (fun v9 τ9 hp9 => ?_)
  obtain ⟨hv9, hck9, hout9, hfr9⟩ := hp9
  subst hv9
  refine v_st (st' := [.int (nI k)]) rfl ?_
  refine v_istore ((5, .int (nI k)) :: lw_loc G b i) dL_law_1691 (by decide) rfl ?_
  refine v_aload_n 4 dL_law_1693 rfl rfl ?_
  refine v_aload_n 2 dL_law_1694 rfl rfl ?_
  refine v_iload 1 dL_law_1695 rfl ?_
  refine v_iconst (nI 1) dL_law_1697 (by decide +kernel) ?_
  refine v_iaddN dL_law_1698 ?_
  refine v_sld hb hbl hbA (vp_in_nI (by omega) (by omega)) dL_law_1699 ?_
  refine u_callVx [.int (xs (nI (i + 1)).toNatClampNeg)] [] 1 (h6 τ9 (hMo.cong hfr9)) (ci := 6) (C := RX6) (T := TX6) (NF := 13) hM.n hM.s rfl gL_law_X6_save rfl rfl rfl (by decide +kernel) rfl ⟨Nat.le_of_ble_eq_true rfl, Nat.le_of_ble_eq_true rfl⟩ ⟨hc, hs⟩ (Nat.le_of_ble_eq_true rfl) rfl dL_law_1700 (fun v8 τ8 hp8 => ?_)
  obtain ⟨⟨w8, hv8, hw8⟩, hth8, hmo8, hfr8⟩ := hp8
  subst hv8
  refine v_st (st' := [.int w8]) rfl ?_
  refine v_istore ((6, .int w8) :: (5, .int (nI k)) :: lw_loc G b i) dL_law_1703 (by decide) rfl ?_
  refine v_aload_n 5 dL_law_1705 rfl rfl ?_
  refine u_callVx [] [] 0 (lw_thrown l D E 789 G shp τ8 hM hth8) (ci := 6) (C := RX6) (T := TX6) (NF := 13) hM.n hM.s rfl gL_law_X6_thrown rfl rfl rfl (by decide +kernel) rfl ⟨Nat.le_of_ble_eq_true rfl, Nat.le_of_ble_eq_true rfl⟩ ⟨hc, hs⟩ (Nat.le_of_ble_eq_true rfl) rfl dL_law_1706 (fun v7 τ7 hp7 => ?_)
  obtain ⟨hv7, h7⟩ := hp7
  subst hv7
  subst h7
  refine v_st (st' := [.int (nI k)]) rfl ?_
  refine v_iload 1 dL_law_1709 rfl ?_
  refine v_icmp_eqN 1716 (by omega) (by omega) dL_law_1711 rfl (fun _ => ?_) (fun z => absurd rfl z)
  refine v_iload 1 dL_law_1716 rfl ?_
  refine v_if_neN 1733 (by omega) dL_law_1718 rfl (fun _ => ?_) (fun hk0 => ?_)
  · refine v_goto 1792 dL_law_1733 rfl ?_
    refine v_loc [2, 3, 4, 5, 6] (lw_loc G b i) rfl ?_
    exact hk τ7 a' (cells + 1) (slots + 6) (hck9.far (fun n hn => hfr8 n (Or.inl hn))) hmo8 hG' (Nat.le_refl _) (Nat.le_refl _)
  · refine v_aload_n 6 dL_law_1721 rfl rfl ?_
    refine v_iconst (nI 0) dL_law_1722 (by decide +kernel) ?_
    refine u_lald 0 (by decide) hO rfl (by decide) (by decide) dL_law_1723 ?_
    refine v_iload 0 dL_law_1724 rfl ?_
    refine v_i2l dL_law_1726 ?_
    refine v_lcmp dL_law_1727 ?_
    refine v_if_eq 1733 dL_law_1728 rfl (fun _ => ?_) (fun z => absurd ((lg_cmp_eq _ _).mpr (by rw [hfr8 788 (Or.inr rfl), hout9 hk0, hw8 hk0])) z)
    refine v_goto 1792 dL_law_1733 rfl ?_
    refine v_loc [2, 3, 4, 5, 6] (lw_loc G b i) rfl ?_
    exact hk τ7 a' (cells + 1) (slots + 6) (hck9.far (fun n hn => hfr8 n (Or.inl hn))) hmo8 hG' (Nat.le_refl _) (Nat.le_refl _)
set_option maxHeartbeats 4000000 in
set_option maxRecDepth 100000 in
theorem law_restore (hl9 : l.stackTraces = false) (hX : StX A s) (hC : StC s) (hS : StoodS E G shp 789) (hO : shp 788 = LoS E 1) (hM : ModS E G shp 789 781) (hb : va_X b L xs s s.heap) (hbl : b < s.heap.size) (hbA : ¬ A b) (hL : L ≤ 2048) {σ : Nat → Nat → Int32} {a : AB} {T i cells slots : Nat} (hCk : Ck σ a) (hMo : Mo σ a) (hG : Go T a) (hT : T ≤ 990000) (hi : i + 4 ≤ L) (hc : cells + 1 ≤ 601024) (hs : slots + 6 ≤ 7293034)
    (hk : ∀ σ' a' cells' slots', Ck σ' a' → Mo σ' a' → Go (T + 1000) a' → cells' ≤ cells + 1 → slots' ≤ slots + 6 → V p l e room_1 s m args below meth c Q D E A cL_law 7 RL ret wsL_law 789 G cells' slots' (φ shp σ') 1792 (lw_loc G b i) []) : V p l e room_1 s m args below meth c Q D E A cL_law 7 RL ret wsL_law 789 G cells slots (φ shp σ) 1736 (lw_loc G b i) [] := by
  obtain ⟨k, v', a', hk3, hG', hW, h6⟩ := op_restore l hl9 D E 789 G shp σ hS (by decide) hO hM hCk hG hT (xs (nI (i + 1)).toNatClampNeg)
  refine v_aload_n 2 dL_law_1736 rfl rfl ?_
  refine v_aload_n 1 dL_law_1737 rfl rfl ?_
  refine v_iload 0 dL_law_1738 rfl ?_
  refine v_iconst (nI 1) dL_law_1740 (by decide +kernel) ?_
  refine v_iaddN dL_law_1741 ?_
  refine v_sld hb hbl hbA (vp_in_nI (by omega) (by omega)) dL_law_1742 ?_
  refine v_aload_n 4 dL_law_1743 rfl rfl ?_
  refine u_callSW [.ref (G 0), .int (xs (nI (i + 1)).toNatClampNeg), .ref (G 788)] [] hX hC hW gL_law_L_restore rfl rfl rfl ⟨by decide +kernel, by decide +kernel, Eq.trans (b := some 3) (by decide +kernel) rfl⟩ ⟨Nat.le_of_ble_eq_true rfl, Nat.le_of_ble_eq_true rfl⟩ ⟨hc, hs⟩ (Nat.le_of_ble_eq_true rfl) rfl dL_law_1744 (fun v9 τ9 hp9 => ?_)
  obtain ⟨hv9, hck9, hout9, hfr9⟩ := hp9
  subst hv9
  refine v_st (st' := [.int (nI k)]) rfl ?_
  refine v_istore ((5, .int (nI k)) :: lw_loc G b i) dL_law_1747 (by decide) rfl ?_
  refine v_aload_n 4 dL_law_1749 rfl rfl ?_
  refine v_aload_n 2 dL_law_1750 rfl rfl ?_
  refine v_iload 1 dL_law_1751 rfl ?_
  refine v_iconst (nI 1) dL_law_1753 (by decide +kernel) ?_
  refine v_iaddN dL_law_1754 ?_
  refine v_sld hb hbl hbA (vp_in_nI (by omega) (by omega)) dL_law_1755 ?_
  refine u_callVx [.int (xs (nI (i + 1)).toNatClampNeg)] [] 1 (h6 τ9 (hMo.cong hfr9)) (ci := 6) (C := RX6) (T := TX6) (NF := 13) hM.n hM.s rfl gL_law_X6_restore rfl rfl rfl (by decide +kernel) rfl ⟨Nat.le_of_ble_eq_true rfl, Nat.le_of_ble_eq_true rfl⟩ ⟨hc, hs⟩ (Nat.le_of_ble_eq_true rfl) rfl dL_law_1756 (fun v8 τ8 hp8 => ?_)
  obtain ⟨⟨w8, hv8, hw8⟩, hth8, hmo8, hfr8⟩ := hp8
  subst hv8
  refine v_st (st' := [.int w8]) rfl ?_
  refine v_istore ((6, .int w8) :: (5, .int (nI k)) :: lw_loc G b i) dL_law_1759 (by decide) rfl ?_
  refine v_aload_n 5 dL_law_1761 rfl rfl ?_
  refine u_callVx [] [] 0 (lw_thrown l D E 789 G shp τ8 hM hth8) (ci := 6) (C := RX6) (T := TX6) (NF := 13) hM.n hM.s rfl gL_law_X6_thrown rfl rfl rfl (by decide +kernel) rfl ⟨Nat.le_of_ble_eq_true rfl, Nat.le_of_ble_eq_true rfl⟩ ⟨hc, hs⟩ (Nat.le_of_ble_eq_true rfl) rfl dL_law_1762 (fun v7 τ7 hp7 => ?_)
  obtain ⟨hv7, h7⟩ := hp7
  subst hv7
  subst h7
  refine v_st (st' := [.int (nI k)]) rfl ?_
  refine v_iload 1 dL_law_1765 rfl ?_
  refine v_icmp_eqN 1772 (by omega) (by omega) dL_law_1767 rfl (fun _ => ?_) (fun z => absurd rfl z)
  refine v_iload 1 dL_law_1772 rfl ?_
  refine v_if_neN 1789 (by omega) dL_law_1774 rfl (fun _ => ?_) (fun hk0 => ?_)
  · refine v_goto 1792 dL_law_1789 rfl ?_
    refine v_loc [2, 3, 4, 5, 6] (lw_loc G b i) rfl ?_
    exact hk τ7 a' (cells + 1) (slots + 6) (hck9.far (fun n hn => hfr8 n (Or.inl hn))) hmo8 hG' (Nat.le_refl _) (Nat.le_refl _)
  · refine v_aload_n 6 dL_law_1777 rfl rfl ?_
    refine v_iconst (nI 0) dL_law_1778 (by decide +kernel) ?_
    refine u_lald 0 (by decide) hO rfl (by decide) (by decide) dL_law_1779 ?_
    refine v_iload 0 dL_law_1780 rfl ?_
    refine v_i2l dL_law_1782 ?_
    refine v_lcmp dL_law_1783 ?_
    refine v_if_eq 1789 dL_law_1784 rfl (fun _ => ?_) (fun z => absurd ((lg_cmp_eq _ _).mpr (by rw [hfr8 788 (Or.inr rfl), hout9 hk0, hw8 hk0])) z)
    refine v_goto 1792 dL_law_1789 rfl ?_
    refine v_loc [2, 3, 4, 5, 6] (lw_loc G b i) rfl ?_
    exact hk τ7 a' (cells + 1) (slots + 6) (hck9.far (fun n hn => hfr8 n (Or.inl hn))) hmo8 hG' (Nat.le_refl _) (Nat.le_refl _)
end LAW9
