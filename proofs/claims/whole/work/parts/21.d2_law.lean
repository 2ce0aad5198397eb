section LAW9
variable {p : Program} {l : Launch} {e : Env} {s : State} {m : MethodId} {args : Array Value} {below : List Frame} {meth : Method} {c : Code} {Q : State → Prop} {D : va_G} {E : Nat → ClassId} {A : Nat → Prop} {ret : Option FieldType} {G : Nat → Nat} {shp : Nat → (Nat → Int32) → va_E} {b L : Nat} {xs : Nat → Int32}
set_option maxHeartbeats 4000000 in
set_option maxRecDepth 100000 in
theorem law_come (hl9 : l.stackTraces = false) (hX : StX A s) (hC : StC s) (hS : StoodS E G shp 789) (hO : shp 788 = LoS E 1) (hM : ModS E G shp 789 781) (hb : va_X b L xs s s.heap) (hbl : b < s.heap.size) (hbA : ¬ A b) (hL : L ≤ 2048) {σ : Nat → Nat → Int32} {a : AB} {T i cells slots : Nat} (hCk : Ck σ a) (hMo : Mo σ a) (hG : Go T a) (hT : T ≤ 990000) (hi : i + 4 ≤ L) (hc : cells + 1 ≤ 601024) (hs : slots + 6 ≤ 7293034)
    (hk : ∀ σ' a' cells' slots', Ck σ' a' → Mo σ' a' → Go (T + 1000) a' → cells' ≤ cells + 1 → slots' ≤ slots + 6 → V p l e room_1 s m args below meth c Q D E A cL_law 7 RL ret wsL_law 789 G cells' slots' (φ shp σ') 1792 (lw_loc G b i) []) : V p l e room_1 s m args below meth c Q D E A cL_law 7 RL ret wsL_law 789 G cells slots (φ shp σ) 666 (lw_loc G b i) [] := by
  obtain ⟨k, v', a', hk3, hG', hW, h6⟩ := op_come l hl9 D E 789 G shp σ hS (by decide) hO hM hCk hG hT (xs (nI (i + 1)).toNatClampNeg) (xs (nI (i + 2)).toNatClampNeg)
  refine v_aload_n 2 dL_law_666 rfl rfl ?_
  refine v_aload_n 1 dL_law_667 rfl rfl ?_
  refine v_iload 0 dL_law_668 rfl ?_
  refine v_iconst (nI 1) dL_law_670 (by decide +kernel) ?_
  refine v_iaddN dL_law_671 ?_
  refine v_sld hb hbl hbA (vp_in_nI (by omega) (by omega)) dL_law_672 ?_
  refine v_aload_n 1 dL_law_673 rfl rfl ?_
  refine v_iload 0 dL_law_674 rfl ?_
  refine v_iconst (nI 2) dL_law_676 (by decide +kernel) ?_
  refine v_iaddN dL_law_677 ?_
  refine v_sld hb hbl hbA (vp_in_nI (by omega) (by omega)) dL_law_678 ?_
  refine v_aload_n 4 dL_law_679 rfl rfl ?_
  refine u_callSW [.ref (G 0), .int (xs (nI (i + 1)).toNatClampNeg), .int (xs (nI (i + 2)).toNatClampNeg), .ref (G 788)] [] hX hC hW gL_law_L_come rfl rfl rfl ⟨by decide +kernel, by decide +kernel, Eq.trans (b := some 4) (by decide +kernel) rfl⟩ ⟨Nat.le_of_ble_eq_true rfl, Nat.le_of_ble_eq_true rfl⟩ ⟨hc, hs⟩ (Nat.le_of_ble_eq_true rfl) rfl dL_law_680 (fun v9 τ9 hp9 => ?_)
  obtain ⟨hv9, hck9, hout9, hfr9⟩ := hp9
  subst hv9
  refine v_st (st' := [.int (nI k)]) rfl ?_
  refine v_istore ((5, .int (nI k)) :: lw_loc G b i) dL_law_683 (by decide) rfl ?_
  refine v_aload_n 4 dL_law_685 rfl rfl ?_
  refine v_aload_n 2 dL_law_686 rfl rfl ?_
  refine v_iload 1 dL_law_687 rfl ?_
  refine v_iconst (nI 1) dL_law_689 (by decide +kernel) ?_
  refine v_iaddN dL_law_690 ?_
  refine v_sld hb hbl hbA (vp_in_nI (by omega) (by omega)) dL_law_691 ?_
  refine v_aload_n 2 dL_law_692 rfl rfl ?_
  refine v_iload 1 dL_law_693 rfl ?_
  refine v_iconst (nI 2) dL_law_695 (by decide +kernel) ?_
  refine v_iaddN dL_law_696 ?_
  refine v_sld hb hbl hbA (vp_in_nI (by omega) (by omega)) dL_law_697 ?_
  refine u_callVx [.int (xs (nI (i + 1)).toNatClampNeg), .int (xs (nI (i + 2)).toNatClampNeg)] [] 2 (h6 τ9 (hMo.cong hfr9)) (ci := 6) (C := RX6) (T := TX6) (NF := 13) hM.n hM.s rfl gL_law_X6_come rfl rfl rfl (by decide +kernel) rfl ⟨Nat.le_of_ble_eq_true rfl, Nat.le_of_ble_eq_true rfl⟩ ⟨hc, hs⟩ (Nat.le_of_ble_eq_true rfl) rfl dL_law_698 (fun v8 τ8 hp8 => ?_)
  obtain ⟨⟨w8, hv8, hw8⟩, hth8, hmo8, hfr8⟩ := hp8
  subst hv8
  refine v_st (st' := [.int w8]) rfl ?_
  refine v_istore ((6, .int w8) :: (5, .int (nI k)) :: lw_loc G b i) dL_law_701 (by decide) rfl ?_
  refine v_aload_n 5 dL_law_703 rfl rfl ?_
  refine u_callVx [] [] 0 (lw_thrown l D E 789 G shp τ8 hM hth8) (ci := 6) (C := RX6) (T := TX6) (NF := 13) hM.n hM.s rfl gL_law_X6_thrown rfl rfl rfl (by decide +kernel) rfl ⟨Nat.le_of_ble_eq_true rfl, Nat.le_of_ble_eq_true rfl⟩ ⟨hc, hs⟩ (Nat.le_of_ble_eq_true rfl) rfl dL_law_704 (fun v7 τ7 hp7 => ?_)
  obtain ⟨hv7, h7⟩ := hp7
  subst hv7
  subst h7
  refine v_st (st' := [.int (nI k)]) rfl ?_
  refine v_iload 1 dL_law_707 rfl ?_
  refine v_icmp_eqN 714 (by omega) (by omega) dL_law_709 rfl (fun _ => ?_) (fun z => absurd rfl z)
  refine v_iload 1 dL_law_714 rfl ?_
  refine v_if_neN 731 (by omega) dL_law_716 rfl (fun _ => ?_) (fun hk0 => ?_)
  · refine v_goto 1792 dL_law_731 rfl ?_
    refine v_loc [2, 3, 4, 5, 6] (lw_loc G b i) rfl ?_
    exact hk τ7 a' (cells + 1) (slots + 6) (hck9.far (fun n hn => hfr8 n (Or.inl hn))) hmo8 hG' (Nat.le_refl _) (Nat.le_refl _)
  · refine v_aload_n 6 dL_law_719 rfl rfl ?_
    refine v_iconst (nI 0) dL_law_720 (by decide +kernel) ?_
    refine u_lald 0 (by decide) hO rfl (by decide) (by decide) dL_law_721 ?_
    refine v_iload 0 dL_law_722 rfl ?_
    refine v_i2l dL_law_724 ?_
    refine v_lcmp dL_law_725 ?_
    refine v_if_eq 731 dL_law_726 rfl (fun _ => ?_) (fun z => absurd ((lg_cmp_eq _ _).mpr (by rw [hfr8 788 (Or.inr rfl), hout9 hk0, hw8 hk0])) z)
    refine v_goto 1792 dL_law_731 rfl ?_
    refine v_loc [2, 3, 4, 5, 6] (lw_loc G b i) rfl ?_
    exact hk τ7 a' (cells + 1) (slots + 6) (hck9.far (fun n hn => hfr8 n (Or.inl hn))) hmo8 hG' (Nat.le_refl _) (Nat.le_refl _)
set_option maxHeartbeats 4000000 in
set_option maxRecDepth 100000 in
theorem law_go (hl9 : l.stackTraces = false) (hX : StX A s) (hC : StC s) (hS : StoodS E G shp 789) (hO : shp 788 = LoS E 1) (hM : ModS E G shp 789 781) (hb : va_X b L xs s s.heap) (hbl : b < s.heap.size) (hbA : ¬ A b) (hL : L ≤ 2048) {σ : Nat → Nat → Int32} {a : AB} {T i cells slots : Nat} (hCk : Ck σ a) (hMo : Mo σ a) (hG : Go T a) (hT : T ≤ 990000) (hi : i + 4 ≤ L) (hc : cells + 1 ≤ 601024) (hs : slots + 6 ≤ 7293034)
    (hk : ∀ σ' a' cells' slots', Ck σ' a' → Mo σ' a' → Go (T + 1000) a' → cells' ≤ cells + 1 → slots' ≤ slots + 6 → V p l e room_1 s m args below meth c Q D E A cL_law 7 RL ret wsL_law 789 G cells' slots' (φ shp σ') 1792 (lw_loc G b i) []) : V p l e room_1 s m args below meth c Q D E A cL_law 7 RL ret wsL_law 789 G cells slots (φ shp σ) 734 (lw_loc G b i) [] := by
  obtain ⟨k, v', a', hk3, hG', hW, h6⟩ := op_go l hl9 D E 789 G shp σ hS (by decide) hO hM hCk hG hT (xs (nI (i + 1)).toNatClampNeg)
  refine v_aload_n 2 dL_law_734 rfl rfl ?_
  refine v_aload_n 1 dL_law_735 rfl rfl ?_
  refine v_iload 0 dL_law_736 rfl ?_
  refine v_iconst (nI 1) dL_law_738 (by decide +kernel) ?_
  refine v_iaddN dL_law_739 ?_
  refine v_sld hb hbl hbA (vp_in_nI (by omega) (by omega)) dL_law_740 ?_
  refine v_aload_n 4 dL_law_741 rfl rfl ?_
  refine u_callSW [.ref (G 0), .int (xs (nI (i + 1)).toNatClampNeg), .ref (G 788)] [] hX hC hW gL_law_L_go rfl rfl rfl ⟨by decide +kernel, by decide +kernel, Eq.trans (b := some 3) (by decide +kernel) rfl⟩ ⟨Nat.le_of_ble_eq_true rfl, Nat.le_of_ble_eq_true rfl⟩ ⟨hc, hs⟩ (Nat.le_of_ble_eq_true rfl) rfl dL_law_742 (fun v9 τ9 hp9 => ?_)
  obtain ⟨hv9, hck9, hout9, hfr9⟩ := hp9
  subst hv9
  refine v_st (st' := [.int (nI k)]) rfl ?_
  refine v_istore ((5, .int (nI k)) :: lw_loc G b i) dL_law_745 (by decide) rfl ?_
  refine v_aload_n 4 dL_law_747 rfl rfl ?_
  refine v_aload_n 2 dL_law_748 rfl rfl ?_
  refine v_iload 1 dL_law_749 rfl ?_
  refine v_iconst (nI 1) dL_law_751 (by decide +kernel) ?_
  refine v_iaddN dL_law_752 ?_
  refine v_sld hb hbl hbA (vp_in_nI (by omega) (by omega)) dL_law_753 ?_
  refine u_callVx [.int (xs (nI (i + 1)).toNatClampNeg)] [] 1 (h6 τ9 (hMo.cong hfr9)) (ci := 6) (C := RX6) (T := TX6) (NF := 13) hM.n hM.s rfl gL_law_X6_go rfl rfl rfl (by decide +kernel) rfl ⟨Nat.le_of_ble_eq_true rfl, Nat.le_of_ble_eq_true rfl⟩ ⟨hc, hs⟩ (Nat.le_of_ble_eq_true rfl) rfl dL_law_754 (fun v8 τ8 hp8 => ?_)
  obtain ⟨⟨w8, hv8, hw8⟩, hth8, hmo8, hfr8⟩ := hp8
  subst hv8
  refine v_st (st' := [.int w8]) rfl ?_
  refine v_istore ((6, .int w8) :: (5, .int (nI k)) :: lw_loc G b i) dL_law_757 (by decide) rfl ?_
  refine v_aload_n 5 dL_law_759 rfl rfl ?_
  refine u_callVx [] [] 0 (lw_thrown l D E 789 G shp τ8 hM hth8) (ci := 6) (C := RX6) (T := TX6) (NF := 13) hM.n hM.s rfl gL_law_X6_thrown rfl rfl rfl (by decide +kernel) rfl ⟨Nat.le_of_ble_eq_true rfl, Nat.le_of_ble_eq_true rfl⟩ ⟨hc, hs⟩ (Nat.le_of_ble_eq_true rfl) rfl dL_law_760 (fun v7 τ7 hp7 => ?_)
  obtain ⟨hv7, h7⟩ := hp7
  subst hv7
  subst h7
  refine v_st (st' := [.int (nI k)]) rfl ?_
  refine v_iload 1 dL_law_763 rfl ?_
  refine v_icmp_eqN 770 (by omega) (by omega) dL_law_765 rfl (fun _ => ?_) (fun z => absurd rfl z)
  refine v_iload 1 dL_law_770 rfl ?_
  refine v_if_neN 787 (by omega) dL_law_772 rfl (fun _ => ?_) (fun hk0 => ?_)
  · refine v_goto 1792 dL_law_787 rfl ?_
    refine v_loc [2, 3, 4, 5, 6] (lw_loc G b i) rfl ?_
    exact hk τ7 a' (cells + 1) (slots + 6) (hck9.far (fun n hn => hfr8 n (Or.inl hn))) hmo8 hG' (Nat.le_refl _) (Nat.le_refl _)
  · refine v_aload_n 6 dL_law_775 rfl rfl ?_
    refine v_iconst (nI 0) dL_law_776 (by decide +kernel) ?_
    refine u_lald 0 (by decide) hO rfl (by decide) (by decide) dL_law_777 ?_
    refine v_iload 0 dL_law_778 rfl ?_
    refine v_i2l dL_law_780 ?_
    refine v_lcmp dL_law_781 ?_
    refine v_if_eq 787 dL_law_782 rfl (fun _ => ?_) (fun z => absurd ((lg_cmp_eq _ _).mpr (by rw [hfr8 788 (Or.inr rfl), hout9 hk0, hw8 hk0])) z)
    refine v_goto 1792 dL_law_787 rfl ?_
    refine v_loc [2, 3, 4, 5, 6] (lw_loc G b i) rfl ?_
    exact hk τ7 a' (cells + 1) (slots + 6) (hck9.far (fun n hn => hfr8 n (Or.inl hn))) hmo8 hG' (Nat.le_refl _) (Nat.le_refl _)
set_option maxHeartbeats 4000000 in
set_option maxRecDepth 100000 in
theorem law_exchange (hl9 : l.stackTraces = false) (hX : StX A s) (hC : StC s) (hS : StoodS E G shp 789) (hO : shp 788 = LoS E 1) (hM : ModS E G shp 789 781) (hb : va_X b L xs s s.heap) (hbl : b < s.heap.size) (hbA : ¬ A b) (hL : L ≤ 2048) {σ : Nat → Nat → Int32} {a : AB} {T i cells slots : Nat} (hCk : Ck σ a) (hMo : Mo σ a) (hG : Go T a) (hT : T ≤ 990000) (hi : i + 4 ≤ L) (hc : cells + 1 ≤ 601024) (hs : slots + 6 ≤ 7293034)
    (hk : ∀ σ' a' cells' slots', Ck σ' a' → Mo σ' a' → Go (T + 1000) a' → cells' ≤ cells + 1 → slots' ≤ slots + 6 → V p l e room_1 s m args below meth c Q D E A cL_law 7 RL ret wsL_law 789 G cells' slots' (φ shp σ') 1792 (lw_loc G b i) []) : V p l e room_1 s m args below meth c Q D E A cL_law 7 RL ret wsL_law 789 G cells slots (φ shp σ) 790 (lw_loc G b i) [] := by
  obtain ⟨k, v', a', hk3, hG', hW, h6⟩ := op_exchange l hl9 D E 789 G shp σ hS (by decide) hO hM hCk hG hT (xs (nI (i + 1)).toNatClampNeg) (xs (nI (i + 2)).toNatClampNeg)
  refine v_aload_n 2 dL_law_790 rfl rfl ?_
  refine v_aload_n 1 dL_law_791 rfl rfl ?_
  refine v_iload 0 dL_law_792 rfl ?_
  refine v_iconst (nI 1) dL_law_794 (by decide +kernel) ?_
  refine v_iaddN dL_law_795 ?_
  refine v_sld hb hbl hbA (vp_in_nI (by omega) (by omega)) dL_law_796 ?_
  refine v_aload_n 1 dL_law_797 rfl rfl ?_
  refine v_iload 0 dL_law_798 rfl ?_
  refine v_iconst (nI 2) dL_law_800 (by decide +kernel) ?_
  refine v_iaddN dL_law_801 ?_
  refine v_sld hb hbl hbA (vp_in_nI (by omega) (by omega)) dL_law_802 ?_
  refine v_aload_n 4 dL_law_803 rfl rfl ?_
  refine u_callSW [.ref (G 0), .int (xs (nI (i + 1)).toNatClampNeg), .int (xs (nI (i + 2)).toNatClampNeg), .ref (G 788)] [] hX hC hW gL_law_L_exchange rfl rfl rfl ⟨by decide +kernel, by decide +kernel, Eq.trans (b := some 4) (by decide +kernel) rfl⟩ ⟨Nat.le_of_ble_eq_true rfl, Nat.le_of_ble_eq_true rfl⟩ ⟨hc, hs⟩ (Nat.le_of_ble_eq_true rfl) rfl dL_law_804 (fun v9 τ9 hp9 => ?_)
  obtain ⟨hv9, hck9, hout9, hfr9⟩ := hp9
  subst hv9
  refine v_st (st' := [.int (nI k)]) rfl ?_
  refine v_istore ((5, .int (nI k)) :: lw_loc G b i) dL_law_807 (by decide) rfl ?_
  refine v_aload_n 4 dL_law_809 rfl rfl ?_
  refine v_aload_n 2 dL_law_810 rfl rfl ?_
  refine v_iload 1 dL_law_811 rfl ?_
  refine v_iconst (nI 1) dL_law_813 (by decide +kernel) ?_
  refine v_iaddN dL_law_814 ?_
  refine v_sld hb hbl hbA (vp_in_nI (by omega) (by omega)) dL_law_815 ?_
  refine v_aload_n 2 dL_law_816 rfl rfl ?_
  refine v_iload 1 dL_law_817 rfl ?_
  refine v_iconst (nI 2) dL_law_819 (by decide +kernel) ?_
  refine v_iaddN dL_law_820 ?_
  refine v_sld hb hbl hbA (vp_in_nI (by omega) (by omega)) dL_law_821 ?_
  refine u_callVx [.int (xs (nI (i + 1)).toNatClampNeg), .int (xs (nI (i + 2)).toNatClampNeg)] [] 2 (h6 τ9 (hMo.cong hfr9)) (ci := 6) (C := RX6) (T := TX6) (NF := 13) hM.n hM.s rfl gL_law_X6_exchange rfl rfl rfl (by decide +kernel) rfl ⟨Nat.le_of_ble_eq_true rfl, Nat.le_of_ble_eq_true rfl⟩ ⟨hc, hs⟩ (Nat.le_of_ble_eq_true rfl) rfl dL_law_822 (fun v8 τ8 hp8 => ?_)
  obtain ⟨⟨w8, hv8, hw8⟩, hth8, hmo8, hfr8⟩ := hp8
  subst hv8
  refine v_st (st' := [.int w8]) rfl ?_
  refine v_istore ((6, .int w8) :: (5, .int (nI k)) :: lw_loc G b i) dL_law_825 (by decide) rfl ?_
  refine v_aload_n 5 dL_law_827 rfl rfl ?_
  refine u_callVx [] [] 0 (lw_thrown l D E 789 G shp τ8 hM hth8) (ci := 6) (C := RX6) (T := TX6) (NF := 13) hM.n hM.s rfl gL_law_X6_thrown rfl rfl rfl (by decide +kernel) rfl ⟨Nat.le_of_ble_eq_true rfl, Nat.le_of_ble_eq_true rfl⟩ ⟨hc, hs⟩ (Nat.le_of_ble_eq_true rfl) rfl dL_law_828 (fun v7 τ7 hp7 => ?_)
  obtain ⟨hv7, h7⟩ := hp7
  subst hv7
  subst h7
  refine v_st (st' := [.int (nI k)]) rfl ?_
  refine v_iload 1 dL_law_831 rfl ?_
  refine v_icmp_eqN 838 (by omega) (by omega) dL_law_833 rfl (fun _ => ?_) (fun z => absurd rfl z)
  refine v_iload 1 dL_law_838 rfl ?_
  refine v_if_neN 855 (by omega) dL_law_840 rfl (fun _ => ?_) (fun hk0 => ?_)
  · refine v_goto 1792 dL_law_855 rfl ?_
    refine v_loc [2, 3, 4, 5, 6] (lw_loc G b i) rfl ?_
    exact hk τ7 a' (cells + 1) (slots + 6) (hck9.far (fun n hn => hfr8 n (Or.inl hn))) hmo8 hG' (Nat.le_refl _) (Nat.le_refl _)
  · refine v_aload_n 6 dL_law_843 rfl rfl ?_
    refine v_iconst (nI 0) dL_law_844 (by decide +kernel) ?_
    refine u_lald 0 (by decide) hO rfl (by decide) (by decide) dL_law_845 ?_
    refine v_iload 0 dL_law_846 rfl ?_
    refine v_i2l dL_law_848 ?_
    refine v_lcmp dL_law_849 ?_
    refine v_if_eq 855 dL_law_850 rfl (fun _ => ?_) (fun z => absurd ((lg_cmp_eq _ _).mpr (by rw [hfr8 788 (Or.inr rfl), hout9 hk0, hw8 hk0])) z)
    refine v_goto 1792 dL_law_855 rfl ?_
    refine v_loc [2, 3, 4, 5, 6] (lw_loc G b i) rfl ?_
    exact hk τ7 a' (cells + 1) (slots + 6) (hck9.far (fun n hn => hfr8 n (Or.inl hn))) hmo8 hG' (Nat.le_refl _) (Nat.le_refl _)
set_option maxHeartbeats 4000000 in
set_option maxRecDepth 100000 in
theorem law_jump (hl9 : l.stackTraces = false) (hX : StX A s) (hC : StC s) (hS : StoodS E G shp 789) (hO : shp 788 = LoS E 1) (hM : ModS E G shp 789 781) (hb : va_X b L xs s s.heap) (hbl : b < s.heap.size) (hbA : ¬ A b) (hL : L ≤ 2048) {σ : Nat → Nat → Int32} {a : AB} {T i cells slots : Nat} (hCk : Ck σ a) (hMo : Mo σ a) (hG : Go T a) (hT : T ≤ 990000) (hi : i + 4 ≤ L) (hc : cells + 1 ≤ 601024) (hs : slots + 6 ≤ 7293034)
    (hk : ∀ σ' a' cells' slots', Ck σ' a' → Mo σ' a' → Go (T + 1000) a' → cells' ≤ cells + 1 → slots' ≤ slots + 6 → V p l e room_1 s m args below meth c Q D E A cL_law 7 RL ret wsL_law 789 G cells' slots' (φ shp σ') 1792 (lw_loc G b i) []) : V p l e room_1 s m args below meth c Q D E A cL_law 7 RL ret wsL_law 789 G cells slots (φ shp σ) 858 (lw_loc G b i) [] := by
  obtain ⟨k, v', a', hk3, hG', hW, h6⟩ := op_jump l hl9 D E 789 G shp σ hS (by decide) hO hM hCk hG hT (xs (nI (i + 1)).toNatClampNeg)
  refine v_aload_n 2 dL_law_858 rfl rfl ?_
  refine v_aload_n 1 dL_law_859 rfl rfl ?_
  refine v_iload 0 dL_law_860 rfl ?_
  refine v_iconst (nI 1) dL_law_862 (by decide +kernel) ?_
  refine v_iaddN dL_law_863 ?_
  refine v_sld hb hbl hbA (vp_in_nI (by omega) (by omega)) dL_law_864 ?_
  refine v_aload_n 4 dL_law_865 rfl rfl ?_
  refine u_callSW [.ref (G 0), .int (xs (nI (i + 1)).toNatClampNeg), .ref (G 788)] [] hX hC hW gL_law_L_jump rfl rfl rfl ⟨by decide +kernel, by decide +kernel, Eq.trans (b := some 3) (by decide +kernel) rfl⟩ ⟨Nat.le_of_ble_eq_true rfl, Nat.le_of_ble_eq_true rfl⟩ ⟨hc, hs⟩ (Nat.le_of_ble_eq_true rfl) rfl dL_law_866 (fun v9 τ9 hp9 => ?_)
  obtain ⟨hv9, hck9, hout9, hfr9⟩ := hp9
  subst hv9
  refine v_st (st' := [.int (nI k)]) rfl ?_
  refine v_istore ((5, .int (nI k)) :: lw_loc G b i) dL_law_869 (by decide) rfl ?_
  refine v_aload_n 4 dL_law_871 rfl rfl ?_
  refine v_aload_n 2 dL_law_872 rfl rfl ?_
  refine v_iload 1 dL_law_873 rfl ?_
  refine v_iconst (nI 1) dL_law_875 (by decide +kernel) ?_
  refine v_iaddN dL_law_876 ?_
  refine v_sld hb hbl hbA (vp_in_nI (by omega) (by omega)) dL_law_877 ?_
  refine u_callVx [.int (xs (nI (i + 1)).toNatClampNeg)] [] 1 (h6 τ9 (hMo.cong hfr9)) (ci := 6) (C := RX6) (T := TX6) (NF := 13) hM.n hM.s rfl gL_law_X6_jump rfl rfl rfl (by decide +kernel) rfl ⟨Nat.le_of_ble_eq_true rfl, Nat.le_of_ble_eq_true rfl⟩ ⟨hc, hs⟩ (Nat.le_of_ble_eq_true rfl) rfl dL_law_878 (fun v8 τ8 hp8 => ?_)
  obtain ⟨⟨w8, hv8, hw8⟩, hth8, hmo8, hfr8⟩ := hp8
  subst hv8
  refine v_st (st' := [.int w8]) rfl ?_
  refine v_istore ((6, .int w8) :: (5, .int (nI k)) :: lw_loc G b i) dL_law_881 (by decide) rfl ?_
  refine v_aload_n 5 dL_law_883 rfl rfl ?_
  refine u_callVx [] [] 0 (lw_thrown l D E 789 G shp τ8 hM hth8) (ci := 6) (C := RX6) (T := TX6) (NF := 13) hM.n hM.s rfl gL_law_X6_thrown rfl rfl rfl (by decide +kernel) rfl ⟨Nat.le_of_ble_eq_true rfl, Nat.le_of_ble_eq_true rfl⟩ ⟨hc, hs⟩ (Nat.le_of_ble_eq_true rfl) rfl dL_law_884 (fun v7 τ7 hp7 => ?_)
  obtain ⟨hv7, h7⟩ := hp7
  subst hv7
  subst h7
  refine v_st (st' := [.int (nI k)]) rfl ?_
  refine v_iload 1 dL_law_887 rfl ?_
  refine v_icmp_eqN 894 (by omega) (by omega) dL_law_889 rfl (fun _ => ?_) (fun z => absurd rfl z)
  refine v_iload 1 dL_law_894 rfl ?_
  refine v_if_neN 911 (by omega) dL_law_896 rfl (fun _ => ?_) (fun hk0 => ?_)
  · refine v_goto 1792 dL_law_911 rfl ?_
    refine v_loc [2, 3, 4, 5, 6] (lw_loc G b i) rfl ?_
    exact hk τ7 a' (cells + 1) (slots + 6) (hck9.far (fun n hn => hfr8 n (Or.inl hn))) hmo8 hG' (Nat.le_refl _) (Nat.le_refl _)
  · refine v_aload_n 6 dL_law_899 rfl rfl ?_
    refine v_iconst (nI 0) dL_law_900 (by decide +kernel) ?_
    refine u_lald 0 (by decide) hO rfl (by decide) (by decide) dL_law_901 ?_
    refine v_iload 0 dL_law_902 rfl ?_
    refine v_i2l dL_law_904 ?_
    refine v_lcmp dL_law_905 ?_
    refine v_if_eq 911 dL_law_906 rfl (fun _ => ?_) (fun z => absurd ((lg_cmp_eq _ _).mpr (by rw [hfr8 788 (Or.inr rfl), hout9 hk0, hw8 hk0])) z)
    refine v_goto 1792 dL_law_911 rfl ?_
    refine v_loc [2, 3, 4, 5, 6] (lw_loc G b i) rfl ?_
    exact hk τ7 a' (cells + 1) (slots + 6) (hck9.far (fun n hn => hfr8 n (Or.inl hn))) hmo8 hG' (Nat.le_refl _) (Nat.le_refl _)
set_option maxHeartbeats 4000000 in
set_option maxRecDepth 100000 in
theorem law_merge (hl9 : l.stackTraces = false) (hX : StX A s) (hC : StC s) (hS : StoodS E G shp 789) (hO : shp 788 = LoS E 1) (hM : ModS E G shp 789 781) (hb : va_X b L xs s s.heap) (hbl : b < s.heap.size) (hbA : ¬ A b) (hL : L ≤ 2048) {σ : Nat → Nat → Int32} {a : AB} {T i cells slots : Nat} (hCk : Ck σ a) (hMo : Mo σ a) (hG : Go T a) (hT : T ≤ 990000) (hi : i + 4 ≤ L) (hc : cells + 1 ≤ 601024) (hs : slots + 6 ≤ 7293034)
    (hk : ∀ σ' a' cells' slots', Ck σ' a' → Mo σ' a' → Go (T + 1000) a' → cells' ≤ cells + 1 → slots' ≤ slots + 6 → V p l e room_1 s m args below meth c Q D E A cL_law 7 RL ret wsL_law 789 G cells' slots' (φ shp σ') 1792 (lw_loc G b i) []) : V p l e room_1 s m args below meth c Q D E A cL_law 7 RL ret wsL_law 789 G cells slots (φ shp σ) 914 (lw_loc G b i) [] := by
  obtain ⟨k, v', a', hk3, hG', hW, h6⟩ := op_merge l hl9 D E 789 G shp σ hS (by decide) hO hM hCk hG hT (xs (nI (i + 1)).toNatClampNeg) (xs (nI (i + 2)).toNatClampNeg)
  refine v_aload_n 2 dL_law_914 rfl rfl ?_
  refine v_aload_n 1 dL_law_915 rfl rfl ?_
  refine v_iload 0 dL_law_916 rfl ?_
  refine v_iconst (nI 1) dL_law_918 (by decide +kernel) ?_
  refine v_iaddN dL_law_919 ?_
  refine v_sld hb hbl hbA (vp_in_nI (by omega) (by omega)) dL_law_920 ?_
  refine v_aload_n 1 dL_law_921 rfl rfl ?_
  refine v_iload 0 dL_law_922 rfl ?_
  refine v_iconst (nI 2) dL_law_924 (by decide +kernel) ?_
  refine v_iaddN dL_law_925 ?_
  refine v_sld hb hbl hbA (vp_in_nI (by omega) (by omega)) dL_law_926 ?_
  refine v_aload_n 4 dL_law_927 rfl rfl ?_
  refine u_callSW [.ref (G 0), .int (xs (nI (i + 1)).toNatClampNeg), .int (xs (nI (i + 2)).toNatClampNeg), .ref (G 788)] [] hX hC hW gL_law_L_merge rfl rfl rfl ⟨by decide +kernel, by decide +kernel, Eq.trans (b := some 4) (by decide +kernel) rfl⟩ ⟨Nat.le_of_ble_eq_true rfl, Nat.le_of_ble_eq_true rfl⟩ ⟨hc, hs⟩ (Nat.le_of_ble_eq_true rfl) rfl dL_law_928 (fun v9 τ9 hp9 => ?_)
  obtain ⟨hv9, hck9, hout9, hfr9⟩ := hp9
  subst hv9
  refine v_st (st' := [.int (nI k)]) rfl ?_
  refine v_istore ((5, .int (nI k)) :: lw_loc G b i) dL_law_931 (by decide) rfl ?_
  refine v_aload_n 4 dL_law_933 rfl rfl ?_
  refine v_aload_n 2 dL_law_934 rfl rfl ?_
  refine v_iload 1 dL_law_935 rfl ?_
  refine v_iconst (nI 1) dL_law_937 (by decide +kernel) ?_
  refine v_iaddN dL_law_938 ?_
  refine v_sld hb hbl hbA (vp_in_nI (by omega) (by omega)) dL_law_939 ?_
  refine v_aload_n 2 dL_law_940 rfl rfl ?_
  refine v_iload 1 dL_law_941 rfl ?_
  refine v_iconst (nI 2) dL_law_943 (by decide +kernel) ?_
  refine v_iaddN dL_law_944 ?_
  refine v_sld hb hbl hbA (vp_in_nI (by omega) (by omega)) dL_law_945 ?_
  refine u_callVx [.int (xs (nI (i + 1)).toNatClampNeg), .int (xs (nI (i + 2)).toNatClampNeg)] [] 2 (h6 τ9 (hMo.cong hfr9)) (ci := 6) (C := RX6) (T := TX6) (NF := 13) hM.n hM.s rfl gL_law_X6_merge rfl rfl rfl (by decide +kernel) rfl ⟨Nat.le_of_ble_eq_true rfl, Nat.le_of_ble_eq_true rfl⟩ ⟨hc, hs⟩ (Nat.le_of_ble_eq_true rfl) rfl dL_law_946 (fun v8 τ8 hp8 => ?_)
  obtain ⟨⟨w8, hv8, hw8⟩, hth8, hmo8, hfr8⟩ := hp8
  subst hv8
  refine v_st (st' := [.int w8]) rfl ?_
  refine v_istore ((6, .int w8) :: (5, .int (nI k)) :: lw_loc G b i) dL_law_949 (by decide) rfl ?_
  refine v_aload_n 5 dL_law_951 rfl rfl ?_
  refine u_callVx [] [] 0 (lw_thrown l D E 789 G shp τ8 hM hth8) (ci := 6) (C := RX6) (T := TX6) (NF := 13) hM.n hM.s rfl gL_law_X6_thrown rfl rfl rfl (by decide +kernel) rfl ⟨Nat.le_of_ble_eq_true rfl, Nat.le_of_ble_eq_true rfl⟩ ⟨hc, hs⟩ (Nat.le_of_ble_eq_true rfl) rfl dL_law_952 (fun v7 τ7 hp7 => ?_)
  obtain ⟨hv7, h7⟩ := hp7
  subst hv7
  subst h7
  refine v_st (st' := [.int (nI k)]) rfl ?_
  refine v_iload 1 dL_law_955 rfl ?_
  refine v_icmp_eqN 962 (by omega) (by omega) dL_law_957 rfl (fun _ => ?_) (fun z => absurd rfl z)
  refine v_iload 1 dL_law_962 rfl ?_
  refine v_if_neN 979 (by omega) dL_law_964 rfl (fun _ => ?_) (fun hk0 => ?_)
  · refine v_goto 1792 dL_law_979 rfl ?_
    refine v_loc [2, 3, 4, 5, 6] (lw_loc G b i) rfl ?_
    exact hk τ7 a' (cells + 1) (slots + 6) (hck9.far (fun n hn => hfr8 n (Or.inl hn))) hmo8 hG' (Nat.le_refl _) (Nat.le_refl _)
  · refine v_aload_n 6 dL_law_967 rfl rfl ?_
    refine v_iconst (nI 0) dL_law_968 (by decide +kernel) ?_
    refine u_lald 0 (by decide) hO rfl (by decide) (by decide) dL_law_969 ?_
    refine v_iload 0 dL_law_970 rfl ?_
    refine v_i2l dL_law_972 ?_
    refine v_lcmp dL_law_973 ?_
    refine v_if_eq 979 dL_law_974 rfl (fun _ => ?_) (fun z => absurd ((lg_cmp_eq _ _).mpr (by rw [hfr8 788 (Or.inr rfl), hout9 hk0, hw8 hk0])) z)
    refine v_goto 1792 dL_law_979 rfl ?_
    refine v_loc [2, 3, 4, 5, 6] (lw_loc G b i) rfl ?_
    exact hk τ7 a' (cells + 1) (slots + 6) (hck9.far (fun n hn => hfr8 n (Or.inl hn))) hmo8 hG' (Nat.le_refl _) (Nat.le_refl _)
set_option maxHeartbeats 4000000 in
set_option maxRecDepth 100000 in
theorem law_minutes (hl9 : l.stackTraces = false) (hX : StX A s) (hC : StC s) (hS : StoodS E G shp 789) (hO : shp 788 = LoS E 1) (hM : ModS E G shp 789 781) (hb : va_X b L xs s s.heap) (hbl : b < s.heap.size) (hbA : ¬ A b) (hL : L ≤ 2048) {σ : Nat → Nat → Int32} {a : AB} {T i cells slots : Nat} (hCk : Ck σ a) (hMo : Mo σ a) (hG : Go T a) (hT : T ≤ 990000) (hi : i + 4 ≤ L) (hc : cells + 1 ≤ 601024) (hs : slots + 6 ≤ 7293034)
    (hk : ∀ σ' a' cells' slots', Ck σ' a' → Mo σ' a' → Go (T + 1000) a' → cells' ≤ cells + 1 → slots' ≤ slots + 6 → V p l e room_1 s m args below meth c Q D E A cL_law 7 RL ret wsL_law 789 G cells' slots' (φ shp σ') 1792 (lw_loc G b i) []) : V p l e room_1 s m args below meth c Q D E A cL_law 7 RL ret wsL_law 789 G cells slots (φ shp σ) 982 (lw_loc G b i) [] := by
  obtain ⟨k, v', a', hk3, hG', hW, h6⟩ := op_minutes l hl9 D E 789 G shp σ hS (by decide) hO hM hCk hG hT (xs (nI (i + 1)).toNatClampNeg)
  refine v_aload_n 2 dL_law_982 rfl rfl ?_
  refine v_aload_n 1 dL_law_983 rfl rfl ?_
  refine v_iload 0 dL_law_984 rfl ?_
  refine v_iconst (nI 1) dL_law_986 (by decide +kernel) ?_
  refine v_iaddN dL_law_987 ?_
  refine v_sld hb hbl hbA (vp_in_nI (by omega) (by omega)) dL_law_988 ?_
  refine v_aload_n 4 dL_law_989 rfl rfl ?_
  refine u_callSW [.ref (G 0), .int (xs (nI (i + 1)).toNatClampNeg), .ref (G 788)] [] hX hC hW gL_law_L_minutes rfl rfl rfl ⟨by decide +kernel, by decide +kernel, Eq.trans (b := some 3) (by decide +kernel) rfl⟩ ⟨Nat.le_of_ble_eq_true rfl, Nat.le_of_ble_eq_true rfl⟩ ⟨hc, hs⟩ (Nat.le_of_ble_eq_true rfl) rfl dL_law_990 (fun v9 τ9 hp9 => ?_)
  obtain ⟨hv9, hck9, hout9, hfr9⟩ := hp9
  subst hv9
  refine v_st (st' := [.int (nI k)]) rfl ?_
  refine v_istore ((5, .int (nI k)) :: lw_loc G b i) dL_law_993 (by decide) rfl ?_
  refine v_aload_n 4 dL_law_995 rfl rfl ?_
  refine v_aload_n 2 dL_law_996 rfl rfl ?_
  refine v_iload 1 dL_law_997 rfl ?_
  refine v_iconst (nI 1) dL_law_999 (by decide +kernel) ?_
  refine v_iaddN dL_law_1000 ?_
  refine v_sld hb hbl hbA (vp_in_nI (by omega) (by omega)) dL_law_1001 ?_
  refine u_callVx [.int (xs (nI (i + 1)).toNatClampNeg)] [] 1 (h6 τ9 (hMo.cong hfr9)) (ci := 6) (C := RX6) (T := TX6) (NF := 13) hM.n hM.s rfl gL_law_X6_minutes rfl rfl rfl (by decide +kernel) rfl ⟨Nat.le_of_ble_eq_true rfl, Nat.le_of_ble_eq_true rfl⟩ ⟨hc, hs⟩ (Nat.le_of_ble_eq_true rfl) rfl dL_law_1002 (fun v8 τ8 hp8 => ?_)
  obtain ⟨⟨w8, hv8, hw8⟩, hth8, hmo8, hfr8⟩ := hp8
  subst hv8
  refine v_st (st' := [.int w8]) rfl ?_
  refine v_istore ((6, .int w8) :: (5, .int (nI k)) :: lw_loc G b i) dL_law_1005 (by decide) rfl ?_
  refine v_aload_n 5 dL_law_1007 rfl rfl ?_
  refine u_callVx [] [] 0 (lw_thrown l D E 789 G shp τ8 hM hth8) (ci := 6) (C := RX6) (T := TX6) (NF := 13) hM.n hM.s rfl gL_law_X6_thrown rfl rfl rfl (by decide +kernel) rfl ⟨Nat.le_of_ble_eq_true rfl, Nat.le_of_ble_eq_true rfl⟩ ⟨hc, hs⟩ (Nat.le_of_ble_eq_true rfl) rfl dL_law_1008 (fun v7 τ7 hp7 => ?_)
  obtain ⟨hv7, h7⟩ := hp7
  subst hv7
  subst h7
  refine v_st (st' := [.int (nI k)]) rfl ?_
  refine v_iload 1 dL_law_1011 rfl ?_
  refine v_icmp_eqN 1018 (by omega) (by omega) dL_law_1013 rfl (fun _ => ?_) (fun z => absurd rfl z)
  refine v_iload 1 dL_law_1018 rfl ?_
  refine v_if_neN 1035 (by omega) dL_law_1020 rfl (fun _ => ?_) (fun hk0 => ?_)
  · refine v_goto 1792 dL_law_1035 rfl ?_
    refine v_loc [2, 3, 4, 5, 6] (lw_loc G b i) rfl ?_
    exact hk τ7 a' (cells + 1) (slots + 6) (hck9.far (fun n hn => hfr8 n (Or.inl hn))) hmo8 hG' (Nat.le_refl _) (Nat.le_refl _)
  · refine v_aload_n 6 dL_law_1023 rfl rfl ?_
    refine v_iconst (nI 0) dL_law_1024 (by decide +kernel) ?_
    refine u_lald 0 (by decide) hO rfl (by decide) (by decide) dL_law_1025 ?_
    refine v_iload 0 dL_law_1026 rfl ?_
    refine v_i2l dL_law_1028 ?_
    refine v_lcmp dL_law_1029 ?_
    refine v_if_eq 1035 dL_law_1030 rfl (fun _ => ?_) (fun z => absurd ((lg_cmp_eq _ _).mpr (by rw [hfr8 788 (Or.inr rfl), hout9 hk0, hw8 hk0])) z)
    refine v_goto 1792 dL_law_1035 rfl ?_
    refine v_loc [2, 3, 4, 5, 6] (lw_loc G b i) rfl ?_
    exact hk τ7 a' (cells + 1) (slots + 6) (hck9.far (fun n hn => hfr8 n (Or.inl hn))) hmo8 hG' (Nat.le_refl _) (Nat.le_refl _)
set_option maxHeartbeats 4000000 in
set_option maxRecDepth 100000 in
theorem law_set (hl9 : l.stackTraces = false) (hX : StX A s) (hC : StC s) (hS : StoodS E G shp 789) (hO : shp 788 = LoS E 1) (hM : ModS E G shp 789 781) (hb : va_X b L xs s s.heap) (hbl : b < s.heap.size) (hbA : ¬ A b) (hL : L ≤ 2048) {σ : Nat → Nat → Int32} {a : AB} {T i cells slots : Nat} (hCk : Ck σ a) (hMo : Mo σ a) (hG : Go T a) (hT : T ≤ 990000) (hi : i + 4 ≤ L) (hc : cells + 1 ≤ 601024) (hs : slots + 6 ≤ 7293034)
    (hk : ∀ σ' a' cells' slots', Ck σ' a' → Mo σ' a' → Go (T + 1000) a' → cells' ≤ cells + 1 → slots' ≤ slots + 6 → V p l e room_1 s m args below meth c Q D E A cL_law 7 RL ret wsL_law 789 G cells' slots' (φ shp σ') 1792 (lw_loc G b i) []) : V p l e room_1 s m args below meth c Q D E A cL_law 7 RL ret wsL_law 789 G cells slots (φ shp σ) 1038 (lw_loc G b i) [] := by
  obtain ⟨k, v', a', hk3, hG', hW, h6⟩ := op_set l hl9 D E 789 G shp σ hS (by decide) hO hM hCk hG hT (xs (nI (i + 1)).toNatClampNeg) (xs (nI (i + 2)).toNatClampNeg)
  refine v_aload_n 2 dL_law_1038 rfl rfl ?_
  refine v_aload_n 1 dL_law_1039 rfl rfl ?_
  refine v_iload 0 dL_law_1040 rfl ?_
  refine v_iconst (nI 1) dL_law_1042 (by decide +kernel) ?_
  refine v_iaddN dL_law_1043 ?_
  refine v_sld hb hbl hbA (vp_in_nI (by omega) (by omega)) dL_law_1044 ?_
  refine v_aload_n 1 dL_law_1045 rfl rfl ?_
  refine v_iload 0 dL_law_1046 rfl ?_
  refine v_iconst (nI 2) dL_law_1048 (by decide +kernel) ?_
  refine v_iaddN dL_law_1049 ?_
  refine v_sld hb hbl hbA (vp_in_nI (by omega) (by omega)) dL_law_1050 ?_
  refine v_aload_n 4 dL_law_1051 rfl rfl ?_
  refine u_callSW [.ref (G 0), .int (xs (nI (i + 1)).toNatClampNeg), .int (xs (nI (i + 2)).toNatClampNeg), .ref (G 788)] [] hX hC hW gL_law_L_set rfl rfl rfl ⟨by decide +kernel, by decide +kernel, Eq.trans (b := some 4) (by decide +kernel) rfl⟩ ⟨Nat.le_of_ble_eq_true rfl, Nat.le_of_ble_eq_true rfl⟩ ⟨hc, hs⟩ (Nat.le_of_ble_eq_true rfl) rfl dL_law_1052 (fun v9 τ9 hp9 => ?_)
  obtain ⟨hv9, hck9, hout9, hfr9⟩ := hp9
  subst hv9
  refine v_st (st' := [.int (nI k)]) rfl ?_
  refine v_istore ((5, .int (nI k)) :: lw_loc G b i) dL_law_1055 (by decide) rfl ?_
  refine v_aload_n 4 dL_law_1057 rfl rfl ?_
  refine v_aload_n 2 dL_law_1058 rfl rfl ?_
  refine v_iload 1 dL_law_1059 rfl ?_
  refine v_iconst (nI 1) dL_law_1061 (by decide +kernel) ?_
  refine v_iaddN dL_law_1062 ?_
  refine v_sld hb hbl hbA (vp_in_nI (by omega) (by omega)) dL_law_1063 ?_
  refine v_aload_n 2 dL_law_1064 rfl rfl ?_
  refine v_iload 1 dL_law_1065 rfl ?_
  refine v_iconst (nI 2) dL_law_1067 (by decide +kernel) ?_
  refine v_iaddN dL_law_1068 ?_
  refine v_sld hb hbl hbA (vp_in_nI (by omega) (by omega)) dL_law_1069 ?_
  refine u_callVx [.int (xs (nI (i + 1)).toNatClampNeg), .int (xs (nI (i + 2)).toNatClampNeg)] [] 2 (h6 τ9 (hMo.cong hfr9)) (ci := 6) (C := RX6) (T := TX6) (NF := 13) hM.n hM.s rfl gL_law_X6_set rfl rfl rfl (by decide +kernel) rfl ⟨Nat.le_of_ble_eq_true rfl, Nat.le_of_ble_eq_true rfl⟩ ⟨hc, hs⟩ (Nat.le_of_ble_eq_true rfl) rfl dL_law_1070 (fun v8 τ8 hp8 => ?_)
  obtain ⟨⟨w8, hv8, hw8⟩, hth8, hmo8, hfr8⟩ := hp8
  subst hv8
  refine v_st (st' := [.int w8]) rfl ?_
  refine v_istore ((6, .int w8) :: (5, .int (nI k)) :: lw_loc G b i) dL_law_1073 (by decide) rfl ?_
  refine v_aload_n 5 dL_law_1075 rfl rfl ?_
  refine u_callVx [] [] 0 (lw_thrown l D E 789 G shp τ8 hM hth8) (ci := 6) (C := RX6) (T := TX6) (NF := 13) hM.n hM.s rfl gL_law_X6_thrown rfl rfl rfl (by decide +kernel) rfl ⟨Nat.le_of_ble_eq_true rfl, Nat.le_of_ble_eq_true rfl⟩ ⟨hc, hs⟩ (Nat.le_of_ble_eq_true rfl) rfl dL_law_1076 (fun v7 τ7 hp7 => ?_)
  obtain ⟨hv7, h7⟩ := hp7
  subst hv7
  subst h7
  refine v_st (st' := [.int (nI k)]) rfl ?_
  refine v_iload 1 dL_law_1079 rfl ?_
  refine v_icmp_eqN 1086 (by omega) (by omega) dL_law_1081 rfl (fun _ => ?_) (fun z => absurd rfl z)
  refine v_iload 1 dL_law_1086 rfl ?_
  refine v_if_neN 1103 (by omega) dL_law_1088 rfl (fun _ => ?_) (fun hk0 => ?_)
  · refine v_goto 1792 dL_law_1103 rfl ?_
    refine v_loc [2, 3, 4, 5, 6] (lw_loc G b i) rfl ?_
    exact hk τ7 a' (cells + 1) (slots + 6) (hck9.far (fun n hn => hfr8 n (Or.inl hn))) hmo8 hG' (Nat.le_refl _) (Nat.le_refl _)
  · refine v_aload_n 6 dL_law_1091 rfl rfl ?_
    refine v_iconst (nI 0) dL_law_1092 (by decide +kernel) ?_
    refine u_lald 0 (by decide) hO rfl (by decide) (by decide) dL_law_1093 ?_
    refine v_iload 0 dL_law_1094 rfl ?_
    refine v_i2l dL_law_1096 ?_
    refine v_lcmp dL_law_1097 ?_
    refine v_if_eq 1103 dL_law_1098 rfl (fun _ => ?_) (fun z => absurd ((lg_cmp_eq _ _).mpr (by rw [hfr8 788 (Or.inr rfl), hout9 hk0, hw8 hk0])) z)
    refine v_goto 1792 dL_law_1103 rfl ?_
    refine v_loc [2, 3, 4, 5, 6] (lw_loc G b i) rfl ?_
    exact hk τ7 a' (cells + 1) (slots + 6) (hck9.far (fun n hn => hfr8 n (Or.inl hn))) hmo8 hG' (Nat.le_refl _) (Nat.le_refl _)
end LAW9
