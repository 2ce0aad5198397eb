def hall0 : List Value := [.int 0, .int 0, .int 0, .int 0, .int 0, .int 0, .null, .null, .null, .null, .null]
def a2p (z b j : Nat) : Nat → Option Nat := fun i => if i < j then some (Gz z (b + 7 + 2 * i)) else none
def a3p (z b j : Nat) : Nat → Option Nat := fun i => if i < j then some (Gz z (b + 13 + i)) else none
theorem a2p_0 (z b : Nat) : (fun _ => none) = a2p z b 0 := by funext i; unfold a2p; rw [if_neg (by omega)]
theorem a3p_0 (z b : Nat) : (fun _ => none) = a3p z b 0 := by funext i; unfold a3p; rw [if_neg (by omega)]
theorem a2p_s (z b j : Nat) : va_up (a2p z b j) j (some (Gz z (b + 7 + 2 * j))) = a2p z b (j + 1) := by
  funext i
  by_cases q : i = j
  · rw [q, va_up_self]; unfold a2p; rw [if_pos (by omega)]
  · rw [va_up_ne _ _ q]; unfold a2p
    by_cases h : i < j
    · rw [if_pos h, if_pos (by omega)]
    · rw [if_neg h, if_neg (by omega)]
theorem a3p_s (z b j : Nat) : va_up (a3p z b j) j (some (Gz z (b + 13 + j))) = a3p z b (j + 1) := by
  funext i
  by_cases q : i = j
  · rw [q, va_up_self]; unfold a3p; rw [if_pos (by omega)]
  · rw [va_up_ne _ _ q]; unfold a3p
    by_cases h : i < j
    · rw [if_pos h, if_pos (by omega)]
    · rw [if_neg h, if_neg (by omega)]
/-- the shapes of a hall's cells, from b on; what they hold at first -/
def hShp (z : Nat) (E : Nat → ClassId) (b m : Nat) : (Nat → Int32) → va_E := if m = b then ObS (Gz z) 1 (ksHall b) else if m = b + 1 then ArS E 0 4 else if m = b + 2 then ReS E (Gz z) 4 3 (fun l => b + 7 + 2 * l) else if m = b + 3 then ReS E (Gz z) 5 30 (fun p => b + 13 + p) else if m = b + 4 then ObS (Gz z) 3 (ksLine (b + 4)) else if m = b + 5 then ArS E 0 12 else if m = b + 6 then ObS (Gz z) 4 ksPers else if m < b + 13 then (if (m - (b + 7)) % 2 = 0 then ObS (Gz z) 3 (ksLine m) else ArS E 0 12) else ObS (Gz z) 4 ksPers
def hIni (b m : Nat) : Nat → Int32 := if m = b + 6 ∨ b + 13 ≤ m then persI else zeI
def hStat (z : Nat) (E : Nat → ClassId) (b m : Nat) : va_E := hShp z E b m (hIni b m)
def hPhi (z : Nat) (E : Nat → ClassId) (b : Nat) (fs : List Value) (a2 a3 : Nat → Option Nat) (Φ0 : Nat → va_E) : Nat → va_E := fun m => if m < b then Φ0 m else if m = b then .inr (1, fs) else if m = b + 2 then .inl (E 4, 3, .inr (.inr (.inr (.inr a2)))) else if m = b + 3 then .inl (E 5, 30, .inr (.inr (.inr (.inr a3)))) else hStat z E b m
section HPH
variable {z : Nat} {E : Nat → ClassId} {b : Nat} {fs fs' : List Value} {a2 a3 a' : Nat → Option Nat} {Φ0 : Nat → va_E}
theorem hPhi_b : hPhi z E b fs a2 a3 Φ0 b = .inr (1, fs) := by unfold hPhi; rw [if_neg (by omega), if_pos rfl]
theorem hPhi_2 : hPhi z E b fs a2 a3 Φ0 (b + 2) = .inl (E 4, 3, .inr (.inr (.inr (.inr a2)))) := by unfold hPhi; rw [if_neg (by omega), if_neg (by omega), if_pos rfl]
theorem hPhi_3 : hPhi z E b fs a2 a3 Φ0 (b + 3) = .inl (E 5, 30, .inr (.inr (.inr (.inr a3)))) := by unfold hPhi; rw [if_neg (by omega), if_neg (by omega), if_neg (by omega), if_pos rfl]
theorem hPhi_s {m : Nat} (h : m = b + 1 ∨ b + 4 ≤ m) : hPhi z E b fs a2 a3 Φ0 m = hStat z E b m := by unfold hPhi; rw [if_neg (by omega), if_neg (by omega), if_neg (by omega), if_neg (by omega)]
theorem hPhi_ub : va_up (hPhi z E b fs a2 a3 Φ0) b (.inr (1, fs')) = hPhi z E b fs' a2 a3 Φ0 := by
  funext m
  by_cases q : m = b
  · rw [q, va_up_self, hPhi_b]
  · rw [va_up_ne _ _ q]; unfold hPhi; rw [if_neg q, if_neg q]
theorem hPhi_u2 : va_up (hPhi z E b fs a2 a3 Φ0) (b + 2) (.inl (E 4, 3, .inr (.inr (.inr (.inr a'))))) = hPhi z E b fs a' a3 Φ0 := by
  funext m
  by_cases q : m = b + 2
  · rw [q, va_up_self, hPhi_2]
  · rw [va_up_ne _ _ q]; unfold hPhi; rw [if_neg q, if_neg q]
theorem hPhi_u3 : va_up (hPhi z E b fs a2 a3 Φ0) (b + 3) (.inl (E 5, 30, .inr (.inr (.inr (.inr a'))))) = hPhi z E b fs a2 a' Φ0 := by
  funext m
  by_cases q : m = b + 3
  · rw [q, va_up_self, hPhi_3]
  · rw [va_up_ne _ _ q]; unfold hPhi; rw [if_neg q, if_neg q]
theorem hStat_1 : hStat z E b (b + 1) = ArS E 0 4 zeI := by unfold hStat hShp hIni; rw [if_neg (by omega), if_pos rfl, if_neg (by omega)]
theorem hStat_4 : hStat z E b (b + 4) = ObS (Gz z) 3 (ksLine (b + 4)) zeI := by unfold hStat hShp hIni; rw [if_neg (by omega), if_neg (by omega), if_neg (by omega), if_neg (by omega), if_pos rfl, if_neg (by omega)]
theorem hStat_5 : hStat z E b (b + 5) = ArS E 0 12 zeI := by unfold hStat hShp hIni; rw [if_neg (by omega), if_neg (by omega), if_neg (by omega), if_neg (by omega), if_neg (by omega), if_pos rfl, if_neg (by omega)]
theorem hStat_6 : hStat z E b (b + 6) = ObS (Gz z) 4 ksPers persI := by unfold hStat hShp hIni; rw [if_neg (by omega), if_neg (by omega), if_neg (by omega), if_neg (by omega), if_neg (by omega), if_neg (by omega), if_pos rfl, if_pos (by omega)]
theorem hStat_l {l : Nat} (h : l < 3) : hStat z E b (b + 7 + 2 * l) = ObS (Gz z) 3 (ksLine (b + 7 + 2 * l)) zeI := by unfold hStat hShp hIni; rw [if_neg (by omega), if_neg (by omega), if_neg (by omega), if_neg (by omega), if_neg (by omega), if_neg (by omega), if_neg (by omega), if_pos (by omega), if_pos (by omega), if_neg (by omega)]
theorem hStat_r {l : Nat} (h : l < 3) : hStat z E b (b + 7 + 2 * l + 1) = ArS E 0 12 zeI := by unfold hStat hShp hIni; rw [if_neg (by omega), if_neg (by omega), if_neg (by omega), if_neg (by omega), if_neg (by omega), if_neg (by omega), if_neg (by omega), if_pos (by omega), if_neg (by omega), if_neg (by omega)]
theorem hStat_p (p : Nat) : hStat z E b (b + 13 + p) = ObS (Gz z) 4 ksPers persI := by unfold hStat hShp hIni; rw [if_neg (by omega), if_neg (by omega), if_neg (by omega), if_neg (by omega), if_neg (by omega), if_neg (by omega), if_neg (by omega), if_neg (by omega), if_pos (by omega)]
def hallF1 (z b : Nat) : List Value := [.int 0, .int 0, .int 0, .int 0, .int 0, .int 0, .ref (Gz z (b + 1)), .ref (Gz z (b + 2)), .ref (Gz z (b + 3)), .ref (Gz z (b + 4)), .ref (Gz z (b + 6))]
theorem hPhi_end : hPhi z E b (hallF1 z b) (a2p z b 3) (a3p z b 30) Φ0 = (fun m => if m < b then Φ0 m else hStat z E b m) := by
  funext m
  by_cases h : m < b
  · unfold hPhi; rw [if_pos h, if_pos h]
  · rw [if_neg h]
    by_cases h0 : m = b
    · subst h0
      rw [hPhi_b]; unfold hStat hShp hIni; rw [if_pos rfl, if_neg (by omega)]; rfl
    · by_cases h2 : m = b + 2
      · rw [h2, hPhi_2]; unfold hStat hShp hIni; rw [if_neg (by omega), if_neg (by omega), if_pos rfl, if_neg (by omega)]; rfl
      · by_cases h3 : m = b + 3
        · rw [h3, hPhi_3]; unfold hStat hShp hIni; rw [if_neg (by omega), if_neg (by omega), if_neg (by omega), if_pos rfl, if_neg (by omega)]; rfl
        · exact hPhi_s (by omega)
end HPH
set_option maxRecDepth 100000 in
theorem inX1_init_X1 : ∀ w ∈ wsX10, w ∈ wsX1_init := by decide +kernel
set_option maxRecDepth 100000 in
theorem inX1_init_X3 : ∀ w ∈ wsX30, w ∈ wsX1_init := by decide +kernel
set_option maxRecDepth 100000 in
theorem inX1_init_X4 : ∀ w ∈ wsX40, w ∈ wsX1_init := by decide +kernel
set_option maxHeartbeats 4000000 in
set_option maxRecDepth 100000 in
/-- Hall() -/
theorem c_X1_init (lu : Launch) (Dg : va_G) (E : Nat → ClassId) (z : Nat) {b : Nat} {Φ : Nat → va_E} (hΦ : Φ b = .inr (1, hall0)) : ConG lu yX1_init wsX1_init { frames := 2, cells := 42, slots := 384, locals := 43 } Dg E z (b + 1) (b + 43) 384 Φ [.ref (Gz z b)] (fun Φ' => Φ' = (fun m => if m < b then Φ m else hStat z E b m)) := by
  refine conG_of (cc := cX1_init) (maxL := 2) (ret := none) (by decide) rfl (Nat.le_of_ble_eq_true rfl) ?_
  intro p_ e_ s_ m_ args_ below_ meth_ c_ hs9 hn9 hX9 hA9
  refine v_eq (pc' := 0) (st' := []) rfl rfl ?_
  refine v_loc [0] [(0, .ref (Gz z b))] rfl ?_
  refine v_aload_n 0 dX1_init_0 rfl rfl ?_
  refine v_objInit (by decide +kernel) (by decide +kernel) (by decide +kernel) dX1_init_1 (Nat.le_of_ble_eq_true rfl) (Nat.le_of_ble_eq_true rfl) ?_
  have hX9' : StX (AG (b + 1) (Gz z) (z + (b + 1))) s_ := hX9
  refine v_Φ (hPhi z E b ([.int 0, .int 0, .int 0, .int 0, .int 0, .int 0, .null, .null, .null, .null, .null]) (a2p z b 0) (a3p z b 0) Φ) (fun m hm => ?_) ?_
  · unfold hPhi
    by_cases q : m < b
    · rw [if_pos q]
    · have e9 : m = b := by omega
      rw [e9, if_neg (by omega), if_pos rfl]; exact hΦ
  refine v_aload_n 0 dX1_init_4 rfl rfl ?_
  refine v_iconst (nI 4) dX1_init_5 (by decide +kernel) ?_
  refine v_newarr 0 .int (ty := .int) 4 (4, .inl (fun _ => 0)) (by omega) (fun q => AG_z) (by decide +kernel) rfl rfl (fun _ => rfl) rfl (by decide) (by decide) (Nat.le_of_ble_eq_true rfl) (Nat.le_of_ble_eq_true rfl) dX1_init_6 ?_
  refine v_eqΦ (Φ' := hPhi z E b ([.int 0, .int 0, .int 0, .int 0, .int 0, .int 0, .null, .null, .null, .null, .null]) (a2p z b 0) (a3p z b 0) Φ) (va_up_fix ((hPhi_s (Or.inl rfl)).trans hStat_1)) ?_
  refine v_putF (n := b) (k := 6) (C := RX1) (T := TX1) (NF := 11) (ty := (.array .int)) (by omega) hPhi_b rfl inX1_init_X1 tyX1 tyX1_ok nmX1 (by decide) (by decide +kernel) rfl rfl hn9 rfl (by decide +kernel) rfl rfl (Nat.le_of_ble_eq_true rfl) dX1_init_8 ?_
  refine v_eqΦ (Φ' := hPhi z E b ([.int 0, .int 0, .int 0, .int 0, .int 0, .int 0, .ref (Gz z (b + 1)), .null, .null, .null, .null]) (a2p z b 0) (a3p z b 0) Φ) (hPhi_ub) ?_
  refine v_aload_n 0 dX1_init_11 rfl rfl ?_
  refine v_iconst (nI 3) dX1_init_12 (by decide +kernel) ?_
  refine v_anew 4 3 (C := "StoodMinutes$Line") (by omega) (fun q => AG_z) hA9 (by decide) (by decide +kernel) rfl rfl (by decide) (Nat.le_of_ble_eq_true rfl) (Nat.le_of_ble_eq_true rfl) dX1_init_13 ?_
  refine v_eqΦ (Φ' := hPhi z E b ([.int 0, .int 0, .int 0, .int 0, .int 0, .int 0, .ref (Gz z (b + 1)), .null, .null, .null, .null]) (a2p z b 0) (a3p z b 0) Φ) (va_up_fix (hPhi_2.trans (by rw [← a2p_0]))) ?_
  refine v_putF (n := b) (k := 7) (C := RX1) (T := TX1) (NF := 11) (ty := (.array (.object "StoodMinutes$Line"))) (by omega) hPhi_b rfl inX1_init_X1 tyX1 tyX1_ok nmX1 (by decide) (by decide +kernel) rfl rfl hn9 rfl (by decide +kernel) rfl rfl (Nat.le_of_ble_eq_true rfl) dX1_init_16 ?_
  refine v_eqΦ (Φ' := hPhi z E b ([.int 0, .int 0, .int 0, .int 0, .int 0, .int 0, .ref (Gz z (b + 1)), .ref (Gz z (b + 2)), .null, .null, .null]) (a2p z b 0) (a3p z b 0) Φ) (hPhi_ub) ?_
  refine v_aload_n 0 dX1_init_19 rfl rfl ?_
  refine v_bipush (nI 30) dX1_init_20 (by decide +kernel) ?_
  refine v_anew 5 30 (C := "StoodMinutes$Person") (by omega) (fun q => AG_z) hA9 (by decide) (by decide +kernel) rfl rfl (by decide) (Nat.le_of_ble_eq_true rfl) (Nat.le_of_ble_eq_true rfl) dX1_init_22 ?_
  refine v_eqΦ (Φ' := hPhi z E b ([.int 0, .int 0, .int 0, .int 0, .int 0, .int 0, .ref (Gz z (b + 1)), .ref (Gz z (b + 2)), .null, .null, .null]) (a2p z b 0) (a3p z b 0) Φ) (va_up_fix (hPhi_3.trans (by rw [← a3p_0]))) ?_
  refine v_putF (n := b) (k := 8) (C := RX1) (T := TX1) (NF := 11) (ty := (.array (.object "StoodMinutes$Person"))) (by omega) hPhi_b rfl inX1_init_X1 tyX1 tyX1_ok nmX1 (by decide) (by decide +kernel) rfl rfl hn9 rfl (by decide +kernel) rfl rfl (Nat.le_of_ble_eq_true rfl) dX1_init_25 ?_
  refine v_eqΦ (Φ' := hPhi z E b ([.int 0, .int 0, .int 0, .int 0, .int 0, .int 0, .ref (Gz z (b + 1)), .ref (Gz z (b + 2)), .ref (Gz z (b + 3)), .null, .null]) (a2p z b 0) (a3p z b 0) Φ) (hPhi_ub) ?_
  refine v_aload_n 0 dX1_init_28 rfl rfl ?_
  refine v_nc (N' := b + 4) (cells' := 3) (slots' := 37) (by omega) (by omega) (by omega) ?_
  refine v_new (C := RX3) (T := TX3) (NF := 5) (ci := 3) line0 (by omega) (fun q => AG_z) inX1_init_X3 tyX3 tyX3_ok (by decide +kernel) (by decide +kernel) (by decide +kernel) rfl (fun j9 hj9 => by rcases (show j9 = 0 ∨ j9 = 1 ∨ j9 = 2 ∨ j9 = 3 ∨ j9 = 4 by omega) with rfl | rfl | rfl | rfl | rfl <;> rfl) (show _ ≤ 42 by omega) (show _ ≤ 384 by omega) dX1_init_29 ?_
  refine v_dup dX1_init_32 rfl ?_
  refine v_callGN (host := "StoodMinutes") (n := b + 4) (N1 := b + 4 + 2) hX9' hA9 (by omega) (by omega) (fun q => AG_z) (c_X3_init lu Dg E z (n := b + 4) (va_up_self _ _ _)) gX1_init_X3_init_n27 (by decide +kernel) (by decide +kernel) (by decide +kernel) rfl rfl (show 1 = _ by omega) rfl (by decide +kernel) ⟨(Nat.le_of_ble_eq_true rfl), (Nat.le_of_ble_eq_true rfl)⟩ ⟨show _ ≤ 42 by omega, show _ ≤ 384 by omega⟩ (Nat.le_of_ble_eq_true rfl) rfl dX1_init_33 (fun Φ9 h9 => ?_)
  subst h9
  refine v_eqΦ (Φ' := hPhi z E b ([.int 0, .int 0, .int 0, .int 0, .int 0, .int 0, .ref (Gz z (b + 1)), .ref (Gz z (b + 2)), .ref (Gz z (b + 3)), .null, .null]) (a2p z b 0) (a3p z b 0) Φ) (va_up3 (by omega) ((hPhi_s (Or.inr (by omega))).trans hStat_5) ((hPhi_s (Or.inr (by omega))).trans hStat_4)) ?_
  refine v_nc (N' := b + 6) (cells' := 5) (slots' := 54) (by omega) (by omega) (by omega) ?_
  refine v_putF (n := b) (k := 9) (C := RX1) (T := TX1) (NF := 11) (ty := (.object "StoodMinutes$Line")) (by omega) hPhi_b rfl inX1_init_X1 tyX1 tyX1_ok nmX1 (by decide) (by decide +kernel) rfl rfl hn9 rfl (by decide +kernel) rfl rfl (Nat.le_of_ble_eq_true rfl) dX1_init_36 ?_
  refine v_eqΦ (Φ' := hPhi z E b ([.int 0, .int 0, .int 0, .int 0, .int 0, .int 0, .ref (Gz z (b + 1)), .ref (Gz z (b + 2)), .ref (Gz z (b + 3)), .ref (Gz z (b + 4)), .null]) (a2p z b 0) (a3p z b 0) Φ) (hPhi_ub) ?_
  refine v_aload_n 0 dX1_init_39 rfl rfl ?_
  refine v_new (C := RX4) (T := TX4) (NF := 9) (ci := 4) pers0 (by omega) (fun q => AG_z) inX1_init_X4 tyX4 tyX4_ok (by decide +kernel) (by decide +kernel) (by decide +kernel) rfl (fun j9 hj9 => by rcases (show j9 = 0 ∨ j9 = 1 ∨ j9 = 2 ∨ j9 = 3 ∨ j9 = 4 ∨ j9 = 5 ∨ j9 = 6 ∨ j9 = 7 ∨ j9 = 8 by omega) with rfl | rfl | rfl | rfl | rfl | rfl | rfl | rfl | rfl <;> rfl) (show _ ≤ 42 by omega) (show _ ≤ 384 by omega) dX1_init_40 ?_
  refine v_dup dX1_init_43 rfl ?_
  refine v_callGN (host := "StoodMinutes") (n := b + 6) (N1 := b + 6 + 1) hX9' hA9 (by omega) (by omega) (fun q => AG_z) (c_X4_init lu Dg E z (n := b + 6) (va_up_self _ _ _)) gX1_init_X4_init_n32 (by decide +kernel) (by decide +kernel) (by decide +kernel) rfl rfl (show 0 = _ by omega) rfl (by decide +kernel) ⟨(Nat.le_of_ble_eq_true rfl), (Nat.le_of_ble_eq_true rfl)⟩ ⟨show _ ≤ 42 by omega, show _ ≤ 384 by omega⟩ (Nat.le_of_ble_eq_true rfl) rfl dX1_init_44 (fun Φ9 h9 => ?_)
  subst h9
  refine v_eqΦ (Φ' := hPhi z E b ([.int 0, .int 0, .int 0, .int 0, .int 0, .int 0, .ref (Gz z (b + 1)), .ref (Gz z (b + 2)), .ref (Gz z (b + 3)), .ref (Gz z (b + 4)), .null]) (a2p z b 0) (a3p z b 0) Φ) (va_up2.trans (va_up_fix ((hPhi_s (Or.inr (by omega))).trans hStat_6))) ?_
  refine v_nc (N' := b + 7) (cells' := 6) (slots' := 63) (by omega) (by omega) (by omega) ?_
  refine v_putF (n := b) (k := 10) (C := RX1) (T := TX1) (NF := 11) (ty := (.object "StoodMinutes$Person")) (by omega) hPhi_b rfl inX1_init_X1 tyX1 tyX1_ok nmX1 (by decide) (by decide +kernel) rfl rfl hn9 rfl (by decide +kernel) rfl rfl (Nat.le_of_ble_eq_true rfl) dX1_init_47 ?_
  refine v_eqΦ (Φ' := hPhi z E b ([.int 0, .int 0, .int 0, .int 0, .int 0, .int 0, .ref (Gz z (b + 1)), .ref (Gz z (b + 2)), .ref (Gz z (b + 3)), .ref (Gz z (b + 4)), .ref (Gz z (b + 6))]) (a2p z b 0) (a3p z b 0) Φ) (hPhi_ub) ?_
  refine v_iconst (nI 0) dX1_init_50 (by decide +kernel) ?_
  refine v_istore_n [(1, .int (nI 0)), (0, .ref (Gz z b))] dX1_init_51 rfl (by decide) rfl ?_
  refine dn_ind (M := 3) (P := fun j => V p_ lu e_ _ s_ m_ args_ below_ meth_ c_ _ Dg E _ _ _ _ _ _ (b + 7 + 2 * j) (Gz z) (6 + 2 * j) (63 + 17 * j) (hPhi z E b (hallF1 z b) (a2p z b j) (a3p z b 0) Φ) 52 [(1, .int (nI j)), (0, .ref (Gz z b))] []) ?_ ?_
  · skip
    refine v_iload_n 0 dX1_init_52 rfl rfl ?_
    refine v_aload_n 1 dX1_init_53 rfl rfl ?_
    refine v_get (n := b) (k := 7) (C := RX1) (T := TX1) (NF := 11) (by omega) hPhi_b rfl inX1_init_X1 (by decide) (by decide +kernel) rfl rfl dX1_init_54 ?_
    refine v_alen 4 (nI 3) (n := b + 2) (by omega) hPhi_2 rfl rfl dX1_init_57 ?_
    refine v_icmp_geN 80 (by omega) (by omega) dX1_init_58 rfl (fun hge => ?_) (fun hge => ?_)
    · skip
      refine v_iconst (nI 0) dX1_init_80 (by decide +kernel) ?_
      refine v_istore_n [(1, .int (nI 0)), (0, .ref (Gz z b))] dX1_init_81 rfl (by decide) rfl ?_
      refine dn_ind (M := 30) (P := fun j => V p_ lu e_ _ s_ m_ args_ below_ meth_ c_ _ Dg E _ _ _ _ _ _ (b + 13 + j) (Gz z) (12 + j) (114 + 9 * j) (hPhi z E b (hallF1 z b) (a2p z b 3) (a3p z b j) Φ) 82 [(1, .int (nI j)), (0, .ref (Gz z b))] []) ?_ ?_
      · skip
        refine v_iload_n 0 dX1_init_82 rfl rfl ?_
        refine v_aload_n 1 dX1_init_83 rfl rfl ?_
        refine v_get (n := b) (k := 8) (C := RX1) (T := TX1) (NF := 11) (by omega) hPhi_b rfl inX1_init_X1 (by decide) (by decide +kernel) rfl rfl dX1_init_84 ?_
        refine v_alen 5 (nI 30) (n := b + 3) (by omega) hPhi_3 rfl rfl dX1_init_87 ?_
        refine v_icmp_geN 110 (by omega) (by omega) dX1_init_88 rfl (fun hge => ?_) (fun hge => ?_)
        · skip
          refine v_gret rfl hs9 (by omega) (by omega) (by omega) dX1_init_110 ?_
          exact hPhi_end
        · omega
      · intro j hj ih
        refine v_iload_n 0 dX1_init_82 rfl rfl ?_
        refine v_aload_n 1 dX1_init_83 rfl rfl ?_
        refine v_get (n := b) (k := 8) (C := RX1) (T := TX1) (NF := 11) (by omega) hPhi_b rfl inX1_init_X1 (by decide) (by decide +kernel) rfl rfl dX1_init_84 ?_
        refine v_alen 5 (nI 30) (n := b + 3) (by omega) hPhi_3 rfl rfl dX1_init_87 ?_
        refine v_icmp_geN 110 (by omega) (by omega) dX1_init_88 rfl (fun hge => ?_) (fun hge => ?_)
        · omega
        · skip
          refine v_aload_n 1 dX1_init_91 rfl rfl ?_
          refine v_get (n := b) (k := 8) (C := RX1) (T := TX1) (NF := 11) (by omega) hPhi_b rfl inX1_init_X1 (by decide) (by decide +kernel) rfl rfl dX1_init_92 ?_
          refine v_iload_n 0 dX1_init_95 rfl rfl ?_
          refine v_new (C := RX4) (T := TX4) (NF := 9) (ci := 4) pers0 (by omega) (fun q => AG_z) inX1_init_X4 tyX4 tyX4_ok (by decide +kernel) (by decide +kernel) (by decide +kernel) rfl (fun j9 hj9 => by rcases (show j9 = 0 ∨ j9 = 1 ∨ j9 = 2 ∨ j9 = 3 ∨ j9 = 4 ∨ j9 = 5 ∨ j9 = 6 ∨ j9 = 7 ∨ j9 = 8 by omega) with rfl | rfl | rfl | rfl | rfl | rfl | rfl | rfl | rfl <;> rfl) (show _ ≤ 42 by omega) (show _ ≤ 384 by omega) dX1_init_96 ?_
          refine v_dup dX1_init_99 rfl ?_
          refine v_callGN (host := "StoodMinutes") (n := b + 13 + j) (N1 := b + 13 + j + 1) hX9' hA9 (by omega) (by omega) (fun q => AG_z) (c_X4_init lu Dg E z (n := b + 13 + j) (va_up_self _ _ _)) gX1_init_X4_init_n32 (by decide +kernel) (by decide +kernel) (by decide +kernel) rfl rfl (show 0 = _ by omega) rfl (by decide +kernel) ⟨(Nat.le_of_ble_eq_true rfl), (Nat.le_of_ble_eq_true rfl)⟩ ⟨show _ ≤ 42 by omega, show _ ≤ 384 by omega⟩ (Nat.le_of_ble_eq_true rfl) rfl dX1_init_100 (fun Φ9 h9 => ?_)
          subst h9
          refine v_eqΦ (Φ' := hPhi z E b (hallF1 z b) (a2p z b 3) (a3p z b j) Φ) (va_up2.trans (va_up_fix ((hPhi_s (Or.inr (by omega))).trans (hStat_p j)))) ?_
          refine v_aast 5 (n := b + 3) (k := b + 13 + j) (ci := 4) (C := RX4) (T := TX4) (NF := 9) j (by omega) (by omega) hPhi_3 rfl ((hPhi_s (Or.inr (by omega))).trans (hStat_p j)) rfl rfl (by omega) (by decide) dX1_init_103 ?_
          refine v_eqΦ (Φ' := hPhi z E b (hallF1 z b) (a2p z b 3) (a3p z b (j + 1)) Φ) (by rw [hPhi_u3, a3p_s]) ?_
          refine v_nc (N' := b + 13 + (j + 1)) (cells' := 12 + (j + 1)) (slots' := 114 + 9 * (j + 1)) (by omega) (by omega) (by omega) ?_
          refine v_iincN 0 [(1, .int (nI (j + 1))), (0, .ref (Gz z b))] dX1_init_104 rfl (by decide) rfl ?_
          refine v_goto 82 dX1_init_107 rfl ?_
          exact ih
    · omega
  · intro j hj ih
    refine v_iload_n 0 dX1_init_52 rfl rfl ?_
    refine v_aload_n 1 dX1_init_53 rfl rfl ?_
    refine v_get (n := b) (k := 7) (C := RX1) (T := TX1) (NF := 11) (by omega) hPhi_b rfl inX1_init_X1 (by decide) (by decide +kernel) rfl rfl dX1_init_54 ?_
    refine v_alen 4 (nI 3) (n := b + 2) (by omega) hPhi_2 rfl rfl dX1_init_57 ?_
    refine v_icmp_geN 80 (by omega) (by omega) dX1_init_58 rfl (fun hge => ?_) (fun hge => ?_)
    · omega
    · skip
      refine v_aload_n 1 dX1_init_61 rfl rfl ?_
      refine v_get (n := b) (k := 7) (C := RX1) (T := TX1) (NF := 11) (by omega) hPhi_b rfl inX1_init_X1 (by decide) (by decide +kernel) rfl rfl dX1_init_62 ?_
      refine v_iload_n 0 dX1_init_65 rfl rfl ?_
      refine v_new (C := RX3) (T := TX3) (NF := 5) (ci := 3) line0 (by omega) (fun q => AG_z) inX1_init_X3 tyX3 tyX3_ok (by decide +kernel) (by decide +kernel) (by decide +kernel) rfl (fun j9 hj9 => by rcases (show j9 = 0 ∨ j9 = 1 ∨ j9 = 2 ∨ j9 = 3 ∨ j9 = 4 by omega) with rfl | rfl | rfl | rfl | rfl <;> rfl) (show _ ≤ 42 by omega) (show _ ≤ 384 by omega) dX1_init_66 ?_
      refine v_dup dX1_init_69 rfl ?_
      refine v_callGN (host := "StoodMinutes") (n := b + 7 + 2 * j) (N1 := b + 7 + 2 * j + 2) hX9' hA9 (by omega) (by omega) (fun q => AG_z) (c_X3_init lu Dg E z (n := b + 7 + 2 * j) (va_up_self _ _ _)) gX1_init_X3_init_n27 (by decide +kernel) (by decide +kernel) (by decide +kernel) rfl rfl (show 1 = _ by omega) rfl (by decide +kernel) ⟨(Nat.le_of_ble_eq_true rfl), (Nat.le_of_ble_eq_true rfl)⟩ ⟨show _ ≤ 42 by omega, show _ ≤ 384 by omega⟩ (Nat.le_of_ble_eq_true rfl) rfl dX1_init_70 (fun Φ9 h9 => ?_)
      subst h9
      refine v_eqΦ (Φ' := hPhi z E b (hallF1 z b) (a2p z b j) (a3p z b 0) Φ) (va_up3 (by omega) ((hPhi_s (Or.inr (by omega))).trans (hStat_r hj)) ((hPhi_s (Or.inr (by omega))).trans (hStat_l hj))) ?_
      refine v_aast 4 (n := b + 2) (k := b + 7 + 2 * j) (ci := 3) (C := RX3) (T := TX3) (NF := 5) j (by omega) (by omega) hPhi_2 rfl ((hPhi_s (Or.inr (by omega))).trans (hStat_l hj)) rfl rfl (by omega) (by decide) dX1_init_73 ?_
      refine v_eqΦ (Φ' := hPhi z E b (hallF1 z b) (a2p z b (j + 1)) (a3p z b 0) Φ) (by rw [hPhi_u2, a2p_s]) ?_
      refine v_nc (N' := b + 7 + 2 * (j + 1)) (cells' := 6 + 2 * (j + 1)) (slots' := 63 + 17 * (j + 1)) (by omega) (by omega) (by omega) ?_
      refine v_iincN 0 [(1, .int (nI (j + 1))), (0, .ref (Gz z b))] dX1_init_74 rfl (by decide) rfl ?_
      refine v_goto 52 dX1_init_77 rfl ?_
      exact ih
