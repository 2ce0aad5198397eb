def hist0 : List Value := [.null, .int 0, .int 0]
def ayp (z x j : Nat) : Nat → Option Nat := fun i => if i < j then some (Gz z (x + 43 * i)) else none
theorem ayp_0 (z x : Nat) : (fun _ => none) = ayp z x 0 := by funext i; unfold ayp; rw [if_neg (by omega)]
theorem ayp_s (z x j : Nat) : va_up (ayp z x j) j (some (Gz z (x + 43 * j))) = ayp z x (j + 1) := by
  funext i
  by_cases q : i = j
  · rw [q, va_up_self]; unfold ayp; rw [if_pos (by omega)]
  · rw [va_up_ne _ _ q]; unfold ayp
    by_cases h : i < j
    · rw [if_pos h, if_pos (by omega)]
    · rw [if_neg h, if_neg (by omega)]
theorem hStat_0 {z : Nat} {E : Nat → ClassId} {b : Nat} : hStat z E b b = ObS (Gz z) 1 (ksHall b) zeI := by unfold hStat hShp hIni; rw [if_pos rfl, if_neg (by omega)]
def yPhi (z : Nat) (E : Nat → ClassId) (x : Nat) (fs : List Value) (a : Nat → Option Nat) (Φ0 : Nat → va_E) : Nat → va_E := fun m => if m < x then Φ0 m else if m = x then .inr (2, fs) else if m = x + 1 then .inl (E 6, 14, .inr (.inr (.inr (.inr a)))) else hStat z E (x + 2 + 43 * ((m - (x + 2)) / 43)) m
def yStat (z : Nat) (E : Nat → ClassId) (x m : Nat) : va_E := if m = x then ObS (Gz z) 2 (ksHist x) zeI else if m = x + 1 then ReS E (Gz z) 6 14 (fun i => x + 2 + 43 * i) zeI else hStat z E (x + 2 + 43 * ((m - (x + 2)) / 43)) m
section YPH
variable {z : Nat} {E : Nat → ClassId} {x : Nat} {fs fs' : List Value} {a a' : Nat → Option Nat} {Φ0 : Nat → va_E}
theorem yPhi_b : yPhi z E x fs a Φ0 x = .inr (2, fs) := by unfold yPhi; rw [if_neg (by omega), if_pos rfl]
theorem yPhi_1 : yPhi z E x fs a Φ0 (x + 1) = .inl (E 6, 14, .inr (.inr (.inr (.inr a)))) := by unfold yPhi; rw [if_neg (by omega), if_neg (by omega), if_pos rfl]
theorem yPhi_s {m : Nat} (h : x + 2 ≤ m) : yPhi z E x fs a Φ0 m = hStat z E (x + 2 + 43 * ((m - (x + 2)) / 43)) m := by unfold yPhi; rw [if_neg (by omega), if_neg (by omega), if_neg (by omega)]
theorem yPhi_ub : va_up (yPhi z E x fs a Φ0) x (.inr (2, fs')) = yPhi z E x fs' a Φ0 := by
  funext m
  by_cases q : m = x
  · rw [q, va_up_self, yPhi_b]
  · rw [va_up_ne _ _ q]; unfold yPhi; rw [if_neg q, if_neg q]
theorem yPhi_u1 : va_up (yPhi z E x fs a Φ0) (x + 1) (.inl (E 6, 14, .inr (.inr (.inr (.inr a'))))) = yPhi z E x fs a' Φ0 := by
  funext m
  by_cases q : m = x + 1
  · rw [q, va_up_self, yPhi_1]
  · rw [va_up_ne _ _ q]; unfold yPhi; rw [if_neg q, if_neg q]
theorem yPhi_h (j : Nat) : yPhi z E x fs a Φ0 (x + 2 + 43 * j) = ObS (Gz z) 1 (ksHall (x + 2 + 43 * j)) zeI := by
  rw [yPhi_s (by omega), show (x + 2 + 43 * j - (x + 2)) / 43 = j by omega]; exact hStat_0
theorem yPhi_end : yPhi z E x [.ref (Gz z (x + 1)), .int 0, .int 0] (ayp z (x + 2) 14) Φ0 = (fun m => if m < x then Φ0 m else yStat z E x m) := by
  funext m
  by_cases h : m < x
  · unfold yPhi; rw [if_pos h, if_pos h]
  · rw [if_neg h]
    by_cases h0 : m = x
    · rw [h0, yPhi_b]; unfold yStat; rw [if_pos rfl]; rfl
    · by_cases h2 : m = x + 1
      · rw [h2, yPhi_1]; unfold yStat; rw [if_neg (by omega), if_pos rfl]; rfl
      · rw [yPhi_s (by omega)]; unfold yStat; rw [if_neg h0, if_neg h2]
end YPH
set_option maxRecDepth 100000 in
theorem inX2_init_X2 : ∀ w ∈ wsX20, w ∈ wsX2_init := by decide +kernel
set_option maxRecDepth 100000 in
theorem inX2_init_X1 : ∀ w ∈ wsX10, w ∈ wsX2_init := by decide +kernel
set_option maxHeartbeats 4000000 in
set_option maxRecDepth 100000 in
/-- History() -/
theorem c_X2_init (lu : Launch) (Dg : va_G) (E : Nat → ClassId) (z : Nat) {x : Nat} {Φ : Nat → va_E} (hΦ : Φ x = .inr (2, hist0)) : ConG lu yX2_init wsX2_init { frames := 3, cells := 603, slots := 5544, locals := 66 } Dg E z (x + 1) (x + 604) 5544 Φ [.ref (Gz z x)] (fun Φ' => Φ' = (fun m => if m < x then Φ m else yStat z E x m)) := by
  refine conG_of (cc := cX2_init) (maxL := 2) (ret := none) (by decide) rfl (Nat.le_of_ble_eq_true rfl) ?_
  intro p_ e_ s_ m_ args_ below_ meth_ c_ hs9 hn9 hX9 hA9
  refine v_eq (pc' := 0) (st' := []) rfl rfl ?_
  refine v_loc [0] [(0, .ref (Gz z x))] rfl ?_
  refine v_aload_n 0 dX2_init_0 rfl rfl ?_
  refine v_objInit (by decide +kernel) (by decide +kernel) (by decide +kernel) dX2_init_1 (Nat.le_of_ble_eq_true rfl) (Nat.le_of_ble_eq_true rfl) ?_
  refine v_Φ (yPhi z E x (hist0) (ayp z (x + 2) 0) Φ) (fun m hm => ?_) ?_
  · unfold yPhi
    by_cases q : m < x
    · rw [if_pos q]
    · have e9 : m = x := by omega
      rw [e9, if_neg (by omega), if_pos rfl]; exact hΦ
  refine v_aload_n 0 dX2_init_4 rfl rfl ?_
  refine v_bipush (nI 14) dX2_init_5 (by decide +kernel) ?_
  refine v_anew 6 14 (C := "StoodMinutes$Hall") (by omega) (fun q => AG_z) hA9 (by decide) (by decide +kernel) rfl rfl (by decide) (Nat.le_of_ble_eq_true rfl) (Nat.le_of_ble_eq_true rfl) dX2_init_7 ?_
  refine v_eqΦ (Φ' := yPhi z E x (hist0) (ayp z (x + 2) 0) Φ) (va_up_fix (yPhi_1.trans (by rw [← ayp_0]))) ?_
  refine v_putF (n := x) (k := 0) (C := RX2) (T := TX2) (NF := 3) (ty := (.array (.object "StoodMinutes$Hall"))) (by omega) yPhi_b rfl inX2_init_X2 tyX2 tyX2_ok nmX2 (by decide) (by decide +kernel) rfl rfl hn9 rfl (by decide +kernel) rfl rfl (Nat.le_of_ble_eq_true rfl) dX2_init_10 ?_
  refine v_eqΦ (Φ' := yPhi z E x ([.ref (Gz z (x + 1)), .int 0, .int 0]) (ayp z (x + 2) 0) Φ) (yPhi_ub) ?_
  refine v_iconst (nI 0) dX2_init_13 (by decide +kernel) ?_
  refine v_istore_n [(1, .int (nI 0)), (0, .ref (Gz z x))] dX2_init_14 rfl (by decide) rfl ?_
  refine dn_ind (M := 14) (P := fun j => V p_ lu e_ _ s_ m_ args_ below_ meth_ c_ _ Dg E _ _ _ _ _ _ (x + 2 + 43 * j) (Gz z) (1 + 43 * j) (14 + 395 * j) (yPhi z E x ([.ref (Gz z (x + 1)), .int 0, .int 0]) (ayp z (x + 2) j) Φ) 15 [(1, .int (nI j)), (0, .ref (Gz z x))] []) ?_ ?_
  · skip
    refine v_iload_n 0 dX2_init_15 rfl rfl ?_
    refine v_aload_n 1 dX2_init_16 rfl rfl ?_
    refine v_get (n := x) (k := 0) (C := RX2) (T := TX2) (NF := 3) (by omega) yPhi_b rfl inX2_init_X2 (by decide) (by decide +kernel) rfl rfl dX2_init_17 ?_
    refine v_alen 6 (nI 14) (n := x + 1) (by omega) yPhi_1 rfl rfl dX2_init_20 ?_
    refine v_icmp_geN 43 (by omega) (by omega) dX2_init_21 rfl (fun hge => ?_) (fun hge => ?_)
    · skip
      refine v_gret rfl hs9 (by omega) (by omega) (by omega) dX2_init_43 ?_
      exact yPhi_end
    · omega
  · intro j hj ih
    refine v_iload_n 0 dX2_init_15 rfl rfl ?_
    refine v_aload_n 1 dX2_init_16 rfl rfl ?_
    refine v_get (n := x) (k := 0) (C := RX2) (T := TX2) (NF := 3) (by omega) yPhi_b rfl inX2_init_X2 (by decide) (by decide +kernel) rfl rfl dX2_init_17 ?_
    refine v_alen 6 (nI 14) (n := x + 1) (by omega) yPhi_1 rfl rfl dX2_init_20 ?_
    refine v_icmp_geN 43 (by omega) (by omega) dX2_init_21 rfl (fun hge => ?_) (fun hge => ?_)
    · omega
    · skip
      refine v_aload_n 1 dX2_init_24 rfl rfl ?_
      refine v_get (n := x) (k := 0) (C := RX2) (T := TX2) (NF := 3) (by omega) yPhi_b rfl inX2_init_X2 (by decide) (by decide +kernel) rfl rfl dX2_init_25 ?_
      refine v_iload_n 0 dX2_init_28 rfl rfl ?_
      refine v_new (C := RX1) (T := TX1) (NF := 11) (ci := 1) hall0 (by omega) (fun q => AG_z) inX2_init_X1 tyX1 tyX1_ok (by decide +kernel) (by decide +kernel) (by decide +kernel) rfl (fun j9 hj9 => by rcases (show j9 = 0 ∨ j9 = 1 ∨ j9 = 2 ∨ j9 = 3 ∨ j9 = 4 ∨ j9 = 5 ∨ j9 = 6 ∨ j9 = 7 ∨ j9 = 8 ∨ j9 = 9 ∨ j9 = 10 by omega) with rfl | rfl | rfl | rfl | rfl | rfl | rfl | rfl | rfl | rfl | rfl <;> rfl) (show _ ≤ 603 by omega) (show _ ≤ 5544 by omega) dX2_init_29 ?_
      refine v_dup dX2_init_32 rfl ?_
      refine v_callGI (n := x + 2 + 43 * j) (N1 := x + 2 + 43 * j + 43) hX9 hA9 (by omega) (by omega) (fun q => AG_z) (c_X1_init lu Dg E z (b := x + 2 + 43 * j) (va_up_self _ _ _)) gX2_init_X1_init (by decide +kernel) (by decide +kernel) (by decide +kernel) rfl rfl (show 42 = _ by omega) rfl (by decide +kernel) ⟨(Nat.le_of_ble_eq_true rfl), (Nat.le_of_ble_eq_true rfl)⟩ ⟨show _ ≤ 603 by omega, show _ ≤ 5544 by omega⟩ (Nat.le_of_ble_eq_true rfl) rfl dX2_init_33 (fun Φ9 h9 => ?_)
      subst h9
      refine v_Φ (yPhi z E x ([.ref (Gz z (x + 1)), .int 0, .int 0]) (ayp z (x + 2) j) Φ) (fun m hm => ?_) ?_
      · by_cases q : m < x + 2 + 43 * j
        · rw [if_pos q, va_up_ne _ _ (by omega)]
        · rw [if_neg q, yPhi_s (by omega), show (m - (x + 2)) / 43 = j by omega]
      refine v_aast 6 (n := x + 1) (k := x + 2 + 43 * j) (ci := 1) (C := RX1) (T := TX1) (NF := 11) j (by omega) (by omega) yPhi_1 rfl (yPhi_h j) rfl rfl (by omega) (by decide) dX2_init_36 ?_
      refine v_eqΦ (Φ' := yPhi z E x ([.ref (Gz z (x + 1)), .int 0, .int 0]) (ayp z (x + 2) (j + 1)) Φ) (by rw [yPhi_u1, ayp_s]) ?_
      refine v_nc (N' := x + 2 + 43 * (j + 1)) (cells' := 1 + 43 * (j + 1)) (slots' := 14 + 395 * (j + 1)) (by omega) (by omega) (by omega) ?_
      refine v_iincN 0 [(1, .int (nI (j + 1))), (0, .ref (Gz z x))] dX2_init_37 rfl (by decide) rfl ?_
      refine v_goto 15 dX2_init_40 rfl ?_
      exact ih
