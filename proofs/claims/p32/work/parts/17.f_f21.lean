/-! CONSTRUCTORS -/
def line0 : List Value := [.int 0, .int 0, .int 0, .int 0, .null]
def pers0 : List Value := [.int 0, .int 0, .int 0, .int 0, .int 0, .int 0, .int 0, .int 0, .int 0]
def zeI : Nat → Int32 := fun _ => 0
def persI : Nat → Int32 := fun k => if k = 1 then -1 else if k = 2 then 2 else 0
set_option maxRecDepth 100000 in
theorem inX3_init_X3 : ∀ w ∈ wsX30, w ∈ wsX3_init := by decide +kernel
set_option maxHeartbeats 4000000 in
set_option maxRecDepth 100000 in
/-- Line() -/
theorem c_X3_init (lu : Launch) (Dg : va_G) (E : Nat → ClassId) (z : Nat) {n : Nat} {Φ : Nat → va_E} (hΦ : Φ n = .inr (3, line0)) : ConG lu yX3_init wsX3_init { frames := 1, cells := 1, slots := 12, locals := 20 } Dg E z (n + 1) (n + 2) 12 Φ [.ref (Gz z n)] (fun Φ' => Φ' = va_up (va_up Φ (n + 1) (ArS E 0 12 zeI)) n (ObS (Gz z) 3 (ksLine n) zeI)) := by
  refine conG_of (cc := cX3_init) (maxL := 1) (ret := none) (by decide) rfl (Nat.le_of_ble_eq_true rfl) ?_
  intro p_ e_ s_ m_ args_ below_ meth_ c_ hs9 hn9 hX9 hA9
  refine v_eq (pc' := 0) (st' := []) rfl rfl ?_
  refine v_loc [0] [(0, .ref (Gz z n))] rfl ?_
  refine v_aload_n 0 dX3_init_0 rfl rfl ?_
  refine v_objInit (by decide +kernel) (by decide +kernel) (by decide +kernel) dX3_init_1 (Nat.le_of_ble_eq_true rfl) (Nat.le_of_ble_eq_true rfl) ?_
  refine v_aload_n 0 dX3_init_4 rfl rfl ?_
  refine v_bipush (nI 12) dX3_init_5 (by decide +kernel) ?_
  refine v_newarr 0 .int (ty := .int) 12 (12, .inl (fun _ => 0)) (by omega) (fun q => AG_z) (by decide +kernel) rfl rfl (fun _ => rfl) rfl (by decide) (by decide) (Nat.le_of_ble_eq_true rfl) (Nat.le_of_ble_eq_true rfl) dX3_init_7 ?_
  have h1 : va_up Φ (n + 1) (.inl (E 0, 12, .inl (fun _ => 0)) : va_E) n = .inr (3, line0) := by rw [va_up_ne _ _ (by omega)]; exact hΦ
  refine v_putF (n := n) (k := 4) (C := RX3) (T := TX3) (NF := 5) (ty := (.array .int)) (by omega) h1 rfl inX3_init_X3 tyX3 tyX3_ok nmX3 (by decide) (by decide +kernel) rfl rfl hn9 rfl (by decide +kernel) rfl rfl (Nat.le_of_ble_eq_true rfl) dX3_init_9 ?_
  refine v_gret rfl hs9 rfl (by omega) rfl dX3_init_12 ?_
  rfl
set_option maxRecDepth 100000 in
theorem inX4_init_X4 : ∀ w ∈ wsX40, w ∈ wsX4_init := by decide +kernel
set_option maxHeartbeats 4000000 in
set_option maxRecDepth 100000 in
/-- Person() -/
theorem c_X4_init (lu : Launch) (Dg : va_G) (E : Nat → ClassId) (z : Nat) {n : Nat} {Φ : Nat → va_E} (hΦ : Φ n = .inr (4, pers0)) : ConG lu yX4_init wsX4_init { frames := 1, cells := 0, slots := 0, locals := 20 } Dg E z (n + 1) (n + 1) 0 Φ [.ref (Gz z n)] (fun Φ' => Φ' = va_up Φ n (ObS (Gz z) 4 ksPers persI)) := by
  refine conG_of (cc := cX4_init) (maxL := 1) (ret := none) (by decide) rfl (Nat.le_of_ble_eq_true rfl) ?_
  intro p_ e_ s_ m_ args_ below_ meth_ c_ hs9 hn9 hX9 hA9
  refine v_eq (pc' := 0) (st' := []) rfl rfl ?_
  refine v_loc [0] [(0, .ref (Gz z n))] rfl ?_
  refine v_aload_n 0 dX4_init_0 rfl rfl ?_
  refine v_objInit (by decide +kernel) (by decide +kernel) (by decide +kernel) dX4_init_1 (Nat.le_of_ble_eq_true rfl) (Nat.le_of_ble_eq_true rfl) ?_
  refine v_aload_n 0 dX4_init_4 rfl rfl ?_
  refine v_iconst (-1) dX4_init_5 (by decide +kernel) ?_
  refine v_put (n := n) (k := 1) (C := RX4) (T := TX4) (NF := 9) (ty := .int) (by omega) hΦ rfl inX4_init_X4 tyX4 tyX4_ok nmX4 (by decide) (by decide +kernel) rfl rfl (by decide +kernel) rfl rfl (Nat.le_of_ble_eq_true rfl) dX4_init_6 ?_
  refine v_aload_n 0 dX4_init_9 rfl rfl ?_
  refine v_iconst 2 dX4_init_10 (by decide +kernel) ?_
  refine v_put (n := n) (k := 2) (C := RX4) (T := TX4) (NF := 9) (ty := .int) (by omega) (va_up_self _ _ _) rfl inX4_init_X4 tyX4 tyX4_ok nmX4 (by decide) (by decide +kernel) rfl rfl (by decide +kernel) rfl rfl (Nat.le_of_ble_eq_true rfl) dX4_init_11 ?_
  refine v_gret rfl hs9 rfl (by omega) rfl dX4_init_14 ?_
  show va_up (va_up Φ n _) n _ = _
  rw [va_up2]
  rfl
def day0 : List Value := [.null, .int 0, .int 0]
set_option maxRecDepth 100000 in
theorem inX0_init_X0 : ∀ w ∈ wsX00, w ∈ wsX0_init := by decide +kernel
set_option maxHeartbeats 4000000 in
set_option maxRecDepth 100000 in
/-- Day() -/
theorem c_X0_init (lu : Launch) (Dg : va_G) (E : Nat → ClassId) (z : Nat) {n : Nat} {Φ : Nat → va_E} (hΦ : Φ n = .inr (0, day0)) : ConG lu yX0_init wsX0_init { frames := 1, cells := 1, slots := 100, locals := 20 } Dg E z (n + 1) (n + 2) 100 Φ [.ref (Gz z n)] (fun Φ' => Φ' = va_up (va_up Φ (n + 1) (ArS E 0 100 zeI)) n (ObS (Gz z) 0 (ksDay n) zeI)) := by
  refine conG_of (cc := cX0_init) (maxL := 1) (ret := none) (by decide) rfl (Nat.le_of_ble_eq_true rfl) ?_
  intro p_ e_ s_ m_ args_ below_ meth_ c_ hs9 hn9 hX9 hA9
  refine v_eq (pc' := 0) (st' := []) rfl rfl ?_
  refine v_loc [0] [(0, .ref (Gz z n))] rfl ?_
  refine v_aload_n 0 dX0_init_0 rfl rfl ?_
  refine v_objInit (by decide +kernel) (by decide +kernel) (by decide +kernel) dX0_init_1 (Nat.le_of_ble_eq_true rfl) (Nat.le_of_ble_eq_true rfl) ?_
  refine v_aload_n 0 dX0_init_4 rfl rfl ?_
  refine v_bipush (nI 100) dX0_init_5 (by decide +kernel) ?_
  refine v_newarr 0 .int (ty := .int) 100 (100, .inl (fun _ => 0)) (by omega) (fun q => AG_z) (by decide +kernel) rfl rfl (fun _ => rfl) rfl (by decide) (by decide) (Nat.le_of_ble_eq_true rfl) (Nat.le_of_ble_eq_true rfl) dX0_init_7 ?_
  have h1 : va_up Φ (n + 1) (.inl (E 0, 100, .inl (fun _ => 0)) : va_E) n = .inr (0, day0) := by rw [va_up_ne _ _ (by omega)]; exact hΦ
  refine v_putF (n := n) (k := 0) (C := RX0) (T := TX0) (NF := 3) (ty := (.array .int)) (by omega) h1 rfl inX0_init_X0 tyX0 tyX0_ok nmX0 (by decide) (by decide +kernel) rfl rfl hn9 rfl (by decide +kernel) rfl rfl (Nat.le_of_ble_eq_true rfl) dX0_init_9 ?_
  refine v_gret rfl hs9 rfl (by omega) rfl dX0_init_12 ?_
  rfl
