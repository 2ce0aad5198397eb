def mod0 : List Value := [.int 0, .null, .null, .int 0, .null, .int 0, .null, .null, .null, .int 0, .int 0, .int 0, .int 0]
def mShp (z : Nat) (E : Nat → ClassId) (b m : Nat) : (Nat → Int32) → va_E := if m = b then ObS (Gz z) 6 (ksModel b) else if m = b + 1 then ArS E 0 358 else if m = b + 2 then ArS E 0 1074 else if m = b + 3 then ArS E 0 5012 else if m = b + 4 then ArS E 0 716 else if m = b + 5 then ArS E 1 2 else ArS E 2 100
def mPhi (z : Nat) (E : Nat → ClassId) (b : Nat) (fs : List Value) (Φ0 : Nat → va_E) : Nat → va_E := fun m => if m < b then Φ0 m else if m = b then .inr (6, fs) else mShp z E b m zeI
section MPH
variable {z : Nat} {E : Nat → ClassId} {b : Nat} {fs fs' : List Value} {Φ0 : Nat → va_E}
theorem mShp_0 : mShp z E b b = ObS (Gz z) 6 (ksModel b) := by unfold mShp; rw [if_pos rfl]
theorem mShp_1 : mShp z E b (b + 1) = ArS E 0 358 := by unfold mShp; rw [if_neg (by omega), if_pos rfl]
theorem mShp_2 : mShp z E b (b + 2) = ArS E 0 1074 := by unfold mShp; rw [if_neg (by omega), if_neg (by omega), if_pos rfl]
theorem mShp_3 : mShp z E b (b + 3) = ArS E 0 5012 := by unfold mShp; rw [if_neg (by omega), if_neg (by omega), if_neg (by omega), if_pos rfl]
theorem mShp_4 : mShp z E b (b + 4) = ArS E 0 716 := by unfold mShp; rw [if_neg (by omega), if_neg (by omega), if_neg (by omega), if_neg (by omega), if_pos rfl]
theorem mShp_5 : mShp z E b (b + 5) = ArS E 1 2 := by unfold mShp; rw [if_neg (by omega), if_neg (by omega), if_neg (by omega), if_neg (by omega), if_neg (by omega), if_pos rfl]
theorem mShp_6 : mShp z E b (b + 6) = ArS E 2 100 := by unfold mShp; rw [if_neg (by omega), if_neg (by omega), if_neg (by omega), if_neg (by omega), if_neg (by omega), if_neg (by omega)]
theorem mShp_S {N : Nat} {shp : Nat → (Nat → Int32) → va_E} (hN : b + 6 < N) (h : ∀ m, b ≤ m → m < b + 7 → shp m = mShp z E b m) : ModS E (Gz z) shp N b :=
  ⟨hN, (h b (by omega) (by omega)).trans mShp_0, (h _ (by omega) (by omega)).trans mShp_1, (h _ (by omega) (by omega)).trans mShp_2, (h _ (by omega) (by omega)).trans mShp_3, (h _ (by omega) (by omega)).trans mShp_4, (h _ (by omega) (by omega)).trans mShp_5, (h _ (by omega) (by omega)).trans mShp_6⟩
theorem mPhi_b : mPhi z E b fs Φ0 b = .inr (6, fs) := by unfold mPhi; rw [if_neg (by omega), if_pos rfl]
theorem mPhi_s {m : Nat} (h : b < m) : mPhi z E b fs Φ0 m = mShp z E b m zeI := by unfold mPhi; rw [if_neg (by omega), if_neg (by omega)]
theorem mPhi_ub : va_up (mPhi z E b fs Φ0) b (.inr (6, fs')) = mPhi z E b fs' Φ0 := by
  funext m
  by_cases q : m = b
  · rw [q, va_up_self, mPhi_b]
  · rw [va_up_ne _ _ q]; unfold mPhi; rw [if_neg q, if_neg q]
end MPH
/-- the model's row of a new object -/
def s1I : Nat → Int32 := upd (upd beginF (10 + 0) (nI 3)) 1 (nI (0 + 1))
def moI (b : Nat) : Nat → Nat → Int32 := mk7 (fun _ => zeI) b (upd zeI 5 (nI 0)) s1I zeI zeI zeI (upd (upd zeI 0 (nI 0)) 1 (nI 0)) zeI
set_option maxRecDepth 100000 in
theorem inX6_init_X6 : ∀ w ∈ wsX60, w ∈ wsX6_init := by decide +kernel
set_option maxHeartbeats 4000000 in
set_option maxRecDepth 100000 in
/-- StoodMinutesModel() -/
theorem c_X6_init (lu : Launch) (Dg : va_G) (E : Nat → ClassId) (z : Nat) {b : Nat} {Φ : Nat → va_E} (hΦ : Φ b = .inr (6, mod0)) : ConG lu yX6_init wsX6_init { frames := 1, cells := 6, slots := 7262, locals := 30 } Dg E z (b + 1) (b + 7) 7262 Φ [.ref (Gz z b)] (fun Φ' => ∀ m, m < b + 7 → Φ' m = (if m < b then Φ m else mShp z E b m (moI b m))) := by
  refine conG_of (cc := cX6_init) (maxL := 1) (ret := none) (by decide) rfl (Nat.le_of_ble_eq_true rfl) ?_
  intro p_ e_ s_ m_ args_ below_ meth_ c_ hs9 hn9 hX9 hA9
  refine v_eq (pc' := 0) (st' := []) rfl rfl ?_
  refine v_loc [0] [(0, .ref (Gz z b))] rfl ?_
  refine v_aload_n 0 dX6_init_0 rfl rfl ?_
  refine v_objInit (by decide +kernel) (by decide +kernel) (by decide +kernel) dX6_init_1 (Nat.le_of_ble_eq_true rfl) (Nat.le_of_ble_eq_true rfl) ?_
  refine v_Φ (mPhi z E b ([.int 0, .null, .null, .int 0, .null, .int 0, .null, .null, .null, .int 0, .int 0, .int 0, .int 0]) Φ) (fun m hm => ?_) ?_
  · unfold mPhi
    by_cases q : m < b
    · rw [if_pos q]
    · have e9 : m = b := by omega
      rw [e9, if_neg (by omega), if_pos rfl]; exact hΦ
  refine v_aload_n 0 dX6_init_4 rfl rfl ?_
  refine v_sipush (nI 358) dX6_init_5 (by decide +kernel) ?_
  refine v_newarr 0 .int (ty := .int) 358 (358, .inl (fun _ => 0)) (by omega) (fun q => AG_z) (by decide +kernel) rfl rfl (fun _ => rfl) rfl (Nat.le_of_ble_eq_true rfl) (Nat.le_of_ble_eq_true rfl) (Nat.le_of_ble_eq_true rfl) (Nat.le_of_ble_eq_true rfl) dX6_init_8 ?_
  refine v_eqΦ (Φ' := mPhi z E b ([.int 0, .null, .null, .int 0, .null, .int 0, .null, .null, .null, .int 0, .int 0, .int 0, .int 0]) Φ) (va_up_fix ((mPhi_s (by omega)).trans (by rw [mShp_1]; rfl))) ?_
  refine v_putF (n := b) (k := 1) (C := RX6) (T := TX6) (NF := 13) (ty := (.array .int)) (by omega) mPhi_b rfl inX6_init_X6 tyX6 tyX6_ok nmX6 (by decide) (by decide +kernel) rfl rfl hn9 rfl (by decide +kernel) rfl rfl (Nat.le_of_ble_eq_true rfl) dX6_init_10 ?_
  refine v_eqΦ (Φ' := mPhi z E b ([.int 0, .ref (Gz z (b + 1)), .null, .int 0, .null, .int 0, .null, .null, .null, .int 0, .int 0, .int 0, .int 0]) Φ) (mPhi_ub) ?_
  refine v_aload_n 0 dX6_init_13 rfl rfl ?_
  refine v_sipush (nI 1074) dX6_init_14 (by decide +kernel) ?_
  refine v_newarr 0 .int (ty := .int) 1074 (1074, .inl (fun _ => 0)) (by omega) (fun q => AG_z) (by decide +kernel) rfl rfl (fun _ => rfl) rfl (Nat.le_of_ble_eq_true rfl) (Nat.le_of_ble_eq_true rfl) (Nat.le_of_ble_eq_true rfl) (Nat.le_of_ble_eq_true rfl) dX6_init_17 ?_
  refine v_eqΦ (Φ' := mPhi z E b ([.int 0, .ref (Gz z (b + 1)), .null, .int 0, .null, .int 0, .null, .null, .null, .int 0, .int 0, .int 0, .int 0]) Φ) (va_up_fix ((mPhi_s (by omega)).trans (by rw [mShp_2]; rfl))) ?_
  refine v_putF (n := b) (k := 2) (C := RX6) (T := TX6) (NF := 13) (ty := (.array .int)) (by omega) mPhi_b rfl inX6_init_X6 tyX6 tyX6_ok nmX6 (by decide) (by decide +kernel) rfl rfl hn9 rfl (by decide +kernel) rfl rfl (Nat.le_of_ble_eq_true rfl) dX6_init_19 ?_
  refine v_eqΦ (Φ' := mPhi z E b ([.int 0, .ref (Gz z (b + 1)), .ref (Gz z (b + 2)), .int 0, .null, .int 0, .null, .null, .null, .int 0, .int 0, .int 0, .int 0]) Φ) (mPhi_ub) ?_
  refine v_aload_n 0 dX6_init_22 rfl rfl ?_
  refine v_sipush (nI 5012) dX6_init_23 (by decide +kernel) ?_
  refine v_newarr 0 .int (ty := .int) 5012 (5012, .inl (fun _ => 0)) (by omega) (fun q => AG_z) (by decide +kernel) rfl rfl (fun _ => rfl) rfl (Nat.le_of_ble_eq_true rfl) (Nat.le_of_ble_eq_true rfl) (Nat.le_of_ble_eq_true rfl) (Nat.le_of_ble_eq_true rfl) dX6_init_26 ?_
  refine v_eqΦ (Φ' := mPhi z E b ([.int 0, .ref (Gz z (b + 1)), .ref (Gz z (b + 2)), .int 0, .null, .int 0, .null, .null, .null, .int 0, .int 0, .int 0, .int 0]) Φ) (va_up_fix ((mPhi_s (by omega)).trans (by rw [mShp_3]; rfl))) ?_
  refine v_putF (n := b) (k := 4) (C := RX6) (T := TX6) (NF := 13) (ty := (.array .int)) (by omega) mPhi_b rfl inX6_init_X6 tyX6 tyX6_ok nmX6 (by decide) (by decide +kernel) rfl rfl hn9 rfl (by decide +kernel) rfl rfl (Nat.le_of_ble_eq_true rfl) dX6_init_28 ?_
  refine v_eqΦ (Φ' := mPhi z E b ([.int 0, .ref (Gz z (b + 1)), .ref (Gz z (b + 2)), .int 0, .ref (Gz z (b + 3)), .int 0, .null, .null, .null, .int 0, .int 0, .int 0, .int 0]) Φ) (mPhi_ub) ?_
  refine v_aload_n 0 dX6_init_31 rfl rfl ?_
  refine v_sipush (nI 716) dX6_init_32 (by decide +kernel) ?_
  refine v_newarr 0 .int (ty := .int) 716 (716, .inl (fun _ => 0)) (by omega) (fun q => AG_z) (by decide +kernel) rfl rfl (fun _ => rfl) rfl (Nat.le_of_ble_eq_true rfl) (Nat.le_of_ble_eq_true rfl) (Nat.le_of_ble_eq_true rfl) (Nat.le_of_ble_eq_true rfl) dX6_init_35 ?_
  refine v_eqΦ (Φ' := mPhi z E b ([.int 0, .ref (Gz z (b + 1)), .ref (Gz z (b + 2)), .int 0, .ref (Gz z (b + 3)), .int 0, .null, .null, .null, .int 0, .int 0, .int 0, .int 0]) Φ) (va_up_fix ((mPhi_s (by omega)).trans (by rw [mShp_4]; rfl))) ?_
  refine v_putF (n := b) (k := 6) (C := RX6) (T := TX6) (NF := 13) (ty := (.array .int)) (by omega) mPhi_b rfl inX6_init_X6 tyX6 tyX6_ok nmX6 (by decide) (by decide +kernel) rfl rfl hn9 rfl (by decide +kernel) rfl rfl (Nat.le_of_ble_eq_true rfl) dX6_init_37 ?_
  refine v_eqΦ (Φ' := mPhi z E b ([.int 0, .ref (Gz z (b + 1)), .ref (Gz z (b + 2)), .int 0, .ref (Gz z (b + 3)), .int 0, .ref (Gz z (b + 4)), .null, .null, .int 0, .int 0, .int 0, .int 0]) Φ) (mPhi_ub) ?_
  refine v_aload_n 0 dX6_init_40 rfl rfl ?_
  refine v_iconst (nI 2) dX6_init_41 (by decide +kernel) ?_
  refine v_newarr 1 .boolean (ty := .boolean) 2 (2, .inl (fun _ => 0)) (by omega) (fun q => AG_z) (by decide +kernel) rfl rfl (fun _ => rfl) rfl (Nat.le_of_ble_eq_true rfl) (Nat.le_of_ble_eq_true rfl) (Nat.le_of_ble_eq_true rfl) (Nat.le_of_ble_eq_true rfl) dX6_init_42 ?_
  refine v_eqΦ (Φ' := mPhi z E b ([.int 0, .ref (Gz z (b + 1)), .ref (Gz z (b + 2)), .int 0, .ref (Gz z (b + 3)), .int 0, .ref (Gz z (b + 4)), .null, .null, .int 0, .int 0, .int 0, .int 0]) Φ) (va_up_fix ((mPhi_s (by omega)).trans (by rw [mShp_5]; rfl))) ?_
  refine v_putF (n := b) (k := 7) (C := RX6) (T := TX6) (NF := 13) (ty := (.array .boolean)) (by omega) mPhi_b rfl inX6_init_X6 tyX6 tyX6_ok nmX6 (by decide) (by decide +kernel) rfl rfl hn9 rfl (by decide +kernel) rfl rfl (Nat.le_of_ble_eq_true rfl) dX6_init_44 ?_
  refine v_eqΦ (Φ' := mPhi z E b ([.int 0, .ref (Gz z (b + 1)), .ref (Gz z (b + 2)), .int 0, .ref (Gz z (b + 3)), .int 0, .ref (Gz z (b + 4)), .ref (Gz z (b + 5)), .null, .int 0, .int 0, .int 0, .int 0]) Φ) (mPhi_ub) ?_
  refine v_aload_n 0 dX6_init_47 rfl rfl ?_
  refine v_bipush (nI 100) dX6_init_48 (by decide +kernel) ?_
  refine v_newarr 2 .byte (ty := .byte) 100 (100, .inl (fun _ => 0)) (by omega) (fun q => AG_z) (by decide +kernel) rfl rfl (fun _ => rfl) rfl (Nat.le_of_ble_eq_true rfl) (Nat.le_of_ble_eq_true rfl) (Nat.le_of_ble_eq_true rfl) (Nat.le_of_ble_eq_true rfl) dX6_init_50 ?_
  refine v_eqΦ (Φ' := mPhi z E b ([.int 0, .ref (Gz z (b + 1)), .ref (Gz z (b + 2)), .int 0, .ref (Gz z (b + 3)), .int 0, .ref (Gz z (b + 4)), .ref (Gz z (b + 5)), .null, .int 0, .int 0, .int 0, .int 0]) Φ) (va_up_fix ((mPhi_s (by omega)).trans (by rw [mShp_6]; rfl))) ?_
  refine v_putF (n := b) (k := 8) (C := RX6) (T := TX6) (NF := 13) (ty := (.array .byte)) (by omega) mPhi_b rfl inX6_init_X6 tyX6 tyX6_ok nmX6 (by decide) (by decide +kernel) rfl rfl hn9 rfl (by decide +kernel) rfl rfl (Nat.le_of_ble_eq_true rfl) dX6_init_52 ?_
  refine v_eqΦ (Φ' := mPhi z E b ([.int 0, .ref (Gz z (b + 1)), .ref (Gz z (b + 2)), .int 0, .ref (Gz z (b + 3)), .int 0, .ref (Gz z (b + 4)), .ref (Gz z (b + 5)), .ref (Gz z (b + 6)), .int 0, .int 0, .int 0, .int 0]) Φ) (mPhi_ub) ?_
  refine v_nc (N' := b + 7) (cells' := 6) (slots' := 7262) (by omega) (by omega) (by omega) ?_
  have hM : ModS E (Gz z) (fun m => if m < b then (fun _ => Φ m) else mShp z E b m) (b + 7) b := mShp_S (by omega) (fun m h1 h2 => by rw [if_neg (by omega)])
  refine v_Φ (φ (fun m => if m < b then (fun _ => Φ m) else mShp z E b m) (mk7 (fun _ => zeI) b zeI zeI zeI zeI zeI zeI zeI)) (fun m hm => ?_) ?_
  · have e9 : mk7 (fun _ => zeI) b zeI zeI zeI zeI zeI zeI zeI = (fun _ => zeI) := by
      funext n; unfold mk7; repeat' split
      all_goals rfl
    rw [e9]; dsimp only [φ]
    by_cases q : m < b
    · rw [if_pos q]; unfold mPhi; rw [if_pos q]
    · rw [if_neg q]
      by_cases q2 : m = b
      · rw [q2, mPhi_b, mShp_0]; rfl
      · exact mPhi_s (by omega)
  generalize hshp : (fun m => if m < b then (fun _ => Φ m) else mShp z E b m : Nat → (Nat → Int32) → va_E) = shp1 at hM
  refine v_aload_n 0 dX6_init_55 rfl rfl ?_
  refine u_callVn [] [] 0 (c_X6_begin lu Dg E (b + 7) (Gz z) shp1 (fun _ => zeI) hM zeI zeI zeI zeI zeI zeI zeI) (ci := 6) (C := RX6) (T := TX6) (NF := 13) hM.n hM.s rfl gX6_init_X6_begin rfl rfl rfl (by decide +kernel) rfl ⟨(Nat.le_of_ble_eq_true rfl), (Nat.le_of_ble_eq_true rfl)⟩ ⟨(Nat.le_of_ble_eq_true rfl), (Nat.le_of_ble_eq_true rfl)⟩ (Nat.le_of_ble_eq_true rfl) rfl dX6_init_56 ?_
  refine m_junk1 beginF hM (fun i9 hi9 => (if_pos hi9).symm) ?_
  refine v_aload_n 0 dX6_init_59 rfl rfl ?_
  refine v_iconst (nI 3) dX6_init_60 (by decide +kernel) ?_
  refine u_callVv [.int (nI 3)] [] 1 (c_X6_lineOf lu Dg E (b + 7) (Gz z) shp1 (fun _ => zeI) hM (upd zeI 5 (nI 0)) beginF zeI zeI zeI (upd (upd zeI 0 (nI 0)) 1 (nI 0)) zeI (m := 0) (by decide +kernel) (by omega) (nI 3)) (ci := 6) (C := RX6) (T := TX6) (NF := 13) hM.n hM.s rfl gX6_init_X6_lineOf rfl rfl rfl (by decide +kernel) rfl ⟨(Nat.le_of_ble_eq_true rfl), (Nat.le_of_ble_eq_true rfl)⟩ ⟨(Nat.le_of_ble_eq_true rfl), (Nat.le_of_ble_eq_true rfl)⟩ (Nat.le_of_ble_eq_true rfl) rfl dX6_init_61 ?_
  refine v_pop dX6_init_64 rfl ?_
  refine v_gret rfl hs9 rfl (by omega) (by omega) dX6_init_65 ?_
  intro m hm
  rw [← hshp]; dsimp only [φ]
  by_cases q : m < b
  · rw [if_pos q, if_pos q]
  · rw [if_neg q, if_neg q]; rfl
