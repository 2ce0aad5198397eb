theorem tri3 {y : Int32} (h : nI 48 ≤ y ∧ y ≤ nI 50) : y = nI 48 ∨ y = nI 49 ∨ y = nI 50 := by
  have h1 := Int32.le_iff_toInt_le.mp h.1
  have h2 := Int32.le_iff_toInt_le.mp h.2
  rw [nI_toInt (n := 48) (by omega)] at h1
  rw [nI_toInt (n := 50) (by omega)] at h2
  have h3 : y.toInt = 48 ∨ y.toInt = 49 ∨ y.toInt = 50 := by omega
  rcases h3 with e | e | e
  · exact Or.inl (Int32.toInt_inj.mp (by rw [nI_toInt (n := 48) (by omega)]; omega))
  · exact Or.inr (Or.inl (Int32.toInt_inj.mp (by rw [nI_toInt (n := 49) (by omega)]; omega)))
  · exact Or.inr (Or.inr (Int32.toInt_inj.mp (by rw [nI_toInt (n := 50) (by omega)]; omega)))
noncomputable def loP (t : Nat → Int32) (lz p : Nat) : Int32 := ic (chrT t lz p = nI 48) (nI 49) (nI 48)
noncomputable def hiP (t : Nat → Int32) (lz p : Nat) : Int32 := ic (chrT t lz p = nI 50) (nI 48) (nI 57)
/-- two digits, 01 to 20 -/
def paceB (t : Nat → Int32) (lz p : Nat) : Prop := tkB t lz (nI 48) (nI 50) p ∧ tkB t lz (loP t lz p) (hiP t lz p) (p + 1)
noncomputable def paceN (t : Nat → Int32) (lz p : Nat) : Nat := ic (tkB t lz (nI 48) (nI 50) p) (tkN t lz (loP t lz p) (hiP t lz p) (p + 1)) p
theorem pace_iff {t : Nat → Int32} {lz p : Nat} {lo hi : Int32} (h : tkB t lz (nI 48) (nI 50) p) (e1 : loP t lz p = lo) (e2 : hiP t lz p = hi) : tkB t lz lo hi (p + 1) ↔ paceB t lz p := by
  unfold paceB
  rw [e1, e2]
  exact ⟨fun z => ⟨h, z⟩, fun z => z.2⟩
set_option maxRecDepth 100000 in
theorem inX0_takePace_X0 : ∀ w ∈ wsX00, w ∈ wsX0_takePace := by decide +kernel
set_option maxHeartbeats 4000000 in
set_option maxRecDepth 100000 in
/-- Day.takePace -/
theorem c_X0_takePace (lu : Launch) (Dg : va_G) (E : Nat → ClassId) (N : Nat) (G : Nat → Nat) (shp : Nat → (Nat → Int32) → va_E) (σ : Nat → Nat → Int32) {x : Nat} (hX : DayS E G shp N x)  {lz : Nat} (hl : σ x 1 = nI lz) (h100 : lz ≤ 100) {p : Nat} (hp : p < 2 ^ 20)  : CS lu yX0_takePace wsX0_takePace { frames := 2, cells := 0, slots := 0, locals := 44 } Dg E N G shp (st2 σ x 2 (nI p)) [.ref (G x)] (some (.int (bi (paceB (σ (x + 1)) lz p)))) (st2 σ x 2 (nI (paceN (σ (x + 1)) lz p))) := by
  refine CS.of (cc := cX0_takePace) (maxL := 1) (ret := (some .boolean)) (by decide) rfl (Nat.le_of_ble_eq_true rfl) ?_
  intro p_ e_ s_ m_ args_ below_ meth_ c_
  refine v_eq (pc' := 0) (st' := []) rfl rfl ?_
  refine v_loc [0] [(0, .ref (G x))] rfl ?_
  refine v_aload_n 0 dX0_takePace_0 rfl rfl ?_
  refine v_bipush (nI 48) dX0_takePace_1 (by decide +kernel) ?_
  refine v_bipush (nI 50) dX0_takePace_3 (by decide +kernel) ?_
  refine u_callVv [.int (nI 48), .int (nI 50)] [] 2 (c_X0_take lu Dg E N G shp σ hX (lz := lz) hl h100 (p := p) (by omega) (nI 48) (nI 50)) (ci := 0) (C := RX0) (T := TX0) (NF := 3) hX.n hX.2.1 rfl gX0_takePace_X0_take rfl rfl rfl (by decide +kernel) rfl ⟨Nat.le_of_ble_eq_true rfl, Nat.le_of_ble_eq_true rfl⟩ ⟨Nat.le_of_ble_eq_true rfl, Nat.le_of_ble_eq_true rfl⟩ (Nat.le_of_ble_eq_true rfl) rfl dX0_takePace_5 ?_
  refine v_if_neB 13 dX0_takePace_8 rfl (fun h8 => ?_) (fun h8 => ?_)
  · skip
    refine v_σ (st2 σ x 2 (nI (p + 1))) (by unfold tkN; rw [ic_t h8]) ?_
    refine v_aload_n 0 dX0_takePace_13 rfl rfl ?_
    refine v_aload_n 0 dX0_takePace_14 rfl rfl ?_
    refine u_geti (k := 2) (C := RX0) (T := TX0) (NF := 3) hX.n hX.2.1 rfl rfl inX0_takePace_X0 (by decide) (by decide +kernel) rfl dX0_takePace_15 ?_
    refine v_topi (nI (p + 1)) (st2_same _ _ _ _) ?_
    refine v_iconst (nI 1) dX0_takePace_18 (by decide +kernel) ?_
    refine v_isubN (by omega) dX0_takePace_19 ?_
    refine u_callVv [.int (nI ((p + 1) - 1))] [] 1 (c_X0_charAt lu Dg E N G shp (st2 σ x 2 (nI (p + 1))) hX (lz := lz) (by rw [st2_eq, if_neg (by omega)]; exact hl) h100 (p := p + 1 - 1) (by omega)) (ci := 0) (C := RX0) (T := TX0) (NF := 3) hX.n hX.2.1 rfl gX0_takePace_X0_charAt rfl rfl rfl (by decide +kernel) rfl ⟨Nat.le_of_ble_eq_true rfl, Nat.le_of_ble_eq_true rfl⟩ ⟨Nat.le_of_ble_eq_true rfl, Nat.le_of_ble_eq_true rfl⟩ (Nat.le_of_ble_eq_true rfl) rfl dX0_takePace_20 ?_
    refine v_topi (chrT (σ (x + 1)) lz p) (by rw [st2_row σ (by omega)]; rfl) ?_
    rcases tri3 h8 with q9 | q9 | q9
    · skip
      have e1 : loP (σ (x + 1)) lz p = nI 49 := by unfold loP; rw [ic_t q9]
      have e2 : hiP (σ (x + 1)) lz p = nI 57 := by unfold hiP; rw [ic_f (P := chrT (σ (x + 1)) lz p = nI 50) (by rw [q9]; decide +kernel)]
      refine v_topi (nI 48) (q9) ?_
      refine v_lookup (off := 25) 48 dX0_takePace_23 (by decide +kernel) (by decide +kernel) (by decide +kernel) ?_
      refine v_aload_n 0 dX0_takePace_48 rfl rfl ?_
      refine v_bipush (nI 49) dX0_takePace_49 (by decide +kernel) ?_
      refine v_bipush (nI 57) dX0_takePace_51 (by decide +kernel) ?_
      refine u_callVv [.int (nI 49), .int (nI 57)] [] 2 (c_X0_take lu Dg E N G shp σ hX (lz := lz) hl h100 (p := p + 1) (by omega) (nI 49) (nI 57)) (ci := 0) (C := RX0) (T := TX0) (NF := 3) hX.n hX.2.1 rfl gX0_takePace_X0_take rfl rfl rfl (by decide +kernel) rfl ⟨Nat.le_of_ble_eq_true rfl, Nat.le_of_ble_eq_true rfl⟩ ⟨Nat.le_of_ble_eq_true rfl, Nat.le_of_ble_eq_true rfl⟩ (Nat.le_of_ble_eq_true rfl) rfl dX0_takePace_53 ?_
      refine v_zret rfl (bi_01 _) dX0_takePace_56 ⟨congrArg (fun z => some (Value.int z)) ?_, congrArg (φ shp) ?_⟩
      · exact congrArg bi (propext (pace_iff h8 e1 e2))
      · unfold paceN; rw [ic_t h8, e1, e2]
    · skip
      have e1 : loP (σ (x + 1)) lz p = nI 48 := by unfold loP; rw [ic_f (P := chrT (σ (x + 1)) lz p = nI 48) (by rw [q9]; decide +kernel)]
      have e2 : hiP (σ (x + 1)) lz p = nI 57 := by unfold hiP; rw [ic_f (P := chrT (σ (x + 1)) lz p = nI 50) (by rw [q9]; decide +kernel)]
      refine v_topi (nI 49) (q9) ?_
      refine v_lookup (off := 34) 57 dX0_takePace_23 (by decide +kernel) (by decide +kernel) (by decide +kernel) ?_
      refine v_aload_n 0 dX0_takePace_57 rfl rfl ?_
      refine v_bipush (nI 48) dX0_takePace_58 (by decide +kernel) ?_
      refine v_bipush (nI 57) dX0_takePace_60 (by decide +kernel) ?_
      refine u_callVv [.int (nI 48), .int (nI 57)] [] 2 (c_X0_take lu Dg E N G shp σ hX (lz := lz) hl h100 (p := p + 1) (by omega) (nI 48) (nI 57)) (ci := 0) (C := RX0) (T := TX0) (NF := 3) hX.n hX.2.1 rfl gX0_takePace_X0_take rfl rfl rfl (by decide +kernel) rfl ⟨Nat.le_of_ble_eq_true rfl, Nat.le_of_ble_eq_true rfl⟩ ⟨Nat.le_of_ble_eq_true rfl, Nat.le_of_ble_eq_true rfl⟩ (Nat.le_of_ble_eq_true rfl) rfl dX0_takePace_62 ?_
      refine v_zret rfl (bi_01 _) dX0_takePace_65 ⟨congrArg (fun z => some (Value.int z)) ?_, congrArg (φ shp) ?_⟩
      · exact congrArg bi (propext (pace_iff h8 e1 e2))
      · unfold paceN; rw [ic_t h8, e1, e2]
    · skip
      have e1 : loP (σ (x + 1)) lz p = nI 48 := by unfold loP; rw [ic_f (P := chrT (σ (x + 1)) lz p = nI 48) (by rw [q9]; decide +kernel)]
      have e2 : hiP (σ (x + 1)) lz p = nI 48 := by unfold hiP; rw [ic_t q9]
      refine v_topi (nI 50) (q9) ?_
      refine v_lookup (off := 43) 66 dX0_takePace_23 (by decide +kernel) (by decide +kernel) (by decide +kernel) ?_
      refine v_aload_n 0 dX0_takePace_66 rfl rfl ?_
      refine v_bipush (nI 48) dX0_takePace_67 (by decide +kernel) ?_
      refine v_bipush (nI 48) dX0_takePace_69 (by decide +kernel) ?_
      refine u_callVv [.int (nI 48), .int (nI 48)] [] 2 (c_X0_take lu Dg E N G shp σ hX (lz := lz) hl h100 (p := p + 1) (by omega) (nI 48) (nI 48)) (ci := 0) (C := RX0) (T := TX0) (NF := 3) hX.n hX.2.1 rfl gX0_takePace_X0_take rfl rfl rfl (by decide +kernel) rfl ⟨Nat.le_of_ble_eq_true rfl, Nat.le_of_ble_eq_true rfl⟩ ⟨Nat.le_of_ble_eq_true rfl, Nat.le_of_ble_eq_true rfl⟩ (Nat.le_of_ble_eq_true rfl) rfl dX0_takePace_71 ?_
      refine v_zret rfl (bi_01 _) dX0_takePace_74 ⟨congrArg (fun z => some (Value.int z)) ?_, congrArg (φ shp) ?_⟩
      · exact congrArg bi (propext (pace_iff h8 e1 e2))
      · unfold paceN; rw [ic_t h8, e1, e2]
  · skip
    refine v_σ (st2 σ x 2 (nI p)) (by unfold tkN; rw [ic_f h8]) ?_
    refine v_iconst (nI 0) dX0_takePace_11 (by decide +kernel) ?_
    refine v_zret rfl (by decide +kernel) dX0_takePace_12 ⟨congrArg (fun z => some (Value.int z)) ?_, congrArg (φ shp) ?_⟩
    · exact bi_nf (fun z9 => h8 z9.1)
    · unfold paceN; rw [ic_f h8]
