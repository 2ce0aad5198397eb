/-- the model reading its text: wrong or not, the place, how many are left out -/
noncomputable def pz (f : Nat → Int32) (w : Prop) (p lo : Nat) : Nat → Int32 := upd (upd (upd f 11 (bi w)) 10 (nI p)) 12 (nI lo)
theorem pz_9 (f : Nat → Int32) (w : Prop) (p lo : Nat) : pz f w p lo 9 = f 9 := by simp only [pz, upd_ap]; rw [if_neg (by omega), if_neg (by omega), if_neg (by omega)]
theorem pz_10 (f : Nat → Int32) (w : Prop) (p lo : Nat) : pz f w p lo 10 = nI p := by simp [pz, upd_ap]
theorem pz_11 (f : Nat → Int32) (w : Prop) (p lo : Nat) : pz f w p lo 11 = bi w := by simp [pz, upd_ap]
theorem pz_11f (f : Nat → Int32) (p lo : Nat) : pz f False p lo 11 = nI 0 := (pz_11 _ _ _ _).trans (bi_pf (fun z => z))
theorem pz_11t (f : Nat → Int32) (p lo : Nat) : pz f True p lo 11 = nI 1 := (pz_11 _ _ _ _).trans (bi_pt trivial)
theorem pz_12 (f : Nat → Int32) (w : Prop) (p lo : Nat) : pz f w p lo 12 = nI lo := by simp [pz, upd_ap]
theorem pz_o (f : Nat → Int32) (w : Prop) (p lo : Nat) {i : Nat} (h : i < 10) : pz f w p lo i = f i := by simp only [pz, upd_ap]; rw [if_neg (by omega), if_neg (by omega), if_neg (by omega)]
theorem pz_u10 (f : Nat → Int32) (w : Prop) (p lo q : Nat) : upd (pz f w p lo) 10 (nI q) = pz f w q lo := by
  funext i; simp only [pz, upd_ap]
  by_cases h1 : i = 10
  · subst h1; rw [if_pos rfl, if_neg (by omega), if_pos rfl]
  · rw [if_neg h1]
    by_cases h2 : i = 12
    · rw [if_pos h2, if_pos h2]
    · rw [if_neg h2, if_neg h2, if_neg h1, if_neg h1]
theorem pz_u11 (f : Nat → Int32) (w : Prop) (p lo : Nat) (w' : Prop) : upd (pz f w p lo) 11 (bi w') = pz f w' p lo := by
  funext i; simp only [pz, upd_ap]
  by_cases h1 : i = 11
  · subst h1; rw [if_pos rfl, if_neg (by omega), if_neg (by omega), if_pos rfl]
  · rw [if_neg h1]
    by_cases h2 : i = 12
    · rw [if_pos h2, if_pos h2]
    · rw [if_neg h2, if_neg h2]
      by_cases h3 : i = 10
      · rw [if_pos h3, if_pos h3]
      · rw [if_neg h3, if_neg h3, if_neg h1, if_neg h1]
theorem pz_u11f (f : Nat → Int32) (w : Prop) (p lo : Nat) : upd (pz f w p lo) 11 (nI 0) = pz f False p lo := by
  rw [← pz_u11 f w p lo False, bi_f (fun z => z)]; rfl
theorem pz_u11t (f : Nat → Int32) (w : Prop) (p lo : Nat) : upd (pz f w p lo) 11 (nI 1) = pz f True p lo := by
  rw [← pz_u11 f w p lo True, bi_t trivial]; rfl
theorem pz_u12 (f : Nat → Int32) (w : Prop) (p lo q : Nat) : upd (pz f w p lo) 12 (nI q) = pz f w p q := by
  funext i; simp only [pz, upd_ap]
  by_cases h1 : i = 12
  · rw [if_pos h1, if_pos h1]
  · rw [if_neg h1, if_neg h1, if_neg h1]
theorem pz_c {f : Nat → Int32} {w w' : Prop} {p p' lo : Nat} (hw : w ↔ w') (hp : p = p') : pz f w p lo = pz f w' p' lo := by rw [propext hw, hp]
theorem pz_t {f t : Nat → Int32} {lz p lo : Nat} {a u : Int32} (h : tkB t lz a u p) : pz f False (p + 1) lo = pz f (¬ tkB t lz a u p) (tkN t lz a u p) lo := pz_c ⟨False.elim, fun z => z h⟩ (by unfold tkN; rw [ic_t h])
theorem pz_f {f t : Nat → Int32} {lz p lo : Nat} {a u : Int32} (h : ¬ tkB t lz a u p) : pz f True p lo = pz f (¬ tkB t lz a u p) (tkN t lz a u p) lo := pz_c ⟨fun _ => h, fun _ => trivial⟩ (by unfold tkN; rw [ic_f h])
theorem pz_wt {f : Nat → Int32} {P : Prop} {q lo : Nat} (h : P) : pz f (¬ P) q lo = pz f False q lo := pz_c ⟨fun z => z h, False.elim⟩ rfl
theorem pz_wf {f : Nat → Int32} {P : Prop} {q lo : Nat} (h : ¬ P) : pz f (¬ P) q lo = pz f True q lo := pz_c ⟨fun _ => trivial, fun _ => h⟩ rfl
/-- the model's character at p; beyond the end 0 -/
noncomputable def chrM (t : Nat → Int32) (lz p : Nat) : Int32 := ic (p < lz) (t p) (nI 0)
theorem chrM_iff {t : Nat → Int32} {lz p a : Nat} {u : Int32} (ha : a ≤ 9) : (nI (48 + a) ≤ chrM t lz p ∧ chrM t lz p ≤ u) ↔ tkB t lz (nI (48 + a)) u p := by
  unfold tkB chrM chrT
  by_cases h : p < lz
  · rw [ic_t h, ic_t h]
  · rw [ic_f h, ic_f h]
    constructor
    · intro z
      have h1 := (nI_leI (a := 48 + a) (b := 0) (by omega) (by omega)).mp z.1
      omega
    · intro z
      have h1 := Int32.le_iff_toInt_le.mp z.1
      rw [nI_toInt (n := 48 + a) (by omega)] at h1
      have h2 : (-1 : Int32).toInt = -1 := by decide +kernel
      omega
theorem chrM_of {t : Nat → Int32} {lz p : Nat} (h : p < lz) : chrM t lz p = t p := ic_t h
theorem chrT_of {t : Nat → Int32} {lz p : Nat} (h : p < lz) : chrT t lz p = t p := ic_t h
theorem tk_lt {t : Nat → Int32} {lz p a : Nat} {u : Int32} (ha : a < 2 ^ 31) (h : tkB t lz (nI a) u p) : p < lz := by
  refine Classical.byContradiction (fun q => ?_)
  unfold tkB chrT at h
  rw [ic_f q] at h
  have h1 := Int32.le_iff_toInt_le.mp h.1
  rw [nI_toInt (n := a) ha] at h1
  have h2 : (-1 : Int32).toInt = -1 := by decide +kernel
  omega
noncomputable def whoV (t : Nat → Int32) (lz p : Nat) : Int32 := nI 10 * (chrM t lz p - nI 48) + (chrM t lz (tkN t lz (nI 48) (nI 50) p) - nI 48)
noncomputable def pacV (t : Nat → Int32) (lz p : Nat) : Int32 := nI 10 * (chrM t lz p - nI 48) + (chrM t lz (tkN t lz (nI 48) (nI 50) p) - nI 48)
set_option maxRecDepth 100000 in
theorem inX6_digit_X6 : ∀ w ∈ wsX60, w ∈ wsX6_digit := by decide +kernel
set_option maxHeartbeats 4000000 in
set_option maxRecDepth 100000 in
/-- digit, not yet wrong -/
theorem c_X6_digit_0 (lu : Launch) (Dg : va_G) (E : Nat → ClassId) (N : Nat) (G : Nat → Nat) (shp : Nat → (Nat → Int32) → va_E) (σ : Nat → Nat → Int32) {b : Nat} (hM : ModS E G shp N b) (f0 f1 f2 f3 f4 f5 f6 : Nat → Int32)  {t : Nat → Int32} {lz : Nat} (hl : f0 9 = nI lz) (h100 : lz ≤ 100) (ht : ∀ k, k < lz → f6 k &&& nI 255 = t k) {p lo : Nat} (hp : p < 2 ^ 18) {a u : Nat} (ha : a ≤ 9) (hu : u ≤ 9)  : CS lu yX6_digit wsX6_digit { frames := 1, cells := 0, slots := 0, locals := 22 } Dg E N G shp (mk7 σ b (pz f0 False p lo) f1 f2 f3 f4 f5 f6) [.ref (G b), .int (nI a), .int (nI u)] (some (.int (chrM t lz p - nI 48))) (mk7 σ b (pz f0 (¬ tkB t lz (nI (48 + a)) (nI (48 + u)) p) (tkN t lz (nI (48 + a)) (nI (48 + u)) p) lo) f1 f2 f3 f4 f5 f6) := by
  refine CS.of (cc := cX6_digit) (maxL := 4) (ret := (some .int)) (by decide) rfl (Nat.le_of_ble_eq_true rfl) ?_
  intro p_ e_ s_ m_ args_ below_ meth_ c_
  refine v_eq (pc' := 0) (st' := []) rfl rfl ?_
  refine v_loc [0, 1, 2] [(0, .ref (G b)), (1, .int (nI a)), (2, .int (nI u))] rfl ?_
  refine v_aload_n 0 dX6_digit_0 rfl rfl ?_
  refine m_geti (k := 10) hM rfl inX6_digit_X6 (by decide) (by decide +kernel) rfl dX6_digit_1 ?_
  refine v_topi (nI p) (pz_10 _ _ _ _) ?_
  refine v_aload_n 0 dX6_digit_4 rfl rfl ?_
  refine m_geti (k := 9) hM rfl inX6_digit_X6 (by decide) (by decide +kernel) rfl dX6_digit_5 ?_
  refine v_topi (nI lz) ((pz_9 _ _ _ _).trans hl) ?_
  refine v_icmp_geN 27 (by omega) (by omega) dX6_digit_8 rfl (fun h8 => ?_) (fun h8 => ?_)
  · skip
    refine v_iconst (nI 0) dX6_digit_27 (by decide +kernel) ?_
    refine v_topi (chrM t lz p) ((ic_f (by omega : ¬ p < lz)).symm) ?_
    refine v_istore_n [(3, .int (chrM t lz p)), (0, .ref (G b)), (1, .int (nI a)), (2, .int (nI u))] dX6_digit_28 rfl (by decide) rfl ?_
    refine v_aload_n 1 dX6_digit_29 rfl rfl ?_
    refine v_aload_n 1 dX6_digit_30 rfl rfl ?_
    refine m_geti (k := 11) hM rfl inX6_digit_X6 (by decide) (by decide +kernel) rfl dX6_digit_31 ?_
    refine v_topi (nI 0) (pz_11f _ _ _) ?_
    refine v_if_neN 52 (by omega) dX6_digit_34 rfl (fun h34 => ?_) (fun h34 => ?_)
    · skip
      omega
    · skip
      refine v_iload_n 0 dX6_digit_37 rfl rfl ?_
      refine v_bipush (nI 48) dX6_digit_38 (by decide +kernel) ?_
      refine v_iload_n 2 dX6_digit_40 rfl rfl ?_
      refine v_iaddN dX6_digit_41 ?_
      refine v_bipush (nI 48) dX6_digit_42 (by decide +kernel) ?_
      refine v_iload_n 3 dX6_digit_44 rfl rfl ?_
      refine v_iaddN dX6_digit_45 ?_
      refine u_callSv [.int (chrM t lz p), .int (nI (48 + a)), .int (nI (48 + u))] [.ref (G b)] 3 (c_X6_in lu Dg E N G shp (mk7 σ b (pz f0 False p lo) f1 f2 f3 f4 f5 f6) (chrM t lz p) (nI (48 + a)) (nI (48 + u))) gX6_digit_X6_in rfl rfl rfl (by decide +kernel) rfl ⟨Nat.le_of_ble_eq_true rfl, Nat.le_of_ble_eq_true rfl⟩ ⟨Nat.le_of_ble_eq_true rfl, Nat.le_of_ble_eq_true rfl⟩ (Nat.le_of_ble_eq_true rfl) rfl dX6_digit_46 ?_
      refine v_if_neB 56 dX6_digit_49 rfl (fun h49 => ?_) (fun h49 => ?_)
      · skip
        refine v_iconst (nI 0) dX6_digit_56 (by decide +kernel) ?_
        refine m_puti (k := 11) (ty := .boolean) hM rfl inX6_digit_X6 (by decide) (by decide +kernel) rfl rfl (by decide +kernel) bn_0 dX6_digit_57 ?_
        refine v_σ (mk7 σ b (pz f0 False p lo) f1 f2 f3 f4 f5 f6) (congrArg (fun z9 => mk7 σ b z9 f1 f2 f3 f4 f5 f6) (pz_u11f _ _ _ _)) ?_
        refine v_aload_n 1 dX6_digit_60 rfl rfl ?_
        refine v_dup dX6_digit_61 rfl ?_
        refine m_geti (k := 10) hM rfl inX6_digit_X6 (by decide) (by decide +kernel) rfl dX6_digit_62 ?_
        refine v_topi (nI p) (pz_10 _ _ _ _) ?_
        refine v_aload_n 1 dX6_digit_65 rfl rfl ?_
        refine m_geti (k := 11) hM rfl inX6_digit_X6 (by decide) (by decide +kernel) rfl dX6_digit_66 ?_
        refine v_topi (nI 0) (pz_11f _ _ _) ?_
        refine v_if_eqN 76 (by omega) dX6_digit_69 rfl (fun h69 => ?_) (fun h69 => ?_)
        · skip
          refine v_iconst (nI 1) dX6_digit_76 (by decide +kernel) ?_
          refine v_iaddN dX6_digit_77 ?_
          refine m_puti (k := 10) (ty := .int) hM rfl inX6_digit_X6 (by decide) (by decide +kernel) rfl rfl (by decide +kernel) ⟨rfl, rfl⟩ dX6_digit_78 ?_
          refine v_σ (mk7 σ b (pz f0 False (p + 1) lo) f1 f2 f3 f4 f5 f6) (congrArg (fun z9 => mk7 σ b z9 f1 f2 f3 f4 f5 f6) (pz_u10 _ _ _ _ _)) ?_
          refine v_iload_n 0 dX6_digit_81 rfl rfl ?_
          refine v_bipush (nI 48) dX6_digit_82 (by decide +kernel) ?_
          refine v_isub dX6_digit_84 ?_
          refine v_iret rfl dX6_digit_85 ⟨congrArg (fun z => some (Value.int z)) ?_, congrArg (φ shp) ?_⟩
          · rfl
          · exact congrArg (fun z9 => mk7 σ b z9 f1 f2 f3 f4 f5 f6) (pz_t ((chrM_iff ha).mp h49))
        · skip
          omega
      · skip
        refine v_iconst (nI 1) dX6_digit_52 (by decide +kernel) ?_
        refine v_goto 57 dX6_digit_53 rfl ?_
        refine m_puti (k := 11) (ty := .boolean) hM rfl inX6_digit_X6 (by decide) (by decide +kernel) rfl rfl (by decide +kernel) bn_1 dX6_digit_57 ?_
        refine v_σ (mk7 σ b (pz f0 True p lo) f1 f2 f3 f4 f5 f6) (congrArg (fun z9 => mk7 σ b z9 f1 f2 f3 f4 f5 f6) (pz_u11t _ _ _ _)) ?_
        refine v_aload_n 1 dX6_digit_60 rfl rfl ?_
        refine v_dup dX6_digit_61 rfl ?_
        refine m_geti (k := 10) hM rfl inX6_digit_X6 (by decide) (by decide +kernel) rfl dX6_digit_62 ?_
        refine v_topi (nI p) (pz_10 _ _ _ _) ?_
        refine v_aload_n 1 dX6_digit_65 rfl rfl ?_
        refine m_geti (k := 11) hM rfl inX6_digit_X6 (by decide) (by decide +kernel) rfl dX6_digit_66 ?_
        refine v_topi (nI 1) (pz_11t _ _ _) ?_
        refine v_if_eqN 76 (by omega) dX6_digit_69 rfl (fun h69 => ?_) (fun h69 => ?_)
        · skip
          omega
        · skip
          refine v_iconst (nI 0) dX6_digit_72 (by decide +kernel) ?_
          refine v_goto 77 dX6_digit_73 rfl ?_
          refine v_iaddN dX6_digit_77 ?_
          refine m_puti (k := 10) (ty := .int) hM rfl inX6_digit_X6 (by decide) (by decide +kernel) rfl rfl (by decide +kernel) ⟨rfl, rfl⟩ dX6_digit_78 ?_
          refine v_σ (mk7 σ b (pz f0 True (p + 0) lo) f1 f2 f3 f4 f5 f6) (congrArg (fun z9 => mk7 σ b z9 f1 f2 f3 f4 f5 f6) (pz_u10 _ _ _ _ _)) ?_
          refine v_iload_n 0 dX6_digit_81 rfl rfl ?_
          refine v_bipush (nI 48) dX6_digit_82 (by decide +kernel) ?_
          refine v_isub dX6_digit_84 ?_
          refine v_iret rfl dX6_digit_85 ⟨congrArg (fun z => some (Value.int z)) ?_, congrArg (φ shp) ?_⟩
          · rfl
          · exact congrArg (fun z9 => mk7 σ b z9 f1 f2 f3 f4 f5 f6) (pz_f (fun z9 => h49 ((chrM_iff ha).mpr z9)))
  · skip
    refine v_aload_n 0 dX6_digit_11 rfl rfl ?_
    refine u_getr (k := 8) (C := RX6) (T := TX6) (NF := 13) hM.n hM.s rfl rfl inX6_digit_X6 (by decide) (by decide +kernel) rfl dX6_digit_12 ?_
    refine v_aload_n 0 dX6_digit_15 rfl rfl ?_
    refine m_geti (k := 10) hM rfl inX6_digit_X6 (by decide) (by decide +kernel) rfl dX6_digit_16 ?_
    refine v_topi (nI p) (pz_10 _ _ _ _) ?_
    refine m_ld6 p hM (rfl) (by omega) dX6_digit_19 ?_
    refine v_sipush (nI 255) dX6_digit_20 (by decide +kernel) ?_
    refine v_iand dX6_digit_23 ?_
    refine v_topi (chrM t lz p) ((ht p (by omega)).trans (chrM_of (by omega : p < lz)).symm) ?_
    refine v_goto 28 dX6_digit_24 rfl ?_
    refine v_istore_n [(3, .int (chrM t lz p)), (0, .ref (G b)), (1, .int (nI a)), (2, .int (nI u))] dX6_digit_28 rfl (by decide) rfl ?_
    refine v_aload_n 1 dX6_digit_29 rfl rfl ?_
    refine v_aload_n 1 dX6_digit_30 rfl rfl ?_
    refine m_geti (k := 11) hM rfl inX6_digit_X6 (by decide) (by decide +kernel) rfl dX6_digit_31 ?_
    refine v_topi (nI 0) (pz_11f _ _ _) ?_
    refine v_if_neN 52 (by omega) dX6_digit_34 rfl (fun h34 => ?_) (fun h34 => ?_)
    · skip
      omega
    · skip
      refine v_iload_n 0 dX6_digit_37 rfl rfl ?_
      refine v_bipush (nI 48) dX6_digit_38 (by decide +kernel) ?_
      refine v_iload_n 2 dX6_digit_40 rfl rfl ?_
      refine v_iaddN dX6_digit_41 ?_
      refine v_bipush (nI 48) dX6_digit_42 (by decide +kernel) ?_
      refine v_iload_n 3 dX6_digit_44 rfl rfl ?_
      refine v_iaddN dX6_digit_45 ?_
      refine u_callSv [.int (chrM t lz p), .int (nI (48 + a)), .int (nI (48 + u))] [.ref (G b)] 3 (c_X6_in lu Dg E N G shp (mk7 σ b (pz f0 False p lo) f1 f2 f3 f4 f5 f6) (chrM t lz p) (nI (48 + a)) (nI (48 + u))) gX6_digit_X6_in rfl rfl rfl (by decide +kernel) rfl ⟨Nat.le_of_ble_eq_true rfl, Nat.le_of_ble_eq_true rfl⟩ ⟨Nat.le_of_ble_eq_true rfl, Nat.le_of_ble_eq_true rfl⟩ (Nat.le_of_ble_eq_true rfl) rfl dX6_digit_46 ?_
      refine v_if_neB 56 dX6_digit_49 rfl (fun h49 => ?_) (fun h49 => ?_)
      · skip
        refine v_iconst (nI 0) dX6_digit_56 (by decide +kernel) ?_
        refine m_puti (k := 11) (ty := .boolean) hM rfl inX6_digit_X6 (by decide) (by decide +kernel) rfl rfl (by decide +kernel) bn_0 dX6_digit_57 ?_
        refine v_σ (mk7 σ b (pz f0 False p lo) f1 f2 f3 f4 f5 f6) (congrArg (fun z9 => mk7 σ b z9 f1 f2 f3 f4 f5 f6) (pz_u11f _ _ _ _)) ?_
        refine v_aload_n 1 dX6_digit_60 rfl rfl ?_
        refine v_dup dX6_digit_61 rfl ?_
        refine m_geti (k := 10) hM rfl inX6_digit_X6 (by decide) (by decide +kernel) rfl dX6_digit_62 ?_
        refine v_topi (nI p) (pz_10 _ _ _ _) ?_
        refine v_aload_n 1 dX6_digit_65 rfl rfl ?_
        refine m_geti (k := 11) hM rfl inX6_digit_X6 (by decide) (by decide +kernel) rfl dX6_digit_66 ?_
        refine v_topi (nI 0) (pz_11f _ _ _) ?_
        refine v_if_eqN 76 (by omega) dX6_digit_69 rfl (fun h69 => ?_) (fun h69 => ?_)
        · skip
          refine v_iconst (nI 1) dX6_digit_76 (by decide +kernel) ?_
          refine v_iaddN dX6_digit_77 ?_
          refine m_puti (k := 10) (ty := .int) hM rfl inX6_digit_X6 (by decide) (by decide +kernel) rfl rfl (by decide +kernel) ⟨rfl, rfl⟩ dX6_digit_78 ?_
          refine v_σ (mk7 σ b (pz f0 False (p + 1) lo) f1 f2 f3 f4 f5 f6) (congrArg (fun z9 => mk7 σ b z9 f1 f2 f3 f4 f5 f6) (pz_u10 _ _ _ _ _)) ?_
          refine v_iload_n 0 dX6_digit_81 rfl rfl ?_
          refine v_bipush (nI 48) dX6_digit_82 (by decide +kernel) ?_
          refine v_isub dX6_digit_84 ?_
          refine v_iret rfl dX6_digit_85 ⟨congrArg (fun z => some (Value.int z)) ?_, congrArg (φ shp) ?_⟩
          · rfl
          · exact congrArg (fun z9 => mk7 σ b z9 f1 f2 f3 f4 f5 f6) (pz_t ((chrM_iff ha).mp h49))
        · skip
          omega
      · skip
        refine v_iconst (nI 1) dX6_digit_52 (by decide +kernel) ?_
        refine v_goto 57 dX6_digit_53 rfl ?_
        refine m_puti (k := 11) (ty := .boolean) hM rfl inX6_digit_X6 (by decide) (by decide +kernel) rfl rfl (by decide +kernel) bn_1 dX6_digit_57 ?_
        refine v_σ (mk7 σ b (pz f0 True p lo) f1 f2 f3 f4 f5 f6) (congrArg (fun z9 => mk7 σ b z9 f1 f2 f3 f4 f5 f6) (pz_u11t _ _ _ _)) ?_
        refine v_aload_n 1 dX6_digit_60 rfl rfl ?_
        refine v_dup dX6_digit_61 rfl ?_
        refine m_geti (k := 10) hM rfl inX6_digit_X6 (by decide) (by decide +kernel) rfl dX6_digit_62 ?_
        refine v_topi (nI p) (pz_10 _ _ _ _) ?_
        refine v_aload_n 1 dX6_digit_65 rfl rfl ?_
        refine m_geti (k := 11) hM rfl inX6_digit_X6 (by decide) (by decide +kernel) rfl dX6_digit_66 ?_
        refine v_topi (nI 1) (pz_11t _ _ _) ?_
        refine v_if_eqN 76 (by omega) dX6_digit_69 rfl (fun h69 => ?_) (fun h69 => ?_)
        · skip
          omega
        · skip
          refine v_iconst (nI 0) dX6_digit_72 (by decide +kernel) ?_
          refine v_goto 77 dX6_digit_73 rfl ?_
          refine v_iaddN dX6_digit_77 ?_
          refine m_puti (k := 10) (ty := .int) hM rfl inX6_digit_X6 (by decide) (by decide +kernel) rfl rfl (by decide +kernel) ⟨rfl, rfl⟩ dX6_digit_78 ?_
          refine v_σ (mk7 σ b (pz f0 True (p + 0) lo) f1 f2 f3 f4 f5 f6) (congrArg (fun z9 => mk7 σ b z9 f1 f2 f3 f4 f5 f6) (pz_u10 _ _ _ _ _)) ?_
          refine v_iload_n 0 dX6_digit_81 rfl rfl ?_
          refine v_bipush (nI 48) dX6_digit_82 (by decide +kernel) ?_
          refine v_isub dX6_digit_84 ?_
          refine v_iret rfl dX6_digit_85 ⟨congrArg (fun z => some (Value.int z)) ?_, congrArg (φ shp) ?_⟩
          · rfl
          · exact congrArg (fun z9 => mk7 σ b z9 f1 f2 f3 f4 f5 f6) (pz_f (fun z9 => h49 ((chrM_iff ha).mpr z9)))

set_option maxHeartbeats 4000000 in
set_option maxRecDepth 100000 in
/-- digit, wrong already -/
theorem c_X6_digit_w (lu : Launch) (Dg : va_G) (E : Nat → ClassId) (N : Nat) (G : Nat → Nat) (shp : Nat → (Nat → Int32) → va_E) (σ : Nat → Nat → Int32) {b : Nat} (hM : ModS E G shp N b) (f0 f1 f2 f3 f4 f5 f6 : Nat → Int32)  {t : Nat → Int32} {lz : Nat} (hl : f0 9 = nI lz) (h100 : lz ≤ 100) (ht : ∀ k, k < lz → f6 k &&& nI 255 = t k) {p lo : Nat} (hp : p < 2 ^ 18) {a u : Nat}  : CS lu yX6_digit wsX6_digit { frames := 1, cells := 0, slots := 0, locals := 22 } Dg E N G shp (mk7 σ b (pz f0 True p lo) f1 f2 f3 f4 f5 f6) [.ref (G b), .int (nI a), .int (nI u)] (some (.int (chrM t lz p - nI 48))) (mk7 σ b (pz f0 True p lo) f1 f2 f3 f4 f5 f6) := by
  refine CS.of (cc := cX6_digit) (maxL := 4) (ret := (some .int)) (by decide) rfl (Nat.le_of_ble_eq_true rfl) ?_
  intro p_ e_ s_ m_ args_ below_ meth_ c_
  refine v_eq (pc' := 0) (st' := []) rfl rfl ?_
  refine v_loc [0, 1, 2] [(0, .ref (G b)), (1, .int (nI a)), (2, .int (nI u))] rfl ?_
  refine v_aload_n 0 dX6_digit_0 rfl rfl ?_
  refine m_geti (k := 10) hM rfl inX6_digit_X6 (by decide) (by decide +kernel) rfl dX6_digit_1 ?_
  refine v_topi (nI p) (pz_10 _ _ _ _) ?_
  refine v_aload_n 0 dX6_digit_4 rfl rfl ?_
  refine m_geti (k := 9) hM rfl inX6_digit_X6 (by decide) (by decide +kernel) rfl dX6_digit_5 ?_
  refine v_topi (nI lz) ((pz_9 _ _ _ _).trans hl) ?_
  refine v_icmp_geN 27 (by omega) (by omega) dX6_digit_8 rfl (fun h8 => ?_) (fun h8 => ?_)
  · skip
    refine v_iconst (nI 0) dX6_digit_27 (by decide +kernel) ?_
    refine v_topi (chrM t lz p) ((ic_f (by omega : ¬ p < lz)).symm) ?_
    refine v_istore_n [(3, .int (chrM t lz p)), (0, .ref (G b)), (1, .int (nI a)), (2, .int (nI u))] dX6_digit_28 rfl (by decide) rfl ?_
    refine v_aload_n 1 dX6_digit_29 rfl rfl ?_
    refine v_aload_n 1 dX6_digit_30 rfl rfl ?_
    refine m_geti (k := 11) hM rfl inX6_digit_X6 (by decide) (by decide +kernel) rfl dX6_digit_31 ?_
    refine v_topi (nI 1) (pz_11t _ _ _) ?_
    refine v_if_neN 52 (by omega) dX6_digit_34 rfl (fun h34 => ?_) (fun h34 => ?_)
    · skip
      refine v_iconst (nI 1) dX6_digit_52 (by decide +kernel) ?_
      refine v_goto 57 dX6_digit_53 rfl ?_
      refine m_puti (k := 11) (ty := .boolean) hM rfl inX6_digit_X6 (by decide) (by decide +kernel) rfl rfl (by decide +kernel) bn_1 dX6_digit_57 ?_
      refine v_σ (mk7 σ b (pz f0 True p lo) f1 f2 f3 f4 f5 f6) (congrArg (fun z9 => mk7 σ b z9 f1 f2 f3 f4 f5 f6) (pz_u11t _ _ _ _)) ?_
      refine v_aload_n 1 dX6_digit_60 rfl rfl ?_
      refine v_dup dX6_digit_61 rfl ?_
      refine m_geti (k := 10) hM rfl inX6_digit_X6 (by decide) (by decide +kernel) rfl dX6_digit_62 ?_
      refine v_topi (nI p) (pz_10 _ _ _ _) ?_
      refine v_aload_n 1 dX6_digit_65 rfl rfl ?_
      refine m_geti (k := 11) hM rfl inX6_digit_X6 (by decide) (by decide +kernel) rfl dX6_digit_66 ?_
      refine v_topi (nI 1) (pz_11t _ _ _) ?_
      refine v_if_eqN 76 (by omega) dX6_digit_69 rfl (fun h69 => ?_) (fun h69 => ?_)
      · skip
        omega
      · skip
        refine v_iconst (nI 0) dX6_digit_72 (by decide +kernel) ?_
        refine v_goto 77 dX6_digit_73 rfl ?_
        refine v_iaddN dX6_digit_77 ?_
        refine m_puti (k := 10) (ty := .int) hM rfl inX6_digit_X6 (by decide) (by decide +kernel) rfl rfl (by decide +kernel) ⟨rfl, rfl⟩ dX6_digit_78 ?_
        refine v_σ (mk7 σ b (pz f0 True (p + 0) lo) f1 f2 f3 f4 f5 f6) (congrArg (fun z9 => mk7 σ b z9 f1 f2 f3 f4 f5 f6) (pz_u10 _ _ _ _ _)) ?_
        refine v_iload_n 0 dX6_digit_81 rfl rfl ?_
        refine v_bipush (nI 48) dX6_digit_82 (by decide +kernel) ?_
        refine v_isub dX6_digit_84 ?_
        refine v_iret rfl dX6_digit_85 ⟨congrArg (fun z => some (Value.int z)) ?_, congrArg (φ shp) ?_⟩
        · rfl
        · rfl
    · skip
      omega
  · skip
    refine v_aload_n 0 dX6_digit_11 rfl rfl ?_
    refine u_getr (k := 8) (C := RX6) (T := TX6) (NF := 13) hM.n hM.s rfl rfl inX6_digit_X6 (by decide) (by decide +kernel) rfl dX6_digit_12 ?_
    refine v_aload_n 0 dX6_digit_15 rfl rfl ?_
    refine m_geti (k := 10) hM rfl inX6_digit_X6 (by decide) (by decide +kernel) rfl dX6_digit_16 ?_
    refine v_topi (nI p) (pz_10 _ _ _ _) ?_
    refine m_ld6 p hM (rfl) (by omega) dX6_digit_19 ?_
    refine v_sipush (nI 255) dX6_digit_20 (by decide +kernel) ?_
    refine v_iand dX6_digit_23 ?_
    refine v_topi (chrM t lz p) ((ht p (by omega)).trans (chrM_of (by omega : p < lz)).symm) ?_
    refine v_goto 28 dX6_digit_24 rfl ?_
    refine v_istore_n [(3, .int (chrM t lz p)), (0, .ref (G b)), (1, .int (nI a)), (2, .int (nI u))] dX6_digit_28 rfl (by decide) rfl ?_
    refine v_aload_n 1 dX6_digit_29 rfl rfl ?_
    refine v_aload_n 1 dX6_digit_30 rfl rfl ?_
    refine m_geti (k := 11) hM rfl inX6_digit_X6 (by decide) (by decide +kernel) rfl dX6_digit_31 ?_
    refine v_topi (nI 1) (pz_11t _ _ _) ?_
    refine v_if_neN 52 (by omega) dX6_digit_34 rfl (fun h34 => ?_) (fun h34 => ?_)
    · skip
      refine v_iconst (nI 1) dX6_digit_52 (by decide +kernel) ?_
      refine v_goto 57 dX6_digit_53 rfl ?_
      refine m_puti (k := 11) (ty := .boolean) hM rfl inX6_digit_X6 (by decide) (by decide +kernel) rfl rfl (by decide +kernel) bn_1 dX6_digit_57 ?_
      refine v_σ (mk7 σ b (pz f0 True p lo) f1 f2 f3 f4 f5 f6) (congrArg (fun z9 => mk7 σ b z9 f1 f2 f3 f4 f5 f6) (pz_u11t _ _ _ _)) ?_
      refine v_aload_n 1 dX6_digit_60 rfl rfl ?_
      refine v_dup dX6_digit_61 rfl ?_
      refine m_geti (k := 10) hM rfl inX6_digit_X6 (by decide) (by decide +kernel) rfl dX6_digit_62 ?_
      refine v_topi (nI p) (pz_10 _ _ _ _) ?_
      refine v_aload_n 1 dX6_digit_65 rfl rfl ?_
      refine m_geti (k := 11) hM rfl inX6_digit_X6 (by decide) (by decide +kernel) rfl dX6_digit_66 ?_
      refine v_topi (nI 1) (pz_11t _ _ _) ?_
      refine v_if_eqN 76 (by omega) dX6_digit_69 rfl (fun h69 => ?_) (fun h69 => ?_)
      · skip
        omega
      · skip
        refine v_iconst (nI 0) dX6_digit_72 (by decide +kernel) ?_
        refine v_goto 77 dX6_digit_73 rfl ?_
        refine v_iaddN dX6_digit_77 ?_
        refine m_puti (k := 10) (ty := .int) hM rfl inX6_digit_X6 (by decide) (by decide +kernel) rfl rfl (by decide +kernel) ⟨rfl, rfl⟩ dX6_digit_78 ?_
        refine v_σ (mk7 σ b (pz f0 True (p + 0) lo) f1 f2 f3 f4 f5 f6) (congrArg (fun z9 => mk7 σ b z9 f1 f2 f3 f4 f5 f6) (pz_u10 _ _ _ _ _)) ?_
        refine v_iload_n 0 dX6_digit_81 rfl rfl ?_
        refine v_bipush (nI 48) dX6_digit_82 (by decide +kernel) ?_
        refine v_isub dX6_digit_84 ?_
        refine v_iret rfl dX6_digit_85 ⟨congrArg (fun z => some (Value.int z)) ?_, congrArg (φ shp) ?_⟩
        · rfl
        · rfl
    · skip
      omega

set_option maxHeartbeats 4000000 in
set_option maxRecDepth 100000 in
/-- who -/
theorem c_X6_who (lu : Launch) (Dg : va_G) (E : Nat → ClassId) (N : Nat) (G : Nat → Nat) (shp : Nat → (Nat → Int32) → va_E) (σ : Nat → Nat → Int32) {b : Nat} (hM : ModS E G shp N b) (f0 f1 f2 f3 f4 f5 f6 : Nat → Int32)  {t : Nat → Int32} {lz : Nat} (hl : f0 9 = nI lz) (h100 : lz ≤ 100) (ht : ∀ k, k < lz → f6 k &&& nI 255 = t k) {p lo : Nat} (hp : p < 2 ^ 18)  : CS lu yX6_who wsX6_who { frames := 2, cells := 0, slots := 0, locals := 45 } Dg E N G shp (mk7 σ b (pz f0 False p lo) f1 f2 f3 f4 f5 f6) [.ref (G b)] (some (.int (whoV t lz p))) (mk7 σ b (pz f0 (¬ persB t lz p) (persN t lz p) lo) f1 f2 f3 f4 f5 f6) := by
  refine CS.of (cc := cX6_who) (maxL := 2) (ret := (some .int)) (by decide) rfl (Nat.le_of_ble_eq_true rfl) ?_
  intro p_ e_ s_ m_ args_ below_ meth_ c_
  refine v_eq (pc' := 0) (st' := []) rfl rfl ?_
  refine v_loc [0] [(0, .ref (G b))] rfl ?_
  refine v_aload_n 0 dX6_who_0 rfl rfl ?_
  refine v_iconst (nI 0) dX6_who_1 (by decide +kernel) ?_
  refine v_iconst (nI 2) dX6_who_2 (by decide +kernel) ?_
  refine u_callVv [.int (nI 0), .int (nI 2)] [] 2 (c_X6_digit_0 lu Dg E N G shp σ hM f0 f1 f2 f3 f4 f5 f6 hl h100 ht (p := p) (lo := lo) (by omega) (a := 0) (u := 2) (by omega) (by omega)) (ci := 6) (C := RX6) (T := TX6) (NF := 13) hM.n hM.s rfl gX6_who_X6_digit rfl rfl rfl (by decide +kernel) rfl ⟨Nat.le_of_ble_eq_true rfl, Nat.le_of_ble_eq_true rfl⟩ ⟨Nat.le_of_ble_eq_true rfl, Nat.le_of_ble_eq_true rfl⟩ (Nat.le_of_ble_eq_true rfl) rfl dX6_who_3 ?_
  refine v_σ (mk7 σ b (pz f0 (¬ tkB t lz (nI 48) (nI 50) p) (tkN t lz (nI 48) (nI 50) p) lo) f1 f2 f3 f4 f5 f6) (congrArg (fun z9 => mk7 σ b z9 f1 f2 f3 f4 f5 f6) (rfl)) ?_
  by_cases hd1 : tkB t lz (nI 48) (nI 50) p
  · skip
    have lt9 := tk_lt (by omega) hd1
    refine v_σ (mk7 σ b (pz f0 False (p + 1) lo) f1 f2 f3 f4 f5 f6) (congrArg (fun z9 => mk7 σ b z9 f1 f2 f3 f4 f5 f6) ((pz_t hd1).symm)) ?_
    refine v_istore_n [(1, .int (chrM t lz p - nI 48)), (0, .ref (G b))] dX6_who_6 rfl (by decide) rfl ?_
    refine v_bipush (nI 10) dX6_who_7 (by decide +kernel) ?_
    refine v_iload_n 0 dX6_who_9 rfl rfl ?_
    refine v_imul dX6_who_10 ?_
    refine v_aload_n 1 dX6_who_11 rfl rfl ?_
    refine v_iconst (nI 0) dX6_who_12 (by decide +kernel) ?_
    refine v_bipush (nI 9) dX6_who_13 (by decide +kernel) ?_
    refine u_callVv [.int (nI 0), .int (nI 9)] [.int ((nI 10) * (chrM t lz p - nI 48))] 2 (c_X6_digit_0 lu Dg E N G shp σ hM f0 f1 f2 f3 f4 f5 f6 hl h100 ht (p := p + 1) (lo := lo) (by omega) (a := 0) (u := 9) (by omega) (by omega)) (ci := 6) (C := RX6) (T := TX6) (NF := 13) hM.n hM.s rfl gX6_who_X6_digit rfl rfl rfl (by decide +kernel) rfl ⟨Nat.le_of_ble_eq_true rfl, Nat.le_of_ble_eq_true rfl⟩ ⟨Nat.le_of_ble_eq_true rfl, Nat.le_of_ble_eq_true rfl⟩ (Nat.le_of_ble_eq_true rfl) rfl dX6_who_15 ?_
    refine v_σ (mk7 σ b (pz f0 (¬ tkB t lz (nI 48) (nI 57) (p + 1)) (tkN t lz (nI 48) (nI 57) (p + 1)) lo) f1 f2 f3 f4 f5 f6) (congrArg (fun z9 => mk7 σ b z9 f1 f2 f3 f4 f5 f6) (rfl)) ?_
    refine v_iadd dX6_who_18 ?_
    refine v_iret rfl dX6_who_19 ⟨congrArg (fun z => some (Value.int z)) ?_, congrArg (φ shp) ?_⟩
    · show _ = whoV t lz p; unfold whoV tkN; rw [ic_t hd1]
    · exact congrArg (fun z9 => mk7 σ b z9 f1 f2 f3 f4 f5 f6) (pz_c (not_congr ⟨fun z9 => ⟨hd1, z9⟩, fun z9 => z9.2⟩) (ic_t hd1).symm)
  · skip
    refine v_σ (mk7 σ b (pz f0 True p lo) f1 f2 f3 f4 f5 f6) (congrArg (fun z9 => mk7 σ b z9 f1 f2 f3 f4 f5 f6) ((pz_f hd1).symm)) ?_
    refine v_istore_n [(1, .int (chrM t lz p - nI 48)), (0, .ref (G b))] dX6_who_6 rfl (by decide) rfl ?_
    refine v_bipush (nI 10) dX6_who_7 (by decide +kernel) ?_
    refine v_iload_n 0 dX6_who_9 rfl rfl ?_
    refine v_imul dX6_who_10 ?_
    refine v_aload_n 1 dX6_who_11 rfl rfl ?_
    refine v_iconst (nI 0) dX6_who_12 (by decide +kernel) ?_
    refine v_bipush (nI 9) dX6_who_13 (by decide +kernel) ?_
    refine u_callVv [.int (nI 0), .int (nI 9)] [.int ((nI 10) * (chrM t lz p - nI 48))] 2 (c_X6_digit_w lu Dg E N G shp σ hM f0 f1 f2 f3 f4 f5 f6 hl h100 ht (p := p) (lo := lo) (by omega) (a := 0) (u := 9)) (ci := 6) (C := RX6) (T := TX6) (NF := 13) hM.n hM.s rfl gX6_who_X6_digit rfl rfl rfl (by decide +kernel) rfl ⟨Nat.le_of_ble_eq_true rfl, Nat.le_of_ble_eq_true rfl⟩ ⟨Nat.le_of_ble_eq_true rfl, Nat.le_of_ble_eq_true rfl⟩ (Nat.le_of_ble_eq_true rfl) rfl dX6_who_15 ?_
    refine v_iadd dX6_who_18 ?_
    refine v_iret rfl dX6_who_19 ⟨congrArg (fun z => some (Value.int z)) ?_, congrArg (φ shp) ?_⟩
    · show _ = whoV t lz p; unfold whoV tkN; rw [ic_f hd1]
    · exact congrArg (fun z9 => mk7 σ b z9 f1 f2 f3 f4 f5 f6) (pz_c ⟨fun _ z9 => hd1 z9.1, fun _ => trivial⟩ (ic_f hd1).symm)

set_option maxHeartbeats 4000000 in
set_option maxRecDepth 100000 in
/-- pace -/
theorem c_X6_pace (lu : Launch) (Dg : va_G) (E : Nat → ClassId) (N : Nat) (G : Nat → Nat) (shp : Nat → (Nat → Int32) → va_E) (σ : Nat → Nat → Int32) {b : Nat} (hM : ModS E G shp N b) (f0 f1 f2 f3 f4 f5 f6 : Nat → Int32)  {t : Nat → Int32} {lz : Nat} (hl : f0 9 = nI lz) (h100 : lz ≤ 100) (ht : ∀ k, k < lz → f6 k &&& nI 255 = t k) {p lo : Nat} (hp : p < 2 ^ 18)  : CS lu yX6_pace wsX6_pace { frames := 2, cells := 0, slots := 0, locals := 45 } Dg E N G shp (mk7 σ b (pz f0 False p lo) f1 f2 f3 f4 f5 f6) [.ref (G b)] (some (.int (pacV t lz p))) (mk7 σ b (pz f0 (¬ paceB t lz p) (paceN t lz p) lo) f1 f2 f3 f4 f5 f6) := by
  refine CS.of (cc := cX6_pace) (maxL := 3) (ret := (some .int)) (by decide) rfl (Nat.le_of_ble_eq_true rfl) ?_
  intro p_ e_ s_ m_ args_ below_ meth_ c_
  refine v_eq (pc' := 0) (st' := []) rfl rfl ?_
  refine v_loc [0] [(0, .ref (G b))] rfl ?_
  refine v_aload_n 0 dX6_pace_0 rfl rfl ?_
  refine v_iconst (nI 0) dX6_pace_1 (by decide +kernel) ?_
  refine v_iconst (nI 2) dX6_pace_2 (by decide +kernel) ?_
  refine u_callVv [.int (nI 0), .int (nI 2)] [] 2 (c_X6_digit_0 lu Dg E N G shp σ hM f0 f1 f2 f3 f4 f5 f6 hl h100 ht (p := p) (lo := lo) (by omega) (a := 0) (u := 2) (by omega) (by omega)) (ci := 6) (C := RX6) (T := TX6) (NF := 13) hM.n hM.s rfl gX6_pace_X6_digit rfl rfl rfl (by decide +kernel) rfl ⟨Nat.le_of_ble_eq_true rfl, Nat.le_of_ble_eq_true rfl⟩ ⟨Nat.le_of_ble_eq_true rfl, Nat.le_of_ble_eq_true rfl⟩ (Nat.le_of_ble_eq_true rfl) rfl dX6_pace_3 ?_
  refine v_σ (mk7 σ b (pz f0 (¬ tkB t lz (nI 48) (nI 50) p) (tkN t lz (nI 48) (nI 50) p) lo) f1 f2 f3 f4 f5 f6) (congrArg (fun z9 => mk7 σ b z9 f1 f2 f3 f4 f5 f6) (rfl)) ?_
  by_cases hd1 : tkB t lz (nI 48) (nI 50) p
  · skip
    have lt9 := tk_lt (by omega) hd1
    have hc9 : chrM t lz p = chrT t lz p := (chrM_of (tk_lt (by omega) hd1)).trans (chrT_of (tk_lt (by omega) hd1)).symm
    refine v_σ (mk7 σ b (pz f0 False (p + 1) lo) f1 f2 f3 f4 f5 f6) (congrArg (fun z9 => mk7 σ b z9 f1 f2 f3 f4 f5 f6) ((pz_t hd1).symm)) ?_
    rcases tri3 hd1 with q9 | q9 | q9
    · skip
      have e1 : loP t lz p = nI 49 := by unfold loP; rw [ic_t q9]
      have e2 : hiP t lz p = nI 57 := by unfold hiP; rw [ic_f (P := chrT t lz p = nI 50) (by rw [q9]; decide +kernel)]
      refine v_topi (nI 0) (by rw [hc9, q9]; decide +kernel) ?_
      refine v_istore_n [(1, .int (nI 0)), (0, .ref (G b))] dX6_pace_6 rfl (by decide) rfl ?_
      refine v_aload_n 1 dX6_pace_7 rfl rfl ?_
      refine v_iload_n 0 dX6_pace_8 rfl rfl ?_
      refine v_if_neN 16 (by omega) dX6_pace_9 rfl (fun h9 => ?_) (fun h9 => ?_)
      · skip
        omega
      · skip
        refine v_iconst (nI 1) dX6_pace_12 (by decide +kernel) ?_
        refine v_goto 17 dX6_pace_13 rfl ?_
        refine v_iload_n 0 dX6_pace_17 rfl rfl ?_
        refine v_iconst (nI 2) dX6_pace_18 (by decide +kernel) ?_
        refine v_icmp_neN 26 (by omega) (by omega) dX6_pace_19 rfl (fun h19 => ?_) (fun h19 => ?_)
        · skip
          refine v_bipush (nI 9) dX6_pace_26 (by decide +kernel) ?_
          refine u_callVv [.int (nI 1), .int (nI 9)] [] 2 (c_X6_digit_0 lu Dg E N G shp σ hM f0 f1 f2 f3 f4 f5 f6 hl h100 ht (p := p + 1) (lo := lo) (by omega) (a := 1) (u := 9) (by omega) (by omega)) (ci := 6) (C := RX6) (T := TX6) (NF := 13) hM.n hM.s rfl gX6_pace_X6_digit rfl rfl rfl (by decide +kernel) rfl ⟨Nat.le_of_ble_eq_true rfl, Nat.le_of_ble_eq_true rfl⟩ ⟨Nat.le_of_ble_eq_true rfl, Nat.le_of_ble_eq_true rfl⟩ (Nat.le_of_ble_eq_true rfl) rfl dX6_pace_28 ?_
          refine v_σ (mk7 σ b (pz f0 (¬ tkB t lz (nI 49) (nI 57) (p + 1)) (tkN t lz (nI 49) (nI 57) (p + 1)) lo) f1 f2 f3 f4 f5 f6) (congrArg (fun z9 => mk7 σ b z9 f1 f2 f3 f4 f5 f6) (rfl)) ?_
          refine v_istore_n [(2, .int (chrM t lz (p + 1) - nI 48)), (1, .int (nI 0)), (0, .ref (G b))] dX6_pace_31 rfl (by decide) rfl ?_
          refine v_bipush (nI 10) dX6_pace_32 (by decide +kernel) ?_
          refine v_iload_n 1 dX6_pace_34 rfl rfl ?_
          refine v_imulN dX6_pace_35 ?_
          refine v_iload_n 0 dX6_pace_36 rfl rfl ?_
          refine v_iadd dX6_pace_37 ?_
          refine v_iret rfl dX6_pace_38 ⟨congrArg (fun z => some (Value.int z)) ?_, congrArg (φ shp) ?_⟩
          · show _ = pacV t lz p; unfold pacV tkN; rw [ic_t hd1, hc9, q9, show nI 10 * (nI 48 - nI 48) = nI (10 * 0) by decide +kernel]
          · exact congrArg (fun z9 => mk7 σ b z9 f1 f2 f3 f4 f5 f6) (pz_c (not_congr (pace_iff hd1 e1 e2)) (by unfold paceN; rw [ic_t hd1, e1, e2]))
        · skip
          omega
    · skip
      have e1 : loP t lz p = nI 48 := by unfold loP; rw [ic_f (P := chrT t lz p = nI 48) (by rw [q9]; decide +kernel)]
      have e2 : hiP t lz p = nI 57 := by unfold hiP; rw [ic_f (P := chrT t lz p = nI 50) (by rw [q9]; decide +kernel)]
      refine v_topi (nI 1) (by rw [hc9, q9]; decide +kernel) ?_
      refine v_istore_n [(1, .int (nI 1)), (0, .ref (G b))] dX6_pace_6 rfl (by decide) rfl ?_
      refine v_aload_n 1 dX6_pace_7 rfl rfl ?_
      refine v_iload_n 0 dX6_pace_8 rfl rfl ?_
      refine v_if_neN 16 (by omega) dX6_pace_9 rfl (fun h9 => ?_) (fun h9 => ?_)
      · skip
        refine v_iconst (nI 0) dX6_pace_16 (by decide +kernel) ?_
        refine v_iload_n 0 dX6_pace_17 rfl rfl ?_
        refine v_iconst (nI 2) dX6_pace_18 (by decide +kernel) ?_
        refine v_icmp_neN 26 (by omega) (by omega) dX6_pace_19 rfl (fun h19 => ?_) (fun h19 => ?_)
        · skip
          refine v_bipush (nI 9) dX6_pace_26 (by decide +kernel) ?_
          refine u_callVv [.int (nI 0), .int (nI 9)] [] 2 (c_X6_digit_0 lu Dg E N G shp σ hM f0 f1 f2 f3 f4 f5 f6 hl h100 ht (p := p + 1) (lo := lo) (by omega) (a := 0) (u := 9) (by omega) (by omega)) (ci := 6) (C := RX6) (T := TX6) (NF := 13) hM.n hM.s rfl gX6_pace_X6_digit rfl rfl rfl (by decide +kernel) rfl ⟨Nat.le_of_ble_eq_true rfl, Nat.le_of_ble_eq_true rfl⟩ ⟨Nat.le_of_ble_eq_true rfl, Nat.le_of_ble_eq_true rfl⟩ (Nat.le_of_ble_eq_true rfl) rfl dX6_pace_28 ?_
          refine v_σ (mk7 σ b (pz f0 (¬ tkB t lz (nI 48) (nI 57) (p + 1)) (tkN t lz (nI 48) (nI 57) (p + 1)) lo) f1 f2 f3 f4 f5 f6) (congrArg (fun z9 => mk7 σ b z9 f1 f2 f3 f4 f5 f6) (rfl)) ?_
          refine v_istore_n [(2, .int (chrM t lz (p + 1) - nI 48)), (1, .int (nI 1)), (0, .ref (G b))] dX6_pace_31 rfl (by decide) rfl ?_
          refine v_bipush (nI 10) dX6_pace_32 (by decide +kernel) ?_
          refine v_iload_n 1 dX6_pace_34 rfl rfl ?_
          refine v_imulN dX6_pace_35 ?_
          refine v_iload_n 0 dX6_pace_36 rfl rfl ?_
          refine v_iadd dX6_pace_37 ?_
          refine v_iret rfl dX6_pace_38 ⟨congrArg (fun z => some (Value.int z)) ?_, congrArg (φ shp) ?_⟩
          · show _ = pacV t lz p; unfold pacV tkN; rw [ic_t hd1, hc9, q9, show nI 10 * (nI 49 - nI 48) = nI (10 * 1) by decide +kernel]
          · exact congrArg (fun z9 => mk7 σ b z9 f1 f2 f3 f4 f5 f6) (pz_c (not_congr (pace_iff hd1 e1 e2)) (by unfold paceN; rw [ic_t hd1, e1, e2]))
        · skip
          omega
      · skip
        omega
    · skip
      have e1 : loP t lz p = nI 48 := by unfold loP; rw [ic_f (P := chrT t lz p = nI 48) (by rw [q9]; decide +kernel)]
      have e2 : hiP t lz p = nI 48 := by unfold hiP; rw [ic_t q9]
      refine v_topi (nI 2) (by rw [hc9, q9]; decide +kernel) ?_
      refine v_istore_n [(1, .int (nI 2)), (0, .ref (G b))] dX6_pace_6 rfl (by decide) rfl ?_
      refine v_aload_n 1 dX6_pace_7 rfl rfl ?_
      refine v_iload_n 0 dX6_pace_8 rfl rfl ?_
      refine v_if_neN 16 (by omega) dX6_pace_9 rfl (fun h9 => ?_) (fun h9 => ?_)
      · skip
        refine v_iconst (nI 0) dX6_pace_16 (by decide +kernel) ?_
        refine v_iload_n 0 dX6_pace_17 rfl rfl ?_
        refine v_iconst (nI 2) dX6_pace_18 (by decide +kernel) ?_
        refine v_icmp_neN 26 (by omega) (by omega) dX6_pace_19 rfl (fun h19 => ?_) (fun h19 => ?_)
        · skip
          omega
        · skip
          refine v_iconst (nI 0) dX6_pace_22 (by decide +kernel) ?_
          refine v_goto 28 dX6_pace_23 rfl ?_
          refine u_callVv [.int (nI 0), .int (nI 0)] [] 2 (c_X6_digit_0 lu Dg E N G shp σ hM f0 f1 f2 f3 f4 f5 f6 hl h100 ht (p := p + 1) (lo := lo) (by omega) (a := 0) (u := 0) (by omega) (by omega)) (ci := 6) (C := RX6) (T := TX6) (NF := 13) hM.n hM.s rfl gX6_pace_X6_digit rfl rfl rfl (by decide +kernel) rfl ⟨Nat.le_of_ble_eq_true rfl, Nat.le_of_ble_eq_true rfl⟩ ⟨Nat.le_of_ble_eq_true rfl, Nat.le_of_ble_eq_true rfl⟩ (Nat.le_of_ble_eq_true rfl) rfl dX6_pace_28 ?_
          refine v_σ (mk7 σ b (pz f0 (¬ tkB t lz (nI 48) (nI 48) (p + 1)) (tkN t lz (nI 48) (nI 48) (p + 1)) lo) f1 f2 f3 f4 f5 f6) (congrArg (fun z9 => mk7 σ b z9 f1 f2 f3 f4 f5 f6) (rfl)) ?_
          refine v_istore_n [(2, .int (chrM t lz (p + 1) - nI 48)), (1, .int (nI 2)), (0, .ref (G b))] dX6_pace_31 rfl (by decide) rfl ?_
          refine v_bipush (nI 10) dX6_pace_32 (by decide +kernel) ?_
          refine v_iload_n 1 dX6_pace_34 rfl rfl ?_
          refine v_imulN dX6_pace_35 ?_
          refine v_iload_n 0 dX6_pace_36 rfl rfl ?_
          refine v_iadd dX6_pace_37 ?_
          refine v_iret rfl dX6_pace_38 ⟨congrArg (fun z => some (Value.int z)) ?_, congrArg (φ shp) ?_⟩
          · show _ = pacV t lz p; unfold pacV tkN; rw [ic_t hd1, hc9, q9, show nI 10 * (nI 50 - nI 48) = nI (10 * 2) by decide +kernel]
          · exact congrArg (fun z9 => mk7 σ b z9 f1 f2 f3 f4 f5 f6) (pz_c (not_congr (pace_iff hd1 e1 e2)) (by unfold paceN; rw [ic_t hd1, e1, e2]))
      · skip
        omega
  · skip
    refine v_σ (mk7 σ b (pz f0 True p lo) f1 f2 f3 f4 f5 f6) (congrArg (fun z9 => mk7 σ b z9 f1 f2 f3 f4 f5 f6) ((pz_f hd1).symm)) ?_
    refine v_istore_n [(1, .int (chrM t lz p - nI 48)), (0, .ref (G b))] dX6_pace_6 rfl (by decide) rfl ?_
    refine v_aload_n 1 dX6_pace_7 rfl rfl ?_
    refine v_iload_n 0 dX6_pace_8 rfl rfl ?_
    refine v_if_ne 16 dX6_pace_9 rfl (fun h9 => ?_) (fun h9 => ?_)
    · skip
      refine v_iconst (nI 0) dX6_pace_16 (by decide +kernel) ?_
      refine v_iload_n 0 dX6_pace_17 rfl rfl ?_
      refine v_iconst (nI 2) dX6_pace_18 (by decide +kernel) ?_
      refine v_icmp_ne 26 dX6_pace_19 rfl (fun h19 => ?_) (fun h19 => ?_)
      · skip
        refine v_bipush (nI 9) dX6_pace_26 (by decide +kernel) ?_
        refine u_callVv [.int (nI 0), .int (nI 9)] [] 2 (c_X6_digit_w lu Dg E N G shp σ hM f0 f1 f2 f3 f4 f5 f6 hl h100 ht (p := p) (lo := lo) (by omega) (a := 0) (u := 9)) (ci := 6) (C := RX6) (T := TX6) (NF := 13) hM.n hM.s rfl gX6_pace_X6_digit rfl rfl rfl (by decide +kernel) rfl ⟨Nat.le_of_ble_eq_true rfl, Nat.le_of_ble_eq_true rfl⟩ ⟨Nat.le_of_ble_eq_true rfl, Nat.le_of_ble_eq_true rfl⟩ (Nat.le_of_ble_eq_true rfl) rfl dX6_pace_28 ?_
        refine v_istore_n [(2, .int (chrM t lz p - nI 48)), (1, .int (chrM t lz p - nI 48)), (0, .ref (G b))] dX6_pace_31 rfl (by decide) rfl ?_
        refine v_bipush (nI 10) dX6_pace_32 (by decide +kernel) ?_
        refine v_iload_n 1 dX6_pace_34 rfl rfl ?_
        refine v_imul dX6_pace_35 ?_
        refine v_iload_n 0 dX6_pace_36 rfl rfl ?_
        refine v_iadd dX6_pace_37 ?_
        refine v_iret rfl dX6_pace_38 ⟨congrArg (fun z => some (Value.int z)) ?_, congrArg (φ shp) ?_⟩
        · show _ = pacV t lz p; unfold pacV tkN; rw [ic_f hd1]
        · exact congrArg (fun z9 => mk7 σ b z9 f1 f2 f3 f4 f5 f6) (pz_c ⟨fun _ z9 => hd1 z9.1, fun _ => trivial⟩ (by unfold paceN; rw [ic_f hd1]))
      · skip
        refine v_iconst (nI 0) dX6_pace_22 (by decide +kernel) ?_
        refine v_goto 28 dX6_pace_23 rfl ?_
        refine u_callVv [.int (nI 0), .int (nI 0)] [] 2 (c_X6_digit_w lu Dg E N G shp σ hM f0 f1 f2 f3 f4 f5 f6 hl h100 ht (p := p) (lo := lo) (by omega) (a := 0) (u := 0)) (ci := 6) (C := RX6) (T := TX6) (NF := 13) hM.n hM.s rfl gX6_pace_X6_digit rfl rfl rfl (by decide +kernel) rfl ⟨Nat.le_of_ble_eq_true rfl, Nat.le_of_ble_eq_true rfl⟩ ⟨Nat.le_of_ble_eq_true rfl, Nat.le_of_ble_eq_true rfl⟩ (Nat.le_of_ble_eq_true rfl) rfl dX6_pace_28 ?_
        refine v_istore_n [(2, .int (chrM t lz p - nI 48)), (1, .int (chrM t lz p - nI 48)), (0, .ref (G b))] dX6_pace_31 rfl (by decide) rfl ?_
        refine v_bipush (nI 10) dX6_pace_32 (by decide +kernel) ?_
        refine v_iload_n 1 dX6_pace_34 rfl rfl ?_
        refine v_imul dX6_pace_35 ?_
        refine v_iload_n 0 dX6_pace_36 rfl rfl ?_
        refine v_iadd dX6_pace_37 ?_
        refine v_iret rfl dX6_pace_38 ⟨congrArg (fun z => some (Value.int z)) ?_, congrArg (φ shp) ?_⟩
        · show _ = pacV t lz p; unfold pacV tkN; rw [ic_f hd1]
        · exact congrArg (fun z9 => mk7 σ b z9 f1 f2 f3 f4 f5 f6) (pz_c ⟨fun _ z9 => hd1 z9.1, fun _ => trivial⟩ (by unfold paceN; rw [ic_f hd1]))
    · skip
      refine v_iconst (nI 1) dX6_pace_12 (by decide +kernel) ?_
      refine v_goto 17 dX6_pace_13 rfl ?_
      refine v_iload_n 0 dX6_pace_17 rfl rfl ?_
      refine v_iconst (nI 2) dX6_pace_18 (by decide +kernel) ?_
      refine v_icmp_ne 26 dX6_pace_19 rfl (fun h19 => ?_) (fun h19 => ?_)
      · skip
        refine v_bipush (nI 9) dX6_pace_26 (by decide +kernel) ?_
        refine u_callVv [.int (nI 1), .int (nI 9)] [] 2 (c_X6_digit_w lu Dg E N G shp σ hM f0 f1 f2 f3 f4 f5 f6 hl h100 ht (p := p) (lo := lo) (by omega) (a := 1) (u := 9)) (ci := 6) (C := RX6) (T := TX6) (NF := 13) hM.n hM.s rfl gX6_pace_X6_digit rfl rfl rfl (by decide +kernel) rfl ⟨Nat.le_of_ble_eq_true rfl, Nat.le_of_ble_eq_true rfl⟩ ⟨Nat.le_of_ble_eq_true rfl, Nat.le_of_ble_eq_true rfl⟩ (Nat.le_of_ble_eq_true rfl) rfl dX6_pace_28 ?_
        refine v_istore_n [(2, .int (chrM t lz p - nI 48)), (1, .int (chrM t lz p - nI 48)), (0, .ref (G b))] dX6_pace_31 rfl (by decide) rfl ?_
        refine v_bipush (nI 10) dX6_pace_32 (by decide +kernel) ?_
        refine v_iload_n 1 dX6_pace_34 rfl rfl ?_
        refine v_imul dX6_pace_35 ?_
        refine v_iload_n 0 dX6_pace_36 rfl rfl ?_
        refine v_iadd dX6_pace_37 ?_
        refine v_iret rfl dX6_pace_38 ⟨congrArg (fun z => some (Value.int z)) ?_, congrArg (φ shp) ?_⟩
        · show _ = pacV t lz p; unfold pacV tkN; rw [ic_f hd1]
        · exact congrArg (fun z9 => mk7 σ b z9 f1 f2 f3 f4 f5 f6) (pz_c ⟨fun _ z9 => hd1 z9.1, fun _ => trivial⟩ (by unfold paceN; rw [ic_f hd1]))
      · skip
        refine v_iconst (nI 0) dX6_pace_22 (by decide +kernel) ?_
        refine v_goto 28 dX6_pace_23 rfl ?_
        refine u_callVv [.int (nI 1), .int (nI 0)] [] 2 (c_X6_digit_w lu Dg E N G shp σ hM f0 f1 f2 f3 f4 f5 f6 hl h100 ht (p := p) (lo := lo) (by omega) (a := 1) (u := 0)) (ci := 6) (C := RX6) (T := TX6) (NF := 13) hM.n hM.s rfl gX6_pace_X6_digit rfl rfl rfl (by decide +kernel) rfl ⟨Nat.le_of_ble_eq_true rfl, Nat.le_of_ble_eq_true rfl⟩ ⟨Nat.le_of_ble_eq_true rfl, Nat.le_of_ble_eq_true rfl⟩ (Nat.le_of_ble_eq_true rfl) rfl dX6_pace_28 ?_
        refine v_istore_n [(2, .int (chrM t lz p - nI 48)), (1, .int (chrM t lz p - nI 48)), (0, .ref (G b))] dX6_pace_31 rfl (by decide) rfl ?_
        refine v_bipush (nI 10) dX6_pace_32 (by decide +kernel) ?_
        refine v_iload_n 1 dX6_pace_34 rfl rfl ?_
        refine v_imul dX6_pace_35 ?_
        refine v_iload_n 0 dX6_pace_36 rfl rfl ?_
        refine v_iadd dX6_pace_37 ?_
        refine v_iret rfl dX6_pace_38 ⟨congrArg (fun z => some (Value.int z)) ?_, congrArg (φ shp) ?_⟩
        · show _ = pacV t lz p; unfold pacV tkN; rw [ic_f hd1]
        · exact congrArg (fun z9 => mk7 σ b z9 f1 f2 f3 f4 f5 f6) (pz_c ⟨fun _ z9 => hd1 z9.1, fun _ => trivial⟩ (by unfold paceN; rw [ic_f hd1]))
