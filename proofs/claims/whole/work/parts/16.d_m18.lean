theorem tkW_iff {t : Nat → Int32} {lz p : Nat} {v : Nat} (hv : v < 2 ^ 31) : tkB t lz (nI v) (nI v) p ↔ (p < lz ∧ t p = nI v) := by
  constructor
  · intro h
    have hl := tk_lt hv h
    refine ⟨hl, ?_⟩
    rw [← chrT_of (t := t) hl]
    exact Int32.le_antisymm h.2 h.1
  · intro h
    exact tkB_self ((chrT_of h.1).trans h.2)
theorem pz_if (f : Nat → Int32) : upd (upd (upd f 10 (nI 0)) 12 (nI 0)) 11 (nI 0) = pz f False 0 0 := by
  have e0 : bi False = nI 0 := bi_pf (fun z => z)
  funext i; simp only [pz, upd_ap]
  by_cases h1 : i = 11
  · subst h1; simp [e0]
  · rw [if_neg h1]
    by_cases h2 : i = 12
    · subst h2; simp
    · by_cases h3 : i = 10
      · subst h3; simp
      · simp [h1, h2, h3]
theorem pz_it (f : Nat → Int32) : upd (upd (upd f 10 (nI 0)) 12 (nI 0)) 11 (nI 1) = pz f True 0 0 := by
  rw [← pz_u11t f False 0 0, ← pz_if]
  funext i; simp only [upd_ap]
  by_cases h1 : i = 11
  · rw [if_pos h1, if_pos h1]
  · rw [if_neg h1, if_neg h1, if_neg h1]
theorem pz_u5 (f : Nat → Int32) (w : Prop) (p lo : Nat) (v : Int32) : upd (pz f w p lo) 5 v = pz (upd f 5 v) w p lo := by
  funext i; simp only [pz, upd_ap]
  by_cases h1 : i = 5
  · subst h1; simp
  · simp [h1]
theorem pz_u0 (f : Nat → Int32) (w : Prop) (p lo : Nat) (v : Int32) : upd (pz f w p lo) 0 v = pz (upd f 0 v) w p lo := by
  funext i; simp only [pz, upd_ap]
  by_cases h1 : i = 0
  · subst h1; simp
  · simp [h1]
theorem cmdN_ok {t : Nat → Int32} {lz p : Nat} (h : cmdB t lz p) : p + 2 ≤ cmdN t lz p ∧ cmdN t lz p ≤ lz ∧ p < lz := by
  have hlt : p < lz := by
    refine Classical.byContradiction (fun q => ?_)
    have e : chrT t lz p = -1 := ic_f q
    rcases cmdB_cases h with z | z | z | z | z <;> (rw [e] at z; exact absurd z (by decide +kernel))
  rcases cmdB_cases h with q | q | q | q | q
  · rw [cmdB_c q] at h
    rw [cmdN_c q, ic_t h.1]
    have l2 := tk_lt (by omega) h.2
    unfold tkN; rw [ic_t h.2]
    exact ⟨by omega, by omega, hlt⟩
  · rw [cmdB_g q] at h
    obtain ⟨-, -, a3, a4, -⟩ := pers_of h
    rw [cmdN_g q, a3]; exact ⟨by omega, by omega, hlt⟩
  · rw [cmdB_j q] at h
    obtain ⟨-, -, a3, a4, -⟩ := pers_of h
    rw [cmdN_j q, a3]; exact ⟨by omega, by omega, hlt⟩
  · rw [cmdB_t q] at h
    have l2 := tk_lt (by omega) h
    rw [cmdN_t q]; unfold tkN; rw [ic_t h]; exact ⟨by omega, by omega, hlt⟩
  · rw [cmdB_x q] at h
    obtain ⟨-, -, a3, -, -⟩ := pers_of h.1
    have h2 := h.2
    rw [a3] at h2
    obtain ⟨-, -, b3, b4, -⟩ := pers_of h2
    rw [cmdN_x q, ic_t h.1, a3, b3]; exact ⟨by omega, by omega, hlt⟩
theorem comR_s {t : Nat → Int32} {lz q k : Nat} (h : (comR t lz q k).2) (h2 : (comR t lz q k).1 < lz) : comR t lz q (k + 1) = (cmdN t lz (comR t lz q k).1, cmdB t lz (comR t lz q k).1) := by
  show ic ((comR t lz q k).2 ∧ (comR t lz q k).1 < lz) _ _ = _
  exact ic_t ⟨h, h2⟩
theorem pacR_s {t : Nat → Int32} {lz q k : Nat} (h : (pacR t lz q k).2) : pacR t lz q (k + 1) = (paceN t lz (pacR t lz q k).1, paceB t lz (pacR t lz q k).1) := by
  show ic (pacR t lz q k).2 _ _ = _
  exact ic_t h
theorem pacR_b {t : Nat → Int32} {lz q k m : Nat} (hk : k ≤ m) (h : (pacR t lz q m).2) : (pacR t lz q k).2 :=
  Classical.byContradiction (fun z => z (pacR_stay hk z ▸ h))
theorem pace_of {t : Nat → Int32} {lz p : Nat} (h : paceB t lz p) : pacV t lz p = nI (nmN t p) ∧ 1 ≤ nmN t p ∧ nmN t p ≤ 20 ∧ paceN t lz p = p + 2 ∧ p + 1 < lz ∧ nI 10 * (chrT t lz p - nI 48) + (chrT t lz (p + 1) - nI 48) = nI (nmN t p) := by
  obtain ⟨a1, a2, a3⟩ := dgN_of (by omega) (by omega) h.1 (by omega)
  have l1 := tk_lt (by omega) h.1
  have ec := chrT_of (t := t) l1
  have e1 : tkN t lz (nI 48) (nI 50) p = p + 1 := by unfold tkN; rw [ic_t h.1]
  have e3 : nI 10 * nI (dgN t p) + nI (dgN t (p + 1)) = nI (nmN t p) := by rw [pk_mul, nI_add]; rfl
  have key : ∀ lo hi : Nat, 48 ≤ lo → lo < 2 ^ 31 → hi < 2 ^ 31 → loP t lz p = nI lo → hiP t lz p = nI hi → (1 ≤ 10 * dgN t p + (lo - 48)) → (10 * dgN t p + (hi - 48) ≤ 20) → (pacV t lz p = nI (nmN t p) ∧ 1 ≤ nmN t p ∧ nmN t p ≤ 20 ∧ paceN t lz p = p + 2 ∧ p + 1 < lz ∧ nI 10 * (chrT t lz p - nI 48) + (chrT t lz (p + 1) - nI 48) = nI (nmN t p)) := by
    intro lo hi g1 g2 g3 g4 g5 g6 g7
    have h2 := h.2
    rw [g4, g5] at h2
    obtain ⟨b1, b2, b3⟩ := dgN_of g1 g3 h2 g2
    have l2 := tk_lt g2 h2
    have e2 : tkN t lz (nI lo) (nI hi) (p + 1) = p + 2 := by unfold tkN; rw [ic_t h2]
    refine ⟨?_, by unfold nmN; omega, by unfold nmN; omega, by unfold paceN; rw [ic_t h.1, g4, g5]; exact e2, l2, ?_⟩
    · unfold pacV
      rw [e1, chrM_of l1, chrM_of l2, a1, b1]; exact e3
    · rw [chrT_of l1, chrT_of l2, a1, b1]; exact e3
  have ne : ∀ {a u : Nat}, chrT t lz p = nI a → a < 100 → u < 100 → a ≠ u → ¬ chrT t lz p = nI u := fun q z1 z2 z3 z => z3 ((nI_eq (by omega) (by omega)).mp (q.symm.trans z))
  have dg : ∀ a : Nat, chrT t lz p = nI (48 + a) → a < 50 → dgN t p = a := by
    intro a q z1
    rw [ec] at q
    rw [q, pk_sub (by omega)] at a1
    have := (nI_eq (by omega) (by omega)).mp a1
    omega
  rcases tri3 h.1 with q | q | q
  · have := dg 0 q (by omega)
    exact key 49 57 (by omega) (by omega) (by omega) (by unfold loP; rw [ic_t q]) (by unfold hiP; rw [ic_f (ne q (by omega) (by omega) (by omega))]) (by omega) (by omega)
  · have := dg 1 q (by omega)
    exact key 48 57 (by omega) (by omega) (by omega) (by unfold loP; rw [ic_f (ne q (by omega) (by omega) (by omega))]) (by unfold hiP; rw [ic_f (ne q (by omega) (by omega) (by omega))]) (by omega) (by omega)
  · have := dg 2 q (by omega)
    exact key 48 48 (by omega) (by omega) (by omega) (by unfold loP; rw [ic_f (ne q (by omega) (by omega) (by omega))]) (by unfold hiP; rw [ic_t q]) (by omega) (by omega)
theorem pacR_ok {t : Nat → Int32} {lz q : Nat} : ∀ {k : Nat}, (pacR t lz q k).2 → (pacR t lz q k).1 = q + 2 * k ∧ (0 < k → q + 2 * k ≤ lz)
  | 0, _ => ⟨rfl, fun h => by omega⟩
  | k + 1, h => by
    have h1 := pacR_b (Nat.le_succ k) h
    have ih := pacR_ok h1
    rw [pacR_s h1] at h ⊢
    obtain ⟨-, -, -, a4, a5, -⟩ := pace_of h
    have e := ih.1
    refine ⟨by show paceN t lz (pacR t lz q k).1 = _; omega, fun _ => by omega⟩
/-- the text's check: the place of the error (or the end), and whether it is a day -/
noncomputable def prs (t : Nat → Int32) (lz : Nat) : Nat × Prop := ic (tkB t lz (nI 87) (nI 87) 0) (ic (tkB t lz (nI 49) (nI 51) 1) (ic (pacR t lz 2 (dgN t 1)).2 (comR t lz (pacR t lz 2 (dgN t 1)).1 100) ((pacR t lz 2 (dgN t 1)).1, False)) (1, False)) (0, False)
theorem prs_w {t : Nat → Int32} {lz : Nat} (h : ¬ tkB t lz (nI 87) (nI 87) 0) : prs t lz = (0, False) := ic_f h
theorem prs_d {t : Nat → Int32} {lz : Nat} (hw : tkB t lz (nI 87) (nI 87) 0) (h : ¬ tkB t lz (nI 49) (nI 51) 1) : prs t lz = (1, False) := (ic_t hw).trans (ic_f h)
theorem prs_l {t : Nat → Int32} {lz : Nat} (hw : tkB t lz (nI 87) (nI 87) 0) (hd : tkB t lz (nI 49) (nI 51) 1) (h : ¬ (pacR t lz 2 (dgN t 1)).2) : prs t lz = ((pacR t lz 2 (dgN t 1)).1, False) := ((ic_t hw).trans (ic_t hd)).trans (ic_f h)
theorem prs_0 {t : Nat → Int32} {lz : Nat} (hw : tkB t lz (nI 87) (nI 87) 0) (hd : tkB t lz (nI 49) (nI 51) 1) (h : (pacR t lz 2 (dgN t 1)).2) : prs t lz = comR t lz (pacR t lz 2 (dgN t 1)).1 100 := ((ic_t hw).trans (ic_t hd)).trans (ic_t h)
theorem pz_pt {f : Nat → Int32} {P : Prop} {q q' lo : Nat} (h : P) (e : q = q') : pz f False q lo = pz f (¬ P) q' lo := pz_c ⟨False.elim, fun z => z h⟩ e
theorem pz_pf {f : Nat → Int32} {P : Prop} {q q' lo : Nat} (h : ¬ P) (e : q = q') : pz f True q lo = pz f (¬ P) q' lo := pz_c ⟨fun _ => h, fun _ => trivial⟩ e
set_option maxRecDepth 100000 in
theorem inX6_read_X6 : ∀ w ∈ wsX60, w ∈ wsX6_read := by decide +kernel
set_option maxHeartbeats 4000000 in
set_option maxRecDepth 100000 in
/-- read: no W -/
theorem c_X6_read_w (lu : Launch) (Dg : va_G) (E : Nat → ClassId) (N : Nat) (G : Nat → Nat) (shp : Nat → (Nat → Int32) → va_E) (σ : Nat → Nat → Int32) {b : Nat} (hM : ModS E G shp N b) (f0 f1 f2 f3 f4 f5 f6 : Nat → Int32)  {t : Nat → Int32} {lz : Nat} (hl : f0 9 = nI lz) (h100 : lz ≤ 100) (ht : ∀ k, k < lz → f6 k &&& nI 255 = t k) (hW : 0 < lz → (f6 0 = nI 87 ↔ t 0 = nI 87)) (hw : ¬ tkB t lz (nI 87) (nI 87) 0)  : CS lu yX6_read wsX6_read { frames := 7, cells := 0, slots := 0, locals := 158 } Dg E N G shp (mk7 σ b f0 f1 f2 f3 f4 f5 f6) [.ref (G b), .int (nI 0)] none (mk7 σ b (pz f0 (¬ (prs t lz).2) (prs t lz).1 0) f1 f2 f3 f4 f5 f6) := by
  refine CS.of (cc := cX6_read) (maxL := 6) (ret := none) (by decide) rfl (Nat.le_of_ble_eq_true rfl) ?_
  intro p_ e_ s_ m_ args_ below_ meth_ c_
  refine v_eq (pc' := 0) (st' := []) rfl rfl ?_
  refine v_loc [0, 1] [(0, .ref (G b)), (1, .int (nI 0))] rfl ?_
  refine v_aload_n 0 dX6_read_0 rfl rfl ?_
  refine v_iconst (nI 0) dX6_read_1 (by decide +kernel) ?_
  refine m_puti (k := 10) (ty := .int) hM rfl inX6_read_X6 (by decide) (by decide +kernel) rfl rfl (by decide +kernel) ⟨rfl, rfl⟩ dX6_read_2 ?_
  refine v_aload_n 0 dX6_read_5 rfl rfl ?_
  refine v_iconst (nI 0) dX6_read_6 (by decide +kernel) ?_
  refine m_puti (k := 12) (ty := .int) hM rfl inX6_read_X6 (by decide) (by decide +kernel) rfl rfl (by decide +kernel) ⟨rfl, rfl⟩ dX6_read_7 ?_
  refine v_aload_n 0 dX6_read_10 rfl rfl ?_
  refine v_aload_n 0 dX6_read_11 rfl rfl ?_
  refine m_geti (k := 9) hM rfl inX6_read_X6 (by decide) (by decide +kernel) rfl dX6_read_12 ?_
  refine v_topi (nI lz) ((by rw [upd_ap, if_neg (by omega), upd_ap, if_neg (by omega)]; exact hl)) ?_
  refine v_if_eqN 29 (by omega) dX6_read_15 rfl (fun h15 => ?_) (fun h15 => ?_)
  · skip
    refine v_iconst (nI 1) dX6_read_29 (by decide +kernel) ?_
    refine v_goto 34 dX6_read_30 rfl ?_
    refine m_puti (k := 11) (ty := .boolean) hM rfl inX6_read_X6 (by decide) (by decide +kernel) rfl rfl (by decide +kernel) bn_1 dX6_read_34 ?_
    refine v_σ (mk7 σ b (pz f0 True 0 0) f1 f2 f3 f4 f5 f6) (congrArg (fun z9 => mk7 σ b z9 f1 f2 f3 f4 f5 f6) (pz_it _)) ?_
    refine v_aload_n 0 dX6_read_37 rfl rfl ?_
    refine v_aload_n 0 dX6_read_38 rfl rfl ?_
    refine m_geti (k := 11) hM rfl inX6_read_X6 (by decide) (by decide +kernel) rfl dX6_read_39 ?_
    refine v_topi (nI 1) (pz_11t _ _ _) ?_
    refine v_if_eqN 49 (by omega) dX6_read_42 rfl (fun h42 => ?_) (fun h42 => ?_)
    · skip
      omega
    · skip
      refine v_iconst (nI 0) dX6_read_45 (by decide +kernel) ?_
      refine v_goto 50 dX6_read_46 rfl ?_
      refine m_puti (k := 10) (ty := .int) hM rfl inX6_read_X6 (by decide) (by decide +kernel) rfl rfl (by decide +kernel) ⟨rfl, rfl⟩ dX6_read_50 ?_
      refine v_σ (mk7 σ b (pz f0 True 0 0) f1 f2 f3 f4 f5 f6) (congrArg (fun z9 => mk7 σ b z9 f1 f2 f3 f4 f5 f6) (pz_u10 _ _ _ _ _)) ?_
      refine v_aload_n 0 dX6_read_53 rfl rfl ?_
      refine m_geti (k := 11) hM rfl inX6_read_X6 (by decide) (by decide +kernel) rfl dX6_read_54 ?_
      refine v_topi (nI 1) (pz_11t _ _ _) ?_
      refine v_if_eqN 64 (by omega) dX6_read_57 rfl (fun h57 => ?_) (fun h57 => ?_)
      · skip
        omega
      · skip
        refine v_iconst (nI 0) dX6_read_60 (by decide +kernel) ?_
        refine v_goto 70 dX6_read_61 rfl ?_
        refine v_istore_n [(2, .int (nI 0)), (0, .ref (G b)), (1, .int (nI 0))] dX6_read_70 rfl (by decide) rfl ?_
        refine v_iload_n 2 dX6_read_71 rfl rfl ?_
        refine v_if_eqN 79 (by omega) dX6_read_72 rfl (fun h72 => ?_) (fun h72 => ?_)
        · skip
          refine v_iconst (nI 0) dX6_read_79 (by decide +kernel) ?_
          refine v_istore_n [(3, .int (nI 0)), (2, .int (nI 0)), (0, .ref (G b)), (1, .int (nI 0))] dX6_read_80 rfl (by decide) rfl ?_
          refine v_iload_n 0 dX6_read_81 rfl rfl ?_
          refine v_iload_n 1 dX6_read_82 rfl rfl ?_
          refine v_icmp_geN 124 (by omega) (by omega) dX6_read_83 rfl (fun h83 => ?_) (fun h83 => ?_)
          · skip
            refine v_aload_n 2 dX6_read_124 rfl rfl ?_
            refine m_geti (k := 11) hM rfl inX6_read_X6 (by decide) (by decide +kernel) rfl dX6_read_125 ?_
            refine v_topi (nI 1) (pz_11t _ _ _) ?_
            refine v_if_neN 150 (by omega) dX6_read_128 rfl (fun h128 => ?_) (fun h128 => ?_)
            · skip
              refine v_vret rfl dX6_read_150 ⟨rfl, congrArg (φ shp) ?_⟩
              · rw [prs_w hw]; exact congrArg (fun z9 => mk7 σ b z9 f1 f2 f3 f4 f5 f6) (pz_c ⟨fun _ z9 => z9, fun _ => trivial⟩ rfl)
            · skip
              omega
          · skip
            omega
        · skip
          omega
  · skip
    refine v_aload_n 0 dX6_read_18 rfl rfl ?_
    refine u_getr (k := 8) (C := RX6) (T := TX6) (NF := 13) hM.n hM.s rfl rfl inX6_read_X6 (by decide) (by decide +kernel) rfl dX6_read_19 ?_
    refine v_iconst (nI 0) dX6_read_22 (by decide +kernel) ?_
    refine m_ld6 0 hM (rfl) (by omega) dX6_read_23 ?_
    refine v_bipush (nI 87) dX6_read_24 (by decide +kernel) ?_
    refine v_icmp_eq 33 dX6_read_26 rfl (fun h26 => ?_) (fun h26 => ?_)
    · skip
      exact absurd h26 (fun z9 => hw ((tkW_iff (by omega)).mpr ⟨by omega, (hW (by omega)).mp z9⟩))
    · skip
      refine v_iconst (nI 1) dX6_read_29 (by decide +kernel) ?_
      refine v_goto 34 dX6_read_30 rfl ?_
      refine m_puti (k := 11) (ty := .boolean) hM rfl inX6_read_X6 (by decide) (by decide +kernel) rfl rfl (by decide +kernel) bn_1 dX6_read_34 ?_
      refine v_σ (mk7 σ b (pz f0 True 0 0) f1 f2 f3 f4 f5 f6) (congrArg (fun z9 => mk7 σ b z9 f1 f2 f3 f4 f5 f6) (pz_it _)) ?_
      refine v_aload_n 0 dX6_read_37 rfl rfl ?_
      refine v_aload_n 0 dX6_read_38 rfl rfl ?_
      refine m_geti (k := 11) hM rfl inX6_read_X6 (by decide) (by decide +kernel) rfl dX6_read_39 ?_
      refine v_topi (nI 1) (pz_11t _ _ _) ?_
      refine v_if_eqN 49 (by omega) dX6_read_42 rfl (fun h42 => ?_) (fun h42 => ?_)
      · skip
        omega
      · skip
        refine v_iconst (nI 0) dX6_read_45 (by decide +kernel) ?_
        refine v_goto 50 dX6_read_46 rfl ?_
        refine m_puti (k := 10) (ty := .int) hM rfl inX6_read_X6 (by decide) (by decide +kernel) rfl rfl (by decide +kernel) ⟨rfl, rfl⟩ dX6_read_50 ?_
        refine v_σ (mk7 σ b (pz f0 True 0 0) f1 f2 f3 f4 f5 f6) (congrArg (fun z9 => mk7 σ b z9 f1 f2 f3 f4 f5 f6) (pz_u10 _ _ _ _ _)) ?_
        refine v_aload_n 0 dX6_read_53 rfl rfl ?_
        refine m_geti (k := 11) hM rfl inX6_read_X6 (by decide) (by decide +kernel) rfl dX6_read_54 ?_
        refine v_topi (nI 1) (pz_11t _ _ _) ?_
        refine v_if_eqN 64 (by omega) dX6_read_57 rfl (fun h57 => ?_) (fun h57 => ?_)
        · skip
          omega
        · skip
          refine v_iconst (nI 0) dX6_read_60 (by decide +kernel) ?_
          refine v_goto 70 dX6_read_61 rfl ?_
          refine v_istore_n [(2, .int (nI 0)), (0, .ref (G b)), (1, .int (nI 0))] dX6_read_70 rfl (by decide) rfl ?_
          refine v_iload_n 2 dX6_read_71 rfl rfl ?_
          refine v_if_eqN 79 (by omega) dX6_read_72 rfl (fun h72 => ?_) (fun h72 => ?_)
          · skip
            refine v_iconst (nI 0) dX6_read_79 (by decide +kernel) ?_
            refine v_istore_n [(3, .int (nI 0)), (2, .int (nI 0)), (0, .ref (G b)), (1, .int (nI 0))] dX6_read_80 rfl (by decide) rfl ?_
            refine v_iload_n 0 dX6_read_81 rfl rfl ?_
            refine v_iload_n 1 dX6_read_82 rfl rfl ?_
            refine v_icmp_geN 124 (by omega) (by omega) dX6_read_83 rfl (fun h83 => ?_) (fun h83 => ?_)
            · skip
              refine v_aload_n 2 dX6_read_124 rfl rfl ?_
              refine m_geti (k := 11) hM rfl inX6_read_X6 (by decide) (by decide +kernel) rfl dX6_read_125 ?_
              refine v_topi (nI 1) (pz_11t _ _ _) ?_
              refine v_if_neN 150 (by omega) dX6_read_128 rfl (fun h128 => ?_) (fun h128 => ?_)
              · skip
                refine v_vret rfl dX6_read_150 ⟨rfl, congrArg (φ shp) ?_⟩
                · rw [prs_w hw]; exact congrArg (fun z9 => mk7 σ b z9 f1 f2 f3 f4 f5 f6) (pz_c ⟨fun _ z9 => z9, fun _ => trivial⟩ rfl)
              · skip
                omega
            · skip
              omega
          · skip
            omega

set_option maxHeartbeats 4000000 in
set_option maxRecDepth 100000 in
/-- read: no digit of lines -/
theorem c_X6_read_d (lu : Launch) (Dg : va_G) (E : Nat → ClassId) (N : Nat) (G : Nat → Nat) (shp : Nat → (Nat → Int32) → va_E) (σ : Nat → Nat → Int32) {b : Nat} (hM : ModS E G shp N b) (f0 f1 f2 f3 f4 f5 f6 : Nat → Int32)  {t : Nat → Int32} {lz : Nat} (hl : f0 9 = nI lz) (h100 : lz ≤ 100) (ht : ∀ k, k < lz → f6 k &&& nI 255 = t k) (hW : 0 < lz → (f6 0 = nI 87 ↔ t 0 = nI 87)) (hw : tkB t lz (nI 87) (nI 87) 0) (hd : ¬ tkB t lz (nI 49) (nI 51) 1)  : CS lu yX6_read wsX6_read { frames := 7, cells := 0, slots := 0, locals := 158 } Dg E N G shp (mk7 σ b f0 f1 f2 f3 f4 f5 f6) [.ref (G b), .int (nI 0)] none (mk7 σ b (pz f0 (¬ (prs t lz).2) (prs t lz).1 0) f1 f2 f3 f4 f5 f6) := by
  refine CS.of (cc := cX6_read) (maxL := 6) (ret := none) (by decide) rfl (Nat.le_of_ble_eq_true rfl) ?_
  intro p_ e_ s_ m_ args_ below_ meth_ c_
  refine v_eq (pc' := 0) (st' := []) rfl rfl ?_
  refine v_loc [0, 1] [(0, .ref (G b)), (1, .int (nI 0))] rfl ?_
  refine v_aload_n 0 dX6_read_0 rfl rfl ?_
  refine v_iconst (nI 0) dX6_read_1 (by decide +kernel) ?_
  refine m_puti (k := 10) (ty := .int) hM rfl inX6_read_X6 (by decide) (by decide +kernel) rfl rfl (by decide +kernel) ⟨rfl, rfl⟩ dX6_read_2 ?_
  refine v_aload_n 0 dX6_read_5 rfl rfl ?_
  refine v_iconst (nI 0) dX6_read_6 (by decide +kernel) ?_
  refine m_puti (k := 12) (ty := .int) hM rfl inX6_read_X6 (by decide) (by decide +kernel) rfl rfl (by decide +kernel) ⟨rfl, rfl⟩ dX6_read_7 ?_
  refine v_aload_n 0 dX6_read_10 rfl rfl ?_
  refine v_aload_n 0 dX6_read_11 rfl rfl ?_
  refine m_geti (k := 9) hM rfl inX6_read_X6 (by decide) (by decide +kernel) rfl dX6_read_12 ?_
  refine v_topi (nI lz) ((by rw [upd_ap, if_neg (by omega), upd_ap, if_neg (by omega)]; exact hl)) ?_
  refine v_if_eqN 29 (by omega) dX6_read_15 rfl (fun h15 => ?_) (fun h15 => ?_)
  · skip
    exact absurd ((tkW_iff (by omega)).mp hw).1 (by omega)
  · skip
    refine v_aload_n 0 dX6_read_18 rfl rfl ?_
    refine u_getr (k := 8) (C := RX6) (T := TX6) (NF := 13) hM.n hM.s rfl rfl inX6_read_X6 (by decide) (by decide +kernel) rfl dX6_read_19 ?_
    refine v_iconst (nI 0) dX6_read_22 (by decide +kernel) ?_
    refine m_ld6 0 hM (rfl) (by omega) dX6_read_23 ?_
    refine v_bipush (nI 87) dX6_read_24 (by decide +kernel) ?_
    refine v_icmp_eq 33 dX6_read_26 rfl (fun h26 => ?_) (fun h26 => ?_)
    · skip
      refine v_iconst (nI 0) dX6_read_33 (by decide +kernel) ?_
      refine m_puti (k := 11) (ty := .boolean) hM rfl inX6_read_X6 (by decide) (by decide +kernel) rfl rfl (by decide +kernel) bn_0 dX6_read_34 ?_
      refine v_σ (mk7 σ b (pz f0 False 0 0) f1 f2 f3 f4 f5 f6) (congrArg (fun z9 => mk7 σ b z9 f1 f2 f3 f4 f5 f6) (pz_if _)) ?_
      refine v_aload_n 0 dX6_read_37 rfl rfl ?_
      refine v_aload_n 0 dX6_read_38 rfl rfl ?_
      refine m_geti (k := 11) hM rfl inX6_read_X6 (by decide) (by decide +kernel) rfl dX6_read_39 ?_
      refine v_topi (nI 0) (pz_11f _ _ _) ?_
      refine v_if_eqN 49 (by omega) dX6_read_42 rfl (fun h42 => ?_) (fun h42 => ?_)
      · skip
        refine v_iconst (nI 1) dX6_read_49 (by decide +kernel) ?_
        refine m_puti (k := 10) (ty := .int) hM rfl inX6_read_X6 (by decide) (by decide +kernel) rfl rfl (by decide +kernel) ⟨rfl, rfl⟩ dX6_read_50 ?_
        refine v_σ (mk7 σ b (pz f0 False 1 0) f1 f2 f3 f4 f5 f6) (congrArg (fun z9 => mk7 σ b z9 f1 f2 f3 f4 f5 f6) (pz_u10 _ _ _ _ _)) ?_
        refine v_aload_n 0 dX6_read_53 rfl rfl ?_
        refine m_geti (k := 11) hM rfl inX6_read_X6 (by decide) (by decide +kernel) rfl dX6_read_54 ?_
        refine v_topi (nI 0) (pz_11f _ _ _) ?_
        refine v_if_eqN 64 (by omega) dX6_read_57 rfl (fun h57 => ?_) (fun h57 => ?_)
        · skip
          refine v_aload_n 0 dX6_read_64 rfl rfl ?_
          refine v_iconst (nI 1) dX6_read_65 (by decide +kernel) ?_
          refine v_iconst (nI 3) dX6_read_66 (by decide +kernel) ?_
          refine u_callVv [.int (nI 1), .int (nI 3)] [] 2 (c_X6_digit_0 lu Dg E N G shp σ hM f0 f1 f2 f3 f4 f5 f6 hl h100 ht (p := 1) (lo := 0) (by omega) (a := 1) (u := 3) (by omega) (by omega)) (ci := 6) (C := RX6) (T := TX6) (NF := 13) hM.n hM.s rfl gX6_read_X6_digit rfl rfl rfl (by decide +kernel) rfl ⟨Nat.le_of_ble_eq_true rfl, Nat.le_of_ble_eq_true rfl⟩ ⟨Nat.le_of_ble_eq_true rfl, Nat.le_of_ble_eq_true rfl⟩ (Nat.le_of_ble_eq_true rfl) rfl dX6_read_67 ?_
          refine v_σ (mk7 σ b (pz f0 (¬ tkB t lz (nI 49) (nI 51) 1) (tkN t lz (nI 49) (nI 51) 1) 0) f1 f2 f3 f4 f5 f6) (congrArg (fun z9 => mk7 σ b z9 f1 f2 f3 f4 f5 f6) (rfl)) ?_
          refine v_σ (mk7 σ b (pz f0 True 1 0) f1 f2 f3 f4 f5 f6) (congrArg (fun z9 => mk7 σ b z9 f1 f2 f3 f4 f5 f6) ((pz_f hd).symm)) ?_
          refine v_istore_n [(2, .int (chrM t lz 1 - nI 48)), (0, .ref (G b)), (1, .int (nI 0))] dX6_read_70 rfl (by decide) rfl ?_
          refine v_iload_n 2 dX6_read_71 rfl rfl ?_
          refine v_if_eqN 79 (by omega) dX6_read_72 rfl (fun h72 => ?_) (fun h72 => ?_)
          · skip
            refine v_iconst (nI 0) dX6_read_79 (by decide +kernel) ?_
            refine v_istore_n [(3, .int (nI 0)), (2, .int (chrM t lz 1 - nI 48)), (0, .ref (G b)), (1, .int (nI 0))] dX6_read_80 rfl (by decide) rfl ?_
            refine v_iload_n 0 dX6_read_81 rfl rfl ?_
            refine v_iload_n 1 dX6_read_82 rfl rfl ?_
            refine v_icmp_ge 124 dX6_read_83 rfl (fun h83 => ?_) (fun h83 => ?_)
            · skip
              refine v_aload_n 2 dX6_read_124 rfl rfl ?_
              refine m_geti (k := 11) hM rfl inX6_read_X6 (by decide) (by decide +kernel) rfl dX6_read_125 ?_
              refine v_topi (nI 1) (pz_11t _ _ _) ?_
              refine v_if_neN 150 (by omega) dX6_read_128 rfl (fun h128 => ?_) (fun h128 => ?_)
              · skip
                refine v_vret rfl dX6_read_150 ⟨rfl, congrArg (φ shp) ?_⟩
                · rw [prs_d hw hd]; exact congrArg (fun z9 => mk7 σ b z9 f1 f2 f3 f4 f5 f6) (pz_c ⟨fun _ z9 => z9, fun _ => trivial⟩ rfl)
              · skip
                omega
            · skip
              refine v_aload_n 2 dX6_read_86 rfl rfl ?_
              refine m_geti (k := 11) hM rfl inX6_read_X6 (by decide) (by decide +kernel) rfl dX6_read_87 ?_
              refine v_topi (nI 1) (pz_11t _ _ _) ?_
              refine v_if_neN 124 (by omega) dX6_read_90 rfl (fun h90 => ?_) (fun h90 => ?_)
              · skip
                refine v_aload_n 2 dX6_read_124 rfl rfl ?_
                refine m_geti (k := 11) hM rfl inX6_read_X6 (by decide) (by decide +kernel) rfl dX6_read_125 ?_
                refine v_topi (nI 1) (pz_11t _ _ _) ?_
                refine v_if_neN 150 (by omega) dX6_read_128 rfl (fun h128 => ?_) (fun h128 => ?_)
                · skip
                  refine v_vret rfl dX6_read_150 ⟨rfl, congrArg (φ shp) ?_⟩
                  · rw [prs_d hw hd]; exact congrArg (fun z9 => mk7 σ b z9 f1 f2 f3 f4 f5 f6) (pz_c ⟨fun _ z9 => z9, fun _ => trivial⟩ rfl)
                · skip
                  omega
              · skip
                omega
          · skip
            omega
        · skip
          omega
      · skip
        omega
    · skip
      exact absurd ((hW (by omega)).mpr ((tkW_iff (by omega)).mp hw).2) h26

set_option maxHeartbeats 4000000 in
set_option maxRecDepth 100000 in
/-- read: a wrong pace -/
theorem c_X6_read_l (lu : Launch) (Dg : va_G) (E : Nat → ClassId) (N : Nat) (G : Nat → Nat) (shp : Nat → (Nat → Int32) → va_E) (σ : Nat → Nat → Int32) {b : Nat} (hM : ModS E G shp N b) (f0 f1 f2 f3 f4 f5 f6 : Nat → Int32)  {t : Nat → Int32} {lz : Nat} (hl : f0 9 = nI lz) (h100 : lz ≤ 100) (ht : ∀ k, k < lz → f6 k &&& nI 255 = t k) (hW : 0 < lz → (f6 0 = nI 87 ↔ t 0 = nI 87)) (hw : tkB t lz (nI 87) (nI 87) 0) (hd : tkB t lz (nI 49) (nI 51) 1) (hp2 : ¬ (pacR t lz 2 (dgN t 1)).2)  : CS lu yX6_read wsX6_read { frames := 7, cells := 0, slots := 0, locals := 158 } Dg E N G shp (mk7 σ b f0 f1 f2 f3 f4 f5 f6) [.ref (G b), .int (nI 0)] none (mk7 σ b (pz f0 (¬ (prs t lz).2) (prs t lz).1 0) f1 f2 f3 f4 f5 f6) := by
  refine CS.of (cc := cX6_read) (maxL := 6) (ret := none) (by decide) rfl (Nat.le_of_ble_eq_true rfl) ?_
  intro p_ e_ s_ m_ args_ below_ meth_ c_
  refine v_eq (pc' := 0) (st' := []) rfl rfl ?_
  refine v_loc [0, 1] [(0, .ref (G b)), (1, .int (nI 0))] rfl ?_
  obtain ⟨d1, d2, d3⟩ := dgN_of (by omega) (by omega) hd (by omega)
  have l1 := tk_lt (by omega) hd
  obtain ⟨m, hm⟩ : ∃ m, dgN t 1 = m := ⟨_, rfl⟩
  rw [hm] at hp2 d1 d2 d3
  refine v_aload_n 0 dX6_read_0 rfl rfl ?_
  refine v_iconst (nI 0) dX6_read_1 (by decide +kernel) ?_
  refine m_puti (k := 10) (ty := .int) hM rfl inX6_read_X6 (by decide) (by decide +kernel) rfl rfl (by decide +kernel) ⟨rfl, rfl⟩ dX6_read_2 ?_
  refine v_aload_n 0 dX6_read_5 rfl rfl ?_
  refine v_iconst (nI 0) dX6_read_6 (by decide +kernel) ?_
  refine m_puti (k := 12) (ty := .int) hM rfl inX6_read_X6 (by decide) (by decide +kernel) rfl rfl (by decide +kernel) ⟨rfl, rfl⟩ dX6_read_7 ?_
  refine v_aload_n 0 dX6_read_10 rfl rfl ?_
  refine v_aload_n 0 dX6_read_11 rfl rfl ?_
  refine m_geti (k := 9) hM rfl inX6_read_X6 (by decide) (by decide +kernel) rfl dX6_read_12 ?_
  refine v_topi (nI lz) ((by rw [upd_ap, if_neg (by omega), upd_ap, if_neg (by omega)]; exact hl)) ?_
  refine v_if_eqN 29 (by omega) dX6_read_15 rfl (fun h15 => ?_) (fun h15 => ?_)
  · skip
    exact absurd ((tkW_iff (by omega)).mp hw).1 (by omega)
  · skip
    refine v_aload_n 0 dX6_read_18 rfl rfl ?_
    refine u_getr (k := 8) (C := RX6) (T := TX6) (NF := 13) hM.n hM.s rfl rfl inX6_read_X6 (by decide) (by decide +kernel) rfl dX6_read_19 ?_
    refine v_iconst (nI 0) dX6_read_22 (by decide +kernel) ?_
    refine m_ld6 0 hM (rfl) (by omega) dX6_read_23 ?_
    refine v_bipush (nI 87) dX6_read_24 (by decide +kernel) ?_
    refine v_icmp_eq 33 dX6_read_26 rfl (fun h26 => ?_) (fun h26 => ?_)
    · skip
      refine v_iconst (nI 0) dX6_read_33 (by decide +kernel) ?_
      refine m_puti (k := 11) (ty := .boolean) hM rfl inX6_read_X6 (by decide) (by decide +kernel) rfl rfl (by decide +kernel) bn_0 dX6_read_34 ?_
      refine v_σ (mk7 σ b (pz f0 False 0 0) f1 f2 f3 f4 f5 f6) (congrArg (fun z9 => mk7 σ b z9 f1 f2 f3 f4 f5 f6) (pz_if _)) ?_
      refine v_aload_n 0 dX6_read_37 rfl rfl ?_
      refine v_aload_n 0 dX6_read_38 rfl rfl ?_
      refine m_geti (k := 11) hM rfl inX6_read_X6 (by decide) (by decide +kernel) rfl dX6_read_39 ?_
      refine v_topi (nI 0) (pz_11f _ _ _) ?_
      refine v_if_eqN 49 (by omega) dX6_read_42 rfl (fun h42 => ?_) (fun h42 => ?_)
      · skip
        refine v_iconst (nI 1) dX6_read_49 (by decide +kernel) ?_
        refine m_puti (k := 10) (ty := .int) hM rfl inX6_read_X6 (by decide) (by decide +kernel) rfl rfl (by decide +kernel) ⟨rfl, rfl⟩ dX6_read_50 ?_
        refine v_σ (mk7 σ b (pz f0 False 1 0) f1 f2 f3 f4 f5 f6) (congrArg (fun z9 => mk7 σ b z9 f1 f2 f3 f4 f5 f6) (pz_u10 _ _ _ _ _)) ?_
        refine v_aload_n 0 dX6_read_53 rfl rfl ?_
        refine m_geti (k := 11) hM rfl inX6_read_X6 (by decide) (by decide +kernel) rfl dX6_read_54 ?_
        refine v_topi (nI 0) (pz_11f _ _ _) ?_
        refine v_if_eqN 64 (by omega) dX6_read_57 rfl (fun h57 => ?_) (fun h57 => ?_)
        · skip
          refine v_aload_n 0 dX6_read_64 rfl rfl ?_
          refine v_iconst (nI 1) dX6_read_65 (by decide +kernel) ?_
          refine v_iconst (nI 3) dX6_read_66 (by decide +kernel) ?_
          refine u_callVv [.int (nI 1), .int (nI 3)] [] 2 (c_X6_digit_0 lu Dg E N G shp σ hM f0 f1 f2 f3 f4 f5 f6 hl h100 ht (p := 1) (lo := 0) (by omega) (a := 1) (u := 3) (by omega) (by omega)) (ci := 6) (C := RX6) (T := TX6) (NF := 13) hM.n hM.s rfl gX6_read_X6_digit rfl rfl rfl (by decide +kernel) rfl ⟨Nat.le_of_ble_eq_true rfl, Nat.le_of_ble_eq_true rfl⟩ ⟨Nat.le_of_ble_eq_true rfl, Nat.le_of_ble_eq_true rfl⟩ (Nat.le_of_ble_eq_true rfl) rfl dX6_read_67 ?_
          refine v_σ (mk7 σ b (pz f0 (¬ tkB t lz (nI 49) (nI 51) 1) (tkN t lz (nI 49) (nI 51) 1) 0) f1 f2 f3 f4 f5 f6) (congrArg (fun z9 => mk7 σ b z9 f1 f2 f3 f4 f5 f6) (rfl)) ?_
          refine v_σ (mk7 σ b (pz f0 False 2 0) f1 f2 f3 f4 f5 f6) (congrArg (fun z9 => mk7 σ b z9 f1 f2 f3 f4 f5 f6) ((pz_t hd).symm)) ?_
          refine v_topi (nI m) (by rw [chrM_of l1]; exact d1) ?_
          refine v_istore_n [(2, .int (nI m)), (0, .ref (G b)), (1, .int (nI 0))] dX6_read_70 rfl (by decide) rfl ?_
          refine v_iload_n 2 dX6_read_71 rfl rfl ?_
          refine v_if_eqN 79 (by omega) dX6_read_72 rfl (fun h72 => ?_) (fun h72 => ?_)
          · skip
            refine v_iconst (nI 0) dX6_read_79 (by decide +kernel) ?_
            refine v_istore_n [(3, .int (nI 0)), (2, .int (nI m)), (0, .ref (G b)), (1, .int (nI 0))] dX6_read_80 rfl (by decide) rfl ?_
            refine v_loc [0, 1, 3, 2] [(3, .int (nI 0)), (2, .int (nI m)), (1, .int (nI 0)), (0, .ref (G b))] rfl ?_
            refine u_loop1 (fun n (j : Nat) => j + n = m ∧ (pacR t lz 2 j).2) (fun (j : Nat) => mk7 σ b (pz f0 False (pacR t lz 2 j).1 0) f1 f2 f3 f4 f5 f6) (fun (j : Nat) => [(3, .int (nI j)), (2, .int (nI m)), (1, .int (nI 0)), (0, .ref (G b))]) (m) 0 (⟨by omega, trivial⟩) ?_
            intro n j hL ih
            obtain ⟨hL1, hL2⟩ := hL
            refine v_iload_n 0 dX6_read_81 rfl rfl ?_
            refine v_iload_n 1 dX6_read_82 rfl rfl ?_
            refine v_icmp_geN 124 (by omega) (by omega) dX6_read_83 rfl (fun h83 => ?_) (fun h83 => ?_)
            · skip
              exact absurd (show (pacR t lz 2 m).2 by rw [show m = j by omega]; exact hL2) hp2
            · skip
              have hle := pacR_le t lz 2 j
              refine v_aload_n 3 dX6_read_86 rfl rfl ?_
              refine m_geti (k := 11) hM rfl inX6_read_X6 (by decide) (by decide +kernel) rfl dX6_read_87 ?_
              refine v_topi (nI 0) (pz_11f _ _ _) ?_
              refine v_if_neN 124 (by omega) dX6_read_90 rfl (fun h90 => ?_) (fun h90 => ?_)
              · skip
                omega
              · skip
                refine v_aload_n 3 dX6_read_93 rfl rfl ?_
                refine u_callVv [] [] 0 (c_X6_pace lu Dg E N G shp σ hM f0 f1 f2 f3 f4 f5 f6 hl h100 ht (p := (pacR t lz 2 j).1) (lo := 0) (by omega)) (ci := 6) (C := RX6) (T := TX6) (NF := 13) hM.n hM.s rfl gX6_read_X6_pace rfl rfl rfl (by decide +kernel) rfl ⟨Nat.le_of_ble_eq_true rfl, Nat.le_of_ble_eq_true rfl⟩ ⟨Nat.le_of_ble_eq_true rfl, Nat.le_of_ble_eq_true rfl⟩ (Nat.le_of_ble_eq_true rfl) rfl dX6_read_94 ?_
                by_cases hb : paceB t lz (pacR t lz 2 j).1
                · skip
                  have es1 : (pacR t lz 2 (j + 1)).2 := by rw [pacR_s hL2]; exact hb
                  refine v_σ (mk7 σ b (pz f0 False ((pacR t lz 2 (j + 1)).1) 0) f1 f2 f3 f4 f5 f6) (congrArg (fun z9 => mk7 σ b z9 f1 f2 f3 f4 f5 f6) ((pz_wt hb).trans (pz_c Iff.rfl (by rw [pacR_s hL2])))) ?_
                  refine v_istore [(4, .int (pacV t lz ((pacR t lz 2 j).1))), (3, .int (nI j)), (2, .int (nI m)), (1, .int (nI 0)), (0, .ref (G b))] dX6_read_97 (by decide) rfl ?_
                  refine v_iload_n 3 dX6_read_99 rfl rfl ?_
                  refine v_if_eqN 118 (by omega) dX6_read_100 rfl (fun hx100 => ?_) (fun hx100 => ?_)
                  · skip
                    refine v_iincN 1 [(3, .int (nI (j + 1))), (4, .int (pacV t lz ((pacR t lz 2 j).1))), (2, .int (nI m)), (1, .int (nI 0)), (0, .ref (G b))] dX6_read_118 rfl (by decide) rfl ?_
                    refine v_goto 81 dX6_read_121 rfl ?_
                    refine v_loc [0, 2, 3, 4] [(3, .int (nI (j + 1))), (2, .int (nI m)), (1, .int (nI 0)), (0, .ref (G b))] rfl ?_
                    exact ih _ (j + 1) (show n - 1 < n by omega) (⟨by omega, es1⟩)
                  · skip
                    omega
                · skip
                  have en1 : ¬ (pacR t lz 2 (j + 1)).2 := by rw [pacR_s hL2]; exact hb
                  refine v_σ (mk7 σ b (pz f0 True ((pacR t lz 2 (j + 1)).1) 0) f1 f2 f3 f4 f5 f6) (congrArg (fun z9 => mk7 σ b z9 f1 f2 f3 f4 f5 f6) ((pz_wf hb).trans (pz_c Iff.rfl (by rw [pacR_s hL2])))) ?_
                  refine v_istore [(4, .int (pacV t lz ((pacR t lz 2 j).1))), (3, .int (nI j)), (2, .int (nI m)), (1, .int (nI 0)), (0, .ref (G b))] dX6_read_97 (by decide) rfl ?_
                  refine v_iload_n 3 dX6_read_99 rfl rfl ?_
                  refine v_if_eqN 118 (by omega) dX6_read_100 rfl (fun hx100 => ?_) (fun hx100 => ?_)
                  · skip
                    refine v_iincN 1 [(3, .int (nI (j + 1))), (4, .int (pacV t lz ((pacR t lz 2 j).1))), (2, .int (nI m)), (1, .int (nI 0)), (0, .ref (G b))] dX6_read_118 rfl (by decide) rfl ?_
                    refine v_goto 81 dX6_read_121 rfl ?_
                    refine v_iload_n 0 dX6_read_81 rfl rfl ?_
                    refine v_iload_n 2 dX6_read_82 rfl rfl ?_
                    refine v_icmp_geN 124 (by omega) (by omega) dX6_read_83 rfl (fun h83 => ?_) (fun h83 => ?_)
                    · skip
                      refine v_aload_n 4 dX6_read_124 rfl rfl ?_
                      refine m_geti (k := 11) hM rfl inX6_read_X6 (by decide) (by decide +kernel) rfl dX6_read_125 ?_
                      refine v_topi (nI 1) (pz_11t _ _ _) ?_
                      refine v_if_neN 150 (by omega) dX6_read_128 rfl (fun h128 => ?_) (fun h128 => ?_)
                      · skip
                        refine v_vret rfl dX6_read_150 ⟨rfl, congrArg (φ shp) ?_⟩
                        · rw [prs_l hw hd (by rw [hm]; exact hp2), hm, pacR_stay (t := t) (lz := lz) (q := 2) (show j + 1 ≤ m by omega) en1]; exact congrArg (fun z9 => mk7 σ b z9 f1 f2 f3 f4 f5 f6) (pz_c ⟨fun _ z9 => z9, fun _ => trivial⟩ rfl)
                      · skip
                        omega
                    · skip
                      refine v_aload_n 4 dX6_read_86 rfl rfl ?_
                      refine m_geti (k := 11) hM rfl inX6_read_X6 (by decide) (by decide +kernel) rfl dX6_read_87 ?_
                      refine v_topi (nI 1) (pz_11t _ _ _) ?_
                      refine v_if_neN 124 (by omega) dX6_read_90 rfl (fun h90 => ?_) (fun h90 => ?_)
                      · skip
                        refine v_aload_n 4 dX6_read_124 rfl rfl ?_
                        refine m_geti (k := 11) hM rfl inX6_read_X6 (by decide) (by decide +kernel) rfl dX6_read_125 ?_
                        refine v_topi (nI 1) (pz_11t _ _ _) ?_
                        refine v_if_neN 150 (by omega) dX6_read_128 rfl (fun h128 => ?_) (fun h128 => ?_)
                        · skip
                          refine v_vret rfl dX6_read_150 ⟨rfl, congrArg (φ shp) ?_⟩
                          · rw [prs_l hw hd (by rw [hm]; exact hp2), hm, pacR_stay (t := t) (lz := lz) (q := 2) (show j + 1 ≤ m by omega) en1]; exact congrArg (fun z9 => mk7 σ b z9 f1 f2 f3 f4 f5 f6) (pz_c ⟨fun _ z9 => z9, fun _ => trivial⟩ rfl)
                        · skip
                          omega
                      · skip
                        omega
                  · skip
                    omega
          · skip
            omega
        · skip
          omega
      · skip
        omega
    · skip
      exact absurd ((hW (by omega)).mpr ((tkW_iff (by omega)).mp hw).2) h26

set_option maxHeartbeats 4000000 in
set_option maxRecDepth 100000 in
/-- read: the commands -/
theorem c_X6_read_p (lu : Launch) (Dg : va_G) (E : Nat → ClassId) (N : Nat) (G : Nat → Nat) (shp : Nat → (Nat → Int32) → va_E) (σ : Nat → Nat → Int32) {b : Nat} (hM : ModS E G shp N b) (f0 f1 f2 f3 f4 f5 f6 : Nat → Int32)  {t : Nat → Int32} {lz : Nat} (hl : f0 9 = nI lz) (h100 : lz ≤ 100) (ht : ∀ k, k < lz → f6 k &&& nI 255 = t k) (hW : 0 < lz → (f6 0 = nI 87 ↔ t 0 = nI 87)) (hw : tkB t lz (nI 87) (nI 87) 0) (hd : tkB t lz (nI 49) (nI 51) 1) (hp2 : (pacR t lz 2 (dgN t 1)).2)  : CS lu yX6_read wsX6_read { frames := 7, cells := 0, slots := 0, locals := 158 } Dg E N G shp (mk7 σ b f0 f1 f2 f3 f4 f5 f6) [.ref (G b), .int (nI 0)] none (mk7 σ b (pz f0 (¬ (prs t lz).2) (prs t lz).1 0) f1 f2 f3 f4 f5 f6) := by
  refine CS.of (cc := cX6_read) (maxL := 6) (ret := none) (by decide) rfl (Nat.le_of_ble_eq_true rfl) ?_
  intro p_ e_ s_ m_ args_ below_ meth_ c_
  refine v_eq (pc' := 0) (st' := []) rfl rfl ?_
  refine v_loc [0, 1] [(0, .ref (G b)), (1, .int (nI 0))] rfl ?_
  obtain ⟨d1, d2, d3⟩ := dgN_of (by omega) (by omega) hd (by omega)
  have l1 := tk_lt (by omega) hd
  obtain ⟨m, hm⟩ : ∃ m, dgN t 1 = m := ⟨_, rfl⟩
  rw [hm] at hp2 d1 d2 d3
  refine v_aload_n 0 dX6_read_0 rfl rfl ?_
  refine v_iconst (nI 0) dX6_read_1 (by decide +kernel) ?_
  refine m_puti (k := 10) (ty := .int) hM rfl inX6_read_X6 (by decide) (by decide +kernel) rfl rfl (by decide +kernel) ⟨rfl, rfl⟩ dX6_read_2 ?_
  refine v_aload_n 0 dX6_read_5 rfl rfl ?_
  refine v_iconst (nI 0) dX6_read_6 (by decide +kernel) ?_
  refine m_puti (k := 12) (ty := .int) hM rfl inX6_read_X6 (by decide) (by decide +kernel) rfl rfl (by decide +kernel) ⟨rfl, rfl⟩ dX6_read_7 ?_
  refine v_aload_n 0 dX6_read_10 rfl rfl ?_
  refine v_aload_n 0 dX6_read_11 rfl rfl ?_
  refine m_geti (k := 9) hM rfl inX6_read_X6 (by decide) (by decide +kernel) rfl dX6_read_12 ?_
  refine v_topi (nI lz) ((by rw [upd_ap, if_neg (by omega), upd_ap, if_neg (by omega)]; exact hl)) ?_
  refine v_if_eqN 29 (by omega) dX6_read_15 rfl (fun h15 => ?_) (fun h15 => ?_)
  · skip
    exact absurd ((tkW_iff (by omega)).mp hw).1 (by omega)
  · skip
    refine v_aload_n 0 dX6_read_18 rfl rfl ?_
    refine u_getr (k := 8) (C := RX6) (T := TX6) (NF := 13) hM.n hM.s rfl rfl inX6_read_X6 (by decide) (by decide +kernel) rfl dX6_read_19 ?_
    refine v_iconst (nI 0) dX6_read_22 (by decide +kernel) ?_
    refine m_ld6 0 hM (rfl) (by omega) dX6_read_23 ?_
    refine v_bipush (nI 87) dX6_read_24 (by decide +kernel) ?_
    refine v_icmp_eq 33 dX6_read_26 rfl (fun h26 => ?_) (fun h26 => ?_)
    · skip
      refine v_iconst (nI 0) dX6_read_33 (by decide +kernel) ?_
      refine m_puti (k := 11) (ty := .boolean) hM rfl inX6_read_X6 (by decide) (by decide +kernel) rfl rfl (by decide +kernel) bn_0 dX6_read_34 ?_
      refine v_σ (mk7 σ b (pz f0 False 0 0) f1 f2 f3 f4 f5 f6) (congrArg (fun z9 => mk7 σ b z9 f1 f2 f3 f4 f5 f6) (pz_if _)) ?_
      refine v_aload_n 0 dX6_read_37 rfl rfl ?_
      refine v_aload_n 0 dX6_read_38 rfl rfl ?_
      refine m_geti (k := 11) hM rfl inX6_read_X6 (by decide) (by decide +kernel) rfl dX6_read_39 ?_
      refine v_topi (nI 0) (pz_11f _ _ _) ?_
      refine v_if_eqN 49 (by omega) dX6_read_42 rfl (fun h42 => ?_) (fun h42 => ?_)
      · skip
        refine v_iconst (nI 1) dX6_read_49 (by decide +kernel) ?_
        refine m_puti (k := 10) (ty := .int) hM rfl inX6_read_X6 (by decide) (by decide +kernel) rfl rfl (by decide +kernel) ⟨rfl, rfl⟩ dX6_read_50 ?_
        refine v_σ (mk7 σ b (pz f0 False 1 0) f1 f2 f3 f4 f5 f6) (congrArg (fun z9 => mk7 σ b z9 f1 f2 f3 f4 f5 f6) (pz_u10 _ _ _ _ _)) ?_
        refine v_aload_n 0 dX6_read_53 rfl rfl ?_
        refine m_geti (k := 11) hM rfl inX6_read_X6 (by decide) (by decide +kernel) rfl dX6_read_54 ?_
        refine v_topi (nI 0) (pz_11f _ _ _) ?_
        refine v_if_eqN 64 (by omega) dX6_read_57 rfl (fun h57 => ?_) (fun h57 => ?_)
        · skip
          refine v_aload_n 0 dX6_read_64 rfl rfl ?_
          refine v_iconst (nI 1) dX6_read_65 (by decide +kernel) ?_
          refine v_iconst (nI 3) dX6_read_66 (by decide +kernel) ?_
          refine u_callVv [.int (nI 1), .int (nI 3)] [] 2 (c_X6_digit_0 lu Dg E N G shp σ hM f0 f1 f2 f3 f4 f5 f6 hl h100 ht (p := 1) (lo := 0) (by omega) (a := 1) (u := 3) (by omega) (by omega)) (ci := 6) (C := RX6) (T := TX6) (NF := 13) hM.n hM.s rfl gX6_read_X6_digit rfl rfl rfl (by decide +kernel) rfl ⟨Nat.le_of_ble_eq_true rfl, Nat.le_of_ble_eq_true rfl⟩ ⟨Nat.le_of_ble_eq_true rfl, Nat.le_of_ble_eq_true rfl⟩ (Nat.le_of_ble_eq_true rfl) rfl dX6_read_67 ?_
          refine v_σ (mk7 σ b (pz f0 (¬ tkB t lz (nI 49) (nI 51) 1) (tkN t lz (nI 49) (nI 51) 1) 0) f1 f2 f3 f4 f5 f6) (congrArg (fun z9 => mk7 σ b z9 f1 f2 f3 f4 f5 f6) (rfl)) ?_
          refine v_σ (mk7 σ b (pz f0 False 2 0) f1 f2 f3 f4 f5 f6) (congrArg (fun z9 => mk7 σ b z9 f1 f2 f3 f4 f5 f6) ((pz_t hd).symm)) ?_
          refine v_topi (nI m) (by rw [chrM_of l1]; exact d1) ?_
          refine v_istore_n [(2, .int (nI m)), (0, .ref (G b)), (1, .int (nI 0))] dX6_read_70 rfl (by decide) rfl ?_
          refine v_iload_n 2 dX6_read_71 rfl rfl ?_
          refine v_if_eqN 79 (by omega) dX6_read_72 rfl (fun h72 => ?_) (fun h72 => ?_)
          · skip
            refine v_iconst (nI 0) dX6_read_79 (by decide +kernel) ?_
            refine v_istore_n [(3, .int (nI 0)), (2, .int (nI m)), (0, .ref (G b)), (1, .int (nI 0))] dX6_read_80 rfl (by decide) rfl ?_
            refine v_loc [0, 1, 3, 2] [(3, .int (nI 0)), (2, .int (nI m)), (1, .int (nI 0)), (0, .ref (G b))] rfl ?_
            refine u_loop1 (fun n (j : Nat) => j + n = m ∧ (pacR t lz 2 j).2) (fun (j : Nat) => mk7 σ b (pz f0 False (pacR t lz 2 j).1 0) f1 f2 f3 f4 f5 f6) (fun (j : Nat) => [(3, .int (nI j)), (2, .int (nI m)), (1, .int (nI 0)), (0, .ref (G b))]) (m) 0 (⟨by omega, trivial⟩) ?_
            intro n j hL ih
            obtain ⟨hL1, hL2⟩ := hL
            refine v_iload_n 0 dX6_read_81 rfl rfl ?_
            refine v_iload_n 1 dX6_read_82 rfl rfl ?_
            refine v_icmp_geN 124 (by omega) (by omega) dX6_read_83 rfl (fun h83 => ?_) (fun h83 => ?_)
            · skip
              have hjm : j = m := by omega
              obtain ⟨hp9, hp8⟩ := pacR_ok hp2
              have hp7 := hp8 (by omega)
              have hq9 : lz - (pacR t lz 2 m).1 + (pacR t lz 2 m).1 = lz := by omega
              refine v_σ (mk7 σ b (pz f0 False ((pacR t lz 2 m).1) 0) f1 f2 f3 f4 f5 f6) (congrArg (fun z9 => mk7 σ b z9 f1 f2 f3 f4 f5 f6) (pz_c Iff.rfl (by rw [hjm]))) ?_
              refine v_loc [2, 3] [(1, .int (nI 0)), (0, .ref (G b))] rfl ?_
              refine u_loop1 (fun n (k : Nat) => (comR t lz (pacR t lz 2 m).1 k).2 ∧ n + (comR t lz (pacR t lz 2 m).1 k).1 = lz ∧ k ≤ (comR t lz (pacR t lz 2 m).1 k).1) (fun (k : Nat) => mk7 σ b (pz f0 False (comR t lz (pacR t lz 2 m).1 k).1 0) f1 f2 f3 f4 f5 f6) (fun (k : Nat) => [(1, .int (nI 0)), (0, .ref (G b))]) (lz - (pacR t lz 2 m).1) 0 (⟨trivial, hq9, Nat.zero_le _⟩) ?_
              intro n k hK ih2
              obtain ⟨hK1, hK2, hK3⟩ := hK
              refine v_aload_n 1 dX6_read_124 rfl rfl ?_
              refine m_geti (k := 11) hM rfl inX6_read_X6 (by decide) (by decide +kernel) rfl dX6_read_125 ?_
              refine v_topi (nI 0) (pz_11f _ _ _) ?_
              refine v_if_neN 150 (by omega) dX6_read_128 rfl (fun h128 => ?_) (fun h128 => ?_)
              · skip
                omega
              · skip
                refine v_aload_n 1 dX6_read_131 rfl rfl ?_
                refine m_geti (k := 10) hM rfl inX6_read_X6 (by decide) (by decide +kernel) rfl dX6_read_132 ?_
                refine v_topi (nI ((comR t lz (pacR t lz 2 m).1 k).1)) (pz_10 _ _ _ _) ?_
                refine v_aload_n 1 dX6_read_135 rfl rfl ?_
                refine m_geti (k := 9) hM rfl inX6_read_X6 (by decide) (by decide +kernel) rfl dX6_read_136 ?_
                refine v_topi (nI lz) ((pz_9 _ _ _ _).trans hl) ?_
                refine v_icmp_geN 150 (by omega) (by omega) dX6_read_139 rfl (fun h139 => ?_) (fun h139 => ?_)
                · skip
                  refine v_vret rfl dX6_read_150 ⟨rfl, congrArg (φ shp) ?_⟩
                  · rw [prs_0 hw hd (by rw [hm]; exact hp2), hm, comR_stay (t := t) (lz := lz) (q := (pacR t lz 2 m).1) (show k ≤ 100 by omega) (fun z9 => by have := z9.2; omega)]; exact congrArg (fun z9 => mk7 σ b z9 f1 f2 f3 f4 f5 f6) (pz_pt hK1 rfl)
                · skip
                  refine v_aload_n 1 dX6_read_142 rfl rfl ?_
                  refine v_iload_n 0 dX6_read_143 rfl rfl ?_
                  refine u_callVn [.int (nI 0)] [] 1 (c_X6_command_0 lu Dg E N G shp σ hM f0 f1 f2 f3 f4 f5 f6 hl h100 ht (p := (comR t lz (pacR t lz 2 m).1 k).1) (lo := 0) (by omega) (by omega)) (ci := 6) (C := RX6) (T := TX6) (NF := 13) hM.n hM.s rfl gX6_read_X6_command rfl rfl rfl (by decide +kernel) rfl ⟨Nat.le_of_ble_eq_true rfl, Nat.le_of_ble_eq_true rfl⟩ ⟨Nat.le_of_ble_eq_true rfl, Nat.le_of_ble_eq_true rfl⟩ (Nat.le_of_ble_eq_true rfl) rfl dX6_read_144 ?_
                  by_cases hb : cmdB t lz (comR t lz (pacR t lz 2 m).1 k).1
                  · skip
                    have hlt9 : (comR t lz (pacR t lz 2 m).1 k).1 < lz := by omega
                    obtain ⟨g1, g2, -⟩ := cmdN_ok hb
                    have es : comR t lz (pacR t lz 2 m).1 (k + 1) = (cmdN t lz (comR t lz (pacR t lz 2 m).1 k).1, cmdB t lz (comR t lz (pacR t lz 2 m).1 k).1) := comR_s hK1 hlt9
                    have es2 : (comR t lz (pacR t lz 2 m).1 (k + 1)).2 := by rw [es]; exact hb
                    have es3 : (comR t lz (pacR t lz 2 m).1 (k + 1)).1 = cmdN t lz (comR t lz (pacR t lz 2 m).1 k).1 := by rw [es]
                    have hq8 : (lz - (comR t lz (pacR t lz 2 m).1 (k + 1)).1) + (comR t lz (pacR t lz 2 m).1 (k + 1)).1 = lz := by omega
                    refine v_σ (mk7 σ b (pz f0 False ((comR t lz (pacR t lz 2 m).1 (k + 1)).1) 0) f1 f2 f3 f4 f5 f6) (congrArg (fun z9 => mk7 σ b z9 f1 f2 f3 f4 f5 f6) ((pz_wt hb).trans (pz_c Iff.rfl es3.symm))) ?_
                    refine v_goto 124 dX6_read_147 rfl ?_
                    refine v_loc [0, 1] [(1, .int (nI 0)), (0, .ref (G b))] rfl ?_
                    exact ih2 _ (k + 1) (show _ < n by omega) (⟨es2, hq8, by omega⟩)
                  · skip
                    have hlt9 : (comR t lz (pacR t lz 2 m).1 k).1 < lz := by omega
                    have es : comR t lz (pacR t lz 2 m).1 (k + 1) = (cmdN t lz (comR t lz (pacR t lz 2 m).1 k).1, cmdB t lz (comR t lz (pacR t lz 2 m).1 k).1) := comR_s hK1 hlt9
                    refine v_σ (mk7 σ b (pz f0 True ((comR t lz (pacR t lz 2 m).1 (k + 1)).1) 0) f1 f2 f3 f4 f5 f6) (congrArg (fun z9 => mk7 σ b z9 f1 f2 f3 f4 f5 f6) ((pz_wf hb).trans (pz_c Iff.rfl (by rw [es])))) ?_
                    refine v_goto 124 dX6_read_147 rfl ?_
                    refine v_aload_n 1 dX6_read_124 rfl rfl ?_
                    refine m_geti (k := 11) hM rfl inX6_read_X6 (by decide) (by decide +kernel) rfl dX6_read_125 ?_
                    refine v_topi (nI 1) (pz_11t _ _ _) ?_
                    refine v_if_neN 150 (by omega) dX6_read_128 rfl (fun h128 => ?_) (fun h128 => ?_)
                    · skip
                      refine v_vret rfl dX6_read_150 ⟨rfl, congrArg (φ shp) ?_⟩
                      · rw [prs_0 hw hd (by rw [hm]; exact hp2), hm, comR_stay (t := t) (lz := lz) (q := (pacR t lz 2 m).1) (show k + 1 ≤ 100 by omega) (fun z9 => hb (by rw [es] at z9; exact z9.1))]; exact congrArg (fun z9 => mk7 σ b z9 f1 f2 f3 f4 f5 f6) (pz_pf (by rw [es]; exact hb) rfl)
                    · skip
                      omega
            · skip
              have hle := pacR_le t lz 2 j
              refine v_aload_n 3 dX6_read_86 rfl rfl ?_
              refine m_geti (k := 11) hM rfl inX6_read_X6 (by decide) (by decide +kernel) rfl dX6_read_87 ?_
              refine v_topi (nI 0) (pz_11f _ _ _) ?_
              refine v_if_neN 124 (by omega) dX6_read_90 rfl (fun h90 => ?_) (fun h90 => ?_)
              · skip
                omega
              · skip
                refine v_aload_n 3 dX6_read_93 rfl rfl ?_
                refine u_callVv [] [] 0 (c_X6_pace lu Dg E N G shp σ hM f0 f1 f2 f3 f4 f5 f6 hl h100 ht (p := (pacR t lz 2 j).1) (lo := 0) (by omega)) (ci := 6) (C := RX6) (T := TX6) (NF := 13) hM.n hM.s rfl gX6_read_X6_pace rfl rfl rfl (by decide +kernel) rfl ⟨Nat.le_of_ble_eq_true rfl, Nat.le_of_ble_eq_true rfl⟩ ⟨Nat.le_of_ble_eq_true rfl, Nat.le_of_ble_eq_true rfl⟩ (Nat.le_of_ble_eq_true rfl) rfl dX6_read_94 ?_
                by_cases hb : paceB t lz (pacR t lz 2 j).1
                · skip
                  have es1 : (pacR t lz 2 (j + 1)).2 := by rw [pacR_s hL2]; exact hb
                  refine v_σ (mk7 σ b (pz f0 False ((pacR t lz 2 (j + 1)).1) 0) f1 f2 f3 f4 f5 f6) (congrArg (fun z9 => mk7 σ b z9 f1 f2 f3 f4 f5 f6) ((pz_wt hb).trans (pz_c Iff.rfl (by rw [pacR_s hL2])))) ?_
                  refine v_istore [(4, .int (pacV t lz ((pacR t lz 2 j).1))), (3, .int (nI j)), (2, .int (nI m)), (1, .int (nI 0)), (0, .ref (G b))] dX6_read_97 (by decide) rfl ?_
                  refine v_iload_n 3 dX6_read_99 rfl rfl ?_
                  refine v_if_eqN 118 (by omega) dX6_read_100 rfl (fun hx100 => ?_) (fun hx100 => ?_)
                  · skip
                    refine v_iincN 1 [(3, .int (nI (j + 1))), (4, .int (pacV t lz ((pacR t lz 2 j).1))), (2, .int (nI m)), (1, .int (nI 0)), (0, .ref (G b))] dX6_read_118 rfl (by decide) rfl ?_
                    refine v_goto 81 dX6_read_121 rfl ?_
                    refine v_loc [0, 2, 3, 4] [(3, .int (nI (j + 1))), (2, .int (nI m)), (1, .int (nI 0)), (0, .ref (G b))] rfl ?_
                    exact ih _ (j + 1) (show n - 1 < n by omega) (⟨by omega, es1⟩)
                  · skip
                    omega
                · skip
                  have en1 : ¬ (pacR t lz 2 (j + 1)).2 := by rw [pacR_s hL2]; exact hb
                  refine v_σ (mk7 σ b (pz f0 True ((pacR t lz 2 (j + 1)).1) 0) f1 f2 f3 f4 f5 f6) (congrArg (fun z9 => mk7 σ b z9 f1 f2 f3 f4 f5 f6) ((pz_wf hb).trans (pz_c Iff.rfl (by rw [pacR_s hL2])))) ?_
                  refine v_istore [(4, .int (pacV t lz ((pacR t lz 2 j).1))), (3, .int (nI j)), (2, .int (nI m)), (1, .int (nI 0)), (0, .ref (G b))] dX6_read_97 (by decide) rfl ?_
                  refine v_iload_n 3 dX6_read_99 rfl rfl ?_
                  refine v_if_eqN 118 (by omega) dX6_read_100 rfl (fun hx100 => ?_) (fun hx100 => ?_)
                  · skip
                    refine v_iincN 1 [(3, .int (nI (j + 1))), (4, .int (pacV t lz ((pacR t lz 2 j).1))), (2, .int (nI m)), (1, .int (nI 0)), (0, .ref (G b))] dX6_read_118 rfl (by decide) rfl ?_
                    refine v_goto 81 dX6_read_121 rfl ?_
                    refine v_iload_n 0 dX6_read_81 rfl rfl ?_
                    refine v_iload_n 2 dX6_read_82 rfl rfl ?_
                    refine v_icmp_geN 124 (by omega) (by omega) dX6_read_83 rfl (fun h83 => ?_) (fun h83 => ?_)
                    · skip
                      exact absurd hp2 (by rw [pacR_stay (t := t) (lz := lz) (q := 2) (show j + 1 ≤ m by omega) en1]; exact en1)
                    · skip
                      refine v_aload_n 4 dX6_read_86 rfl rfl ?_
                      refine m_geti (k := 11) hM rfl inX6_read_X6 (by decide) (by decide +kernel) rfl dX6_read_87 ?_
                      refine v_topi (nI 1) (pz_11t _ _ _) ?_
                      refine v_if_neN 124 (by omega) dX6_read_90 rfl (fun h90 => ?_) (fun h90 => ?_)
                      · skip
                        exact absurd hp2 (by rw [pacR_stay (t := t) (lz := lz) (q := 2) (show j + 1 ≤ m by omega) en1]; exact en1)
                      · skip
                        omega
                  · skip
                    omega
          · skip
            omega
        · skip
          omega
      · skip
        omega
    · skip
      exact absurd ((hW (by omega)).mpr ((tkW_iff (by omega)).mp hw).2) h26

/-- read, nothing done -/
theorem c_X6_read_0 (lu : Launch) (Dg : va_G) (E : Nat → ClassId) (N : Nat) (G : Nat → Nat) (shp : Nat → (Nat → Int32) → va_E) (σ : Nat → Nat → Int32) {b : Nat} (hM : ModS E G shp N b) (f0 f1 f2 f3 f4 f5 f6 : Nat → Int32) {t : Nat → Int32} {lz : Nat} (hl : f0 9 = nI lz) (h100 : lz ≤ 100) (ht : ∀ k, k < lz → f6 k &&& nI 255 = t k) (hW : 0 < lz → (f6 0 = nI 87 ↔ t 0 = nI 87)) : CS lu yX6_read wsX6_read { frames := 7, cells := 0, slots := 0, locals := 158 } Dg E N G shp (mk7 σ b f0 f1 f2 f3 f4 f5 f6) [.ref (G b), .int (nI 0)] none (mk7 σ b (pz f0 (¬ (prs t lz).2) (prs t lz).1 0) f1 f2 f3 f4 f5 f6) := by
  by_cases hw : tkB t lz (nI 87) (nI 87) 0
  · by_cases hd : tkB t lz (nI 49) (nI 51) 1
    · by_cases hp2 : (pacR t lz 2 (dgN t 1)).2
      · exact c_X6_read_p lu Dg E N G shp σ hM f0 f1 f2 f3 f4 f5 f6 hl h100 ht hW hw hd hp2
      · exact c_X6_read_l lu Dg E N G shp σ hM f0 f1 f2 f3 f4 f5 f6 hl h100 ht hW hw hd hp2
    · exact c_X6_read_d lu Dg E N G shp σ hM f0 f1 f2 f3 f4 f5 f6 hl h100 ht hW hw hd
  · exact c_X6_read_w lu Dg E N G shp σ hM f0 f1 f2 f3 f4 f5 f6 hl h100 ht hW hw