/-- the lines of a day, opened one after another -/
def lnS (t : Nat → Int32) : Nat → Nat → Int32 | 0 => beginF | k + 1 => upd (upd (lnS t k) (10 + k) (nI (nmN t (2 + 2 * k)))) 1 (nI (k + 1))
theorem lnS_1 (t : Nat → Int32) : ∀ k, lnS t k 1 = nI k
  | 0 => rfl
  | k + 1 => by show upd _ 1 (nI (k + 1)) 1 = _; rw [upd_ap, if_pos rfl]
/-- the commands of a day, done one after another: the state, and how many are left out -/
noncomputable def mR (t : Nat → Int32) (lz q : Nat) (s : Nat → Int32) : Nat → (Nat → Int32) × Nat | 0 => (s, 0) | k + 1 => ic ((comR t lz q k).1 < lz) (docS t (comR t lz q k).1 (mR t lz q s k).1, (mR t lz q s k).2 + ic (docP t (comR t lz q k).1 (mR t lz q s k).1) 0 1) (mR t lz q s k)
theorem mR_s {t : Nat → Int32} {lz q k : Nat} {s : Nat → Int32} (h : (comR t lz q k).1 < lz) : mR t lz q s (k + 1) = (docS t (comR t lz q k).1 (mR t lz q s k).1, (mR t lz q s k).2 + ic (docP t (comR t lz q k).1 (mR t lz q s k).1) 0 1) := ic_t h
theorem comR_b {t : Nat → Int32} {lz q k m : Nat} (hk : k ≤ m) (h : (comR t lz q m).2) : (comR t lz q k).2 :=
  Classical.byContradiction (fun z => z (comR_stay hk (fun z9 => z z9.1) ▸ h))
theorem mR_stay {t : Nat → Int32} {lz q : Nat} {s : Nat → Int32} : ∀ {k j : Nat}, k ≤ j → ¬ (comR t lz q k).1 < lz → mR t lz q s j = mR t lz q s k
  | k, 0, h, hn => by have e : k = 0 := by omega
                      rw [e]
  | k, j + 1, h, hn => by
    by_cases e : k = j + 1
    · rw [e]
    · have hkj : k ≤ j := by omega
      have ih := mR_stay (s := s) hkj hn
      have ec := comR_stay (t := t) (lz := lz) (q := q) hkj (fun z => hn z.2)
      show ic ((comR t lz q j).1 < lz) _ (mR t lz q s j) = _
      rw [ic_f (by rw [ec]; exact hn), ih]
theorem docS_inv {t s : Nat → Int32} {lz p T : Nat} (h : Inv T s) (hT : T + 9 ≤ 1000000) (hB : cmdB t lz p) : Inv (T + 9) (docS t p s) := by
  have h0 := h.mono (U := T + 9) (by omega) hT
  have hl := (cmdN_ok hB).2.2
  have e9 := chrT_of (t := t) hl
  unfold docS
  by_cases q : docP t p s
  · rw [ic_t q]
    rcases cmdB_cases hB with c | c | c | c | c
    · rw [cmdB_c c] at hB
      have l1 := dgN_of (by omega) (by omega) hB.1 (by omega)
      have l2 := dgN_of (by omega) (by omega) hB.2 (by omega)
      have l3 : 48 + dgN t (p + 2) ≤ 50 := l2.2.2
      rw [e9] at c
      rw [docP_c c] at q
      rw [docX_c c]
      have hk := come_ok h (by omega) q
      exact h0.comes hk.1 hk.2.1 hk.2.2
    · rw [cmdB_g c] at hB
      have l1 := (pers_of hB).2.1
      rw [e9] at c
      rw [docP_g c] at q
      rw [docX_g c]
      have hk := go_ok h (by omega) q
      exact h0.goes hk.1 hk.2
    · rw [cmdB_j c] at hB
      have l1 := (pers_of hB).2.1
      rw [e9] at c
      rw [docP_j c] at q
      rw [docX_j c]
      have hk := jump_ok h (by omega) q
      exact h0.jumps hk.1 hk.2.1
    · rw [cmdB_t c] at hB
      have l1 := dgN_of (by omega) (by omega) hB (by omega)
      rw [e9] at c
      rw [docX_t c]
      exact (h.goBy (n := dgN t (p + 1)) (by omega)).mono (by omega) hT
    · rw [cmdB_x c] at hB
      have l1 := (pers_of hB.1).2.1
      have h2 := hB.2
      rw [(pers_of hB.1).2.2.1] at h2
      have l2 : nmN t (p + 3) < 30 := (pers_of h2).2.1
      rw [e9] at c
      rw [docP_x c] at q
      rw [docX_x c]
      have hk := exch_ok h (by omega) (by omega) q
      exact h0.exch hk.1 hk.2.1 hk.2.2
  · rw [ic_f q]; exact h0
theorem mR_inv {t s : Nat → Int32} {lz q T : Nat} (h : Inv T s) (hK : (comR t lz q 100).2) : ∀ {k : Nat}, k ≤ 100 → T + 9 * k ≤ 1000000 → Inv (T + 9 * k) (mR t lz q s k).1
  | 0, _, _ => h
  | k + 1, hk, hT => by
    have ih := mR_inv h hK (k := k) (by omega) (by omega)
    show Inv _ (ic ((comR t lz q k).1 < lz) _ (mR t lz q s k)).1
    by_cases hl : (comR t lz q k).1 < lz
    · rw [ic_t hl]
      have h1 := comR_b (show k ≤ 100 by omega) hK
      have h2 := comR_b (show k + 1 ≤ 100 by omega) hK
      rw [comR_s h1 hl] at h2
      exact docS_inv ih (by omega) h2
    · rw [ic_f hl]; exact ih.mono (by omega) (by omega)
/-- what a day makes -/
noncomputable def ldS (t : Nat → Int32) (lz : Nat) : (Nat → Int32) × Nat := mR t lz (2 + 2 * dgN t 1) (lnS t (dgN t 1)) 100
theorem prs_ok {t : Nat → Int32} {lz : Nat} (h : (prs t lz).2) : tkB t lz (nI 87) (nI 87) 0 ∧ tkB t lz (nI 49) (nI 51) 1 ∧ (pacR t lz 2 (dgN t 1)).2 ∧ (comR t lz (2 + 2 * dgN t 1) 100).2 := by
  by_cases hw : tkB t lz (nI 87) (nI 87) 0
  · by_cases hd : tkB t lz (nI 49) (nI 51) 1
    · by_cases hp : (pacR t lz 2 (dgN t 1)).2
      · rw [prs_0 hw hd hp, (pacR_ok hp).1] at h
        exact ⟨hw, hd, hp, h⟩
      · rw [prs_l hw hd hp] at h; exact absurd h (fun z => z)
    · rw [prs_d hw hd] at h; exact absurd h (fun z => z)
  · rw [prs_w hw] at h; exact absurd h (fun z => z)
set_option maxHeartbeats 4000000 in
set_option maxRecDepth 100000 in
/-- read: a day, done -/
theorem c_X6_read_1 (lu : Launch) (Dg : va_G) (E : Nat → ClassId) (N : Nat) (G : Nat → Nat) (shp : Nat → (Nat → Int32) → va_E) (σ : Nat → Nat → Int32) {b : Nat} (hM : ModS E G shp N b) (f0 f1 f2 f3 f4 f5 f6 : Nat → Int32)  {t : Nat → Int32} {lz : Nat} (hl : f0 9 = nI lz) (h100 : lz ≤ 100) (ht : ∀ k, k < lz → f6 k &&& nI 255 = t k) (hW : 0 < lz → (f6 0 = nI 87 ↔ t 0 = nI 87)) (hI : Inv 0 (lnS t (dgN t 1))) (hok : (prs t lz).2)  : CS lu yX6_read wsX6_read { frames := 7, cells := 0, slots := 0, locals := 158 } Dg E N G shp (mk7 σ b f0 f1 f2 f3 f4 f5 f6) [.ref (G b), .int (nI 1)] none (mk7 σ b (pz (upd f0 5 (nI 0)) False (lz) ((ldS t lz).2)) ((ldS t lz).1) f2 f3 f4 (upd (upd f5 0 (nI 0)) 1 (nI 0)) f6) := by
  refine CS.of (cc := cX6_read) (maxL := 6) (ret := none) (by decide) rfl (Nat.le_of_ble_eq_true rfl) ?_
  intro p_ e_ s_ m_ args_ below_ meth_ c_
  refine v_eq (pc' := 0) (st' := []) rfl rfl ?_
  refine v_loc [0, 1] [(0, .ref (G b)), (1, .int (nI 1))] rfl ?_
  obtain ⟨hw, hd, hp2, hK⟩ := prs_ok hok
  obtain ⟨d1, d2, d3⟩ := dgN_of (by omega) (by omega) hd (by omega)
  have l1 := tk_lt (by omega) hd
  unfold ldS
  obtain ⟨m, hm⟩ : ∃ m, dgN t 1 = m := ⟨_, rfl⟩
  rw [hm] at hp2 d1 d2 d3 hK hI
  rw [hm]
  refine v_aload_n 0 dX6_read_0 rfl rfl ?_
  refine v_iconst (nI 0) dX6_read_1 (by decide +kernel) ?_
  refine m_puti (k := 10) (ty := .int) hM rfl inX6_read_X6 (by decide) (by decide +kernel) rfl rfl (by decide +kernel) ⟨rfl, rfl⟩ dX6_read_2 ?_
  refine v_aload_n 0 dX6_read_5 rfl rfl ?_
  refine v_iconst (nI 0) dX6_read_6 (by decide +kernel) ?_
  refine m_puti (k := 12) (ty := .int) hM rfl inX6_read_X6 (by decide) (by decide +kernel) rfl rfl (by decide +kernel) ⟨rfl, rfl⟩ dX6_read_7 ?_
  refine v_aload_n 0 dX6_read_10 rfl rfl ?_
  refine v_aload_n 0 dX6_read_11 rfl rfl ?_
  refine m_geti (k := 9) hM rfl inX6_read_X6 (by decide) (by decide +kernel) rfl dX6_read_12 ?_
  refine v_topi (nI lz) ((by rw [upd_ap, if_neg (by omega), upd_ap, if_neg (by omega)]; exact hl)) ?_
  refine v_if_eqN 29 (by omega) dX6_read_15 rfl (fun h15 => ?_) (fun h15 => ?_)
  · skip
    exact absurd ((tkW_iff (by omega)).mp hw).1 (by omega)
  · skip
    refine v_aload_n 0 dX6_read_18 rfl rfl ?_
    refine u_getr (k := 8) (C := RX6) (T := TX6) (NF := 13) hM.n hM.s rfl rfl inX6_read_X6 (by decide) (by decide +kernel) rfl dX6_read_19 ?_
    refine v_iconst (nI 0) dX6_read_22 (by decide +kernel) ?_
    refine m_ld6 0 hM (rfl) (by omega) dX6_read_23 ?_
    refine v_bipush (nI 87) dX6_read_24 (by decide +kernel) ?_
    refine v_icmp_eq 33 dX6_read_26 rfl (fun h26 => ?_) (fun h26 => ?_)
    · skip
      refine v_iconst (nI 0) dX6_read_33 (by decide +kernel) ?_
      refine m_puti (k := 11) (ty := .boolean) hM rfl inX6_read_X6 (by decide) (by decide +kernel) rfl rfl (by decide +kernel) bn_0 dX6_read_34 ?_
      refine v_σ (mk7 σ b (pz f0 False 0 0) f1 f2 f3 f4 f5 f6) (congrArg (fun z9 => mk7 σ b z9 f1 f2 f3 f4 f5 f6) (pz_if _)) ?_
      refine v_aload_n 0 dX6_read_37 rfl rfl ?_
      refine v_aload_n 0 dX6_read_38 rfl rfl ?_
      refine m_geti (k := 11) hM rfl inX6_read_X6 (by decide) (by decide +kernel) rfl dX6_read_39 ?_
      refine v_topi (nI 0) (pz_11f _ _ _) ?_
      refine v_if_eqN 49 (by omega) dX6_read_42 rfl (fun h42 => ?_) (fun h42 => ?_)
      · skip
        refine v_iconst (nI 1) dX6_read_49 (by decide +kernel) ?_
        refine m_puti (k := 10) (ty := .int) hM rfl inX6_read_X6 (by decide) (by decide +kernel) rfl rfl (by decide +kernel) ⟨rfl, rfl⟩ dX6_read_50 ?_
        refine v_σ (mk7 σ b (pz f0 False 1 0) f1 f2 f3 f4 f5 f6) (congrArg (fun z9 => mk7 σ b z9 f1 f2 f3 f4 f5 f6) (pz_u10 _ _ _ _ _)) ?_
        refine v_aload_n 0 dX6_read_53 rfl rfl ?_
        refine m_geti (k := 11) hM rfl inX6_read_X6 (by decide) (by decide +kernel) rfl dX6_read_54 ?_
        refine v_topi (nI 0) (pz_11f _ _ _) ?_
        refine v_if_eqN 64 (by omega) dX6_read_57 rfl (fun h57 => ?_) (fun h57 => ?_)
        · skip
          refine v_aload_n 0 dX6_read_64 rfl rfl ?_
          refine v_iconst (nI 1) dX6_read_65 (by decide +kernel) ?_
          refine v_iconst (nI 3) dX6_read_66 (by decide +kernel) ?_
          refine u_callVv [.int (nI 1), .int (nI 3)] [] 2 (c_X6_digit_0 lu Dg E N G shp σ hM f0 f1 f2 f3 f4 f5 f6 hl h100 ht (p := 1) (lo := 0) (by omega) (a := 1) (u := 3) (by omega) (by omega)) (ci := 6) (C := RX6) (T := TX6) (NF := 13) hM.n hM.s rfl gX6_read_X6_digit rfl rfl rfl (by decide +kernel) rfl ⟨Nat.le_of_ble_eq_true rfl, Nat.le_of_ble_eq_true rfl⟩ ⟨Nat.le_of_ble_eq_true rfl, Nat.le_of_ble_eq_true rfl⟩ (Nat.le_of_ble_eq_true rfl) rfl dX6_read_67 ?_
          refine v_σ (mk7 σ b (pz f0 (¬ tkB t lz (nI 49) (nI 51) 1) (tkN t lz (nI 49) (nI 51) 1) 0) f1 f2 f3 f4 f5 f6) (congrArg (fun z9 => mk7 σ b z9 f1 f2 f3 f4 f5 f6) (rfl)) ?_
          refine v_σ (mk7 σ b (pz f0 False 2 0) f1 f2 f3 f4 f5 f6) (congrArg (fun z9 => mk7 σ b z9 f1 f2 f3 f4 f5 f6) ((pz_t hd).symm)) ?_
          refine v_topi (nI m) (by rw [chrM_of l1]; exact d1) ?_
          refine v_istore_n [(2, .int (nI m)), (0, .ref (G b)), (1, .int (nI 1))] dX6_read_70 rfl (by decide) rfl ?_
          refine v_iload_n 2 dX6_read_71 rfl rfl ?_
          refine v_if_eqN 79 (by omega) dX6_read_72 rfl (fun h72 => ?_) (fun h72 => ?_)
          · skip
            omega
          · skip
            refine v_aload_n 1 dX6_read_75 rfl rfl ?_
            refine u_callVn [] [] 0 (c_X6_begin lu Dg E N G shp σ hM (pz f0 False 2 0) f1 f2 f3 f4 f5 f6) (ci := 6) (C := RX6) (T := TX6) (NF := 13) hM.n hM.s rfl gX6_read_X6_begin rfl rfl rfl (by decide +kernel) rfl ⟨Nat.le_of_ble_eq_true rfl, Nat.le_of_ble_eq_true rfl⟩ ⟨Nat.le_of_ble_eq_true rfl, Nat.le_of_ble_eq_true rfl⟩ (Nat.le_of_ble_eq_true rfl) rfl dX6_read_76 ?_
            refine m_junk1 beginF hM (fun i9 hi9 => (if_pos hi9).symm) ?_
            refine v_σ (mk7 σ b (pz (upd f0 5 (nI 0)) False 2 0) beginF f2 f3 f4 (upd (upd f5 0 (nI 0)) 1 (nI 0)) f6) (congrArg (fun z9 => mk7 σ b z9 beginF f2 f3 f4 (upd (upd f5 0 (nI 0)) 1 (nI 0)) f6) (pz_u5 _ _ _ _ _)) ?_
            have hl0 := hl
            have hl : (upd f0 5 (nI 0)) 9 = nI lz := by rw [upd_ap, if_neg (by omega)]; exact hl0
            refine v_iconst (nI 0) dX6_read_79 (by decide +kernel) ?_
            refine v_istore_n [(3, .int (nI 0)), (2, .int (nI m)), (0, .ref (G b)), (1, .int (nI 1))] dX6_read_80 rfl (by decide) rfl ?_
            refine v_loc [0, 1, 3, 2] [(3, .int (nI 0)), (2, .int (nI m)), (1, .int (nI 1)), (0, .ref (G b))] rfl ?_
            refine u_loop1 (fun n (j : Nat) => j + n = m) (fun (j : Nat) => mk7 σ b (pz (upd f0 5 (nI 0)) False (2 + 2 * j) (0)) (lnS t j) f2 f3 f4 (upd (upd f5 0 (nI 0)) 1 (nI 0)) f6) (fun (j : Nat) => [(3, .int (nI j)), (2, .int (nI m)), (1, .int (nI 1)), (0, .ref (G b))]) (m) 0 ((by omega)) ?_
            intro n j hL ih
            refine v_iload_n 0 dX6_read_81 rfl rfl ?_
            refine v_iload_n 1 dX6_read_82 rfl rfl ?_
            refine v_icmp_geN 124 (by omega) (by omega) dX6_read_83 rfl (fun h83 => ?_) (fun h83 => ?_)
            · skip
              have hjm : j = m := by omega
              obtain ⟨hp9, hp8⟩ := pacR_ok hp2
              have hp7 := hp8 (by omega)
              have hq9 : lz - (2 + 2 * m) + (2 + 2 * m) = lz := by omega
              refine v_σ (mk7 σ b (pz (upd f0 5 (nI 0)) False ((comR t lz (2 + 2 * m) 0).1) ((mR t lz (2 + 2 * m) (lnS t m) 0).2)) (lnS t j) f2 f3 f4 (upd (upd f5 0 (nI 0)) 1 (nI 0)) f6) (congrArg (fun z9 => mk7 σ b z9 (lnS t j) f2 f3 f4 (upd (upd f5 0 (nI 0)) 1 (nI 0)) f6) (pz_c Iff.rfl (by rw [hjm]; rfl))) ?_
              refine v_σ (mk7 σ b (pz (upd f0 5 (nI 0)) False ((comR t lz (2 + 2 * m) 0).1) ((mR t lz (2 + 2 * m) (lnS t m) 0).2)) ((mR t lz (2 + 2 * m) (lnS t m) 0).1) f2 f3 f4 (upd (upd f5 0 (nI 0)) 1 (nI 0)) f6) (congrArg (fun z9 => mk7 σ b (pz (upd f0 5 (nI 0)) False ((comR t lz (2 + 2 * m) 0).1) ((mR t lz (2 + 2 * m) (lnS t m) 0).2)) z9 f2 f3 f4 (upd (upd f5 0 (nI 0)) 1 (nI 0)) f6) ((by rw [hjm]; rfl))) ?_
              refine v_loc [2, 3] [(1, .int (nI 1)), (0, .ref (G b))] rfl ?_
              refine u_loop1 (fun n (k : Nat) => n + (comR t lz (2 + 2 * m) k).1 = lz ∧ k ≤ (comR t lz (2 + 2 * m) k).1) (fun (k : Nat) => mk7 σ b (pz (upd f0 5 (nI 0)) False ((comR t lz (2 + 2 * m) k).1) ((mR t lz (2 + 2 * m) (lnS t m) k).2)) ((mR t lz (2 + 2 * m) (lnS t m) k).1) f2 f3 f4 (upd (upd f5 0 (nI 0)) 1 (nI 0)) f6) (fun (k : Nat) => [(1, .int (nI 1)), (0, .ref (G b))]) (lz - (2 + 2 * m)) 0 (⟨hq9, Nat.zero_le _⟩) ?_
              intro n k hK9 ih2
              obtain ⟨hK2, hK3⟩ := hK9
              refine v_aload_n 1 dX6_read_124 rfl rfl ?_
              refine m_geti (k := 11) hM rfl inX6_read_X6 (by decide) (by decide +kernel) rfl dX6_read_125 ?_
              refine v_topi (nI 0) (pz_11f _ _ _) ?_
              refine v_if_neN 150 (by omega) dX6_read_128 rfl (fun h128 => ?_) (fun h128 => ?_)
              · skip
                omega
              · skip
                refine v_aload_n 1 dX6_read_131 rfl rfl ?_
                refine m_geti (k := 10) hM rfl inX6_read_X6 (by decide) (by decide +kernel) rfl dX6_read_132 ?_
                refine v_topi (nI ((comR t lz (2 + 2 * m) k).1)) (pz_10 _ _ _ _) ?_
                refine v_aload_n 1 dX6_read_135 rfl rfl ?_
                refine m_geti (k := 9) hM rfl inX6_read_X6 (by decide) (by decide +kernel) rfl dX6_read_136 ?_
                refine v_topi (nI lz) ((pz_9 _ _ _ _).trans hl) ?_
                refine v_icmp_geN 150 (by omega) (by omega) dX6_read_139 rfl (fun h139 => ?_) (fun h139 => ?_)
                · skip
                  have hK1 := comR_b (show k ≤ 100 by omega) hK
                  have hle : (comR t lz (2 + 2 * m) k).1 = lz := by omega
                  refine v_vret rfl dX6_read_150 ⟨rfl, congrArg (φ shp) ?_⟩
                  · rw [mR_stay (t := t) (lz := lz) (q := (2 + 2 * m)) (s := lnS t m) (show k ≤ 100 by omega) (by omega), hle]
                · skip
                  have hK1 := comR_b (show k ≤ 100 by omega) hK
                  have hK0 := comR_b (show k + 1 ≤ 100 by omega) hK
                  have es := comR_s hK1 (show (comR t lz (2 + 2 * m) k).1 < lz by omega)
                  have hb : cmdB t lz (comR t lz (2 + 2 * m) k).1 := by rw [es] at hK0; exact hK0
                  obtain ⟨g1, g2, -⟩ := cmdN_ok hb
                  have iv := mR_inv (T := 0) hI hK (k := k) (by omega) (by omega)
                  refine v_aload_n 1 dX6_read_142 rfl rfl ?_
                  refine v_iload_n 0 dX6_read_143 rfl rfl ?_
                  refine u_callVn [.int (nI 1)] [] 1 (c_X6_command_1 lu Dg E N G shp σ hM (upd f0 5 (nI 0)) ((mR t lz (2 + 2 * m) (lnS t m) k).1) f2 f3 f4 (upd (upd f5 0 (nI 0)) 1 (nI 0)) f6 hl h100 ht (p := (comR t lz (2 + 2 * m) k).1) (lo := (mR t lz (2 + 2 * m) (lnS t m) k).2) (by omega) (by omega) iv (by omega) hb) (ci := 6) (C := RX6) (T := TX6) (NF := 13) hM.n hM.s rfl gX6_read_X6_command rfl rfl rfl (by decide +kernel) rfl ⟨Nat.le_of_ble_eq_true rfl, Nat.le_of_ble_eq_true rfl⟩ ⟨Nat.le_of_ble_eq_true rfl, Nat.le_of_ble_eq_true rfl⟩ (Nat.le_of_ble_eq_true rfl) rfl dX6_read_144 ?_
                  have em := mR_s (s := lnS t m) (show (comR t lz (2 + 2 * m) k).1 < lz by omega)
                  have es3 : (comR t lz (2 + 2 * m) (k + 1)).1 = cmdN t lz (comR t lz (2 + 2 * m) k).1 := by rw [es]
                  have hq8 : (lz - (comR t lz (2 + 2 * m) (k + 1)).1) + (comR t lz (2 + 2 * m) (k + 1)).1 = lz := by omega
                  refine v_σ (mk7 σ b (pz (upd f0 5 (nI 0)) False ((comR t lz (2 + 2 * m) (k + 1)).1) ((mR t lz (2 + 2 * m) (lnS t m) (k + 1)).2)) (docS t ((comR t lz (2 + 2 * m) k).1) ((mR t lz (2 + 2 * m) (lnS t m) k).1)) f2 f3 f4 (upd (upd f5 0 (nI 0)) 1 (nI 0)) f6) (congrArg (fun z9 => mk7 σ b z9 (docS t ((comR t lz (2 + 2 * m) k).1) ((mR t lz (2 + 2 * m) (lnS t m) k).1)) f2 f3 f4 (upd (upd f5 0 (nI 0)) 1 (nI 0)) f6) (by rw [em, es3])) ?_
                  refine v_σ (mk7 σ b (pz (upd f0 5 (nI 0)) False ((comR t lz (2 + 2 * m) (k + 1)).1) ((mR t lz (2 + 2 * m) (lnS t m) (k + 1)).2)) ((mR t lz (2 + 2 * m) (lnS t m) (k + 1)).1) f2 f3 f4 (upd (upd f5 0 (nI 0)) 1 (nI 0)) f6) (congrArg (fun z9 => mk7 σ b (pz (upd f0 5 (nI 0)) False ((comR t lz (2 + 2 * m) (k + 1)).1) ((mR t lz (2 + 2 * m) (lnS t m) (k + 1)).2)) z9 f2 f3 f4 (upd (upd f5 0 (nI 0)) 1 (nI 0)) f6) ((by rw [em]))) ?_
                  refine v_goto 124 dX6_read_147 rfl ?_
                  refine v_loc [0, 1] [(1, .int (nI 1)), (0, .ref (G b))] rfl ?_
                  exact ih2 _ (k + 1) (show _ < n by omega) (⟨hq8, by omega⟩)
            · skip
              have hj1 := pacR_b (show j + 1 ≤ m by omega) hp2
              have hj0 := pacR_b (show j ≤ m by omega) hp2
              obtain ⟨e0, -⟩ := pacR_ok hj0
              have hb : paceB t lz (2 + 2 * j) := by rw [pacR_s hj0] at hj1; rw [← e0]; exact hj1
              obtain ⟨a1, a2, a3, a4, a5, -⟩ := pace_of hb
              refine v_aload_n 3 dX6_read_86 rfl rfl ?_
              refine m_geti (k := 11) hM rfl inX6_read_X6 (by decide) (by decide +kernel) rfl dX6_read_87 ?_
              refine v_topi (nI 0) (pz_11f _ _ _) ?_
              refine v_if_neN 124 (by omega) dX6_read_90 rfl (fun h90 => ?_) (fun h90 => ?_)
              · skip
                omega
              · skip
                refine v_aload_n 3 dX6_read_93 rfl rfl ?_
                refine u_callVv [] [] 0 (c_X6_pace lu Dg E N G shp σ hM (upd f0 5 (nI 0)) (lnS t j) f2 f3 f4 (upd (upd f5 0 (nI 0)) 1 (nI 0)) f6 hl h100 ht (p := 2 + 2 * j) (lo := 0) (by omega)) (ci := 6) (C := RX6) (T := TX6) (NF := 13) hM.n hM.s rfl gX6_read_X6_pace rfl rfl rfl (by decide +kernel) rfl ⟨Nat.le_of_ble_eq_true rfl, Nat.le_of_ble_eq_true rfl⟩ ⟨Nat.le_of_ble_eq_true rfl, Nat.le_of_ble_eq_true rfl⟩ (Nat.le_of_ble_eq_true rfl) rfl dX6_read_94 ?_
                refine v_σ (mk7 σ b (pz (upd f0 5 (nI 0)) False (2 + 2 * (j + 1)) 0) (lnS t j) f2 f3 f4 (upd (upd f5 0 (nI 0)) 1 (nI 0)) f6) (congrArg (fun z9 => mk7 σ b z9 (lnS t j) f2 f3 f4 (upd (upd f5 0 (nI 0)) 1 (nI 0)) f6) ((pz_wt hb).trans (pz_c Iff.rfl (a4.trans (by omega))))) ?_
                refine v_topi (nI (nmN t (2 + 2 * j))) (a1) ?_
                refine v_istore [(4, .int (nI (nmN t (2 + 2 * j)))), (3, .int (nI j)), (2, .int (nI m)), (1, .int (nI 1)), (0, .ref (G b))] dX6_read_97 (by decide) rfl ?_
                refine v_iload_n 3 dX6_read_99 rfl rfl ?_
                refine v_if_eqN 118 (by omega) dX6_read_100 rfl (fun hx100 => ?_) (fun hx100 => ?_)
                · skip
                  omega
                · skip
                  refine v_aload_n 4 dX6_read_103 rfl rfl ?_
                  refine m_geti (k := 11) hM rfl inX6_read_X6 (by decide) (by decide +kernel) rfl dX6_read_104 ?_
                  refine v_topi (nI 0) (pz_11f _ _ _) ?_
                  refine v_if_neN 118 (by omega) dX6_read_107 rfl (fun h107 => ?_) (fun h107 => ?_)
                  · skip
                    omega
                  · skip
                    refine v_aload_n 4 dX6_read_110 rfl rfl ?_
                    refine v_iload 0 dX6_read_111 rfl ?_
                    refine u_callVv [.int (nI (nmN t (2 + 2 * j)))] [] 1 (c_X6_lineOf lu Dg E N G shp σ hM (pz (upd f0 5 (nI 0)) False (2 + 2 * (j + 1)) 0) (lnS t j) f2 f3 f4 (upd (upd f5 0 (nI 0)) 1 (nI 0)) f6 (m := j) (lnS_1 t j) (by omega) (nI (nmN t (2 + 2 * j)))) (ci := 6) (C := RX6) (T := TX6) (NF := 13) hM.n hM.s rfl gX6_read_X6_lineOf rfl rfl rfl (by decide +kernel) rfl ⟨Nat.le_of_ble_eq_true rfl, Nat.le_of_ble_eq_true rfl⟩ ⟨Nat.le_of_ble_eq_true rfl, Nat.le_of_ble_eq_true rfl⟩ (Nat.le_of_ble_eq_true rfl) rfl dX6_read_113 ?_
                    refine v_σ (mk7 σ b (pz (upd f0 5 (nI 0)) False (2 + 2 * (j + 1)) 0) (lnS t (j + 1)) f2 f3 f4 (upd (upd f5 0 (nI 0)) 1 (nI 0)) f6) (congrArg (fun z9 => mk7 σ b (pz (upd f0 5 (nI 0)) False (2 + 2 * (j + 1)) 0) z9 f2 f3 f4 (upd (upd f5 0 (nI 0)) 1 (nI 0)) f6) (rfl)) ?_
                    refine v_istore [(5, .int (nI j)), (4, .int (nI (nmN t (2 + 2 * j)))), (3, .int (nI j)), (2, .int (nI m)), (1, .int (nI 1)), (0, .ref (G b))] dX6_read_116 (by decide) rfl ?_
                    refine v_iincN 2 [(3, .int (nI (j + 1))), (5, .int (nI j)), (4, .int (nI (nmN t (2 + 2 * j)))), (2, .int (nI m)), (1, .int (nI 1)), (0, .ref (G b))] dX6_read_118 rfl (by decide) rfl ?_
                    refine v_goto 81 dX6_read_121 rfl ?_
                    refine v_loc [0, 3, 4, 5] [(3, .int (nI (j + 1))), (2, .int (nI m)), (1, .int (nI 1)), (0, .ref (G b))] rfl ?_
                    exact ih _ (j + 1) (show n - 1 < n by omega) (by omega)
        · skip
          omega
      · skip
        omega
    · skip
      exact absurd ((hW (by omega)).mpr ((tkW_iff (by omega)).mp hw).2) h26

set_option maxRecDepth 100000 in
theorem inX6_errorPosition_X6 : ∀ w ∈ wsX60, w ∈ wsX6_errorPosition := by decide +kernel
set_option maxHeartbeats 4000000 in
set_option maxRecDepth 100000 in
/-- errorPosition -/
theorem c_X6_errorPosition (lu : Launch) (Dg : va_G) (E : Nat → ClassId) (N : Nat) (G : Nat → Nat) (shp : Nat → (Nat → Int32) → va_E) (σ : Nat → Nat → Int32) {b : Nat} (hM : ModS E G shp N b) (f0 f1 f2 f3 f4 f5 f6 : Nat → Int32)  {t : Nat → Int32} {lz : Nat} (hl : f0 9 = nI lz) (h100 : lz ≤ 100) (ht : ∀ k, k < lz → f6 k &&& nI 255 = t k) (hW : 0 < lz → (f6 0 = nI 87 ↔ t 0 = nI 87))  : CS lu yX6_errorPosition wsX6_errorPosition { frames := 8, cells := 0, slots := 0, locals := 183 } Dg E N G shp (mk7 σ b f0 f1 f2 f3 f4 f5 f6) [.ref (G b)] (some (.int (ic (prs t lz).2 (-1) (nI (prs t lz).1)))) (mk7 σ b (pz (upd f0 0 (nI 0)) (¬ (prs t lz).2) (prs t lz).1 0) f1 f2 f3 f4 f5 f6) := by
  refine CS.of (cc := cX6_errorPosition) (maxL := 1) (ret := (some .int)) (by decide) rfl (Nat.le_of_ble_eq_true rfl) ?_
  intro p_ e_ s_ m_ args_ below_ meth_ c_
  refine v_eq (pc' := 0) (st' := []) rfl rfl ?_
  refine v_loc [0] [(0, .ref (G b))] rfl ?_
  refine v_aload_n 0 dX6_errorPosition_0 rfl rfl ?_
  refine v_iconst (nI 0) dX6_errorPosition_1 (by decide +kernel) ?_
  refine m_puti (k := 0) (ty := .int) hM rfl inX6_errorPosition_X6 (by decide) (by decide +kernel) rfl rfl (by decide +kernel) ⟨rfl, rfl⟩ dX6_errorPosition_2 ?_
  refine v_aload_n 0 dX6_errorPosition_5 rfl rfl ?_
  refine v_iconst (nI 0) dX6_errorPosition_6 (by decide +kernel) ?_
  refine u_callVn [.int (nI 0)] [] 1 (c_X6_read_0 lu Dg E N G shp σ hM (upd f0 0 (nI 0)) f1 f2 f3 f4 f5 f6 (by rw [upd_ap, if_neg (by omega)]; exact hl) h100 ht hW) (ci := 6) (C := RX6) (T := TX6) (NF := 13) hM.n hM.s rfl gX6_errorPosition_X6_read rfl rfl rfl (by decide +kernel) rfl ⟨Nat.le_of_ble_eq_true rfl, Nat.le_of_ble_eq_true rfl⟩ ⟨Nat.le_of_ble_eq_true rfl, Nat.le_of_ble_eq_true rfl⟩ (Nat.le_of_ble_eq_true rfl) rfl dX6_errorPosition_7 ?_
  refine v_aload_n 0 dX6_errorPosition_10 rfl rfl ?_
  refine m_geti (k := 11) hM rfl inX6_errorPosition_X6 (by decide) (by decide +kernel) rfl dX6_errorPosition_11 ?_
  refine v_topi (bi (¬ (prs t lz).2)) (pz_11 _ _ _ _) ?_
  refine v_if_eqB 24 dX6_errorPosition_14 rfl (fun h14 => ?_) (fun h14 => ?_)
  · skip
    refine v_iconst ((-1)) dX6_errorPosition_24 (by decide +kernel) ?_
    refine v_iret rfl dX6_errorPosition_25 ⟨congrArg (fun z => some (Value.int z)) ?_, congrArg (φ shp) ?_⟩
    · rw [ic_t (Classical.not_not.mp h14)]
    · rfl
  · skip
    refine v_aload_n 0 dX6_errorPosition_17 rfl rfl ?_
    refine m_geti (k := 10) hM rfl inX6_errorPosition_X6 (by decide) (by decide +kernel) rfl dX6_errorPosition_18 ?_
    refine v_topi (nI ((prs t lz).1)) (pz_10 _ _ _ _) ?_
    refine v_goto 25 dX6_errorPosition_21 rfl ?_
    refine v_iret rfl dX6_errorPosition_25 ⟨congrArg (fun z => some (Value.int z)) ?_, congrArg (φ shp) ?_⟩
    · rw [ic_f h14]
    · rfl

set_option maxRecDepth 100000 in
theorem inX6_load_X6 : ∀ w ∈ wsX60, w ∈ wsX6_load := by decide +kernel
set_option maxHeartbeats 4000000 in
set_option maxRecDepth 100000 in
/-- load: no day -/
theorem c_X6_load_1 (lu : Launch) (Dg : va_G) (E : Nat → ClassId) (N : Nat) (G : Nat → Nat) (shp : Nat → (Nat → Int32) → va_E) (σ : Nat → Nat → Int32) {b : Nat} (hM : ModS E G shp N b) (f0 f1 f2 f3 f4 f5 f6 : Nat → Int32)  {t : Nat → Int32} {lz : Nat} (hl : f0 9 = nI lz) (h100 : lz ≤ 100) (ht : ∀ k, k < lz → f6 k &&& nI 255 = t k) (hW : 0 < lz → (f6 0 = nI 87 ↔ t 0 = nI 87)) (hok : ¬ (prs t lz).2)  : CS lu yX6_load wsX6_load { frames := 8, cells := 0, slots := 0, locals := 183 } Dg E N G shp (mk7 σ b f0 f1 f2 f3 f4 f5 f6) [.ref (G b)] (some (.int (nI 0))) (mk7 σ b (pz (upd f0 0 (nI 1)) (¬ (prs t lz).2) (prs t lz).1 0) f1 f2 f3 f4 f5 f6) := by
  refine CS.of (cc := cX6_load) (maxL := 1) (ret := (some .int)) (by decide) rfl (Nat.le_of_ble_eq_true rfl) ?_
  intro p_ e_ s_ m_ args_ below_ meth_ c_
  refine v_eq (pc' := 0) (st' := []) rfl rfl ?_
  refine v_loc [0] [(0, .ref (G b))] rfl ?_
  refine v_aload_n 0 dX6_load_0 rfl rfl ?_
  refine v_iconst (nI 0) dX6_load_1 (by decide +kernel) ?_
  refine u_callVn [.int (nI 0)] [] 1 (c_X6_read_0 lu Dg E N G shp σ hM f0 f1 f2 f3 f4 f5 f6 hl h100 ht hW) (ci := 6) (C := RX6) (T := TX6) (NF := 13) hM.n hM.s rfl gX6_load_X6_read rfl rfl rfl (by decide +kernel) rfl ⟨Nat.le_of_ble_eq_true rfl, Nat.le_of_ble_eq_true rfl⟩ ⟨Nat.le_of_ble_eq_true rfl, Nat.le_of_ble_eq_true rfl⟩ (Nat.le_of_ble_eq_true rfl) rfl dX6_load_2 ?_
  refine v_aload_n 0 dX6_load_5 rfl rfl ?_
  refine v_aload_n 0 dX6_load_6 rfl rfl ?_
  refine m_geti (k := 11) hM rfl inX6_load_X6 (by decide) (by decide +kernel) rfl dX6_load_7 ?_
  refine v_topi (bi (¬ (prs t lz).2)) (pz_11 _ _ _ _) ?_
  refine v_if_eqB 17 dX6_load_10 rfl (fun h10 => ?_) (fun h10 => ?_)
  · skip
    exact absurd h10 (fun z9 => z9 hok)
  · skip
    refine v_iconst (nI 1) dX6_load_13 (by decide +kernel) ?_
    refine v_goto 18 dX6_load_14 rfl ?_
    refine u_callVv [.int (nI 1)] [] 1 (c_X6_holds lu Dg E N G shp σ hM (pz f0 (¬ (prs t lz).2) ((prs t lz).1) 0) f1 f2 f3 f4 f5 f6 1 (by omega)) (ci := 6) (C := RX6) (T := TX6) (NF := 13) hM.n hM.s rfl gX6_load_X6_holds rfl rfl rfl (by decide +kernel) rfl ⟨Nat.le_of_ble_eq_true rfl, Nat.le_of_ble_eq_true rfl⟩ ⟨Nat.le_of_ble_eq_true rfl, Nat.le_of_ble_eq_true rfl⟩ (Nat.le_of_ble_eq_true rfl) rfl dX6_load_18 ?_
    refine v_σ (mk7 σ b (pz (upd f0 0 (nI 1)) (¬ (prs t lz).2) ((prs t lz).1) 0) f1 f2 f3 f4 f5 f6) (congrArg (fun z9 => mk7 σ b z9 f1 f2 f3 f4 f5 f6) (pz_u0 _ _ _ _ _)) ?_
    refine v_if_neB 26 dX6_load_21 rfl (fun h21 => ?_) (fun h21 => ?_)
    · skip
      exact absurd h21 (by decide)
    · skip
      refine v_iconst (nI 0) dX6_load_24 (by decide +kernel) ?_
      refine v_iret rfl dX6_load_25 ⟨congrArg (fun z => some (Value.int z)) ?_, congrArg (φ shp) ?_⟩
      · rfl
      · rfl

set_option maxHeartbeats 4000000 in
set_option maxRecDepth 100000 in
/-- load: a day -/
theorem c_X6_load_0 (lu : Launch) (Dg : va_G) (E : Nat → ClassId) (N : Nat) (G : Nat → Nat) (shp : Nat → (Nat → Int32) → va_E) (σ : Nat → Nat → Int32) {b : Nat} (hM : ModS E G shp N b) (f0 f1 f2 f3 f4 f5 f6 : Nat → Int32)  {t : Nat → Int32} {lz : Nat} (hl : f0 9 = nI lz) (h100 : lz ≤ 100) (ht : ∀ k, k < lz → f6 k &&& nI 255 = t k) (hW : 0 < lz → (f6 0 = nI 87 ↔ t 0 = nI 87)) (hI : Inv 0 (lnS t (dgN t 1))) (hok : (prs t lz).2)  : CS lu yX6_load wsX6_load { frames := 8, cells := 0, slots := 0, locals := 183 } Dg E N G shp (mk7 σ b f0 f1 f2 f3 f4 f5 f6) [.ref (G b)] (some (.int (nI ((ldS t lz).2)))) (mk7 σ b (pz (upd (pz (upd f0 0 (nI 0)) (¬ (prs t lz).2) (prs t lz).1 0) 5 (nI 0)) False lz (ldS t lz).2) (ldS t lz).1 f2 f3 f4 (upd (upd f5 0 (nI 0)) 1 (nI 0)) f6) := by
  refine CS.of (cc := cX6_load) (maxL := 1) (ret := (some .int)) (by decide) rfl (Nat.le_of_ble_eq_true rfl) ?_
  intro p_ e_ s_ m_ args_ below_ meth_ c_
  refine v_eq (pc' := 0) (st' := []) rfl rfl ?_
  refine v_loc [0] [(0, .ref (G b))] rfl ?_
  refine v_aload_n 0 dX6_load_0 rfl rfl ?_
  refine v_iconst (nI 0) dX6_load_1 (by decide +kernel) ?_
  refine u_callVn [.int (nI 0)] [] 1 (c_X6_read_0 lu Dg E N G shp σ hM f0 f1 f2 f3 f4 f5 f6 hl h100 ht hW) (ci := 6) (C := RX6) (T := TX6) (NF := 13) hM.n hM.s rfl gX6_load_X6_read rfl rfl rfl (by decide +kernel) rfl ⟨Nat.le_of_ble_eq_true rfl, Nat.le_of_ble_eq_true rfl⟩ ⟨Nat.le_of_ble_eq_true rfl, Nat.le_of_ble_eq_true rfl⟩ (Nat.le_of_ble_eq_true rfl) rfl dX6_load_2 ?_
  refine v_aload_n 0 dX6_load_5 rfl rfl ?_
  refine v_aload_n 0 dX6_load_6 rfl rfl ?_
  refine m_geti (k := 11) hM rfl inX6_load_X6 (by decide) (by decide +kernel) rfl dX6_load_7 ?_
  refine v_topi (bi (¬ (prs t lz).2)) (pz_11 _ _ _ _) ?_
  refine v_if_eqB 17 dX6_load_10 rfl (fun h10 => ?_) (fun h10 => ?_)
  · skip
    refine v_iconst (nI 0) dX6_load_17 (by decide +kernel) ?_
    refine u_callVv [.int (nI 0)] [] 1 (c_X6_holds lu Dg E N G shp σ hM (pz f0 (¬ (prs t lz).2) ((prs t lz).1) 0) f1 f2 f3 f4 f5 f6 0 (by omega)) (ci := 6) (C := RX6) (T := TX6) (NF := 13) hM.n hM.s rfl gX6_load_X6_holds rfl rfl rfl (by decide +kernel) rfl ⟨Nat.le_of_ble_eq_true rfl, Nat.le_of_ble_eq_true rfl⟩ ⟨Nat.le_of_ble_eq_true rfl, Nat.le_of_ble_eq_true rfl⟩ (Nat.le_of_ble_eq_true rfl) rfl dX6_load_18 ?_
    refine v_σ (mk7 σ b (pz (upd f0 0 (nI 0)) (¬ (prs t lz).2) ((prs t lz).1) 0) f1 f2 f3 f4 f5 f6) (congrArg (fun z9 => mk7 σ b z9 f1 f2 f3 f4 f5 f6) (pz_u0 _ _ _ _ _)) ?_
    refine v_if_neB 26 dX6_load_21 rfl (fun h21 => ?_) (fun h21 => ?_)
    · skip
      refine v_aload_n 0 dX6_load_26 rfl rfl ?_
      refine v_iconst (nI 1) dX6_load_27 (by decide +kernel) ?_
      refine u_callVn [.int (nI 1)] [] 1 (c_X6_read_1 lu Dg E N G shp σ hM (pz (upd f0 0 (nI 0)) (¬ (prs t lz).2) ((prs t lz).1) 0) f1 f2 f3 f4 f5 f6 ((pz_9 _ _ _ _).trans (by rw [upd_ap, if_neg (by omega)]; exact hl)) h100 ht hW hI hok) (ci := 6) (C := RX6) (T := TX6) (NF := 13) hM.n hM.s rfl gX6_load_X6_read rfl rfl rfl (by decide +kernel) rfl ⟨Nat.le_of_ble_eq_true rfl, Nat.le_of_ble_eq_true rfl⟩ ⟨Nat.le_of_ble_eq_true rfl, Nat.le_of_ble_eq_true rfl⟩ (Nat.le_of_ble_eq_true rfl) rfl dX6_load_28 ?_
      refine v_aload_n 0 dX6_load_31 rfl rfl ?_
      refine m_geti (k := 12) hM rfl inX6_load_X6 (by decide) (by decide +kernel) rfl dX6_load_32 ?_
      refine v_topi (nI ((ldS t lz).2)) (pz_12 _ _ _ _) ?_
      refine v_iret rfl dX6_load_35 ⟨congrArg (fun z => some (Value.int z)) ?_, congrArg (φ shp) ?_⟩
      · rfl
      · rfl
    · skip
      exact absurd rfl h21
  · skip
    exact absurd hok h10
