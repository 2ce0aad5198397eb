theorem cmdB_c {t : Nat → Int32} {lz p : Nat} (q : chrT t lz p = nI 99) : cmdB t lz p = (tkB t lz (nI 48) (nI 50) (p + 1) ∧ tkB t lz (nI 48) (nI 50) (p + 1 + 1)) := by unfold cmdB; rw [ic_t q]
theorem cmdN_c {t : Nat → Int32} {lz p : Nat} (q : chrT t lz p = nI 99) : cmdN t lz p = ic (tkB t lz (nI 48) (nI 50) (p + 1)) (tkN t lz (nI 48) (nI 50) (p + 1 + 1)) (p + 1) := by unfold cmdN; rw [ic_t q]
theorem cmdB_g {t : Nat → Int32} {lz p : Nat} (q : chrT t lz p = nI 103) : cmdB t lz p = persB t lz (p + 1) := by unfold cmdB; rw [ic_f (P := chrT t lz p = nI 99) (by rw [q]; decide +kernel), ic_t q]
theorem cmdN_g {t : Nat → Int32} {lz p : Nat} (q : chrT t lz p = nI 103) : cmdN t lz p = persN t lz (p + 1) := by unfold cmdN; rw [ic_f (P := chrT t lz p = nI 99) (by rw [q]; decide +kernel), ic_t q]
theorem cmdB_j {t : Nat → Int32} {lz p : Nat} (q : chrT t lz p = nI 106) : cmdB t lz p = persB t lz (p + 1) := by unfold cmdB; rw [ic_f (P := chrT t lz p = nI 99) (by rw [q]; decide +kernel), ic_f (P := chrT t lz p = nI 103) (by rw [q]; decide +kernel), ic_t q]
theorem cmdN_j {t : Nat → Int32} {lz p : Nat} (q : chrT t lz p = nI 106) : cmdN t lz p = persN t lz (p + 1) := by unfold cmdN; rw [ic_f (P := chrT t lz p = nI 99) (by rw [q]; decide +kernel), ic_f (P := chrT t lz p = nI 103) (by rw [q]; decide +kernel), ic_t q]
theorem cmdB_t {t : Nat → Int32} {lz p : Nat} (q : chrT t lz p = nI 116) : cmdB t lz p = tkB t lz (nI 49) (nI 57) (p + 1) := by unfold cmdB; rw [ic_f (P := chrT t lz p = nI 99) (by rw [q]; decide +kernel), ic_f (P := chrT t lz p = nI 103) (by rw [q]; decide +kernel), ic_f (P := chrT t lz p = nI 106) (by rw [q]; decide +kernel), ic_t q]
theorem cmdN_t {t : Nat → Int32} {lz p : Nat} (q : chrT t lz p = nI 116) : cmdN t lz p = tkN t lz (nI 49) (nI 57) (p + 1) := by unfold cmdN; rw [ic_f (P := chrT t lz p = nI 99) (by rw [q]; decide +kernel), ic_f (P := chrT t lz p = nI 103) (by rw [q]; decide +kernel), ic_f (P := chrT t lz p = nI 106) (by rw [q]; decide +kernel), ic_t q]
theorem cmdB_x {t : Nat → Int32} {lz p : Nat} (q : chrT t lz p = nI 120) : cmdB t lz p = (persB t lz (p + 1) ∧ persB t lz (persN t lz (p + 1))) := by unfold cmdB; rw [ic_f (P := chrT t lz p = nI 99) (by rw [q]; decide +kernel), ic_f (P := chrT t lz p = nI 103) (by rw [q]; decide +kernel), ic_f (P := chrT t lz p = nI 106) (by rw [q]; decide +kernel), ic_f (P := chrT t lz p = nI 116) (by rw [q]; decide +kernel), ic_t q]
theorem cmdN_x {t : Nat → Int32} {lz p : Nat} (q : chrT t lz p = nI 120) : cmdN t lz p = ic (persB t lz (p + 1)) (persN t lz (persN t lz (p + 1))) (persN t lz (p + 1)) := by unfold cmdN; rw [ic_f (P := chrT t lz p = nI 99) (by rw [q]; decide +kernel), ic_f (P := chrT t lz p = nI 103) (by rw [q]; decide +kernel), ic_f (P := chrT t lz p = nI 106) (by rw [q]; decide +kernel), ic_f (P := chrT t lz p = nI 116) (by rw [q]; decide +kernel), ic_t q]
theorem cmdB_n {t : Nat → Int32} {lz p : Nat} (q99 : ¬ chrT t lz p = nI 99) (q103 : ¬ chrT t lz p = nI 103) (q106 : ¬ chrT t lz p = nI 106) (q116 : ¬ chrT t lz p = nI 116) (q120 : ¬ chrT t lz p = nI 120) : ¬ cmdB t lz p := by
  unfold cmdB; rw [ic_f q99, ic_f q103, ic_f q106, ic_f q116, ic_f q120]; exact fun z => z
theorem cmdN_n {t : Nat → Int32} {lz p : Nat} (q99 : ¬ chrT t lz p = nI 99) (q103 : ¬ chrT t lz p = nI 103) (q106 : ¬ chrT t lz p = nI 106) (q116 : ¬ chrT t lz p = nI 116) (q120 : ¬ chrT t lz p = nI 120) : cmdN t lz p = p := by unfold cmdN; rw [ic_f q99, ic_f q103, ic_f q106, ic_f q116, ic_f q120]
theorem cmdB_cases {t : Nat → Int32} {lz p : Nat} (h : cmdB t lz p) : chrT t lz p = nI 99 ∨ chrT t lz p = nI 103 ∨ chrT t lz p = nI 106 ∨ chrT t lz p = nI 116 ∨ chrT t lz p = nI 120 := by
  by_cases q99 : chrT t lz p = nI 99
  · exact Or.inl q99
  by_cases q103 : chrT t lz p = nI 103
  · exact Or.inr (Or.inl q103)
  by_cases q106 : chrT t lz p = nI 106
  · exact Or.inr (Or.inr (Or.inl q106))
  by_cases q116 : chrT t lz p = nI 116
  · exact Or.inr (Or.inr (Or.inr (Or.inl q116)))
  by_cases q120 : chrT t lz p = nI 120
  · exact Or.inr (Or.inr (Or.inr (Or.inr q120)))
  · exact absurd h (cmdB_n q99 q103 q106 q116 q120)
/-- the digit at a place; the number of two digits -/
def dgN (t : Nat → Int32) (x : Nat) : Nat := tn (t x - nI 48)
def nmN (t : Nat → Int32) (x : Nat) : Nat := 10 * dgN t x + dgN t (x + 1)
theorem dgN_of {t : Nat → Int32} {lz p a u : Nat} (ha : 48 ≤ a) (hu : u < 2 ^ 31) (h : tkB t lz (nI a) (nI u) p) (ha2 : a < 2 ^ 31) : t p - nI 48 = nI (dgN t p) ∧ a ≤ 48 + dgN t p ∧ 48 + dgN t p ≤ u := by
  have hl := tk_lt ha2 h
  have e := chrT_of (t := t) hl
  have h1 : nI a ≤ t p := by rw [← e]; exact h.1
  have h2 : t p ≤ nI u := by rw [← e]; exact h.2
  have h0 : ¬ t p < 0 := by
    refine Int32.not_lt.mpr (Int32.le_trans ?_ h1)
    exact Int32.not_lt.mp (nI_pos ha2)
  obtain ⟨j, hj, ej⟩ := nI_of h0
  rw [ej] at h1 h2
  have g1 := (nI_leI ha2 hj).mp h1
  have g2 := (nI_leI hj hu).mp h2
  have e2 : t p - nI 48 = nI (j - 48) := by rw [ej, pk_sub (by omega)]
  have e3 : dgN t p = j - 48 := by unfold dgN; rw [e2]; exact nI_clamp (by omega)
  rw [e3]
  exact ⟨e2, by omega, by omega⟩
theorem pers_of {t : Nat → Int32} {lz p : Nat} (h : persB t lz p) : whoV t lz p = nI (nmN t p) ∧ nmN t p < 30 ∧ persN t lz p = p + 2 ∧ p + 1 < lz ∧ nI 10 * (chrT t lz p - nI 48) + (chrT t lz (p + 1) - nI 48) = nI (nmN t p) := by
  obtain ⟨a1, a2, a3⟩ := dgN_of (by omega) (by omega) h.1 (by omega)
  obtain ⟨b1, b2, b3⟩ := dgN_of (by omega) (by omega) h.2 (by omega)
  have l1 := tk_lt (by omega) h.1
  have l2 := tk_lt (by omega) h.2
  have e1 : tkN t lz (nI 48) (nI 50) p = p + 1 := by unfold tkN; rw [ic_t h.1]
  have e2 : tkN t lz (nI 48) (nI 57) (p + 1) = p + 2 := by unfold tkN; rw [ic_t h.2]
  have e3 : nI 10 * nI (dgN t p) + nI (dgN t (p + 1)) = nI (nmN t p) := by rw [pk_mul, nI_add]; rfl
  refine ⟨?_, by unfold nmN; omega, by unfold persN; rw [ic_t h.1]; exact e2, l2, ?_⟩
  · unfold whoV
    rw [e1, chrM_of l1, chrM_of l2, a1, b1]; exact e3
  · rw [chrT_of l1, chrT_of l2, a1, b1]; exact e3
/-- a command of a text: whether it is done; the state behind it -/
noncomputable def docP (t : Nat → Int32) (p : Nat) (s : Nat → Int32) : Prop := ic (t p = nI 99) (comeFl s (nI (dgN t (p + 2))) (nI (dgN t (p + 1))) = 0) (ic (t p = nI 103) (goFl s (nI (nmN t (p + 1))) = 0) (ic (t p = nI 106) (jumpFl s (nI (nmN t (p + 1))) = 0) (ic (t p = nI 116) True (exchFl s (nI (nmN t (p + 1))) (nI (nmN t (p + 3))) = 0))))
noncomputable def docX (t : Nat → Int32) (p : Nat) (s : Nat → Int32) : Nat → Int32 := ic (t p = nI 99) (comesS s (dgN t (p + 2)) (dgN t (p + 1))) (ic (t p = nI 103) (goesS s (nmN t (p + 1))) (ic (t p = nI 106) (jumpsS s (nmN t (p + 1))) (ic (t p = nI 116) (goByS s (dgN t (p + 1))) (exchS s (nmN t (p + 1)) (nmN t (p + 3))))))
noncomputable def docS (t : Nat → Int32) (p : Nat) (s : Nat → Int32) : Nat → Int32 := ic (docP t p s) (docX t p s) s
theorem docP_c {t s : Nat → Int32} {p : Nat} (q : t p = nI 99) : docP t p s = (comeFl s (nI (dgN t (p + 2))) (nI (dgN t (p + 1))) = 0) := by unfold docP; rw [ic_t q]
theorem docX_c {t s : Nat → Int32} {p : Nat} (q : t p = nI 99) : docX t p s = comesS s (dgN t (p + 2)) (dgN t (p + 1)) := by unfold docX; rw [ic_t q]
theorem docP_g {t s : Nat → Int32} {p : Nat} (q : t p = nI 103) : docP t p s = (goFl s (nI (nmN t (p + 1))) = 0) := by unfold docP; rw [ic_f (P := t p = nI 99) (by rw [q]; decide +kernel), ic_t q]
theorem docX_g {t s : Nat → Int32} {p : Nat} (q : t p = nI 103) : docX t p s = goesS s (nmN t (p + 1)) := by unfold docX; rw [ic_f (P := t p = nI 99) (by rw [q]; decide +kernel), ic_t q]
theorem docP_j {t s : Nat → Int32} {p : Nat} (q : t p = nI 106) : docP t p s = (jumpFl s (nI (nmN t (p + 1))) = 0) := by unfold docP; rw [ic_f (P := t p = nI 99) (by rw [q]; decide +kernel), ic_f (P := t p = nI 103) (by rw [q]; decide +kernel), ic_t q]
theorem docX_j {t s : Nat → Int32} {p : Nat} (q : t p = nI 106) : docX t p s = jumpsS s (nmN t (p + 1)) := by unfold docX; rw [ic_f (P := t p = nI 99) (by rw [q]; decide +kernel), ic_f (P := t p = nI 103) (by rw [q]; decide +kernel), ic_t q]
theorem docP_t {t s : Nat → Int32} {p : Nat} (q : t p = nI 116) : docP t p s = True := by unfold docP; rw [ic_f (P := t p = nI 99) (by rw [q]; decide +kernel), ic_f (P := t p = nI 103) (by rw [q]; decide +kernel), ic_f (P := t p = nI 106) (by rw [q]; decide +kernel), ic_t q]
theorem docX_t {t s : Nat → Int32} {p : Nat} (q : t p = nI 116) : docX t p s = goByS s (dgN t (p + 1)) := by unfold docX; rw [ic_f (P := t p = nI 99) (by rw [q]; decide +kernel), ic_f (P := t p = nI 103) (by rw [q]; decide +kernel), ic_f (P := t p = nI 106) (by rw [q]; decide +kernel), ic_t q]
theorem docP_x {t s : Nat → Int32} {p : Nat} (q : t p = nI 120) : docP t p s = (exchFl s (nI (nmN t (p + 1))) (nI (nmN t (p + 3))) = 0) := by unfold docP; rw [ic_f (P := t p = nI 99) (by rw [q]; decide +kernel), ic_f (P := t p = nI 103) (by rw [q]; decide +kernel), ic_f (P := t p = nI 106) (by rw [q]; decide +kernel), ic_f (P := t p = nI 116) (by rw [q]; decide +kernel)]
theorem docX_x {t s : Nat → Int32} {p : Nat} (q : t p = nI 120) : docX t p s = exchS s (nmN t (p + 1)) (nmN t (p + 3)) := by unfold docX; rw [ic_f (P := t p = nI 99) (by rw [q]; decide +kernel), ic_f (P := t p = nI 103) (by rw [q]; decide +kernel), ic_f (P := t p = nI 106) (by rw [q]; decide +kernel), ic_f (P := t p = nI 116) (by rw [q]; decide +kernel)]
set_option maxRecDepth 100000 in
theorem inX6_command_X6 : ∀ w ∈ wsX60, w ∈ wsX6_command := by decide +kernel
set_option maxHeartbeats 4000000 in
set_option maxRecDepth 100000 in
/-- command, only read -/
theorem c_X6_command_c (lu : Launch) (Dg : va_G) (E : Nat → ClassId) (N : Nat) (G : Nat → Nat) (shp : Nat → (Nat → Int32) → va_E) (σ : Nat → Nat → Int32) {b : Nat} (hM : ModS E G shp N b) (f0 f1 f2 f3 f4 f5 f6 : Nat → Int32)  {t : Nat → Int32} {lz : Nat} (hl : f0 9 = nI lz) (h100 : lz ≤ 100) (ht : ∀ k, k < lz → f6 k &&& nI 255 = t k) {p lo : Nat} (hp : p < 2 ^ 18) (hpl : p < lz) (q9 : t p = nI 99)  : CS lu yX6_command wsX6_command { frames := 6, cells := 0, slots := 0, locals := 134 } Dg E N G shp (mk7 σ b (pz f0 False p lo) f1 f2 f3 f4 f5 f6) [.ref (G b), .int (nI 0)] none (mk7 σ b (pz f0 (¬ cmdB t lz p) (cmdN t lz p) lo) f1 f2 f3 f4 f5 f6) := by
  refine CS.of (cc := cX6_command) (maxL := 5) (ret := none) (by decide) rfl (Nat.le_of_ble_eq_true rfl) ?_
  intro p_ e_ s_ m_ args_ below_ meth_ c_
  refine v_eq (pc' := 0) (st' := []) rfl rfl ?_
  refine v_loc [0, 1] [(0, .ref (G b)), (1, .int (nI 0))] rfl ?_
  have qq := (chrT_of (t := t) hpl).trans q9
  refine v_aload_n 0 dX6_command_0 rfl rfl ?_
  refine u_getr (k := 8) (C := RX6) (T := TX6) (NF := 13) hM.n hM.s rfl rfl inX6_command_X6 (by decide) (by decide +kernel) rfl dX6_command_1 ?_
  refine v_aload_n 0 dX6_command_4 rfl rfl ?_
  refine m_geti (k := 10) hM rfl inX6_command_X6 (by decide) (by decide +kernel) rfl dX6_command_5 ?_
  refine v_topi (nI p) (pz_10 _ _ _ _) ?_
  refine m_ld6 p hM (rfl) (by omega) dX6_command_8 ?_
  refine v_sipush (nI 255) dX6_command_9 (by decide +kernel) ?_
  refine v_iand dX6_command_12 ?_
  refine v_topi (nI 99) ((ht p hpl).trans q9) ?_
  refine v_istore_n [(2, .int (nI 99)), (0, .ref (G b)), (1, .int (nI 0))] dX6_command_13 rfl (by decide) rfl ?_
  refine v_aload_n 1 dX6_command_14 rfl rfl ?_
  refine v_iload_n 0 dX6_command_15 rfl rfl ?_
  refine v_bipush (nI 99) dX6_command_16 (by decide +kernel) ?_
  refine v_icmp_eqN 49 (by omega) (by omega) dX6_command_18 rfl (fun h18 => ?_) (fun h18 => ?_)
  · skip
    refine v_iconst (nI 0) dX6_command_49 (by decide +kernel) ?_
    refine m_puti (k := 11) (ty := .boolean) hM rfl inX6_command_X6 (by decide) (by decide +kernel) rfl rfl (by decide +kernel) bn_0 dX6_command_50 ?_
    refine v_σ (mk7 σ b (pz f0 False p lo) f1 f2 f3 f4 f5 f6) (congrArg (fun z9 => mk7 σ b z9 f1 f2 f3 f4 f5 f6) (pz_u11f _ _ _ _)) ?_
    refine v_aload_n 1 dX6_command_53 rfl rfl ?_
    refine v_dup dX6_command_54 rfl ?_
    refine m_geti (k := 10) hM rfl inX6_command_X6 (by decide) (by decide +kernel) rfl dX6_command_55 ?_
    refine v_topi (nI p) (pz_10 _ _ _ _) ?_
    refine v_aload_n 1 dX6_command_58 rfl rfl ?_
    refine m_geti (k := 11) hM rfl inX6_command_X6 (by decide) (by decide +kernel) rfl dX6_command_59 ?_
    refine v_topi (nI 0) (pz_11f _ _ _) ?_
    refine v_if_eqN 69 (by omega) dX6_command_62 rfl (fun h62 => ?_) (fun h62 => ?_)
    · skip
      refine v_iconst (nI 1) dX6_command_69 (by decide +kernel) ?_
      refine v_iaddN dX6_command_70 ?_
      refine m_puti (k := 10) (ty := .int) hM rfl inX6_command_X6 (by decide) (by decide +kernel) rfl rfl (by decide +kernel) ⟨rfl, rfl⟩ dX6_command_71 ?_
      refine v_σ (mk7 σ b (pz f0 False (p + 1) lo) f1 f2 f3 f4 f5 f6) (congrArg (fun z9 => mk7 σ b z9 f1 f2 f3 f4 f5 f6) (pz_u10 _ _ _ _ _)) ?_
      refine v_aload_n 1 dX6_command_74 rfl rfl ?_
      refine m_geti (k := 11) hM rfl inX6_command_X6 (by decide) (by decide +kernel) rfl dX6_command_75 ?_
      refine v_topi (nI 0) (pz_11f _ _ _) ?_
      refine v_if_eqN 85 (by omega) dX6_command_78 rfl (fun h78 => ?_) (fun h78 => ?_)
      · skip
        refine v_iload_n 0 dX6_command_85 rfl rfl ?_
        refine v_bipush (nI 99) dX6_command_86 (by decide +kernel) ?_
        refine v_icmp_neN 100 (by omega) (by omega) dX6_command_88 rfl (fun h88 => ?_) (fun h88 => ?_)
        · skip
          omega
        · skip
          refine v_aload_n 1 dX6_command_91 rfl rfl ?_
          refine v_iconst (nI 0) dX6_command_92 (by decide +kernel) ?_
          refine v_iconst (nI 2) dX6_command_93 (by decide +kernel) ?_
          refine u_callVv [.int (nI 0), .int (nI 2)] [] 2 (c_X6_digit_0 lu Dg E N G shp σ hM f0 f1 f2 f3 f4 f5 f6 hl h100 ht (p := p + 1) (lo := lo) (by omega) (a := 0) (u := 2) (by omega) (by omega)) (ci := 6) (C := RX6) (T := TX6) (NF := 13) hM.n hM.s rfl gX6_command_X6_digit rfl rfl rfl (by decide +kernel) rfl ⟨Nat.le_of_ble_eq_true rfl, Nat.le_of_ble_eq_true rfl⟩ ⟨Nat.le_of_ble_eq_true rfl, Nat.le_of_ble_eq_true rfl⟩ (Nat.le_of_ble_eq_true rfl) rfl dX6_command_94 ?_
          refine v_σ (mk7 σ b (pz f0 (¬ tkB t lz (nI 48) (nI 50) (p + 1)) (tkN t lz (nI 48) (nI 50) (p + 1)) lo) f1 f2 f3 f4 f5 f6) (congrArg (fun z9 => mk7 σ b z9 f1 f2 f3 f4 f5 f6) (rfl)) ?_
          refine v_goto 120 dX6_command_97 rfl ?_
          by_cases hd1 : tkB t lz (nI 48) (nI 50) (p + 1)
          · skip
            refine v_σ (mk7 σ b (pz f0 False (p + 1 + 1) lo) f1 f2 f3 f4 f5 f6) (congrArg (fun z9 => mk7 σ b z9 f1 f2 f3 f4 f5 f6) ((pz_t hd1).symm)) ?_
            refine v_istore_n [(3, .int (chrM t lz (p + 1) - nI 48)), (2, .int (nI 99)), (0, .ref (G b)), (1, .int (nI 0))] dX6_command_120 rfl (by decide) rfl ?_
            refine v_aload_n 2 dX6_command_121 rfl rfl ?_
            refine m_geti (k := 11) hM rfl inX6_command_X6 (by decide) (by decide +kernel) rfl dX6_command_122 ?_
            refine v_topi (nI 0) (pz_11f _ _ _) ?_
            refine v_if_eqN 132 (by omega) dX6_command_125 rfl (fun h125 => ?_) (fun h125 => ?_)
            · skip
              refine v_iload_n 1 dX6_command_132 rfl rfl ?_
              refine v_bipush (nI 99) dX6_command_133 (by decide +kernel) ?_
              refine v_icmp_neN 147 (by omega) (by omega) dX6_command_135 rfl (fun h135 => ?_) (fun h135 => ?_)
              · skip
                omega
              · skip
                refine v_aload_n 2 dX6_command_138 rfl rfl ?_
                refine v_iconst (nI 0) dX6_command_139 (by decide +kernel) ?_
                refine v_iconst (nI 2) dX6_command_140 (by decide +kernel) ?_
                refine u_callVv [.int (nI 0), .int (nI 2)] [] 2 (c_X6_digit_0 lu Dg E N G shp σ hM f0 f1 f2 f3 f4 f5 f6 hl h100 ht (p := p + 1 + 1) (lo := lo) (by omega) (a := 0) (u := 2) (by omega) (by omega)) (ci := 6) (C := RX6) (T := TX6) (NF := 13) hM.n hM.s rfl gX6_command_X6_digit rfl rfl rfl (by decide +kernel) rfl ⟨Nat.le_of_ble_eq_true rfl, Nat.le_of_ble_eq_true rfl⟩ ⟨Nat.le_of_ble_eq_true rfl, Nat.le_of_ble_eq_true rfl⟩ (Nat.le_of_ble_eq_true rfl) rfl dX6_command_141 ?_
                refine v_σ (mk7 σ b (pz f0 (¬ tkB t lz (nI 48) (nI 50) (p + 1 + 1)) (tkN t lz (nI 48) (nI 50) (p + 1 + 1)) lo) f1 f2 f3 f4 f5 f6) (congrArg (fun z9 => mk7 σ b z9 f1 f2 f3 f4 f5 f6) (rfl)) ?_
                refine v_goto 161 dX6_command_144 rfl ?_
                refine v_istore [(4, .int (chrM t lz (p + 1 + 1) - nI 48)), (3, .int (chrM t lz (p + 1) - nI 48)), (2, .int (nI 99)), (0, .ref (G b)), (1, .int (nI 0))] dX6_command_161 (by decide) rfl ?_
                refine v_iload_n 4 dX6_command_163 rfl rfl ?_
                refine v_if_eqN 199 (by omega) dX6_command_164 rfl (fun h164 => ?_) (fun h164 => ?_)
                · skip
                  refine v_vret rfl dX6_command_199 ⟨rfl, congrArg (φ shp) ?_⟩
                  · exact congrArg (fun z9 => mk7 σ b z9 f1 f2 f3 f4 f5 f6) (pz_c (by rw [cmdB_c qq]; exact ⟨fun z9 z8 => z9 z8.2, fun z9 z8 => z9 ⟨hd1, z8⟩⟩) (by rw [cmdN_c qq, ic_t hd1]))
                · skip
                  omega
            · skip
              omega
          · skip
            refine v_σ (mk7 σ b (pz f0 True (p + 1) lo) f1 f2 f3 f4 f5 f6) (congrArg (fun z9 => mk7 σ b z9 f1 f2 f3 f4 f5 f6) ((pz_f hd1).symm)) ?_
            refine v_istore_n [(3, .int (chrM t lz (p + 1) - nI 48)), (2, .int (nI 99)), (0, .ref (G b)), (1, .int (nI 0))] dX6_command_120 rfl (by decide) rfl ?_
            refine v_aload_n 2 dX6_command_121 rfl rfl ?_
            refine m_geti (k := 11) hM rfl inX6_command_X6 (by decide) (by decide +kernel) rfl dX6_command_122 ?_
            refine v_topi (nI 1) (pz_11t _ _ _) ?_
            refine v_if_eqN 132 (by omega) dX6_command_125 rfl (fun h125 => ?_) (fun h125 => ?_)
            · skip
              omega
            · skip
              refine v_iconst (nI 0) dX6_command_128 (by decide +kernel) ?_
              refine v_goto 161 dX6_command_129 rfl ?_
              refine v_istore [(4, .int (nI 0)), (3, .int (chrM t lz (p + 1) - nI 48)), (2, .int (nI 99)), (0, .ref (G b)), (1, .int (nI 0))] dX6_command_161 (by decide) rfl ?_
              refine v_iload_n 4 dX6_command_163 rfl rfl ?_
              refine v_if_eqN 199 (by omega) dX6_command_164 rfl (fun h164 => ?_) (fun h164 => ?_)
              · skip
                refine v_vret rfl dX6_command_199 ⟨rfl, congrArg (φ shp) ?_⟩
                · exact congrArg (fun z9 => mk7 σ b z9 f1 f2 f3 f4 f5 f6) (pz_c (by rw [cmdB_c qq]; exact ⟨fun _ z8 => hd1 z8.1, fun _ => trivial⟩) (by rw [cmdN_c qq, ic_f hd1]))
              · skip
                omega
      · skip
        omega
    · skip
      omega
  · skip
    omega

set_option maxHeartbeats 4000000 in
set_option maxRecDepth 100000 in
/-- command, only read -/
theorem c_X6_command_t (lu : Launch) (Dg : va_G) (E : Nat → ClassId) (N : Nat) (G : Nat → Nat) (shp : Nat → (Nat → Int32) → va_E) (σ : Nat → Nat → Int32) {b : Nat} (hM : ModS E G shp N b) (f0 f1 f2 f3 f4 f5 f6 : Nat → Int32)  {t : Nat → Int32} {lz : Nat} (hl : f0 9 = nI lz) (h100 : lz ≤ 100) (ht : ∀ k, k < lz → f6 k &&& nI 255 = t k) {p lo : Nat} (hp : p < 2 ^ 18) (hpl : p < lz) (q9 : t p = nI 116)  : CS lu yX6_command wsX6_command { frames := 6, cells := 0, slots := 0, locals := 134 } Dg E N G shp (mk7 σ b (pz f0 False p lo) f1 f2 f3 f4 f5 f6) [.ref (G b), .int (nI 0)] none (mk7 σ b (pz f0 (¬ cmdB t lz p) (cmdN t lz p) lo) f1 f2 f3 f4 f5 f6) := by
  refine CS.of (cc := cX6_command) (maxL := 5) (ret := none) (by decide) rfl (Nat.le_of_ble_eq_true rfl) ?_
  intro p_ e_ s_ m_ args_ below_ meth_ c_
  refine v_eq (pc' := 0) (st' := []) rfl rfl ?_
  refine v_loc [0, 1] [(0, .ref (G b)), (1, .int (nI 0))] rfl ?_
  have qq := (chrT_of (t := t) hpl).trans q9
  refine v_aload_n 0 dX6_command_0 rfl rfl ?_
  refine u_getr (k := 8) (C := RX6) (T := TX6) (NF := 13) hM.n hM.s rfl rfl inX6_command_X6 (by decide) (by decide +kernel) rfl dX6_command_1 ?_
  refine v_aload_n 0 dX6_command_4 rfl rfl ?_
  refine m_geti (k := 10) hM rfl inX6_command_X6 (by decide) (by decide +kernel) rfl dX6_command_5 ?_
  refine v_topi (nI p) (pz_10 _ _ _ _) ?_
  refine m_ld6 p hM (rfl) (by omega) dX6_command_8 ?_
  refine v_sipush (nI 255) dX6_command_9 (by decide +kernel) ?_
  refine v_iand dX6_command_12 ?_
  refine v_topi (nI 116) ((ht p hpl).trans q9) ?_
  refine v_istore_n [(2, .int (nI 116)), (0, .ref (G b)), (1, .int (nI 0))] dX6_command_13 rfl (by decide) rfl ?_
  refine v_aload_n 1 dX6_command_14 rfl rfl ?_
  refine v_iload_n 0 dX6_command_15 rfl rfl ?_
  refine v_bipush (nI 99) dX6_command_16 (by decide +kernel) ?_
  refine v_icmp_eqN 49 (by omega) (by omega) dX6_command_18 rfl (fun h18 => ?_) (fun h18 => ?_)
  · skip
    omega
  · skip
    refine v_iload_n 0 dX6_command_21 rfl rfl ?_
    refine v_bipush (nI 103) dX6_command_22 (by decide +kernel) ?_
    refine v_icmp_eqN 49 (by omega) (by omega) dX6_command_24 rfl (fun h24 => ?_) (fun h24 => ?_)
    · skip
      omega
    · skip
      refine v_iload_n 0 dX6_command_27 rfl rfl ?_
      refine v_bipush (nI 120) dX6_command_28 (by decide +kernel) ?_
      refine v_icmp_eqN 49 (by omega) (by omega) dX6_command_30 rfl (fun h30 => ?_) (fun h30 => ?_)
      · skip
        omega
      · skip
        refine v_iload_n 0 dX6_command_33 rfl rfl ?_
        refine v_bipush (nI 106) dX6_command_34 (by decide +kernel) ?_
        refine v_icmp_eqN 49 (by omega) (by omega) dX6_command_36 rfl (fun h36 => ?_) (fun h36 => ?_)
        · skip
          omega
        · skip
          refine v_iload_n 0 dX6_command_39 rfl rfl ?_
          refine v_bipush (nI 116) dX6_command_40 (by decide +kernel) ?_
          refine v_icmp_eqN 49 (by omega) (by omega) dX6_command_42 rfl (fun h42 => ?_) (fun h42 => ?_)
          · skip
            refine v_iconst (nI 0) dX6_command_49 (by decide +kernel) ?_
            refine m_puti (k := 11) (ty := .boolean) hM rfl inX6_command_X6 (by decide) (by decide +kernel) rfl rfl (by decide +kernel) bn_0 dX6_command_50 ?_
            refine v_σ (mk7 σ b (pz f0 False p lo) f1 f2 f3 f4 f5 f6) (congrArg (fun z9 => mk7 σ b z9 f1 f2 f3 f4 f5 f6) (pz_u11f _ _ _ _)) ?_
            refine v_aload_n 1 dX6_command_53 rfl rfl ?_
            refine v_dup dX6_command_54 rfl ?_
            refine m_geti (k := 10) hM rfl inX6_command_X6 (by decide) (by decide +kernel) rfl dX6_command_55 ?_
            refine v_topi (nI p) (pz_10 _ _ _ _) ?_
            refine v_aload_n 1 dX6_command_58 rfl rfl ?_
            refine m_geti (k := 11) hM rfl inX6_command_X6 (by decide) (by decide +kernel) rfl dX6_command_59 ?_
            refine v_topi (nI 0) (pz_11f _ _ _) ?_
            refine v_if_eqN 69 (by omega) dX6_command_62 rfl (fun h62 => ?_) (fun h62 => ?_)
            · skip
              refine v_iconst (nI 1) dX6_command_69 (by decide +kernel) ?_
              refine v_iaddN dX6_command_70 ?_
              refine m_puti (k := 10) (ty := .int) hM rfl inX6_command_X6 (by decide) (by decide +kernel) rfl rfl (by decide +kernel) ⟨rfl, rfl⟩ dX6_command_71 ?_
              refine v_σ (mk7 σ b (pz f0 False (p + 1) lo) f1 f2 f3 f4 f5 f6) (congrArg (fun z9 => mk7 σ b z9 f1 f2 f3 f4 f5 f6) (pz_u10 _ _ _ _ _)) ?_
              refine v_aload_n 1 dX6_command_74 rfl rfl ?_
              refine m_geti (k := 11) hM rfl inX6_command_X6 (by decide) (by decide +kernel) rfl dX6_command_75 ?_
              refine v_topi (nI 0) (pz_11f _ _ _) ?_
              refine v_if_eqN 85 (by omega) dX6_command_78 rfl (fun h78 => ?_) (fun h78 => ?_)
              · skip
                refine v_iload_n 0 dX6_command_85 rfl rfl ?_
                refine v_bipush (nI 99) dX6_command_86 (by decide +kernel) ?_
                refine v_icmp_neN 100 (by omega) (by omega) dX6_command_88 rfl (fun h88 => ?_) (fun h88 => ?_)
                · skip
                  refine v_iload_n 0 dX6_command_100 rfl rfl ?_
                  refine v_bipush (nI 116) dX6_command_101 (by decide +kernel) ?_
                  refine v_icmp_neN 116 (by omega) (by omega) dX6_command_103 rfl (fun h103 => ?_) (fun h103 => ?_)
                  · skip
                    omega
                  · skip
                    refine v_aload_n 1 dX6_command_106 rfl rfl ?_
                    refine v_iconst (nI 1) dX6_command_107 (by decide +kernel) ?_
                    refine v_bipush (nI 9) dX6_command_108 (by decide +kernel) ?_
                    refine u_callVv [.int (nI 1), .int (nI 9)] [] 2 (c_X6_digit_0 lu Dg E N G shp σ hM f0 f1 f2 f3 f4 f5 f6 hl h100 ht (p := p + 1) (lo := lo) (by omega) (a := 1) (u := 9) (by omega) (by omega)) (ci := 6) (C := RX6) (T := TX6) (NF := 13) hM.n hM.s rfl gX6_command_X6_digit rfl rfl rfl (by decide +kernel) rfl ⟨Nat.le_of_ble_eq_true rfl, Nat.le_of_ble_eq_true rfl⟩ ⟨Nat.le_of_ble_eq_true rfl, Nat.le_of_ble_eq_true rfl⟩ (Nat.le_of_ble_eq_true rfl) rfl dX6_command_110 ?_
                    refine v_σ (mk7 σ b (pz f0 (¬ tkB t lz (nI 49) (nI 57) (p + 1)) (tkN t lz (nI 49) (nI 57) (p + 1)) lo) f1 f2 f3 f4 f5 f6) (congrArg (fun z9 => mk7 σ b z9 f1 f2 f3 f4 f5 f6) (rfl)) ?_
                    refine v_goto 120 dX6_command_113 rfl ?_
                    by_cases hd1 : tkB t lz (nI 49) (nI 57) (p + 1)
                    · skip
                      refine v_σ (mk7 σ b (pz f0 False (tkN t lz (nI 49) (nI 57) (p + 1)) lo) f1 f2 f3 f4 f5 f6) (congrArg (fun z9 => mk7 σ b z9 f1 f2 f3 f4 f5 f6) (pz_wt hd1)) ?_
                      refine v_istore_n [(3, .int (chrM t lz (p + 1) - nI 48)), (2, .int (nI 116)), (0, .ref (G b)), (1, .int (nI 0))] dX6_command_120 rfl (by decide) rfl ?_
                      refine v_aload_n 2 dX6_command_121 rfl rfl ?_
                      refine m_geti (k := 11) hM rfl inX6_command_X6 (by decide) (by decide +kernel) rfl dX6_command_122 ?_
                      refine v_topi (nI 0) (pz_11f _ _ _) ?_
                      refine v_if_eqN 132 (by omega) dX6_command_125 rfl (fun h125 => ?_) (fun h125 => ?_)
                      · skip
                        refine v_iload_n 1 dX6_command_132 rfl rfl ?_
                        refine v_bipush (nI 99) dX6_command_133 (by decide +kernel) ?_
                        refine v_icmp_neN 147 (by omega) (by omega) dX6_command_135 rfl (fun h135 => ?_) (fun h135 => ?_)
                        · skip
                          refine v_iload_n 1 dX6_command_147 rfl rfl ?_
                          refine v_bipush (nI 120) dX6_command_148 (by decide +kernel) ?_
                          refine v_icmp_neN 160 (by omega) (by omega) dX6_command_150 rfl (fun h150 => ?_) (fun h150 => ?_)
                          · skip
                            refine v_iconst (nI 0) dX6_command_160 (by decide +kernel) ?_
                            refine v_istore [(4, .int (nI 0)), (3, .int (chrM t lz (p + 1) - nI 48)), (2, .int (nI 116)), (0, .ref (G b)), (1, .int (nI 0))] dX6_command_161 (by decide) rfl ?_
                            refine v_iload_n 4 dX6_command_163 rfl rfl ?_
                            refine v_if_eqN 199 (by omega) dX6_command_164 rfl (fun h164 => ?_) (fun h164 => ?_)
                            · skip
                              refine v_vret rfl dX6_command_199 ⟨rfl, congrArg (φ shp) ?_⟩
                              · exact congrArg (fun z9 => mk7 σ b z9 f1 f2 f3 f4 f5 f6) (pz_c (by rw [cmdB_t qq]; exact ⟨fun z9 => False.elim z9, fun z9 => z9 hd1⟩) (by rw [cmdN_t qq]))
                            · skip
                              omega
                          · skip
                            omega
                        · skip
                          omega
                      · skip
                        omega
                    · skip
                      refine v_σ (mk7 σ b (pz f0 True (tkN t lz (nI 49) (nI 57) (p + 1)) lo) f1 f2 f3 f4 f5 f6) (congrArg (fun z9 => mk7 σ b z9 f1 f2 f3 f4 f5 f6) (pz_wf hd1)) ?_
                      refine v_istore_n [(3, .int (chrM t lz (p + 1) - nI 48)), (2, .int (nI 116)), (0, .ref (G b)), (1, .int (nI 0))] dX6_command_120 rfl (by decide) rfl ?_
                      refine v_aload_n 2 dX6_command_121 rfl rfl ?_
                      refine m_geti (k := 11) hM rfl inX6_command_X6 (by decide) (by decide +kernel) rfl dX6_command_122 ?_
                      refine v_topi (nI 1) (pz_11t _ _ _) ?_
                      refine v_if_eqN 132 (by omega) dX6_command_125 rfl (fun h125 => ?_) (fun h125 => ?_)
                      · skip
                        omega
                      · skip
                        refine v_iconst (nI 0) dX6_command_128 (by decide +kernel) ?_
                        refine v_goto 161 dX6_command_129 rfl ?_
                        refine v_istore [(4, .int (nI 0)), (3, .int (chrM t lz (p + 1) - nI 48)), (2, .int (nI 116)), (0, .ref (G b)), (1, .int (nI 0))] dX6_command_161 (by decide) rfl ?_
                        refine v_iload_n 4 dX6_command_163 rfl rfl ?_
                        refine v_if_eqN 199 (by omega) dX6_command_164 rfl (fun h164 => ?_) (fun h164 => ?_)
                        · skip
                          refine v_vret rfl dX6_command_199 ⟨rfl, congrArg (φ shp) ?_⟩
                          · exact congrArg (fun z9 => mk7 σ b z9 f1 f2 f3 f4 f5 f6) (pz_c (by rw [cmdB_t qq]; exact ⟨fun _ => hd1, fun _ => trivial⟩) (by rw [cmdN_t qq]))
                        · skip
                          omega
                · skip
                  omega
              · skip
                omega
            · skip
              omega
          · skip
            omega

set_option maxHeartbeats 4000000 in
set_option maxRecDepth 100000 in
/-- command, only read -/
theorem c_X6_command_g (lu : Launch) (Dg : va_G) (E : Nat → ClassId) (N : Nat) (G : Nat → Nat) (shp : Nat → (Nat → Int32) → va_E) (σ : Nat → Nat → Int32) {b : Nat} (hM : ModS E G shp N b) (f0 f1 f2 f3 f4 f5 f6 : Nat → Int32)  {t : Nat → Int32} {lz : Nat} (hl : f0 9 = nI lz) (h100 : lz ≤ 100) (ht : ∀ k, k < lz → f6 k &&& nI 255 = t k) {p lo : Nat} (hp : p < 2 ^ 18) (hpl : p < lz) (q9 : t p = nI 103)  : CS lu yX6_command wsX6_command { frames := 6, cells := 0, slots := 0, locals := 134 } Dg E N G shp (mk7 σ b (pz f0 False p lo) f1 f2 f3 f4 f5 f6) [.ref (G b), .int (nI 0)] none (mk7 σ b (pz f0 (¬ cmdB t lz p) (cmdN t lz p) lo) f1 f2 f3 f4 f5 f6) := by
  refine CS.of (cc := cX6_command) (maxL := 5) (ret := none) (by decide) rfl (Nat.le_of_ble_eq_true rfl) ?_
  intro p_ e_ s_ m_ args_ below_ meth_ c_
  refine v_eq (pc' := 0) (st' := []) rfl rfl ?_
  refine v_loc [0, 1] [(0, .ref (G b)), (1, .int (nI 0))] rfl ?_
  have qq := (chrT_of (t := t) hpl).trans q9
  refine v_aload_n 0 dX6_command_0 rfl rfl ?_
  refine u_getr (k := 8) (C := RX6) (T := TX6) (NF := 13) hM.n hM.s rfl rfl inX6_command_X6 (by decide) (by decide +kernel) rfl dX6_command_1 ?_
  refine v_aload_n 0 dX6_command_4 rfl rfl ?_
  refine m_geti (k := 10) hM rfl inX6_command_X6 (by decide) (by decide +kernel) rfl dX6_command_5 ?_
  refine v_topi (nI p) (pz_10 _ _ _ _) ?_
  refine m_ld6 p hM (rfl) (by omega) dX6_command_8 ?_
  refine v_sipush (nI 255) dX6_command_9 (by decide +kernel) ?_
  refine v_iand dX6_command_12 ?_
  refine v_topi (nI 103) ((ht p hpl).trans q9) ?_
  refine v_istore_n [(2, .int (nI 103)), (0, .ref (G b)), (1, .int (nI 0))] dX6_command_13 rfl (by decide) rfl ?_
  refine v_aload_n 1 dX6_command_14 rfl rfl ?_
  refine v_iload_n 0 dX6_command_15 rfl rfl ?_
  refine v_bipush (nI 99) dX6_command_16 (by decide +kernel) ?_
  refine v_icmp_eqN 49 (by omega) (by omega) dX6_command_18 rfl (fun h18 => ?_) (fun h18 => ?_)
  · skip
    omega
  · skip
    refine v_iload_n 0 dX6_command_21 rfl rfl ?_
    refine v_bipush (nI 103) dX6_command_22 (by decide +kernel) ?_
    refine v_icmp_eqN 49 (by omega) (by omega) dX6_command_24 rfl (fun h24 => ?_) (fun h24 => ?_)
    · skip
      refine v_iconst (nI 0) dX6_command_49 (by decide +kernel) ?_
      refine m_puti (k := 11) (ty := .boolean) hM rfl inX6_command_X6 (by decide) (by decide +kernel) rfl rfl (by decide +kernel) bn_0 dX6_command_50 ?_
      refine v_σ (mk7 σ b (pz f0 False p lo) f1 f2 f3 f4 f5 f6) (congrArg (fun z9 => mk7 σ b z9 f1 f2 f3 f4 f5 f6) (pz_u11f _ _ _ _)) ?_
      refine v_aload_n 1 dX6_command_53 rfl rfl ?_
      refine v_dup dX6_command_54 rfl ?_
      refine m_geti (k := 10) hM rfl inX6_command_X6 (by decide) (by decide +kernel) rfl dX6_command_55 ?_
      refine v_topi (nI p) (pz_10 _ _ _ _) ?_
      refine v_aload_n 1 dX6_command_58 rfl rfl ?_
      refine m_geti (k := 11) hM rfl inX6_command_X6 (by decide) (by decide +kernel) rfl dX6_command_59 ?_
      refine v_topi (nI 0) (pz_11f _ _ _) ?_
      refine v_if_eqN 69 (by omega) dX6_command_62 rfl (fun h62 => ?_) (fun h62 => ?_)
      · skip
        refine v_iconst (nI 1) dX6_command_69 (by decide +kernel) ?_
        refine v_iaddN dX6_command_70 ?_
        refine m_puti (k := 10) (ty := .int) hM rfl inX6_command_X6 (by decide) (by decide +kernel) rfl rfl (by decide +kernel) ⟨rfl, rfl⟩ dX6_command_71 ?_
        refine v_σ (mk7 σ b (pz f0 False (p + 1) lo) f1 f2 f3 f4 f5 f6) (congrArg (fun z9 => mk7 σ b z9 f1 f2 f3 f4 f5 f6) (pz_u10 _ _ _ _ _)) ?_
        refine v_aload_n 1 dX6_command_74 rfl rfl ?_
        refine m_geti (k := 11) hM rfl inX6_command_X6 (by decide) (by decide +kernel) rfl dX6_command_75 ?_
        refine v_topi (nI 0) (pz_11f _ _ _) ?_
        refine v_if_eqN 85 (by omega) dX6_command_78 rfl (fun h78 => ?_) (fun h78 => ?_)
        · skip
          refine v_iload_n 0 dX6_command_85 rfl rfl ?_
          refine v_bipush (nI 99) dX6_command_86 (by decide +kernel) ?_
          refine v_icmp_neN 100 (by omega) (by omega) dX6_command_88 rfl (fun h88 => ?_) (fun h88 => ?_)
          · skip
            refine v_iload_n 0 dX6_command_100 rfl rfl ?_
            refine v_bipush (nI 116) dX6_command_101 (by decide +kernel) ?_
            refine v_icmp_neN 116 (by omega) (by omega) dX6_command_103 rfl (fun h103 => ?_) (fun h103 => ?_)
            · skip
              refine v_aload_n 1 dX6_command_116 rfl rfl ?_
              refine u_callVv [] [] 0 (c_X6_who lu Dg E N G shp σ hM f0 f1 f2 f3 f4 f5 f6 hl h100 ht (p := p + 1) (lo := lo) (by omega)) (ci := 6) (C := RX6) (T := TX6) (NF := 13) hM.n hM.s rfl gX6_command_X6_who rfl rfl rfl (by decide +kernel) rfl ⟨Nat.le_of_ble_eq_true rfl, Nat.le_of_ble_eq_true rfl⟩ ⟨Nat.le_of_ble_eq_true rfl, Nat.le_of_ble_eq_true rfl⟩ (Nat.le_of_ble_eq_true rfl) rfl dX6_command_117 ?_
              by_cases hd1 : persB t lz (p + 1)
              · skip
                refine v_σ (mk7 σ b (pz f0 False (persN t lz (p + 1)) lo) f1 f2 f3 f4 f5 f6) (congrArg (fun z9 => mk7 σ b z9 f1 f2 f3 f4 f5 f6) (pz_wt hd1)) ?_
                refine v_istore_n [(3, .int (whoV t lz (p + 1))), (2, .int (nI 103)), (0, .ref (G b)), (1, .int (nI 0))] dX6_command_120 rfl (by decide) rfl ?_
                refine v_aload_n 2 dX6_command_121 rfl rfl ?_
                refine m_geti (k := 11) hM rfl inX6_command_X6 (by decide) (by decide +kernel) rfl dX6_command_122 ?_
                refine v_topi (nI 0) (pz_11f _ _ _) ?_
                refine v_if_eqN 132 (by omega) dX6_command_125 rfl (fun h125 => ?_) (fun h125 => ?_)
                · skip
                  refine v_iload_n 1 dX6_command_132 rfl rfl ?_
                  refine v_bipush (nI 99) dX6_command_133 (by decide +kernel) ?_
                  refine v_icmp_neN 147 (by omega) (by omega) dX6_command_135 rfl (fun h135 => ?_) (fun h135 => ?_)
                  · skip
                    refine v_iload_n 1 dX6_command_147 rfl rfl ?_
                    refine v_bipush (nI 120) dX6_command_148 (by decide +kernel) ?_
                    refine v_icmp_neN 160 (by omega) (by omega) dX6_command_150 rfl (fun h150 => ?_) (fun h150 => ?_)
                    · skip
                      refine v_iconst (nI 0) dX6_command_160 (by decide +kernel) ?_
                      refine v_istore [(4, .int (nI 0)), (3, .int (whoV t lz (p + 1))), (2, .int (nI 103)), (0, .ref (G b)), (1, .int (nI 0))] dX6_command_161 (by decide) rfl ?_
                      refine v_iload_n 4 dX6_command_163 rfl rfl ?_
                      refine v_if_eqN 199 (by omega) dX6_command_164 rfl (fun h164 => ?_) (fun h164 => ?_)
                      · skip
                        refine v_vret rfl dX6_command_199 ⟨rfl, congrArg (φ shp) ?_⟩
                        · exact congrArg (fun z9 => mk7 σ b z9 f1 f2 f3 f4 f5 f6) (pz_c (by rw [cmdB_g qq]; exact ⟨fun z9 => False.elim z9, fun z9 => z9 hd1⟩) (by rw [cmdN_g qq]))
                      · skip
                        omega
                    · skip
                      omega
                  · skip
                    omega
                · skip
                  omega
              · skip
                refine v_σ (mk7 σ b (pz f0 True (persN t lz (p + 1)) lo) f1 f2 f3 f4 f5 f6) (congrArg (fun z9 => mk7 σ b z9 f1 f2 f3 f4 f5 f6) (pz_wf hd1)) ?_
                refine v_istore_n [(3, .int (whoV t lz (p + 1))), (2, .int (nI 103)), (0, .ref (G b)), (1, .int (nI 0))] dX6_command_120 rfl (by decide) rfl ?_
                refine v_aload_n 2 dX6_command_121 rfl rfl ?_
                refine m_geti (k := 11) hM rfl inX6_command_X6 (by decide) (by decide +kernel) rfl dX6_command_122 ?_
                refine v_topi (nI 1) (pz_11t _ _ _) ?_
                refine v_if_eqN 132 (by omega) dX6_command_125 rfl (fun h125 => ?_) (fun h125 => ?_)
                · skip
                  omega
                · skip
                  refine v_iconst (nI 0) dX6_command_128 (by decide +kernel) ?_
                  refine v_goto 161 dX6_command_129 rfl ?_
                  refine v_istore [(4, .int (nI 0)), (3, .int (whoV t lz (p + 1))), (2, .int (nI 103)), (0, .ref (G b)), (1, .int (nI 0))] dX6_command_161 (by decide) rfl ?_
                  refine v_iload_n 4 dX6_command_163 rfl rfl ?_
                  refine v_if_eqN 199 (by omega) dX6_command_164 rfl (fun h164 => ?_) (fun h164 => ?_)
                  · skip
                    refine v_vret rfl dX6_command_199 ⟨rfl, congrArg (φ shp) ?_⟩
                    · exact congrArg (fun z9 => mk7 σ b z9 f1 f2 f3 f4 f5 f6) (pz_c (by rw [cmdB_g qq]; exact ⟨fun _ => hd1, fun _ => trivial⟩) (by rw [cmdN_g qq]))
                  · skip
                    omega
            · skip
              omega
          · skip
            omega
        · skip
          omega
      · skip
        omega
    · skip
      omega

set_option maxHeartbeats 4000000 in
set_option maxRecDepth 100000 in
/-- command, only read -/
theorem c_X6_command_j (lu : Launch) (Dg : va_G) (E : Nat → ClassId) (N : Nat) (G : Nat → Nat) (shp : Nat → (Nat → Int32) → va_E) (σ : Nat → Nat → Int32) {b : Nat} (hM : ModS E G shp N b) (f0 f1 f2 f3 f4 f5 f6 : Nat → Int32)  {t : Nat → Int32} {lz : Nat} (hl : f0 9 = nI lz) (h100 : lz ≤ 100) (ht : ∀ k, k < lz → f6 k &&& nI 255 = t k) {p lo : Nat} (hp : p < 2 ^ 18) (hpl : p < lz) (q9 : t p = nI 106)  : CS lu yX6_command wsX6_command { frames := 6, cells := 0, slots := 0, locals := 134 } Dg E N G shp (mk7 σ b (pz f0 False p lo) f1 f2 f3 f4 f5 f6) [.ref (G b), .int (nI 0)] none (mk7 σ b (pz f0 (¬ cmdB t lz p) (cmdN t lz p) lo) f1 f2 f3 f4 f5 f6) := by
  refine CS.of (cc := cX6_command) (maxL := 5) (ret := none) (by decide) rfl (Nat.le_of_ble_eq_true rfl) ?_
  intro p_ e_ s_ m_ args_ below_ meth_ c_
  refine v_eq (pc' := 0) (st' := []) rfl rfl ?_
  refine v_loc [0, 1] [(0, .ref (G b)), (1, .int (nI 0))] rfl ?_
  have qq := (chrT_of (t := t) hpl).trans q9
  refine v_aload_n 0 dX6_command_0 rfl rfl ?_
  refine u_getr (k := 8) (C := RX6) (T := TX6) (NF := 13) hM.n hM.s rfl rfl inX6_command_X6 (by decide) (by decide +kernel) rfl dX6_command_1 ?_
  refine v_aload_n 0 dX6_command_4 rfl rfl ?_
  refine m_geti (k := 10) hM rfl inX6_command_X6 (by decide) (by decide +kernel) rfl dX6_command_5 ?_
  refine v_topi (nI p) (pz_10 _ _ _ _) ?_
  refine m_ld6 p hM (rfl) (by omega) dX6_command_8 ?_
  refine v_sipush (nI 255) dX6_command_9 (by decide +kernel) ?_
  refine v_iand dX6_command_12 ?_
  refine v_topi (nI 106) ((ht p hpl).trans q9) ?_
  refine v_istore_n [(2, .int (nI 106)), (0, .ref (G b)), (1, .int (nI 0))] dX6_command_13 rfl (by decide) rfl ?_
  refine v_aload_n 1 dX6_command_14 rfl rfl ?_
  refine v_iload_n 0 dX6_command_15 rfl rfl ?_
  refine v_bipush (nI 99) dX6_command_16 (by decide +kernel) ?_
  refine v_icmp_eqN 49 (by omega) (by omega) dX6_command_18 rfl (fun h18 => ?_) (fun h18 => ?_)
  · skip
    omega
  · skip
    refine v_iload_n 0 dX6_command_21 rfl rfl ?_
    refine v_bipush (nI 103) dX6_command_22 (by decide +kernel) ?_
    refine v_icmp_eqN 49 (by omega) (by omega) dX6_command_24 rfl (fun h24 => ?_) (fun h24 => ?_)
    · skip
      omega
    · skip
      refine v_iload_n 0 dX6_command_27 rfl rfl ?_
      refine v_bipush (nI 120) dX6_command_28 (by decide +kernel) ?_
      refine v_icmp_eqN 49 (by omega) (by omega) dX6_command_30 rfl (fun h30 => ?_) (fun h30 => ?_)
      · skip
        omega
      · skip
        refine v_iload_n 0 dX6_command_33 rfl rfl ?_
        refine v_bipush (nI 106) dX6_command_34 (by decide +kernel) ?_
        refine v_icmp_eqN 49 (by omega) (by omega) dX6_command_36 rfl (fun h36 => ?_) (fun h36 => ?_)
        · skip
          refine v_iconst (nI 0) dX6_command_49 (by decide +kernel) ?_
          refine m_puti (k := 11) (ty := .boolean) hM rfl inX6_command_X6 (by decide) (by decide +kernel) rfl rfl (by decide +kernel) bn_0 dX6_command_50 ?_
          refine v_σ (mk7 σ b (pz f0 False p lo) f1 f2 f3 f4 f5 f6) (congrArg (fun z9 => mk7 σ b z9 f1 f2 f3 f4 f5 f6) (pz_u11f _ _ _ _)) ?_
          refine v_aload_n 1 dX6_command_53 rfl rfl ?_
          refine v_dup dX6_command_54 rfl ?_
          refine m_geti (k := 10) hM rfl inX6_command_X6 (by decide) (by decide +kernel) rfl dX6_command_55 ?_
          refine v_topi (nI p) (pz_10 _ _ _ _) ?_
          refine v_aload_n 1 dX6_command_58 rfl rfl ?_
          refine m_geti (k := 11) hM rfl inX6_command_X6 (by decide) (by decide +kernel) rfl dX6_command_59 ?_
          refine v_topi (nI 0) (pz_11f _ _ _) ?_
          refine v_if_eqN 69 (by omega) dX6_command_62 rfl (fun h62 => ?_) (fun h62 => ?_)
          · skip
            refine v_iconst (nI 1) dX6_command_69 (by decide +kernel) ?_
            refine v_iaddN dX6_command_70 ?_
            refine m_puti (k := 10) (ty := .int) hM rfl inX6_command_X6 (by decide) (by decide +kernel) rfl rfl (by decide +kernel) ⟨rfl, rfl⟩ dX6_command_71 ?_
            refine v_σ (mk7 σ b (pz f0 False (p + 1) lo) f1 f2 f3 f4 f5 f6) (congrArg (fun z9 => mk7 σ b z9 f1 f2 f3 f4 f5 f6) (pz_u10 _ _ _ _ _)) ?_
            refine v_aload_n 1 dX6_command_74 rfl rfl ?_
            refine m_geti (k := 11) hM rfl inX6_command_X6 (by decide) (by decide +kernel) rfl dX6_command_75 ?_
            refine v_topi (nI 0) (pz_11f _ _ _) ?_
            refine v_if_eqN 85 (by omega) dX6_command_78 rfl (fun h78 => ?_) (fun h78 => ?_)
            · skip
              refine v_iload_n 0 dX6_command_85 rfl rfl ?_
              refine v_bipush (nI 99) dX6_command_86 (by decide +kernel) ?_
              refine v_icmp_neN 100 (by omega) (by omega) dX6_command_88 rfl (fun h88 => ?_) (fun h88 => ?_)
              · skip
                refine v_iload_n 0 dX6_command_100 rfl rfl ?_
                refine v_bipush (nI 116) dX6_command_101 (by decide +kernel) ?_
                refine v_icmp_neN 116 (by omega) (by omega) dX6_command_103 rfl (fun h103 => ?_) (fun h103 => ?_)
                · skip
                  refine v_aload_n 1 dX6_command_116 rfl rfl ?_
                  refine u_callVv [] [] 0 (c_X6_who lu Dg E N G shp σ hM f0 f1 f2 f3 f4 f5 f6 hl h100 ht (p := p + 1) (lo := lo) (by omega)) (ci := 6) (C := RX6) (T := TX6) (NF := 13) hM.n hM.s rfl gX6_command_X6_who rfl rfl rfl (by decide +kernel) rfl ⟨Nat.le_of_ble_eq_true rfl, Nat.le_of_ble_eq_true rfl⟩ ⟨Nat.le_of_ble_eq_true rfl, Nat.le_of_ble_eq_true rfl⟩ (Nat.le_of_ble_eq_true rfl) rfl dX6_command_117 ?_
                  by_cases hd1 : persB t lz (p + 1)
                  · skip
                    refine v_σ (mk7 σ b (pz f0 False (persN t lz (p + 1)) lo) f1 f2 f3 f4 f5 f6) (congrArg (fun z9 => mk7 σ b z9 f1 f2 f3 f4 f5 f6) (pz_wt hd1)) ?_
                    refine v_istore_n [(3, .int (whoV t lz (p + 1))), (2, .int (nI 106)), (0, .ref (G b)), (1, .int (nI 0))] dX6_command_120 rfl (by decide) rfl ?_
                    refine v_aload_n 2 dX6_command_121 rfl rfl ?_
                    refine m_geti (k := 11) hM rfl inX6_command_X6 (by decide) (by decide +kernel) rfl dX6_command_122 ?_
                    refine v_topi (nI 0) (pz_11f _ _ _) ?_
                    refine v_if_eqN 132 (by omega) dX6_command_125 rfl (fun h125 => ?_) (fun h125 => ?_)
                    · skip
                      refine v_iload_n 1 dX6_command_132 rfl rfl ?_
                      refine v_bipush (nI 99) dX6_command_133 (by decide +kernel) ?_
                      refine v_icmp_neN 147 (by omega) (by omega) dX6_command_135 rfl (fun h135 => ?_) (fun h135 => ?_)
                      · skip
                        refine v_iload_n 1 dX6_command_147 rfl rfl ?_
                        refine v_bipush (nI 120) dX6_command_148 (by decide +kernel) ?_
                        refine v_icmp_neN 160 (by omega) (by omega) dX6_command_150 rfl (fun h150 => ?_) (fun h150 => ?_)
                        · skip
                          refine v_iconst (nI 0) dX6_command_160 (by decide +kernel) ?_
                          refine v_istore [(4, .int (nI 0)), (3, .int (whoV t lz (p + 1))), (2, .int (nI 106)), (0, .ref (G b)), (1, .int (nI 0))] dX6_command_161 (by decide) rfl ?_
                          refine v_iload_n 4 dX6_command_163 rfl rfl ?_
                          refine v_if_eqN 199 (by omega) dX6_command_164 rfl (fun h164 => ?_) (fun h164 => ?_)
                          · skip
                            refine v_vret rfl dX6_command_199 ⟨rfl, congrArg (φ shp) ?_⟩
                            · exact congrArg (fun z9 => mk7 σ b z9 f1 f2 f3 f4 f5 f6) (pz_c (by rw [cmdB_j qq]; exact ⟨fun z9 => False.elim z9, fun z9 => z9 hd1⟩) (by rw [cmdN_j qq]))
                          · skip
                            omega
                        · skip
                          omega
                      · skip
                        omega
                    · skip
                      omega
                  · skip
                    refine v_σ (mk7 σ b (pz f0 True (persN t lz (p + 1)) lo) f1 f2 f3 f4 f5 f6) (congrArg (fun z9 => mk7 σ b z9 f1 f2 f3 f4 f5 f6) (pz_wf hd1)) ?_
                    refine v_istore_n [(3, .int (whoV t lz (p + 1))), (2, .int (nI 106)), (0, .ref (G b)), (1, .int (nI 0))] dX6_command_120 rfl (by decide) rfl ?_
                    refine v_aload_n 2 dX6_command_121 rfl rfl ?_
                    refine m_geti (k := 11) hM rfl inX6_command_X6 (by decide) (by decide +kernel) rfl dX6_command_122 ?_
                    refine v_topi (nI 1) (pz_11t _ _ _) ?_
                    refine v_if_eqN 132 (by omega) dX6_command_125 rfl (fun h125 => ?_) (fun h125 => ?_)
                    · skip
                      omega
                    · skip
                      refine v_iconst (nI 0) dX6_command_128 (by decide +kernel) ?_
                      refine v_goto 161 dX6_command_129 rfl ?_
                      refine v_istore [(4, .int (nI 0)), (3, .int (whoV t lz (p + 1))), (2, .int (nI 106)), (0, .ref (G b)), (1, .int (nI 0))] dX6_command_161 (by decide) rfl ?_
                      refine v_iload_n 4 dX6_command_163 rfl rfl ?_
                      refine v_if_eqN 199 (by omega) dX6_command_164 rfl (fun h164 => ?_) (fun h164 => ?_)
                      · skip
                        refine v_vret rfl dX6_command_199 ⟨rfl, congrArg (φ shp) ?_⟩
                        · exact congrArg (fun z9 => mk7 σ b z9 f1 f2 f3 f4 f5 f6) (pz_c (by rw [cmdB_j qq]; exact ⟨fun _ => hd1, fun _ => trivial⟩) (by rw [cmdN_j qq]))
                      · skip
                        omega
                · skip
                  omega
              · skip
                omega
            · skip
              omega
          · skip
            omega
        · skip
          omega

set_option maxHeartbeats 4000000 in
set_option maxRecDepth 100000 in
/-- command, only read -/
theorem c_X6_command_x (lu : Launch) (Dg : va_G) (E : Nat → ClassId) (N : Nat) (G : Nat → Nat) (shp : Nat → (Nat → Int32) → va_E) (σ : Nat → Nat → Int32) {b : Nat} (hM : ModS E G shp N b) (f0 f1 f2 f3 f4 f5 f6 : Nat → Int32)  {t : Nat → Int32} {lz : Nat} (hl : f0 9 = nI lz) (h100 : lz ≤ 100) (ht : ∀ k, k < lz → f6 k &&& nI 255 = t k) {p lo : Nat} (hp : p < 2 ^ 18) (hpl : p < lz) (q9 : t p = nI 120)  : CS lu yX6_command wsX6_command { frames := 6, cells := 0, slots := 0, locals := 134 } Dg E N G shp (mk7 σ b (pz f0 False p lo) f1 f2 f3 f4 f5 f6) [.ref (G b), .int (nI 0)] none (mk7 σ b (pz f0 (¬ cmdB t lz p) (cmdN t lz p) lo) f1 f2 f3 f4 f5 f6) := by
  refine CS.of (cc := cX6_command) (maxL := 5) (ret := none) (by decide) rfl (Nat.le_of_ble_eq_true rfl) ?_
  intro p_ e_ s_ m_ args_ below_ meth_ c_
  refine v_eq (pc' := 0) (st' := []) rfl rfl ?_
  refine v_loc [0, 1] [(0, .ref (G b)), (1, .int (nI 0))] rfl ?_
  have qq := (chrT_of (t := t) hpl).trans q9
  refine v_aload_n 0 dX6_command_0 rfl rfl ?_
  refine u_getr (k := 8) (C := RX6) (T := TX6) (NF := 13) hM.n hM.s rfl rfl inX6_command_X6 (by decide) (by decide +kernel) rfl dX6_command_1 ?_
  refine v_aload_n 0 dX6_command_4 rfl rfl ?_
  refine m_geti (k := 10) hM rfl inX6_command_X6 (by decide) (by decide +kernel) rfl dX6_command_5 ?_
  refine v_topi (nI p) (pz_10 _ _ _ _) ?_
  refine m_ld6 p hM (rfl) (by omega) dX6_command_8 ?_
  refine v_sipush (nI 255) dX6_command_9 (by decide +kernel) ?_
  refine v_iand dX6_command_12 ?_
  refine v_topi (nI 120) ((ht p hpl).trans q9) ?_
  refine v_istore_n [(2, .int (nI 120)), (0, .ref (G b)), (1, .int (nI 0))] dX6_command_13 rfl (by decide) rfl ?_
  refine v_aload_n 1 dX6_command_14 rfl rfl ?_
  refine v_iload_n 0 dX6_command_15 rfl rfl ?_
  refine v_bipush (nI 99) dX6_command_16 (by decide +kernel) ?_
  refine v_icmp_eqN 49 (by omega) (by omega) dX6_command_18 rfl (fun h18 => ?_) (fun h18 => ?_)
  · skip
    omega
  · skip
    refine v_iload_n 0 dX6_command_21 rfl rfl ?_
    refine v_bipush (nI 103) dX6_command_22 (by decide +kernel) ?_
    refine v_icmp_eqN 49 (by omega) (by omega) dX6_command_24 rfl (fun h24 => ?_) (fun h24 => ?_)
    · skip
      omega
    · skip
      refine v_iload_n 0 dX6_command_27 rfl rfl ?_
      refine v_bipush (nI 120) dX6_command_28 (by decide +kernel) ?_
      refine v_icmp_eqN 49 (by omega) (by omega) dX6_command_30 rfl (fun h30 => ?_) (fun h30 => ?_)
      · skip
        refine v_iconst (nI 0) dX6_command_49 (by decide +kernel) ?_
        refine m_puti (k := 11) (ty := .boolean) hM rfl inX6_command_X6 (by decide) (by decide +kernel) rfl rfl (by decide +kernel) bn_0 dX6_command_50 ?_
        refine v_σ (mk7 σ b (pz f0 False p lo) f1 f2 f3 f4 f5 f6) (congrArg (fun z9 => mk7 σ b z9 f1 f2 f3 f4 f5 f6) (pz_u11f _ _ _ _)) ?_
        refine v_aload_n 1 dX6_command_53 rfl rfl ?_
        refine v_dup dX6_command_54 rfl ?_
        refine m_geti (k := 10) hM rfl inX6_command_X6 (by decide) (by decide +kernel) rfl dX6_command_55 ?_
        refine v_topi (nI p) (pz_10 _ _ _ _) ?_
        refine v_aload_n 1 dX6_command_58 rfl rfl ?_
        refine m_geti (k := 11) hM rfl inX6_command_X6 (by decide) (by decide +kernel) rfl dX6_command_59 ?_
        refine v_topi (nI 0) (pz_11f _ _ _) ?_
        refine v_if_eqN 69 (by omega) dX6_command_62 rfl (fun h62 => ?_) (fun h62 => ?_)
        · skip
          refine v_iconst (nI 1) dX6_command_69 (by decide +kernel) ?_
          refine v_iaddN dX6_command_70 ?_
          refine m_puti (k := 10) (ty := .int) hM rfl inX6_command_X6 (by decide) (by decide +kernel) rfl rfl (by decide +kernel) ⟨rfl, rfl⟩ dX6_command_71 ?_
          refine v_σ (mk7 σ b (pz f0 False (p + 1) lo) f1 f2 f3 f4 f5 f6) (congrArg (fun z9 => mk7 σ b z9 f1 f2 f3 f4 f5 f6) (pz_u10 _ _ _ _ _)) ?_
          refine v_aload_n 1 dX6_command_74 rfl rfl ?_
          refine m_geti (k := 11) hM rfl inX6_command_X6 (by decide) (by decide +kernel) rfl dX6_command_75 ?_
          refine v_topi (nI 0) (pz_11f _ _ _) ?_
          refine v_if_eqN 85 (by omega) dX6_command_78 rfl (fun h78 => ?_) (fun h78 => ?_)
          · skip
            refine v_iload_n 0 dX6_command_85 rfl rfl ?_
            refine v_bipush (nI 99) dX6_command_86 (by decide +kernel) ?_
            refine v_icmp_neN 100 (by omega) (by omega) dX6_command_88 rfl (fun h88 => ?_) (fun h88 => ?_)
            · skip
              refine v_iload_n 0 dX6_command_100 rfl rfl ?_
              refine v_bipush (nI 116) dX6_command_101 (by decide +kernel) ?_
              refine v_icmp_neN 116 (by omega) (by omega) dX6_command_103 rfl (fun h103 => ?_) (fun h103 => ?_)
              · skip
                refine v_aload_n 1 dX6_command_116 rfl rfl ?_
                refine u_callVv [] [] 0 (c_X6_who lu Dg E N G shp σ hM f0 f1 f2 f3 f4 f5 f6 hl h100 ht (p := p + 1) (lo := lo) (by omega)) (ci := 6) (C := RX6) (T := TX6) (NF := 13) hM.n hM.s rfl gX6_command_X6_who rfl rfl rfl (by decide +kernel) rfl ⟨Nat.le_of_ble_eq_true rfl, Nat.le_of_ble_eq_true rfl⟩ ⟨Nat.le_of_ble_eq_true rfl, Nat.le_of_ble_eq_true rfl⟩ (Nat.le_of_ble_eq_true rfl) rfl dX6_command_117 ?_
                by_cases hd1 : persB t lz (p + 1)
                · skip
                  refine v_σ (mk7 σ b (pz f0 False (persN t lz (p + 1)) lo) f1 f2 f3 f4 f5 f6) (congrArg (fun z9 => mk7 σ b z9 f1 f2 f3 f4 f5 f6) (pz_wt hd1)) ?_
                  have hn9 := (pers_of hd1).2.2.1
                  have hn8 := (pers_of hd1).2.2.2.1
                  refine v_istore_n [(3, .int (whoV t lz (p + 1))), (2, .int (nI 120)), (0, .ref (G b)), (1, .int (nI 0))] dX6_command_120 rfl (by decide) rfl ?_
                  refine v_aload_n 2 dX6_command_121 rfl rfl ?_
                  refine m_geti (k := 11) hM rfl inX6_command_X6 (by decide) (by decide +kernel) rfl dX6_command_122 ?_
                  refine v_topi (nI 0) (pz_11f _ _ _) ?_
                  refine v_if_eqN 132 (by omega) dX6_command_125 rfl (fun h125 => ?_) (fun h125 => ?_)
                  · skip
                    refine v_iload_n 1 dX6_command_132 rfl rfl ?_
                    refine v_bipush (nI 99) dX6_command_133 (by decide +kernel) ?_
                    refine v_icmp_neN 147 (by omega) (by omega) dX6_command_135 rfl (fun h135 => ?_) (fun h135 => ?_)
                    · skip
                      refine v_iload_n 1 dX6_command_147 rfl rfl ?_
                      refine v_bipush (nI 120) dX6_command_148 (by decide +kernel) ?_
                      refine v_icmp_neN 160 (by omega) (by omega) dX6_command_150 rfl (fun h150 => ?_) (fun h150 => ?_)
                      · skip
                        omega
                      · skip
                        refine v_aload_n 2 dX6_command_153 rfl rfl ?_
                        refine u_callVv [] [] 0 (c_X6_who lu Dg E N G shp σ hM f0 f1 f2 f3 f4 f5 f6 hl h100 ht (p := persN t lz (p + 1)) (lo := lo) (by omega)) (ci := 6) (C := RX6) (T := TX6) (NF := 13) hM.n hM.s rfl gX6_command_X6_who rfl rfl rfl (by decide +kernel) rfl ⟨Nat.le_of_ble_eq_true rfl, Nat.le_of_ble_eq_true rfl⟩ ⟨Nat.le_of_ble_eq_true rfl, Nat.le_of_ble_eq_true rfl⟩ (Nat.le_of_ble_eq_true rfl) rfl dX6_command_154 ?_
                        refine v_goto 161 dX6_command_157 rfl ?_
                        refine v_istore [(4, .int (whoV t lz (persN t lz (p + 1)))), (3, .int (whoV t lz (p + 1))), (2, .int (nI 120)), (0, .ref (G b)), (1, .int (nI 0))] dX6_command_161 (by decide) rfl ?_
                        refine v_iload_n 4 dX6_command_163 rfl rfl ?_
                        refine v_if_eqN 199 (by omega) dX6_command_164 rfl (fun h164 => ?_) (fun h164 => ?_)
                        · skip
                          refine v_vret rfl dX6_command_199 ⟨rfl, congrArg (φ shp) ?_⟩
                          · exact congrArg (fun z9 => mk7 σ b z9 f1 f2 f3 f4 f5 f6) (pz_c (by rw [cmdB_x qq]; exact ⟨fun z9 z8 => z9 z8.2, fun z9 z8 => z9 ⟨hd1, z8⟩⟩) (by rw [cmdN_x qq, ic_t hd1]))
                        · skip
                          omega
                    · skip
                      omega
                  · skip
                    omega
                · skip
                  refine v_σ (mk7 σ b (pz f0 True (persN t lz (p + 1)) lo) f1 f2 f3 f4 f5 f6) (congrArg (fun z9 => mk7 σ b z9 f1 f2 f3 f4 f5 f6) (pz_wf hd1)) ?_
                  refine v_istore_n [(3, .int (whoV t lz (p + 1))), (2, .int (nI 120)), (0, .ref (G b)), (1, .int (nI 0))] dX6_command_120 rfl (by decide) rfl ?_
                  refine v_aload_n 2 dX6_command_121 rfl rfl ?_
                  refine m_geti (k := 11) hM rfl inX6_command_X6 (by decide) (by decide +kernel) rfl dX6_command_122 ?_
                  refine v_topi (nI 1) (pz_11t _ _ _) ?_
                  refine v_if_eqN 132 (by omega) dX6_command_125 rfl (fun h125 => ?_) (fun h125 => ?_)
                  · skip
                    omega
                  · skip
                    refine v_iconst (nI 0) dX6_command_128 (by decide +kernel) ?_
                    refine v_goto 161 dX6_command_129 rfl ?_
                    refine v_istore [(4, .int (nI 0)), (3, .int (whoV t lz (p + 1))), (2, .int (nI 120)), (0, .ref (G b)), (1, .int (nI 0))] dX6_command_161 (by decide) rfl ?_
                    refine v_iload_n 4 dX6_command_163 rfl rfl ?_
                    refine v_if_eqN 199 (by omega) dX6_command_164 rfl (fun h164 => ?_) (fun h164 => ?_)
                    · skip
                      refine v_vret rfl dX6_command_199 ⟨rfl, congrArg (φ shp) ?_⟩
                      · exact congrArg (fun z9 => mk7 σ b z9 f1 f2 f3 f4 f5 f6) (pz_c (by rw [cmdB_x qq]; exact ⟨fun _ z8 => hd1 z8.1, fun _ => trivial⟩) (by rw [cmdN_x qq, ic_f hd1]))
                    · skip
                      omega
              · skip
                omega
            · skip
              omega
          · skip
            omega
        · skip
          omega
      · skip
        omega

set_option maxHeartbeats 4000000 in
set_option maxRecDepth 100000 in
/-- command, only read -/
theorem c_X6_command_n (lu : Launch) (Dg : va_G) (E : Nat → ClassId) (N : Nat) (G : Nat → Nat) (shp : Nat → (Nat → Int32) → va_E) (σ : Nat → Nat → Int32) {b : Nat} (hM : ModS E G shp N b) (f0 f1 f2 f3 f4 f5 f6 : Nat → Int32)  {t : Nat → Int32} {lz : Nat} (hl : f0 9 = nI lz) (h100 : lz ≤ 100) (ht : ∀ k, k < lz → f6 k &&& nI 255 = t k) {p lo : Nat} (hp : p < 2 ^ 18) (hpl : p < lz) (q99 : ¬ t p = nI 99) (q103 : ¬ t p = nI 103) (q106 : ¬ t p = nI 106) (q116 : ¬ t p = nI 116) (q120 : ¬ t p = nI 120)  : CS lu yX6_command wsX6_command { frames := 6, cells := 0, slots := 0, locals := 134 } Dg E N G shp (mk7 σ b (pz f0 False p lo) f1 f2 f3 f4 f5 f6) [.ref (G b), .int (nI 0)] none (mk7 σ b (pz f0 (¬ cmdB t lz p) (cmdN t lz p) lo) f1 f2 f3 f4 f5 f6) := by
  refine CS.of (cc := cX6_command) (maxL := 5) (ret := none) (by decide) rfl (Nat.le_of_ble_eq_true rfl) ?_
  intro p_ e_ s_ m_ args_ below_ meth_ c_
  refine v_eq (pc' := 0) (st' := []) rfl rfl ?_
  refine v_loc [0, 1] [(0, .ref (G b)), (1, .int (nI 0))] rfl ?_
  refine v_aload_n 0 dX6_command_0 rfl rfl ?_
  refine u_getr (k := 8) (C := RX6) (T := TX6) (NF := 13) hM.n hM.s rfl rfl inX6_command_X6 (by decide) (by decide +kernel) rfl dX6_command_1 ?_
  refine v_aload_n 0 dX6_command_4 rfl rfl ?_
  refine m_geti (k := 10) hM rfl inX6_command_X6 (by decide) (by decide +kernel) rfl dX6_command_5 ?_
  refine v_topi (nI p) (pz_10 _ _ _ _) ?_
  refine m_ld6 p hM (rfl) (by omega) dX6_command_8 ?_
  refine v_sipush (nI 255) dX6_command_9 (by decide +kernel) ?_
  refine v_iand dX6_command_12 ?_
  refine v_topi (t p) (ht p hpl) ?_
  refine v_istore_n [(2, .int (t p)), (0, .ref (G b)), (1, .int (nI 0))] dX6_command_13 rfl (by decide) rfl ?_
  refine v_aload_n 1 dX6_command_14 rfl rfl ?_
  refine v_iload_n 0 dX6_command_15 rfl rfl ?_
  refine v_bipush (nI 99) dX6_command_16 (by decide +kernel) ?_
  refine v_icmp_eq 49 dX6_command_18 rfl (fun h18 => ?_) (fun h18 => ?_)
  · skip
    exact absurd h18 q99
  · skip
    refine v_iload_n 0 dX6_command_21 rfl rfl ?_
    refine v_bipush (nI 103) dX6_command_22 (by decide +kernel) ?_
    refine v_icmp_eq 49 dX6_command_24 rfl (fun h24 => ?_) (fun h24 => ?_)
    · skip
      exact absurd h24 q103
    · skip
      refine v_iload_n 0 dX6_command_27 rfl rfl ?_
      refine v_bipush (nI 120) dX6_command_28 (by decide +kernel) ?_
      refine v_icmp_eq 49 dX6_command_30 rfl (fun h30 => ?_) (fun h30 => ?_)
      · skip
        exact absurd h30 q120
      · skip
        refine v_iload_n 0 dX6_command_33 rfl rfl ?_
        refine v_bipush (nI 106) dX6_command_34 (by decide +kernel) ?_
        refine v_icmp_eq 49 dX6_command_36 rfl (fun h36 => ?_) (fun h36 => ?_)
        · skip
          exact absurd h36 q106
        · skip
          refine v_iload_n 0 dX6_command_39 rfl rfl ?_
          refine v_bipush (nI 116) dX6_command_40 (by decide +kernel) ?_
          refine v_icmp_eq 49 dX6_command_42 rfl (fun h42 => ?_) (fun h42 => ?_)
          · skip
            exact absurd h42 q116
          · skip
            refine v_iconst (nI 1) dX6_command_45 (by decide +kernel) ?_
            refine v_goto 50 dX6_command_46 rfl ?_
            refine m_puti (k := 11) (ty := .boolean) hM rfl inX6_command_X6 (by decide) (by decide +kernel) rfl rfl (by decide +kernel) bn_1 dX6_command_50 ?_
            refine v_σ (mk7 σ b (pz f0 True p lo) f1 f2 f3 f4 f5 f6) (congrArg (fun z9 => mk7 σ b z9 f1 f2 f3 f4 f5 f6) (pz_u11t _ _ _ _)) ?_
            refine v_aload_n 1 dX6_command_53 rfl rfl ?_
            refine v_dup dX6_command_54 rfl ?_
            refine m_geti (k := 10) hM rfl inX6_command_X6 (by decide) (by decide +kernel) rfl dX6_command_55 ?_
            refine v_topi (nI p) (pz_10 _ _ _ _) ?_
            refine v_aload_n 1 dX6_command_58 rfl rfl ?_
            refine m_geti (k := 11) hM rfl inX6_command_X6 (by decide) (by decide +kernel) rfl dX6_command_59 ?_
            refine v_topi (nI 1) (pz_11t _ _ _) ?_
            refine v_if_eqN 69 (by omega) dX6_command_62 rfl (fun h62 => ?_) (fun h62 => ?_)
            · skip
              omega
            · skip
              refine v_iconst (nI 0) dX6_command_65 (by decide +kernel) ?_
              refine v_goto 70 dX6_command_66 rfl ?_
              refine v_iaddN dX6_command_70 ?_
              refine m_puti (k := 10) (ty := .int) hM rfl inX6_command_X6 (by decide) (by decide +kernel) rfl rfl (by decide +kernel) ⟨rfl, rfl⟩ dX6_command_71 ?_
              refine v_σ (mk7 σ b (pz f0 True (p + 0) lo) f1 f2 f3 f4 f5 f6) (congrArg (fun z9 => mk7 σ b z9 f1 f2 f3 f4 f5 f6) (pz_u10 _ _ _ _ _)) ?_
              refine v_aload_n 1 dX6_command_74 rfl rfl ?_
              refine m_geti (k := 11) hM rfl inX6_command_X6 (by decide) (by decide +kernel) rfl dX6_command_75 ?_
              refine v_topi (nI 1) (pz_11t _ _ _) ?_
              refine v_if_eqN 85 (by omega) dX6_command_78 rfl (fun h78 => ?_) (fun h78 => ?_)
              · skip
                omega
              · skip
                refine v_iconst (nI 0) dX6_command_81 (by decide +kernel) ?_
                refine v_goto 120 dX6_command_82 rfl ?_
                refine v_istore_n [(3, .int (nI 0)), (2, .int (t p)), (0, .ref (G b)), (1, .int (nI 0))] dX6_command_120 rfl (by decide) rfl ?_
                refine v_aload_n 2 dX6_command_121 rfl rfl ?_
                refine m_geti (k := 11) hM rfl inX6_command_X6 (by decide) (by decide +kernel) rfl dX6_command_122 ?_
                refine v_topi (nI 1) (pz_11t _ _ _) ?_
                refine v_if_eqN 132 (by omega) dX6_command_125 rfl (fun h125 => ?_) (fun h125 => ?_)
                · skip
                  omega
                · skip
                  refine v_iconst (nI 0) dX6_command_128 (by decide +kernel) ?_
                  refine v_goto 161 dX6_command_129 rfl ?_
                  refine v_istore [(4, .int (nI 0)), (3, .int (nI 0)), (2, .int (t p)), (0, .ref (G b)), (1, .int (nI 0))] dX6_command_161 (by decide) rfl ?_
                  refine v_iload_n 4 dX6_command_163 rfl rfl ?_
                  refine v_if_eqN 199 (by omega) dX6_command_164 rfl (fun h164 => ?_) (fun h164 => ?_)
                  · skip
                    refine v_vret rfl dX6_command_199 ⟨rfl, congrArg (φ shp) ?_⟩
                    · exact congrArg (fun z9 => mk7 σ b z9 f1 f2 f3 f4 f5 f6) (pz_c (⟨fun _ => cmdB_n (fun z9 => q99 ((chrT_of hpl).symm.trans z9)) (fun z9 => q103 ((chrT_of hpl).symm.trans z9)) (fun z9 => q106 ((chrT_of hpl).symm.trans z9)) (fun z9 => q116 ((chrT_of hpl).symm.trans z9)) (fun z9 => q120 ((chrT_of hpl).symm.trans z9)), fun _ => trivial⟩) ((cmdN_n (fun z9 => q99 ((chrT_of hpl).symm.trans z9)) (fun z9 => q103 ((chrT_of hpl).symm.trans z9)) (fun z9 => q106 ((chrT_of hpl).symm.trans z9)) (fun z9 => q116 ((chrT_of hpl).symm.trans z9)) (fun z9 => q120 ((chrT_of hpl).symm.trans z9))).symm))
                  · skip
                    omega

/-- command, only read -/
theorem c_X6_command_0 (lu : Launch) (Dg : va_G) (E : Nat → ClassId) (N : Nat) (G : Nat → Nat) (shp : Nat → (Nat → Int32) → va_E) (σ : Nat → Nat → Int32) {b : Nat} (hM : ModS E G shp N b) (f0 f1 f2 f3 f4 f5 f6 : Nat → Int32) {t : Nat → Int32} {lz : Nat} (hl : f0 9 = nI lz) (h100 : lz ≤ 100) (ht : ∀ k, k < lz → f6 k &&& nI 255 = t k) {p lo : Nat} (hp : p < 2 ^ 18) (hpl : p < lz) : CS lu yX6_command wsX6_command { frames := 6, cells := 0, slots := 0, locals := 134 } Dg E N G shp (mk7 σ b (pz f0 False p lo) f1 f2 f3 f4 f5 f6) [.ref (G b), .int (nI 0)] none (mk7 σ b (pz f0 (¬ cmdB t lz p) (cmdN t lz p) lo) f1 f2 f3 f4 f5 f6) := by
  by_cases q99 : t p = nI 99
  · exact c_X6_command_c lu Dg E N G shp σ hM f0 f1 f2 f3 f4 f5 f6 hl h100 ht (p := p) (lo := lo) hp hpl q99
  by_cases q103 : t p = nI 103
  · exact c_X6_command_g lu Dg E N G shp σ hM f0 f1 f2 f3 f4 f5 f6 hl h100 ht (p := p) (lo := lo) hp hpl q103
  by_cases q106 : t p = nI 106
  · exact c_X6_command_j lu Dg E N G shp σ hM f0 f1 f2 f3 f4 f5 f6 hl h100 ht (p := p) (lo := lo) hp hpl q106
  by_cases q116 : t p = nI 116
  · exact c_X6_command_t lu Dg E N G shp σ hM f0 f1 f2 f3 f4 f5 f6 hl h100 ht (p := p) (lo := lo) hp hpl q116
  by_cases q120 : t p = nI 120
  · exact c_X6_command_x lu Dg E N G shp σ hM f0 f1 f2 f3 f4 f5 f6 hl h100 ht (p := p) (lo := lo) hp hpl q120
  exact c_X6_command_n lu Dg E N G shp σ hM f0 f1 f2 f3 f4 f5 f6 hl h100 ht (p := p) (lo := lo) hp hpl q99 q103 q106 q116 q120
set_option maxHeartbeats 4000000 in
set_option maxRecDepth 100000 in
/-- command, done -/
theorem c_X6_command_1c (lu : Launch) (Dg : va_G) (E : Nat → ClassId) (N : Nat) (G : Nat → Nat) (shp : Nat → (Nat → Int32) → va_E) (σ : Nat → Nat → Int32) {b : Nat} (hM : ModS E G shp N b) (f0 f1 f2 f3 f4 f5 f6 : Nat → Int32)  {t : Nat → Int32} {lz : Nat} (hl : f0 9 = nI lz) (h100 : lz ≤ 100) (ht : ∀ k, k < lz → f6 k &&& nI 255 = t k) {p lo : Nat} (hp : p < 2 ^ 18) (hpl : p < lz) (q9 : t p = nI 99) {T : Nat} (hI : Inv T f1) (hT : T ≤ 999900) (hB : cmdB t lz p)  : CS lu yX6_command wsX6_command { frames := 6, cells := 0, slots := 0, locals := 134 } Dg E N G shp (mk7 σ b (pz f0 False p lo) f1 f2 f3 f4 f5 f6) [.ref (G b), .int (nI 1)] none (mk7 σ b (pz f0 False (cmdN t lz p) (lo + ic (docP t p f1) 0 1)) (docS t p f1) f2 f3 f4 f5 f6) := by
  refine CS.of (cc := cX6_command) (maxL := 5) (ret := none) (by decide) rfl (Nat.le_of_ble_eq_true rfl) ?_
  intro p_ e_ s_ m_ args_ below_ meth_ c_
  refine v_eq (pc' := 0) (st' := []) rfl rfl ?_
  refine v_loc [0, 1] [(0, .ref (G b)), (1, .int (nI 1))] rfl ?_
  have qq := (chrT_of (t := t) hpl).trans q9
  have hB9 := hB
  rw [cmdB_c qq] at hB9
  obtain ⟨a1, a2, a3⟩ := dgN_of (by omega) (by omega) hB9.1 (by omega)
  obtain ⟨b1, b2, b3⟩ := dgN_of (by omega) (by omega) hB9.2 (by omega)
  have l1 := tk_lt (by omega) hB9.1
  have l2 := tk_lt (by omega) hB9.2
  have b4 : 48 + dgN t (p + 2) ≤ 50 := b3
  refine v_aload_n 0 dX6_command_0 rfl rfl ?_
  refine u_getr (k := 8) (C := RX6) (T := TX6) (NF := 13) hM.n hM.s rfl rfl inX6_command_X6 (by decide) (by decide +kernel) rfl dX6_command_1 ?_
  refine v_aload_n 0 dX6_command_4 rfl rfl ?_
  refine m_geti (k := 10) hM rfl inX6_command_X6 (by decide) (by decide +kernel) rfl dX6_command_5 ?_
  refine v_topi (nI p) (pz_10 _ _ _ _) ?_
  refine m_ld6 p hM (rfl) (by omega) dX6_command_8 ?_
  refine v_sipush (nI 255) dX6_command_9 (by decide +kernel) ?_
  refine v_iand dX6_command_12 ?_
  refine v_topi (nI 99) ((ht p hpl).trans q9) ?_
  refine v_istore_n [(2, .int (nI 99)), (0, .ref (G b)), (1, .int (nI 1))] dX6_command_13 rfl (by decide) rfl ?_
  refine v_aload_n 1 dX6_command_14 rfl rfl ?_
  refine v_iload_n 0 dX6_command_15 rfl rfl ?_
  refine v_bipush (nI 99) dX6_command_16 (by decide +kernel) ?_
  refine v_icmp_eqN 49 (by omega) (by omega) dX6_command_18 rfl (fun h18 => ?_) (fun h18 => ?_)
  · skip
    refine v_iconst (nI 0) dX6_command_49 (by decide +kernel) ?_
    refine m_puti (k := 11) (ty := .boolean) hM rfl inX6_command_X6 (by decide) (by decide +kernel) rfl rfl (by decide +kernel) bn_0 dX6_command_50 ?_
    refine v_σ (mk7 σ b (pz f0 False p lo) f1 f2 f3 f4 f5 f6) (congrArg (fun z9 => mk7 σ b z9 f1 f2 f3 f4 f5 f6) (pz_u11f _ _ _ _)) ?_
    refine v_aload_n 1 dX6_command_53 rfl rfl ?_
    refine v_dup dX6_command_54 rfl ?_
    refine m_geti (k := 10) hM rfl inX6_command_X6 (by decide) (by decide +kernel) rfl dX6_command_55 ?_
    refine v_topi (nI p) (pz_10 _ _ _ _) ?_
    refine v_aload_n 1 dX6_command_58 rfl rfl ?_
    refine m_geti (k := 11) hM rfl inX6_command_X6 (by decide) (by decide +kernel) rfl dX6_command_59 ?_
    refine v_topi (nI 0) (pz_11f _ _ _) ?_
    refine v_if_eqN 69 (by omega) dX6_command_62 rfl (fun h62 => ?_) (fun h62 => ?_)
    · skip
      refine v_iconst (nI 1) dX6_command_69 (by decide +kernel) ?_
      refine v_iaddN dX6_command_70 ?_
      refine m_puti (k := 10) (ty := .int) hM rfl inX6_command_X6 (by decide) (by decide +kernel) rfl rfl (by decide +kernel) ⟨rfl, rfl⟩ dX6_command_71 ?_
      refine v_σ (mk7 σ b (pz f0 False (p + 1) lo) f1 f2 f3 f4 f5 f6) (congrArg (fun z9 => mk7 σ b z9 f1 f2 f3 f4 f5 f6) (pz_u10 _ _ _ _ _)) ?_
      refine v_aload_n 1 dX6_command_74 rfl rfl ?_
      refine m_geti (k := 11) hM rfl inX6_command_X6 (by decide) (by decide +kernel) rfl dX6_command_75 ?_
      refine v_topi (nI 0) (pz_11f _ _ _) ?_
      refine v_if_eqN 85 (by omega) dX6_command_78 rfl (fun h78 => ?_) (fun h78 => ?_)
      · skip
        refine v_iload_n 0 dX6_command_85 rfl rfl ?_
        refine v_bipush (nI 99) dX6_command_86 (by decide +kernel) ?_
        refine v_icmp_neN 100 (by omega) (by omega) dX6_command_88 rfl (fun h88 => ?_) (fun h88 => ?_)
        · skip
          omega
        · skip
          refine v_aload_n 1 dX6_command_91 rfl rfl ?_
          refine v_iconst (nI 0) dX6_command_92 (by decide +kernel) ?_
          refine v_iconst (nI 2) dX6_command_93 (by decide +kernel) ?_
          refine u_callVv [.int (nI 0), .int (nI 2)] [] 2 (c_X6_digit_0 lu Dg E N G shp σ hM f0 f1 f2 f3 f4 f5 f6 hl h100 ht (p := p + 1) (lo := lo) (by omega) (a := 0) (u := 2) (by omega) (by omega)) (ci := 6) (C := RX6) (T := TX6) (NF := 13) hM.n hM.s rfl gX6_command_X6_digit rfl rfl rfl (by decide +kernel) rfl ⟨Nat.le_of_ble_eq_true rfl, Nat.le_of_ble_eq_true rfl⟩ ⟨Nat.le_of_ble_eq_true rfl, Nat.le_of_ble_eq_true rfl⟩ (Nat.le_of_ble_eq_true rfl) rfl dX6_command_94 ?_
          refine v_σ (mk7 σ b (pz f0 (¬ tkB t lz (nI 48) (nI 50) (p + 1)) (tkN t lz (nI 48) (nI 50) (p + 1)) lo) f1 f2 f3 f4 f5 f6) (congrArg (fun z9 => mk7 σ b z9 f1 f2 f3 f4 f5 f6) (rfl)) ?_
          refine v_goto 120 dX6_command_97 rfl ?_
          refine v_σ (mk7 σ b (pz f0 False (p + 1 + 1) lo) f1 f2 f3 f4 f5 f6) (congrArg (fun z9 => mk7 σ b z9 f1 f2 f3 f4 f5 f6) ((pz_t hB9.1).symm)) ?_
          refine v_topi (nI (dgN t (p + 1))) (by rw [chrM_of l1]; exact a1) ?_
          refine v_istore_n [(3, .int (nI (dgN t (p + 1)))), (2, .int (nI 99)), (0, .ref (G b)), (1, .int (nI 1))] dX6_command_120 rfl (by decide) rfl ?_
          refine v_aload_n 2 dX6_command_121 rfl rfl ?_
          refine m_geti (k := 11) hM rfl inX6_command_X6 (by decide) (by decide +kernel) rfl dX6_command_122 ?_
          refine v_topi (nI 0) (pz_11f _ _ _) ?_
          refine v_if_eqN 132 (by omega) dX6_command_125 rfl (fun h125 => ?_) (fun h125 => ?_)
          · skip
            refine v_iload_n 1 dX6_command_132 rfl rfl ?_
            refine v_bipush (nI 99) dX6_command_133 (by decide +kernel) ?_
            refine v_icmp_neN 147 (by omega) (by omega) dX6_command_135 rfl (fun h135 => ?_) (fun h135 => ?_)
            · skip
              omega
            · skip
              refine v_aload_n 2 dX6_command_138 rfl rfl ?_
              refine v_iconst (nI 0) dX6_command_139 (by decide +kernel) ?_
              refine v_iconst (nI 2) dX6_command_140 (by decide +kernel) ?_
              refine u_callVv [.int (nI 0), .int (nI 2)] [] 2 (c_X6_digit_0 lu Dg E N G shp σ hM f0 f1 f2 f3 f4 f5 f6 hl h100 ht (p := p + 1 + 1) (lo := lo) (by omega) (a := 0) (u := 2) (by omega) (by omega)) (ci := 6) (C := RX6) (T := TX6) (NF := 13) hM.n hM.s rfl gX6_command_X6_digit rfl rfl rfl (by decide +kernel) rfl ⟨Nat.le_of_ble_eq_true rfl, Nat.le_of_ble_eq_true rfl⟩ ⟨Nat.le_of_ble_eq_true rfl, Nat.le_of_ble_eq_true rfl⟩ (Nat.le_of_ble_eq_true rfl) rfl dX6_command_141 ?_
              refine v_σ (mk7 σ b (pz f0 (¬ tkB t lz (nI 48) (nI 50) (p + 1 + 1)) (tkN t lz (nI 48) (nI 50) (p + 1 + 1)) lo) f1 f2 f3 f4 f5 f6) (congrArg (fun z9 => mk7 σ b z9 f1 f2 f3 f4 f5 f6) (rfl)) ?_
              refine v_goto 161 dX6_command_144 rfl ?_
              refine v_σ (mk7 σ b (pz f0 False (p + 1 + 1 + 1) lo) f1 f2 f3 f4 f5 f6) (congrArg (fun z9 => mk7 σ b z9 f1 f2 f3 f4 f5 f6) ((pz_t hB9.2).symm)) ?_
              refine v_topi (nI (dgN t (p + 2))) (by rw [chrM_of l2]; exact b1) ?_
              refine v_istore [(4, .int (nI (dgN t (p + 2)))), (3, .int (nI (dgN t (p + 1)))), (2, .int (nI 99)), (0, .ref (G b)), (1, .int (nI 1))] dX6_command_161 (by decide) rfl ?_
              refine v_iload_n 4 dX6_command_163 rfl rfl ?_
              refine v_if_eqN 199 (by omega) dX6_command_164 rfl (fun h164 => ?_) (fun h164 => ?_)
              · skip
                omega
              · skip
                refine v_aload_n 3 dX6_command_167 rfl rfl ?_
                refine m_geti (k := 11) hM rfl inX6_command_X6 (by decide) (by decide +kernel) rfl dX6_command_168 ?_
                refine v_topi (nI 0) (pz_11f _ _ _) ?_
                refine v_if_neN 199 (by omega) dX6_command_171 rfl (fun h171 => ?_) (fun h171 => ?_)
                · skip
                  omega
                · skip
                  refine v_aload_n 3 dX6_command_174 rfl rfl ?_
                  refine v_dup dX6_command_175 rfl ?_
                  refine m_geti (k := 12) hM rfl inX6_command_X6 (by decide) (by decide +kernel) rfl dX6_command_176 ?_
                  refine v_topi (nI lo) (pz_12 _ _ _ _) ?_
                  refine v_aload_n 3 dX6_command_179 rfl rfl ?_
                  refine v_iload_n 2 dX6_command_180 rfl rfl ?_
                  refine v_iload_n 1 dX6_command_181 rfl rfl ?_
                  refine v_iload 0 dX6_command_182 rfl ?_
                  refine u_callVv [.int (nI 99), .int (nI (dgN t (p + 1))), .int (nI (dgN t (p + 2)))] [.int (nI lo), .ref (G b)] 3 (c_X6_carries_c lu Dg E N G shp σ hM (pz f0 False (p + 1 + 1 + 1) lo) f1 f2 f3 f4 f5 f6 hI (y := dgN t (p + 2)) (k0 := dgN t (p + 1)) (by omega)) (ci := 6) (C := RX6) (T := TX6) (NF := 13) hM.n hM.s rfl gX6_command_X6_carries rfl rfl rfl (by decide +kernel) rfl ⟨Nat.le_of_ble_eq_true rfl, Nat.le_of_ble_eq_true rfl⟩ ⟨Nat.le_of_ble_eq_true rfl, Nat.le_of_ble_eq_true rfl⟩ (Nat.le_of_ble_eq_true rfl) rfl dX6_command_184 ?_
                  refine v_if_eqB 194 dX6_command_187 rfl (fun h187 => ?_) (fun h187 => ?_)
                  · skip
                    refine v_iconst (nI 1) dX6_command_194 (by decide +kernel) ?_
                    refine v_iaddN dX6_command_195 ?_
                    refine m_puti (k := 12) (ty := .int) hM rfl inX6_command_X6 (by decide) (by decide +kernel) rfl rfl (by decide +kernel) ⟨rfl, rfl⟩ dX6_command_196 ?_
                    refine v_σ (mk7 σ b (pz f0 False (p + 1 + 1 + 1) (lo + 1)) (ic (comeFl f1 (nI (dgN t (p + 2))) (nI (dgN t (p + 1))) = 0) (comesS f1 (dgN t (p + 2)) (dgN t (p + 1))) f1) f2 f3 f4 f5 f6) (congrArg (fun z9 => mk7 σ b z9 (ic (comeFl f1 (nI (dgN t (p + 2))) (nI (dgN t (p + 1))) = 0) (comesS f1 (dgN t (p + 2)) (dgN t (p + 1))) f1) f2 f3 f4 f5 f6) (pz_u12 _ _ _ _ _)) ?_
                    refine v_vret rfl dX6_command_199 ⟨rfl, congrArg (φ shp) ?_⟩
                    · rw [show cmdN t lz p = p + 1 + 1 + 1 from by rw [cmdN_c qq, ic_t hB9.1]; unfold tkN; rw [ic_t hB9.2], show lo + ic (docP t p f1) 0 1 = lo + 1 by rw [docP_c q9, ic_f h187], show docS t p f1 = ic (comeFl f1 (nI (dgN t (p + 2))) (nI (dgN t (p + 1))) = 0) (comesS f1 (dgN t (p + 2)) (dgN t (p + 1))) f1 by unfold docS; rw [docP_c q9, docX_c q9]]
                  · skip
                    refine v_iconst (nI 0) dX6_command_190 (by decide +kernel) ?_
                    refine v_goto 195 dX6_command_191 rfl ?_
                    refine v_iaddN dX6_command_195 ?_
                    refine m_puti (k := 12) (ty := .int) hM rfl inX6_command_X6 (by decide) (by decide +kernel) rfl rfl (by decide +kernel) ⟨rfl, rfl⟩ dX6_command_196 ?_
                    refine v_σ (mk7 σ b (pz f0 False (p + 1 + 1 + 1) (lo + 0)) (ic (comeFl f1 (nI (dgN t (p + 2))) (nI (dgN t (p + 1))) = 0) (comesS f1 (dgN t (p + 2)) (dgN t (p + 1))) f1) f2 f3 f4 f5 f6) (congrArg (fun z9 => mk7 σ b z9 (ic (comeFl f1 (nI (dgN t (p + 2))) (nI (dgN t (p + 1))) = 0) (comesS f1 (dgN t (p + 2)) (dgN t (p + 1))) f1) f2 f3 f4 f5 f6) (pz_u12 _ _ _ _ _)) ?_
                    refine v_vret rfl dX6_command_199 ⟨rfl, congrArg (φ shp) ?_⟩
                    · rw [show cmdN t lz p = p + 1 + 1 + 1 from by rw [cmdN_c qq, ic_t hB9.1]; unfold tkN; rw [ic_t hB9.2], show lo + ic (docP t p f1) 0 1 = lo + 0 by rw [docP_c q9, ic_t h187], show docS t p f1 = ic (comeFl f1 (nI (dgN t (p + 2))) (nI (dgN t (p + 1))) = 0) (comesS f1 (dgN t (p + 2)) (dgN t (p + 1))) f1 by unfold docS; rw [docP_c q9, docX_c q9]]
          · skip
            omega
      · skip
        omega
    · skip
      omega
  · skip
    omega

set_option maxHeartbeats 4000000 in
set_option maxRecDepth 100000 in
/-- command, done -/
theorem c_X6_command_1g (lu : Launch) (Dg : va_G) (E : Nat → ClassId) (N : Nat) (G : Nat → Nat) (shp : Nat → (Nat → Int32) → va_E) (σ : Nat → Nat → Int32) {b : Nat} (hM : ModS E G shp N b) (f0 f1 f2 f3 f4 f5 f6 : Nat → Int32)  {t : Nat → Int32} {lz : Nat} (hl : f0 9 = nI lz) (h100 : lz ≤ 100) (ht : ∀ k, k < lz → f6 k &&& nI 255 = t k) {p lo : Nat} (hp : p < 2 ^ 18) (hpl : p < lz) (q9 : t p = nI 103) {T : Nat} (hI : Inv T f1) (hT : T ≤ 999900) (hB : cmdB t lz p)  : CS lu yX6_command wsX6_command { frames := 6, cells := 0, slots := 0, locals := 134 } Dg E N G shp (mk7 σ b (pz f0 False p lo) f1 f2 f3 f4 f5 f6) [.ref (G b), .int (nI 1)] none (mk7 σ b (pz f0 False (cmdN t lz p) (lo + ic (docP t p f1) 0 1)) (docS t p f1) f2 f3 f4 f5 f6) := by
  refine CS.of (cc := cX6_command) (maxL := 5) (ret := none) (by decide) rfl (Nat.le_of_ble_eq_true rfl) ?_
  intro p_ e_ s_ m_ args_ below_ meth_ c_
  refine v_eq (pc' := 0) (st' := []) rfl rfl ?_
  refine v_loc [0, 1] [(0, .ref (G b)), (1, .int (nI 1))] rfl ?_
  have qq := (chrT_of (t := t) hpl).trans q9
  have hB9 := hB
  rw [cmdB_g qq] at hB9
  obtain ⟨a1, a2, a3, a4, a5⟩ := pers_of hB9
  refine v_aload_n 0 dX6_command_0 rfl rfl ?_
  refine u_getr (k := 8) (C := RX6) (T := TX6) (NF := 13) hM.n hM.s rfl rfl inX6_command_X6 (by decide) (by decide +kernel) rfl dX6_command_1 ?_
  refine v_aload_n 0 dX6_command_4 rfl rfl ?_
  refine m_geti (k := 10) hM rfl inX6_command_X6 (by decide) (by decide +kernel) rfl dX6_command_5 ?_
  refine v_topi (nI p) (pz_10 _ _ _ _) ?_
  refine m_ld6 p hM (rfl) (by omega) dX6_command_8 ?_
  refine v_sipush (nI 255) dX6_command_9 (by decide +kernel) ?_
  refine v_iand dX6_command_12 ?_
  refine v_topi (nI 103) ((ht p hpl).trans q9) ?_
  refine v_istore_n [(2, .int (nI 103)), (0, .ref (G b)), (1, .int (nI 1))] dX6_command_13 rfl (by decide) rfl ?_
  refine v_aload_n 1 dX6_command_14 rfl rfl ?_
  refine v_iload_n 0 dX6_command_15 rfl rfl ?_
  refine v_bipush (nI 99) dX6_command_16 (by decide +kernel) ?_
  refine v_icmp_eqN 49 (by omega) (by omega) dX6_command_18 rfl (fun h18 => ?_) (fun h18 => ?_)
  · skip
    omega
  · skip
    refine v_iload_n 0 dX6_command_21 rfl rfl ?_
    refine v_bipush (nI 103) dX6_command_22 (by decide +kernel) ?_
    refine v_icmp_eqN 49 (by omega) (by omega) dX6_command_24 rfl (fun h24 => ?_) (fun h24 => ?_)
    · skip
      refine v_iconst (nI 0) dX6_command_49 (by decide +kernel) ?_
      refine m_puti (k := 11) (ty := .boolean) hM rfl inX6_command_X6 (by decide) (by decide +kernel) rfl rfl (by decide +kernel) bn_0 dX6_command_50 ?_
      refine v_σ (mk7 σ b (pz f0 False p lo) f1 f2 f3 f4 f5 f6) (congrArg (fun z9 => mk7 σ b z9 f1 f2 f3 f4 f5 f6) (pz_u11f _ _ _ _)) ?_
      refine v_aload_n 1 dX6_command_53 rfl rfl ?_
      refine v_dup dX6_command_54 rfl ?_
      refine m_geti (k := 10) hM rfl inX6_command_X6 (by decide) (by decide +kernel) rfl dX6_command_55 ?_
      refine v_topi (nI p) (pz_10 _ _ _ _) ?_
      refine v_aload_n 1 dX6_command_58 rfl rfl ?_
      refine m_geti (k := 11) hM rfl inX6_command_X6 (by decide) (by decide +kernel) rfl dX6_command_59 ?_
      refine v_topi (nI 0) (pz_11f _ _ _) ?_
      refine v_if_eqN 69 (by omega) dX6_command_62 rfl (fun h62 => ?_) (fun h62 => ?_)
      · skip
        refine v_iconst (nI 1) dX6_command_69 (by decide +kernel) ?_
        refine v_iaddN dX6_command_70 ?_
        refine m_puti (k := 10) (ty := .int) hM rfl inX6_command_X6 (by decide) (by decide +kernel) rfl rfl (by decide +kernel) ⟨rfl, rfl⟩ dX6_command_71 ?_
        refine v_σ (mk7 σ b (pz f0 False (p + 1) lo) f1 f2 f3 f4 f5 f6) (congrArg (fun z9 => mk7 σ b z9 f1 f2 f3 f4 f5 f6) (pz_u10 _ _ _ _ _)) ?_
        refine v_aload_n 1 dX6_command_74 rfl rfl ?_
        refine m_geti (k := 11) hM rfl inX6_command_X6 (by decide) (by decide +kernel) rfl dX6_command_75 ?_
        refine v_topi (nI 0) (pz_11f _ _ _) ?_
        refine v_if_eqN 85 (by omega) dX6_command_78 rfl (fun h78 => ?_) (fun h78 => ?_)
        · skip
          refine v_iload_n 0 dX6_command_85 rfl rfl ?_
          refine v_bipush (nI 99) dX6_command_86 (by decide +kernel) ?_
          refine v_icmp_neN 100 (by omega) (by omega) dX6_command_88 rfl (fun h88 => ?_) (fun h88 => ?_)
          · skip
            refine v_iload_n 0 dX6_command_100 rfl rfl ?_
            refine v_bipush (nI 116) dX6_command_101 (by decide +kernel) ?_
            refine v_icmp_neN 116 (by omega) (by omega) dX6_command_103 rfl (fun h103 => ?_) (fun h103 => ?_)
            · skip
              refine v_aload_n 1 dX6_command_116 rfl rfl ?_
              refine u_callVv [] [] 0 (c_X6_who lu Dg E N G shp σ hM f0 f1 f2 f3 f4 f5 f6 hl h100 ht (p := p + 1) (lo := lo) (by omega)) (ci := 6) (C := RX6) (T := TX6) (NF := 13) hM.n hM.s rfl gX6_command_X6_who rfl rfl rfl (by decide +kernel) rfl ⟨Nat.le_of_ble_eq_true rfl, Nat.le_of_ble_eq_true rfl⟩ ⟨Nat.le_of_ble_eq_true rfl, Nat.le_of_ble_eq_true rfl⟩ (Nat.le_of_ble_eq_true rfl) rfl dX6_command_117 ?_
              refine v_σ (mk7 σ b (pz f0 False (p + 3) lo) f1 f2 f3 f4 f5 f6) (congrArg (fun z9 => mk7 σ b z9 f1 f2 f3 f4 f5 f6) ((pz_wt hB9).trans (pz_c Iff.rfl a3))) ?_
              refine v_topi (nI (nmN t (p + 1))) (a1) ?_
              refine v_istore_n [(3, .int (nI (nmN t (p + 1)))), (2, .int (nI 103)), (0, .ref (G b)), (1, .int (nI 1))] dX6_command_120 rfl (by decide) rfl ?_
              refine v_aload_n 2 dX6_command_121 rfl rfl ?_
              refine m_geti (k := 11) hM rfl inX6_command_X6 (by decide) (by decide +kernel) rfl dX6_command_122 ?_
              refine v_topi (nI 0) (pz_11f _ _ _) ?_
              refine v_if_eqN 132 (by omega) dX6_command_125 rfl (fun h125 => ?_) (fun h125 => ?_)
              · skip
                refine v_iload_n 1 dX6_command_132 rfl rfl ?_
                refine v_bipush (nI 99) dX6_command_133 (by decide +kernel) ?_
                refine v_icmp_neN 147 (by omega) (by omega) dX6_command_135 rfl (fun h135 => ?_) (fun h135 => ?_)
                · skip
                  refine v_iload_n 1 dX6_command_147 rfl rfl ?_
                  refine v_bipush (nI 120) dX6_command_148 (by decide +kernel) ?_
                  refine v_icmp_neN 160 (by omega) (by omega) dX6_command_150 rfl (fun h150 => ?_) (fun h150 => ?_)
                  · skip
                    refine v_iconst (nI 0) dX6_command_160 (by decide +kernel) ?_
                    refine v_istore [(4, .int (nI 0)), (3, .int (nI (nmN t (p + 1)))), (2, .int (nI 103)), (0, .ref (G b)), (1, .int (nI 1))] dX6_command_161 (by decide) rfl ?_
                    refine v_iload_n 4 dX6_command_163 rfl rfl ?_
                    refine v_if_eqN 199 (by omega) dX6_command_164 rfl (fun h164 => ?_) (fun h164 => ?_)
                    · skip
                      omega
                    · skip
                      refine v_aload_n 3 dX6_command_167 rfl rfl ?_
                      refine m_geti (k := 11) hM rfl inX6_command_X6 (by decide) (by decide +kernel) rfl dX6_command_168 ?_
                      refine v_topi (nI 0) (pz_11f _ _ _) ?_
                      refine v_if_neN 199 (by omega) dX6_command_171 rfl (fun h171 => ?_) (fun h171 => ?_)
                      · skip
                        omega
                      · skip
                        refine v_aload_n 3 dX6_command_174 rfl rfl ?_
                        refine v_dup dX6_command_175 rfl ?_
                        refine m_geti (k := 12) hM rfl inX6_command_X6 (by decide) (by decide +kernel) rfl dX6_command_176 ?_
                        refine v_topi (nI lo) (pz_12 _ _ _ _) ?_
                        refine v_aload_n 3 dX6_command_179 rfl rfl ?_
                        refine v_iload_n 2 dX6_command_180 rfl rfl ?_
                        refine v_iload_n 1 dX6_command_181 rfl rfl ?_
                        refine v_iload 0 dX6_command_182 rfl ?_
                        refine u_callVv [.int (nI 103), .int (nI (nmN t (p + 1))), .int (nI 0)] [.int (nI lo), .ref (G b)] 3 (c_X6_carries_g lu Dg E N G shp σ hM (pz f0 False (p + 3) lo) f1 f2 f3 f4 f5 f6 hI (p := nmN t (p + 1)) (q := 0) (by omega)) (ci := 6) (C := RX6) (T := TX6) (NF := 13) hM.n hM.s rfl gX6_command_X6_carries rfl rfl rfl (by decide +kernel) rfl ⟨Nat.le_of_ble_eq_true rfl, Nat.le_of_ble_eq_true rfl⟩ ⟨Nat.le_of_ble_eq_true rfl, Nat.le_of_ble_eq_true rfl⟩ (Nat.le_of_ble_eq_true rfl) rfl dX6_command_184 ?_
                        refine v_if_eqB 194 dX6_command_187 rfl (fun h187 => ?_) (fun h187 => ?_)
                        · skip
                          refine v_iconst (nI 1) dX6_command_194 (by decide +kernel) ?_
                          refine v_iaddN dX6_command_195 ?_
                          refine m_puti (k := 12) (ty := .int) hM rfl inX6_command_X6 (by decide) (by decide +kernel) rfl rfl (by decide +kernel) ⟨rfl, rfl⟩ dX6_command_196 ?_
                          refine v_σ (mk7 σ b (pz f0 False (p + 3) (lo + 1)) (ic (goFl f1 (nI (nmN t (p + 1))) = 0) (goesS f1 (nmN t (p + 1))) f1) f2 f3 f4 f5 f6) (congrArg (fun z9 => mk7 σ b z9 (ic (goFl f1 (nI (nmN t (p + 1))) = 0) (goesS f1 (nmN t (p + 1))) f1) f2 f3 f4 f5 f6) (pz_u12 _ _ _ _ _)) ?_
                          refine v_vret rfl dX6_command_199 ⟨rfl, congrArg (φ shp) ?_⟩
                          · rw [show cmdN t lz p = p + 3 from by rw [cmdN_g qq, a3], show lo + ic (docP t p f1) 0 1 = lo + 1 by rw [docP_g q9, ic_f h187], show docS t p f1 = ic (goFl f1 (nI (nmN t (p + 1))) = 0) (goesS f1 (nmN t (p + 1))) f1 by unfold docS; rw [docP_g q9, docX_g q9]]
                        · skip
                          refine v_iconst (nI 0) dX6_command_190 (by decide +kernel) ?_
                          refine v_goto 195 dX6_command_191 rfl ?_
                          refine v_iaddN dX6_command_195 ?_
                          refine m_puti (k := 12) (ty := .int) hM rfl inX6_command_X6 (by decide) (by decide +kernel) rfl rfl (by decide +kernel) ⟨rfl, rfl⟩ dX6_command_196 ?_
                          refine v_σ (mk7 σ b (pz f0 False (p + 3) (lo + 0)) (ic (goFl f1 (nI (nmN t (p + 1))) = 0) (goesS f1 (nmN t (p + 1))) f1) f2 f3 f4 f5 f6) (congrArg (fun z9 => mk7 σ b z9 (ic (goFl f1 (nI (nmN t (p + 1))) = 0) (goesS f1 (nmN t (p + 1))) f1) f2 f3 f4 f5 f6) (pz_u12 _ _ _ _ _)) ?_
                          refine v_vret rfl dX6_command_199 ⟨rfl, congrArg (φ shp) ?_⟩
                          · rw [show cmdN t lz p = p + 3 from by rw [cmdN_g qq, a3], show lo + ic (docP t p f1) 0 1 = lo + 0 by rw [docP_g q9, ic_t h187], show docS t p f1 = ic (goFl f1 (nI (nmN t (p + 1))) = 0) (goesS f1 (nmN t (p + 1))) f1 by unfold docS; rw [docP_g q9, docX_g q9]]
                  · skip
                    omega
                · skip
                  omega
              · skip
                omega
            · skip
              omega
          · skip
            omega
        · skip
          omega
      · skip
        omega
    · skip
      omega

set_option maxHeartbeats 4000000 in
set_option maxRecDepth 100000 in
/-- command, done -/
theorem c_X6_command_1j (lu : Launch) (Dg : va_G) (E : Nat → ClassId) (N : Nat) (G : Nat → Nat) (shp : Nat → (Nat → Int32) → va_E) (σ : Nat → Nat → Int32) {b : Nat} (hM : ModS E G shp N b) (f0 f1 f2 f3 f4 f5 f6 : Nat → Int32)  {t : Nat → Int32} {lz : Nat} (hl : f0 9 = nI lz) (h100 : lz ≤ 100) (ht : ∀ k, k < lz → f6 k &&& nI 255 = t k) {p lo : Nat} (hp : p < 2 ^ 18) (hpl : p < lz) (q9 : t p = nI 106) {T : Nat} (hI : Inv T f1) (hT : T ≤ 999900) (hB : cmdB t lz p)  : CS lu yX6_command wsX6_command { frames := 6, cells := 0, slots := 0, locals := 134 } Dg E N G shp (mk7 σ b (pz f0 False p lo) f1 f2 f3 f4 f5 f6) [.ref (G b), .int (nI 1)] none (mk7 σ b (pz f0 False (cmdN t lz p) (lo + ic (docP t p f1) 0 1)) (docS t p f1) f2 f3 f4 f5 f6) := by
  refine CS.of (cc := cX6_command) (maxL := 5) (ret := none) (by decide) rfl (Nat.le_of_ble_eq_true rfl) ?_
  intro p_ e_ s_ m_ args_ below_ meth_ c_
  refine v_eq (pc' := 0) (st' := []) rfl rfl ?_
  refine v_loc [0, 1] [(0, .ref (G b)), (1, .int (nI 1))] rfl ?_
  have qq := (chrT_of (t := t) hpl).trans q9
  have hB9 := hB
  rw [cmdB_j qq] at hB9
  obtain ⟨a1, a2, a3, a4, a5⟩ := pers_of hB9
  refine v_aload_n 0 dX6_command_0 rfl rfl ?_
  refine u_getr (k := 8) (C := RX6) (T := TX6) (NF := 13) hM.n hM.s rfl rfl inX6_command_X6 (by decide) (by decide +kernel) rfl dX6_command_1 ?_
  refine v_aload_n 0 dX6_command_4 rfl rfl ?_
  refine m_geti (k := 10) hM rfl inX6_command_X6 (by decide) (by decide +kernel) rfl dX6_command_5 ?_
  refine v_topi (nI p) (pz_10 _ _ _ _) ?_
  refine m_ld6 p hM (rfl) (by omega) dX6_command_8 ?_
  refine v_sipush (nI 255) dX6_command_9 (by decide +kernel) ?_
  refine v_iand dX6_command_12 ?_
  refine v_topi (nI 106) ((ht p hpl).trans q9) ?_
  refine v_istore_n [(2, .int (nI 106)), (0, .ref (G b)), (1, .int (nI 1))] dX6_command_13 rfl (by decide) rfl ?_
  refine v_aload_n 1 dX6_command_14 rfl rfl ?_
  refine v_iload_n 0 dX6_command_15 rfl rfl ?_
  refine v_bipush (nI 99) dX6_command_16 (by decide +kernel) ?_
  refine v_icmp_eqN 49 (by omega) (by omega) dX6_command_18 rfl (fun h18 => ?_) (fun h18 => ?_)
  · skip
    omega
  · skip
    refine v_iload_n 0 dX6_command_21 rfl rfl ?_
    refine v_bipush (nI 103) dX6_command_22 (by decide +kernel) ?_
    refine v_icmp_eqN 49 (by omega) (by omega) dX6_command_24 rfl (fun h24 => ?_) (fun h24 => ?_)
    · skip
      omega
    · skip
      refine v_iload_n 0 dX6_command_27 rfl rfl ?_
      refine v_bipush (nI 120) dX6_command_28 (by decide +kernel) ?_
      refine v_icmp_eqN 49 (by omega) (by omega) dX6_command_30 rfl (fun h30 => ?_) (fun h30 => ?_)
      · skip
        omega
      · skip
        refine v_iload_n 0 dX6_command_33 rfl rfl ?_
        refine v_bipush (nI 106) dX6_command_34 (by decide +kernel) ?_
        refine v_icmp_eqN 49 (by omega) (by omega) dX6_command_36 rfl (fun h36 => ?_) (fun h36 => ?_)
        · skip
          refine v_iconst (nI 0) dX6_command_49 (by decide +kernel) ?_
          refine m_puti (k := 11) (ty := .boolean) hM rfl inX6_command_X6 (by decide) (by decide +kernel) rfl rfl (by decide +kernel) bn_0 dX6_command_50 ?_
          refine v_σ (mk7 σ b (pz f0 False p lo) f1 f2 f3 f4 f5 f6) (congrArg (fun z9 => mk7 σ b z9 f1 f2 f3 f4 f5 f6) (pz_u11f _ _ _ _)) ?_
          refine v_aload_n 1 dX6_command_53 rfl rfl ?_
          refine v_dup dX6_command_54 rfl ?_
          refine m_geti (k := 10) hM rfl inX6_command_X6 (by decide) (by decide +kernel) rfl dX6_command_55 ?_
          refine v_topi (nI p) (pz_10 _ _ _ _) ?_
          refine v_aload_n 1 dX6_command_58 rfl rfl ?_
          refine m_geti (k := 11) hM rfl inX6_command_X6 (by decide) (by decide +kernel) rfl dX6_command_59 ?_
          refine v_topi (nI 0) (pz_11f _ _ _) ?_
          refine v_if_eqN 69 (by omega) dX6_command_62 rfl (fun h62 => ?_) (fun h62 => ?_)
          · skip
            refine v_iconst (nI 1) dX6_command_69 (by decide +kernel) ?_
            refine v_iaddN dX6_command_70 ?_
            refine m_puti (k := 10) (ty := .int) hM rfl inX6_command_X6 (by decide) (by decide +kernel) rfl rfl (by decide +kernel) ⟨rfl, rfl⟩ dX6_command_71 ?_
            refine v_σ (mk7 σ b (pz f0 False (p + 1) lo) f1 f2 f3 f4 f5 f6) (congrArg (fun z9 => mk7 σ b z9 f1 f2 f3 f4 f5 f6) (pz_u10 _ _ _ _ _)) ?_
            refine v_aload_n 1 dX6_command_74 rfl rfl ?_
            refine m_geti (k := 11) hM rfl inX6_command_X6 (by decide) (by decide +kernel) rfl dX6_command_75 ?_
            refine v_topi (nI 0) (pz_11f _ _ _) ?_
            refine v_if_eqN 85 (by omega) dX6_command_78 rfl (fun h78 => ?_) (fun h78 => ?_)
            · skip
              refine v_iload_n 0 dX6_command_85 rfl rfl ?_
              refine v_bipush (nI 99) dX6_command_86 (by decide +kernel) ?_
              refine v_icmp_neN 100 (by omega) (by omega) dX6_command_88 rfl (fun h88 => ?_) (fun h88 => ?_)
              · skip
                refine v_iload_n 0 dX6_command_100 rfl rfl ?_
                refine v_bipush (nI 116) dX6_command_101 (by decide +kernel) ?_
                refine v_icmp_neN 116 (by omega) (by omega) dX6_command_103 rfl (fun h103 => ?_) (fun h103 => ?_)
                · skip
                  refine v_aload_n 1 dX6_command_116 rfl rfl ?_
                  refine u_callVv [] [] 0 (c_X6_who lu Dg E N G shp σ hM f0 f1 f2 f3 f4 f5 f6 hl h100 ht (p := p + 1) (lo := lo) (by omega)) (ci := 6) (C := RX6) (T := TX6) (NF := 13) hM.n hM.s rfl gX6_command_X6_who rfl rfl rfl (by decide +kernel) rfl ⟨Nat.le_of_ble_eq_true rfl, Nat.le_of_ble_eq_true rfl⟩ ⟨Nat.le_of_ble_eq_true rfl, Nat.le_of_ble_eq_true rfl⟩ (Nat.le_of_ble_eq_true rfl) rfl dX6_command_117 ?_
                  refine v_σ (mk7 σ b (pz f0 False (p + 3) lo) f1 f2 f3 f4 f5 f6) (congrArg (fun z9 => mk7 σ b z9 f1 f2 f3 f4 f5 f6) ((pz_wt hB9).trans (pz_c Iff.rfl a3))) ?_
                  refine v_topi (nI (nmN t (p + 1))) (a1) ?_
                  refine v_istore_n [(3, .int (nI (nmN t (p + 1)))), (2, .int (nI 106)), (0, .ref (G b)), (1, .int (nI 1))] dX6_command_120 rfl (by decide) rfl ?_
                  refine v_aload_n 2 dX6_command_121 rfl rfl ?_
                  refine m_geti (k := 11) hM rfl inX6_command_X6 (by decide) (by decide +kernel) rfl dX6_command_122 ?_
                  refine v_topi (nI 0) (pz_11f _ _ _) ?_
                  refine v_if_eqN 132 (by omega) dX6_command_125 rfl (fun h125 => ?_) (fun h125 => ?_)
                  · skip
                    refine v_iload_n 1 dX6_command_132 rfl rfl ?_
                    refine v_bipush (nI 99) dX6_command_133 (by decide +kernel) ?_
                    refine v_icmp_neN 147 (by omega) (by omega) dX6_command_135 rfl (fun h135 => ?_) (fun h135 => ?_)
                    · skip
                      refine v_iload_n 1 dX6_command_147 rfl rfl ?_
                      refine v_bipush (nI 120) dX6_command_148 (by decide +kernel) ?_
                      refine v_icmp_neN 160 (by omega) (by omega) dX6_command_150 rfl (fun h150 => ?_) (fun h150 => ?_)
                      · skip
                        refine v_iconst (nI 0) dX6_command_160 (by decide +kernel) ?_
                        refine v_istore [(4, .int (nI 0)), (3, .int (nI (nmN t (p + 1)))), (2, .int (nI 106)), (0, .ref (G b)), (1, .int (nI 1))] dX6_command_161 (by decide) rfl ?_
                        refine v_iload_n 4 dX6_command_163 rfl rfl ?_
                        refine v_if_eqN 199 (by omega) dX6_command_164 rfl (fun h164 => ?_) (fun h164 => ?_)
                        · skip
                          omega
                        · skip
                          refine v_aload_n 3 dX6_command_167 rfl rfl ?_
                          refine m_geti (k := 11) hM rfl inX6_command_X6 (by decide) (by decide +kernel) rfl dX6_command_168 ?_
                          refine v_topi (nI 0) (pz_11f _ _ _) ?_
                          refine v_if_neN 199 (by omega) dX6_command_171 rfl (fun h171 => ?_) (fun h171 => ?_)
                          · skip
                            omega
                          · skip
                            refine v_aload_n 3 dX6_command_174 rfl rfl ?_
                            refine v_dup dX6_command_175 rfl ?_
                            refine m_geti (k := 12) hM rfl inX6_command_X6 (by decide) (by decide +kernel) rfl dX6_command_176 ?_
                            refine v_topi (nI lo) (pz_12 _ _ _ _) ?_
                            refine v_aload_n 3 dX6_command_179 rfl rfl ?_
                            refine v_iload_n 2 dX6_command_180 rfl rfl ?_
                            refine v_iload_n 1 dX6_command_181 rfl rfl ?_
                            refine v_iload 0 dX6_command_182 rfl ?_
                            refine u_callVv [.int (nI 106), .int (nI (nmN t (p + 1))), .int (nI 0)] [.int (nI lo), .ref (G b)] 3 (c_X6_carries_j lu Dg E N G shp σ hM (pz f0 False (p + 3) lo) f1 f2 f3 f4 f5 f6 hI (p := nmN t (p + 1)) (q := 0) (by omega)) (ci := 6) (C := RX6) (T := TX6) (NF := 13) hM.n hM.s rfl gX6_command_X6_carries rfl rfl rfl (by decide +kernel) rfl ⟨Nat.le_of_ble_eq_true rfl, Nat.le_of_ble_eq_true rfl⟩ ⟨Nat.le_of_ble_eq_true rfl, Nat.le_of_ble_eq_true rfl⟩ (Nat.le_of_ble_eq_true rfl) rfl dX6_command_184 ?_
                            refine v_if_eqB 194 dX6_command_187 rfl (fun h187 => ?_) (fun h187 => ?_)
                            · skip
                              refine v_iconst (nI 1) dX6_command_194 (by decide +kernel) ?_
                              refine v_iaddN dX6_command_195 ?_
                              refine m_puti (k := 12) (ty := .int) hM rfl inX6_command_X6 (by decide) (by decide +kernel) rfl rfl (by decide +kernel) ⟨rfl, rfl⟩ dX6_command_196 ?_
                              refine v_σ (mk7 σ b (pz f0 False (p + 3) (lo + 1)) (ic (jumpFl f1 (nI (nmN t (p + 1))) = 0) (jumpsS f1 (nmN t (p + 1))) f1) f2 f3 f4 f5 f6) (congrArg (fun z9 => mk7 σ b z9 (ic (jumpFl f1 (nI (nmN t (p + 1))) = 0) (jumpsS f1 (nmN t (p + 1))) f1) f2 f3 f4 f5 f6) (pz_u12 _ _ _ _ _)) ?_
                              refine v_vret rfl dX6_command_199 ⟨rfl, congrArg (φ shp) ?_⟩
                              · rw [show cmdN t lz p = p + 3 from by rw [cmdN_j qq, a3], show lo + ic (docP t p f1) 0 1 = lo + 1 by rw [docP_j q9, ic_f h187], show docS t p f1 = ic (jumpFl f1 (nI (nmN t (p + 1))) = 0) (jumpsS f1 (nmN t (p + 1))) f1 by unfold docS; rw [docP_j q9, docX_j q9]]
                            · skip
                              refine v_iconst (nI 0) dX6_command_190 (by decide +kernel) ?_
                              refine v_goto 195 dX6_command_191 rfl ?_
                              refine v_iaddN dX6_command_195 ?_
                              refine m_puti (k := 12) (ty := .int) hM rfl inX6_command_X6 (by decide) (by decide +kernel) rfl rfl (by decide +kernel) ⟨rfl, rfl⟩ dX6_command_196 ?_
                              refine v_σ (mk7 σ b (pz f0 False (p + 3) (lo + 0)) (ic (jumpFl f1 (nI (nmN t (p + 1))) = 0) (jumpsS f1 (nmN t (p + 1))) f1) f2 f3 f4 f5 f6) (congrArg (fun z9 => mk7 σ b z9 (ic (jumpFl f1 (nI (nmN t (p + 1))) = 0) (jumpsS f1 (nmN t (p + 1))) f1) f2 f3 f4 f5 f6) (pz_u12 _ _ _ _ _)) ?_
                              refine v_vret rfl dX6_command_199 ⟨rfl, congrArg (φ shp) ?_⟩
                              · rw [show cmdN t lz p = p + 3 from by rw [cmdN_j qq, a3], show lo + ic (docP t p f1) 0 1 = lo + 0 by rw [docP_j q9, ic_t h187], show docS t p f1 = ic (jumpFl f1 (nI (nmN t (p + 1))) = 0) (jumpsS f1 (nmN t (p + 1))) f1 by unfold docS; rw [docP_j q9, docX_j q9]]
                      · skip
                        omega
                    · skip
                      omega
                  · skip
                    omega
                · skip
                  omega
              · skip
                omega
            · skip
              omega
          · skip
            omega
        · skip
          omega

set_option maxHeartbeats 4000000 in
set_option maxRecDepth 100000 in
/-- command, done -/
theorem c_X6_command_1t (lu : Launch) (Dg : va_G) (E : Nat → ClassId) (N : Nat) (G : Nat → Nat) (shp : Nat → (Nat → Int32) → va_E) (σ : Nat → Nat → Int32) {b : Nat} (hM : ModS E G shp N b) (f0 f1 f2 f3 f4 f5 f6 : Nat → Int32)  {t : Nat → Int32} {lz : Nat} (hl : f0 9 = nI lz) (h100 : lz ≤ 100) (ht : ∀ k, k < lz → f6 k &&& nI 255 = t k) {p lo : Nat} (hp : p < 2 ^ 18) (hpl : p < lz) (q9 : t p = nI 116) {T : Nat} (hI : Inv T f1) (hT : T ≤ 999900) (hB : cmdB t lz p)  : CS lu yX6_command wsX6_command { frames := 6, cells := 0, slots := 0, locals := 134 } Dg E N G shp (mk7 σ b (pz f0 False p lo) f1 f2 f3 f4 f5 f6) [.ref (G b), .int (nI 1)] none (mk7 σ b (pz f0 False (cmdN t lz p) (lo + ic (docP t p f1) 0 1)) (docS t p f1) f2 f3 f4 f5 f6) := by
  refine CS.of (cc := cX6_command) (maxL := 5) (ret := none) (by decide) rfl (Nat.le_of_ble_eq_true rfl) ?_
  intro p_ e_ s_ m_ args_ below_ meth_ c_
  refine v_eq (pc' := 0) (st' := []) rfl rfl ?_
  refine v_loc [0, 1] [(0, .ref (G b)), (1, .int (nI 1))] rfl ?_
  have qq := (chrT_of (t := t) hpl).trans q9
  have hB9 := hB
  rw [cmdB_t qq] at hB9
  obtain ⟨a1, a2, a3⟩ := dgN_of (by omega) (by omega) hB9 (by omega)
  have l1 := tk_lt (by omega) hB9
  refine v_aload_n 0 dX6_command_0 rfl rfl ?_
  refine u_getr (k := 8) (C := RX6) (T := TX6) (NF := 13) hM.n hM.s rfl rfl inX6_command_X6 (by decide) (by decide +kernel) rfl dX6_command_1 ?_
  refine v_aload_n 0 dX6_command_4 rfl rfl ?_
  refine m_geti (k := 10) hM rfl inX6_command_X6 (by decide) (by decide +kernel) rfl dX6_command_5 ?_
  refine v_topi (nI p) (pz_10 _ _ _ _) ?_
  refine m_ld6 p hM (rfl) (by omega) dX6_command_8 ?_
  refine v_sipush (nI 255) dX6_command_9 (by decide +kernel) ?_
  refine v_iand dX6_command_12 ?_
  refine v_topi (nI 116) ((ht p hpl).trans q9) ?_
  refine v_istore_n [(2, .int (nI 116)), (0, .ref (G b)), (1, .int (nI 1))] dX6_command_13 rfl (by decide) rfl ?_
  refine v_aload_n 1 dX6_command_14 rfl rfl ?_
  refine v_iload_n 0 dX6_command_15 rfl rfl ?_
  refine v_bipush (nI 99) dX6_command_16 (by decide +kernel) ?_
  refine v_icmp_eqN 49 (by omega) (by omega) dX6_command_18 rfl (fun h18 => ?_) (fun h18 => ?_)
  · skip
    omega
  · skip
    refine v_iload_n 0 dX6_command_21 rfl rfl ?_
    refine v_bipush (nI 103) dX6_command_22 (by decide +kernel) ?_
    refine v_icmp_eqN 49 (by omega) (by omega) dX6_command_24 rfl (fun h24 => ?_) (fun h24 => ?_)
    · skip
      omega
    · skip
      refine v_iload_n 0 dX6_command_27 rfl rfl ?_
      refine v_bipush (nI 120) dX6_command_28 (by decide +kernel) ?_
      refine v_icmp_eqN 49 (by omega) (by omega) dX6_command_30 rfl (fun h30 => ?_) (fun h30 => ?_)
      · skip
        omega
      · skip
        refine v_iload_n 0 dX6_command_33 rfl rfl ?_
        refine v_bipush (nI 106) dX6_command_34 (by decide +kernel) ?_
        refine v_icmp_eqN 49 (by omega) (by omega) dX6_command_36 rfl (fun h36 => ?_) (fun h36 => ?_)
        · skip
          omega
        · skip
          refine v_iload_n 0 dX6_command_39 rfl rfl ?_
          refine v_bipush (nI 116) dX6_command_40 (by decide +kernel) ?_
          refine v_icmp_eqN 49 (by omega) (by omega) dX6_command_42 rfl (fun h42 => ?_) (fun h42 => ?_)
          · skip
            refine v_iconst (nI 0) dX6_command_49 (by decide +kernel) ?_
            refine m_puti (k := 11) (ty := .boolean) hM rfl inX6_command_X6 (by decide) (by decide +kernel) rfl rfl (by decide +kernel) bn_0 dX6_command_50 ?_
            refine v_σ (mk7 σ b (pz f0 False p lo) f1 f2 f3 f4 f5 f6) (congrArg (fun z9 => mk7 σ b z9 f1 f2 f3 f4 f5 f6) (pz_u11f _ _ _ _)) ?_
            refine v_aload_n 1 dX6_command_53 rfl rfl ?_
            refine v_dup dX6_command_54 rfl ?_
            refine m_geti (k := 10) hM rfl inX6_command_X6 (by decide) (by decide +kernel) rfl dX6_command_55 ?_
            refine v_topi (nI p) (pz_10 _ _ _ _) ?_
            refine v_aload_n 1 dX6_command_58 rfl rfl ?_
            refine m_geti (k := 11) hM rfl inX6_command_X6 (by decide) (by decide +kernel) rfl dX6_command_59 ?_
            refine v_topi (nI 0) (pz_11f _ _ _) ?_
            refine v_if_eqN 69 (by omega) dX6_command_62 rfl (fun h62 => ?_) (fun h62 => ?_)
            · skip
              refine v_iconst (nI 1) dX6_command_69 (by decide +kernel) ?_
              refine v_iaddN dX6_command_70 ?_
              refine m_puti (k := 10) (ty := .int) hM rfl inX6_command_X6 (by decide) (by decide +kernel) rfl rfl (by decide +kernel) ⟨rfl, rfl⟩ dX6_command_71 ?_
              refine v_σ (mk7 σ b (pz f0 False (p + 1) lo) f1 f2 f3 f4 f5 f6) (congrArg (fun z9 => mk7 σ b z9 f1 f2 f3 f4 f5 f6) (pz_u10 _ _ _ _ _)) ?_
              refine v_aload_n 1 dX6_command_74 rfl rfl ?_
              refine m_geti (k := 11) hM rfl inX6_command_X6 (by decide) (by decide +kernel) rfl dX6_command_75 ?_
              refine v_topi (nI 0) (pz_11f _ _ _) ?_
              refine v_if_eqN 85 (by omega) dX6_command_78 rfl (fun h78 => ?_) (fun h78 => ?_)
              · skip
                refine v_iload_n 0 dX6_command_85 rfl rfl ?_
                refine v_bipush (nI 99) dX6_command_86 (by decide +kernel) ?_
                refine v_icmp_neN 100 (by omega) (by omega) dX6_command_88 rfl (fun h88 => ?_) (fun h88 => ?_)
                · skip
                  refine v_iload_n 0 dX6_command_100 rfl rfl ?_
                  refine v_bipush (nI 116) dX6_command_101 (by decide +kernel) ?_
                  refine v_icmp_neN 116 (by omega) (by omega) dX6_command_103 rfl (fun h103 => ?_) (fun h103 => ?_)
                  · skip
                    omega
                  · skip
                    refine v_aload_n 1 dX6_command_106 rfl rfl ?_
                    refine v_iconst (nI 1) dX6_command_107 (by decide +kernel) ?_
                    refine v_bipush (nI 9) dX6_command_108 (by decide +kernel) ?_
                    refine u_callVv [.int (nI 1), .int (nI 9)] [] 2 (c_X6_digit_0 lu Dg E N G shp σ hM f0 f1 f2 f3 f4 f5 f6 hl h100 ht (p := p + 1) (lo := lo) (by omega) (a := 1) (u := 9) (by omega) (by omega)) (ci := 6) (C := RX6) (T := TX6) (NF := 13) hM.n hM.s rfl gX6_command_X6_digit rfl rfl rfl (by decide +kernel) rfl ⟨Nat.le_of_ble_eq_true rfl, Nat.le_of_ble_eq_true rfl⟩ ⟨Nat.le_of_ble_eq_true rfl, Nat.le_of_ble_eq_true rfl⟩ (Nat.le_of_ble_eq_true rfl) rfl dX6_command_110 ?_
                    refine v_σ (mk7 σ b (pz f0 (¬ tkB t lz (nI 49) (nI 57) (p + 1)) (tkN t lz (nI 49) (nI 57) (p + 1)) lo) f1 f2 f3 f4 f5 f6) (congrArg (fun z9 => mk7 σ b z9 f1 f2 f3 f4 f5 f6) (rfl)) ?_
                    refine v_goto 120 dX6_command_113 rfl ?_
                    refine v_σ (mk7 σ b (pz f0 False (p + 1 + 1) lo) f1 f2 f3 f4 f5 f6) (congrArg (fun z9 => mk7 σ b z9 f1 f2 f3 f4 f5 f6) ((pz_t hB9).symm)) ?_
                    refine v_topi (nI (dgN t (p + 1))) (by rw [chrM_of l1]; exact a1) ?_
                    refine v_istore_n [(3, .int (nI (dgN t (p + 1)))), (2, .int (nI 116)), (0, .ref (G b)), (1, .int (nI 1))] dX6_command_120 rfl (by decide) rfl ?_
                    refine v_aload_n 2 dX6_command_121 rfl rfl ?_
                    refine m_geti (k := 11) hM rfl inX6_command_X6 (by decide) (by decide +kernel) rfl dX6_command_122 ?_
                    refine v_topi (nI 0) (pz_11f _ _ _) ?_
                    refine v_if_eqN 132 (by omega) dX6_command_125 rfl (fun h125 => ?_) (fun h125 => ?_)
                    · skip
                      refine v_iload_n 1 dX6_command_132 rfl rfl ?_
                      refine v_bipush (nI 99) dX6_command_133 (by decide +kernel) ?_
                      refine v_icmp_neN 147 (by omega) (by omega) dX6_command_135 rfl (fun h135 => ?_) (fun h135 => ?_)
                      · skip
                        refine v_iload_n 1 dX6_command_147 rfl rfl ?_
                        refine v_bipush (nI 120) dX6_command_148 (by decide +kernel) ?_
                        refine v_icmp_neN 160 (by omega) (by omega) dX6_command_150 rfl (fun h150 => ?_) (fun h150 => ?_)
                        · skip
                          refine v_iconst (nI 0) dX6_command_160 (by decide +kernel) ?_
                          refine v_istore [(4, .int (nI 0)), (3, .int (nI (dgN t (p + 1)))), (2, .int (nI 116)), (0, .ref (G b)), (1, .int (nI 1))] dX6_command_161 (by decide) rfl ?_
                          refine v_iload_n 4 dX6_command_163 rfl rfl ?_
                          refine v_if_eqN 199 (by omega) dX6_command_164 rfl (fun h164 => ?_) (fun h164 => ?_)
                          · skip
                            omega
                          · skip
                            refine v_aload_n 3 dX6_command_167 rfl rfl ?_
                            refine m_geti (k := 11) hM rfl inX6_command_X6 (by decide) (by decide +kernel) rfl dX6_command_168 ?_
                            refine v_topi (nI 0) (pz_11f _ _ _) ?_
                            refine v_if_neN 199 (by omega) dX6_command_171 rfl (fun h171 => ?_) (fun h171 => ?_)
                            · skip
                              omega
                            · skip
                              refine v_aload_n 3 dX6_command_174 rfl rfl ?_
                              refine v_dup dX6_command_175 rfl ?_
                              refine m_geti (k := 12) hM rfl inX6_command_X6 (by decide) (by decide +kernel) rfl dX6_command_176 ?_
                              refine v_topi (nI lo) (pz_12 _ _ _ _) ?_
                              refine v_aload_n 3 dX6_command_179 rfl rfl ?_
                              refine v_iload_n 2 dX6_command_180 rfl rfl ?_
                              refine v_iload_n 1 dX6_command_181 rfl rfl ?_
                              refine v_iload 0 dX6_command_182 rfl ?_
                              refine u_callVv [.int (nI 116), .int (nI (dgN t (p + 1))), .int (nI 0)] [.int (nI lo), .ref (G b)] 3 (c_X6_carries_t lu Dg E N G shp σ hM (pz f0 False (p + 1 + 1) lo) f1 f2 f3 f4 f5 f6 (n0 := dgN t (p + 1)) (q := 0) (by omega) (fun k9 hk9 => ⟨_, hI.goBy (n := k9) (by omega)⟩)) (ci := 6) (C := RX6) (T := TX6) (NF := 13) hM.n hM.s rfl gX6_command_X6_carries rfl rfl rfl (by decide +kernel) rfl ⟨Nat.le_of_ble_eq_true rfl, Nat.le_of_ble_eq_true rfl⟩ ⟨Nat.le_of_ble_eq_true rfl, Nat.le_of_ble_eq_true rfl⟩ (Nat.le_of_ble_eq_true rfl) rfl dX6_command_184 ?_
                              refine v_if_eqN 194 (by omega) dX6_command_187 rfl (fun h187 => ?_) (fun h187 => ?_)
                              · skip
                                omega
                              · skip
                                refine v_iconst (nI 0) dX6_command_190 (by decide +kernel) ?_
                                refine v_goto 195 dX6_command_191 rfl ?_
                                refine v_iaddN dX6_command_195 ?_
                                refine m_puti (k := 12) (ty := .int) hM rfl inX6_command_X6 (by decide) (by decide +kernel) rfl rfl (by decide +kernel) ⟨rfl, rfl⟩ dX6_command_196 ?_
                                refine v_σ (mk7 σ b (pz f0 False (p + 1 + 1) (lo + 0)) (goByS f1 (dgN t (p + 1))) f2 f3 f4 f5 f6) (congrArg (fun z9 => mk7 σ b z9 (goByS f1 (dgN t (p + 1))) f2 f3 f4 f5 f6) (pz_u12 _ _ _ _ _)) ?_
                                refine v_vret rfl dX6_command_199 ⟨rfl, congrArg (φ shp) ?_⟩
                                · rw [show cmdN t lz p = p + 1 + 1 from by rw [cmdN_t qq]; unfold tkN; rw [ic_t hB9], show lo + ic (docP t p f1) 0 1 = lo + 0 by rw [docP_t q9, ic_t trivial], show docS t p f1 = goByS f1 (dgN t (p + 1)) by unfold docS; rw [docP_t q9, ic_t trivial, docX_t q9]]
                        · skip
                          omega
                      · skip
                        omega
                    · skip
                      omega
                · skip
                  omega
              · skip
                omega
            · skip
              omega
          · skip
            omega

set_option maxHeartbeats 4000000 in
set_option maxRecDepth 100000 in
/-- command, done -/
theorem c_X6_command_1x (lu : Launch) (Dg : va_G) (E : Nat → ClassId) (N : Nat) (G : Nat → Nat) (shp : Nat → (Nat → Int32) → va_E) (σ : Nat → Nat → Int32) {b : Nat} (hM : ModS E G shp N b) (f0 f1 f2 f3 f4 f5 f6 : Nat → Int32)  {t : Nat → Int32} {lz : Nat} (hl : f0 9 = nI lz) (h100 : lz ≤ 100) (ht : ∀ k, k < lz → f6 k &&& nI 255 = t k) {p lo : Nat} (hp : p < 2 ^ 18) (hpl : p < lz) (q9 : t p = nI 120) {T : Nat} (hI : Inv T f1) (hT : T ≤ 999900) (hB : cmdB t lz p)  : CS lu yX6_command wsX6_command { frames := 6, cells := 0, slots := 0, locals := 134 } Dg E N G shp (mk7 σ b (pz f0 False p lo) f1 f2 f3 f4 f5 f6) [.ref (G b), .int (nI 1)] none (mk7 σ b (pz f0 False (cmdN t lz p) (lo + ic (docP t p f1) 0 1)) (docS t p f1) f2 f3 f4 f5 f6) := by
  refine CS.of (cc := cX6_command) (maxL := 5) (ret := none) (by decide) rfl (Nat.le_of_ble_eq_true rfl) ?_
  intro p_ e_ s_ m_ args_ below_ meth_ c_
  refine v_eq (pc' := 0) (st' := []) rfl rfl ?_
  refine v_loc [0, 1] [(0, .ref (G b)), (1, .int (nI 1))] rfl ?_
  have qq := (chrT_of (t := t) hpl).trans q9
  have hB9 := hB
  rw [cmdB_x qq] at hB9
  obtain ⟨a1, a2, a3, a4, a5⟩ := pers_of hB9.1
  have hB8 := hB9.2
  rw [a3] at hB8
  obtain ⟨b1, b2, b3, b4, b5⟩ := pers_of hB8
  have b6 : nmN t (p + 3) < 30 := b2
  refine v_aload_n 0 dX6_command_0 rfl rfl ?_
  refine u_getr (k := 8) (C := RX6) (T := TX6) (NF := 13) hM.n hM.s rfl rfl inX6_command_X6 (by decide) (by decide +kernel) rfl dX6_command_1 ?_
  refine v_aload_n 0 dX6_command_4 rfl rfl ?_
  refine m_geti (k := 10) hM rfl inX6_command_X6 (by decide) (by decide +kernel) rfl dX6_command_5 ?_
  refine v_topi (nI p) (pz_10 _ _ _ _) ?_
  refine m_ld6 p hM (rfl) (by omega) dX6_command_8 ?_
  refine v_sipush (nI 255) dX6_command_9 (by decide +kernel) ?_
  refine v_iand dX6_command_12 ?_
  refine v_topi (nI 120) ((ht p hpl).trans q9) ?_
  refine v_istore_n [(2, .int (nI 120)), (0, .ref (G b)), (1, .int (nI 1))] dX6_command_13 rfl (by decide) rfl ?_
  refine v_aload_n 1 dX6_command_14 rfl rfl ?_
  refine v_iload_n 0 dX6_command_15 rfl rfl ?_
  refine v_bipush (nI 99) dX6_command_16 (by decide +kernel) ?_
  refine v_icmp_eqN 49 (by omega) (by omega) dX6_command_18 rfl (fun h18 => ?_) (fun h18 => ?_)
  · skip
    omega
  · skip
    refine v_iload_n 0 dX6_command_21 rfl rfl ?_
    refine v_bipush (nI 103) dX6_command_22 (by decide +kernel) ?_
    refine v_icmp_eqN 49 (by omega) (by omega) dX6_command_24 rfl (fun h24 => ?_) (fun h24 => ?_)
    · skip
      omega
    · skip
      refine v_iload_n 0 dX6_command_27 rfl rfl ?_
      refine v_bipush (nI 120) dX6_command_28 (by decide +kernel) ?_
      refine v_icmp_eqN 49 (by omega) (by omega) dX6_command_30 rfl (fun h30 => ?_) (fun h30 => ?_)
      · skip
        refine v_iconst (nI 0) dX6_command_49 (by decide +kernel) ?_
        refine m_puti (k := 11) (ty := .boolean) hM rfl inX6_command_X6 (by decide) (by decide +kernel) rfl rfl (by decide +kernel) bn_0 dX6_command_50 ?_
        refine v_σ (mk7 σ b (pz f0 False p lo) f1 f2 f3 f4 f5 f6) (congrArg (fun z9 => mk7 σ b z9 f1 f2 f3 f4 f5 f6) (pz_u11f _ _ _ _)) ?_
        refine v_aload_n 1 dX6_command_53 rfl rfl ?_
        refine v_dup dX6_command_54 rfl ?_
        refine m_geti (k := 10) hM rfl inX6_command_X6 (by decide) (by decide +kernel) rfl dX6_command_55 ?_
        refine v_topi (nI p) (pz_10 _ _ _ _) ?_
        refine v_aload_n 1 dX6_command_58 rfl rfl ?_
        refine m_geti (k := 11) hM rfl inX6_command_X6 (by decide) (by decide +kernel) rfl dX6_command_59 ?_
        refine v_topi (nI 0) (pz_11f _ _ _) ?_
        refine v_if_eqN 69 (by omega) dX6_command_62 rfl (fun h62 => ?_) (fun h62 => ?_)
        · skip
          refine v_iconst (nI 1) dX6_command_69 (by decide +kernel) ?_
          refine v_iaddN dX6_command_70 ?_
          refine m_puti (k := 10) (ty := .int) hM rfl inX6_command_X6 (by decide) (by decide +kernel) rfl rfl (by decide +kernel) ⟨rfl, rfl⟩ dX6_command_71 ?_
          refine v_σ (mk7 σ b (pz f0 False (p + 1) lo) f1 f2 f3 f4 f5 f6) (congrArg (fun z9 => mk7 σ b z9 f1 f2 f3 f4 f5 f6) (pz_u10 _ _ _ _ _)) ?_
          refine v_aload_n 1 dX6_command_74 rfl rfl ?_
          refine m_geti (k := 11) hM rfl inX6_command_X6 (by decide) (by decide +kernel) rfl dX6_command_75 ?_
          refine v_topi (nI 0) (pz_11f _ _ _) ?_
          refine v_if_eqN 85 (by omega) dX6_command_78 rfl (fun h78 => ?_) (fun h78 => ?_)
          · skip
            refine v_iload_n 0 dX6_command_85 rfl rfl ?_
            refine v_bipush (nI 99) dX6_command_86 (by decide +kernel) ?_
            refine v_icmp_neN 100 (by omega) (by omega) dX6_command_88 rfl (fun h88 => ?_) (fun h88 => ?_)
            · skip
              refine v_iload_n 0 dX6_command_100 rfl rfl ?_
              refine v_bipush (nI 116) dX6_command_101 (by decide +kernel) ?_
              refine v_icmp_neN 116 (by omega) (by omega) dX6_command_103 rfl (fun h103 => ?_) (fun h103 => ?_)
              · skip
                refine v_aload_n 1 dX6_command_116 rfl rfl ?_
                refine u_callVv [] [] 0 (c_X6_who lu Dg E N G shp σ hM f0 f1 f2 f3 f4 f5 f6 hl h100 ht (p := p + 1) (lo := lo) (by omega)) (ci := 6) (C := RX6) (T := TX6) (NF := 13) hM.n hM.s rfl gX6_command_X6_who rfl rfl rfl (by decide +kernel) rfl ⟨Nat.le_of_ble_eq_true rfl, Nat.le_of_ble_eq_true rfl⟩ ⟨Nat.le_of_ble_eq_true rfl, Nat.le_of_ble_eq_true rfl⟩ (Nat.le_of_ble_eq_true rfl) rfl dX6_command_117 ?_
                refine v_σ (mk7 σ b (pz f0 False (p + 3) lo) f1 f2 f3 f4 f5 f6) (congrArg (fun z9 => mk7 σ b z9 f1 f2 f3 f4 f5 f6) ((pz_wt hB9.1).trans (pz_c Iff.rfl a3))) ?_
                refine v_topi (nI (nmN t (p + 1))) (a1) ?_
                refine v_istore_n [(3, .int (nI (nmN t (p + 1)))), (2, .int (nI 120)), (0, .ref (G b)), (1, .int (nI 1))] dX6_command_120 rfl (by decide) rfl ?_
                refine v_aload_n 2 dX6_command_121 rfl rfl ?_
                refine m_geti (k := 11) hM rfl inX6_command_X6 (by decide) (by decide +kernel) rfl dX6_command_122 ?_
                refine v_topi (nI 0) (pz_11f _ _ _) ?_
                refine v_if_eqN 132 (by omega) dX6_command_125 rfl (fun h125 => ?_) (fun h125 => ?_)
                · skip
                  refine v_iload_n 1 dX6_command_132 rfl rfl ?_
                  refine v_bipush (nI 99) dX6_command_133 (by decide +kernel) ?_
                  refine v_icmp_neN 147 (by omega) (by omega) dX6_command_135 rfl (fun h135 => ?_) (fun h135 => ?_)
                  · skip
                    refine v_iload_n 1 dX6_command_147 rfl rfl ?_
                    refine v_bipush (nI 120) dX6_command_148 (by decide +kernel) ?_
                    refine v_icmp_neN 160 (by omega) (by omega) dX6_command_150 rfl (fun h150 => ?_) (fun h150 => ?_)
                    · skip
                      omega
                    · skip
                      refine v_aload_n 2 dX6_command_153 rfl rfl ?_
                      refine u_callVv [] [] 0 (c_X6_who lu Dg E N G shp σ hM f0 f1 f2 f3 f4 f5 f6 hl h100 ht (p := p + 3) (lo := lo) (by omega)) (ci := 6) (C := RX6) (T := TX6) (NF := 13) hM.n hM.s rfl gX6_command_X6_who rfl rfl rfl (by decide +kernel) rfl ⟨Nat.le_of_ble_eq_true rfl, Nat.le_of_ble_eq_true rfl⟩ ⟨Nat.le_of_ble_eq_true rfl, Nat.le_of_ble_eq_true rfl⟩ (Nat.le_of_ble_eq_true rfl) rfl dX6_command_154 ?_
                      refine v_goto 161 dX6_command_157 rfl ?_
                      refine v_σ (mk7 σ b (pz f0 False (p + 5) lo) f1 f2 f3 f4 f5 f6) (congrArg (fun z9 => mk7 σ b z9 f1 f2 f3 f4 f5 f6) ((pz_wt hB8).trans (pz_c Iff.rfl b3))) ?_
                      refine v_topi (nI (nmN t (p + 3))) (b1) ?_
                      refine v_istore [(4, .int (nI (nmN t (p + 3)))), (3, .int (nI (nmN t (p + 1)))), (2, .int (nI 120)), (0, .ref (G b)), (1, .int (nI 1))] dX6_command_161 (by decide) rfl ?_
                      refine v_iload_n 4 dX6_command_163 rfl rfl ?_
                      refine v_if_eqN 199 (by omega) dX6_command_164 rfl (fun h164 => ?_) (fun h164 => ?_)
                      · skip
                        omega
                      · skip
                        refine v_aload_n 3 dX6_command_167 rfl rfl ?_
                        refine m_geti (k := 11) hM rfl inX6_command_X6 (by decide) (by decide +kernel) rfl dX6_command_168 ?_
                        refine v_topi (nI 0) (pz_11f _ _ _) ?_
                        refine v_if_neN 199 (by omega) dX6_command_171 rfl (fun h171 => ?_) (fun h171 => ?_)
                        · skip
                          omega
                        · skip
                          refine v_aload_n 3 dX6_command_174 rfl rfl ?_
                          refine v_dup dX6_command_175 rfl ?_
                          refine m_geti (k := 12) hM rfl inX6_command_X6 (by decide) (by decide +kernel) rfl dX6_command_176 ?_
                          refine v_topi (nI lo) (pz_12 _ _ _ _) ?_
                          refine v_aload_n 3 dX6_command_179 rfl rfl ?_
                          refine v_iload_n 2 dX6_command_180 rfl rfl ?_
                          refine v_iload_n 1 dX6_command_181 rfl rfl ?_
                          refine v_iload 0 dX6_command_182 rfl ?_
                          refine u_callVv [.int (nI 120), .int (nI (nmN t (p + 1))), .int (nI (nmN t (p + 3)))] [.int (nI lo), .ref (G b)] 3 (c_X6_carries_x lu Dg E N G shp σ hM (pz f0 False (p + 5) lo) f1 f2 f3 f4 f5 f6 hI (p := nmN t (p + 1)) (q := nmN t (p + 3)) (by omega) (by omega)) (ci := 6) (C := RX6) (T := TX6) (NF := 13) hM.n hM.s rfl gX6_command_X6_carries rfl rfl rfl (by decide +kernel) rfl ⟨Nat.le_of_ble_eq_true rfl, Nat.le_of_ble_eq_true rfl⟩ ⟨Nat.le_of_ble_eq_true rfl, Nat.le_of_ble_eq_true rfl⟩ (Nat.le_of_ble_eq_true rfl) rfl dX6_command_184 ?_
                          refine v_if_eqB 194 dX6_command_187 rfl (fun h187 => ?_) (fun h187 => ?_)
                          · skip
                            refine v_iconst (nI 1) dX6_command_194 (by decide +kernel) ?_
                            refine v_iaddN dX6_command_195 ?_
                            refine m_puti (k := 12) (ty := .int) hM rfl inX6_command_X6 (by decide) (by decide +kernel) rfl rfl (by decide +kernel) ⟨rfl, rfl⟩ dX6_command_196 ?_
                            refine v_σ (mk7 σ b (pz f0 False (p + 5) (lo + 1)) (ic (exchFl f1 (nI (nmN t (p + 1))) (nI (nmN t (p + 3))) = 0) (exchS f1 (nmN t (p + 1)) (nmN t (p + 3))) f1) f2 f3 f4 f5 f6) (congrArg (fun z9 => mk7 σ b z9 (ic (exchFl f1 (nI (nmN t (p + 1))) (nI (nmN t (p + 3))) = 0) (exchS f1 (nmN t (p + 1)) (nmN t (p + 3))) f1) f2 f3 f4 f5 f6) (pz_u12 _ _ _ _ _)) ?_
                            refine v_vret rfl dX6_command_199 ⟨rfl, congrArg (φ shp) ?_⟩
                            · rw [show cmdN t lz p = p + 5 from by rw [cmdN_x qq, ic_t hB9.1, a3, b3], show lo + ic (docP t p f1) 0 1 = lo + 1 by rw [docP_x q9, ic_f h187], show docS t p f1 = ic (exchFl f1 (nI (nmN t (p + 1))) (nI (nmN t (p + 3))) = 0) (exchS f1 (nmN t (p + 1)) (nmN t (p + 3))) f1 by unfold docS; rw [docP_x q9, docX_x q9]]
                          · skip
                            refine v_iconst (nI 0) dX6_command_190 (by decide +kernel) ?_
                            refine v_goto 195 dX6_command_191 rfl ?_
                            refine v_iaddN dX6_command_195 ?_
                            refine m_puti (k := 12) (ty := .int) hM rfl inX6_command_X6 (by decide) (by decide +kernel) rfl rfl (by decide +kernel) ⟨rfl, rfl⟩ dX6_command_196 ?_
                            refine v_σ (mk7 σ b (pz f0 False (p + 5) (lo + 0)) (ic (exchFl f1 (nI (nmN t (p + 1))) (nI (nmN t (p + 3))) = 0) (exchS f1 (nmN t (p + 1)) (nmN t (p + 3))) f1) f2 f3 f4 f5 f6) (congrArg (fun z9 => mk7 σ b z9 (ic (exchFl f1 (nI (nmN t (p + 1))) (nI (nmN t (p + 3))) = 0) (exchS f1 (nmN t (p + 1)) (nmN t (p + 3))) f1) f2 f3 f4 f5 f6) (pz_u12 _ _ _ _ _)) ?_
                            refine v_vret rfl dX6_command_199 ⟨rfl, congrArg (φ shp) ?_⟩
                            · rw [show cmdN t lz p = p + 5 from by rw [cmdN_x qq, ic_t hB9.1, a3, b3], show lo + ic (docP t p f1) 0 1 = lo + 0 by rw [docP_x q9, ic_t h187], show docS t p f1 = ic (exchFl f1 (nI (nmN t (p + 1))) (nI (nmN t (p + 3))) = 0) (exchS f1 (nmN t (p + 1)) (nmN t (p + 3))) f1 by unfold docS; rw [docP_x q9, docX_x q9]]
                  · skip
                    omega
                · skip
                  omega
              · skip
                omega
            · skip
              omega
          · skip
            omega
        · skip
          omega
      · skip
        omega

/-- command, done -/
theorem c_X6_command_1 (lu : Launch) (Dg : va_G) (E : Nat → ClassId) (N : Nat) (G : Nat → Nat) (shp : Nat → (Nat → Int32) → va_E) (σ : Nat → Nat → Int32) {b : Nat} (hM : ModS E G shp N b) (f0 f1 f2 f3 f4 f5 f6 : Nat → Int32) {t : Nat → Int32} {lz : Nat} (hl : f0 9 = nI lz) (h100 : lz ≤ 100) (ht : ∀ k, k < lz → f6 k &&& nI 255 = t k) {p lo : Nat} (hp : p < 2 ^ 18) (hpl : p < lz) {T : Nat} (hI : Inv T f1) (hT : T ≤ 999900) (hB : cmdB t lz p) : CS lu yX6_command wsX6_command { frames := 6, cells := 0, slots := 0, locals := 134 } Dg E N G shp (mk7 σ b (pz f0 False p lo) f1 f2 f3 f4 f5 f6) [.ref (G b), .int (nI 1)] none (mk7 σ b (pz f0 False (cmdN t lz p) (lo + ic (docP t p f1) 0 1)) (docS t p f1) f2 f3 f4 f5 f6) := by
  have e9 := chrT_of (t := t) hpl
  rcases cmdB_cases hB with q | q | q | q | q
  · exact c_X6_command_1c lu Dg E N G shp σ hM f0 f1 f2 f3 f4 f5 f6 hl h100 ht (p := p) (lo := lo) hp hpl (e9.symm.trans q) hI hT hB
  · exact c_X6_command_1g lu Dg E N G shp σ hM f0 f1 f2 f3 f4 f5 f6 hl h100 ht (p := p) (lo := lo) hp hpl (e9.symm.trans q) hI hT hB
  · exact c_X6_command_1j lu Dg E N G shp σ hM f0 f1 f2 f3 f4 f5 f6 hl h100 ht (p := p) (lo := lo) hp hpl (e9.symm.trans q) hI hT hB
  · exact c_X6_command_1t lu Dg E N G shp σ hM f0 f1 f2 f3 f4 f5 f6 hl h100 ht (p := p) (lo := lo) hp hpl (e9.symm.trans q) hI hT hB
  · exact c_X6_command_1x lu Dg E N G shp σ hM f0 f1 f2 f3 f4 f5 f6 hl h100 ht (p := p) (lo := lo) hp hpl (e9.symm.trans q) hI hT hB