/-! THE CLASS'S TEXT: the parse in one; a command under the two states -/
section CT1
theorem dg_lines {t : Nat → Int32} {lz : Nat} (hd : tkB t lz (nI 49) (nI 51) 1) : chrT t lz 1 - nI 48 = nI (dgN t 1) ∧ 1 ≤ dgN t 1 ∧ dgN t 1 ≤ 3 := by
  obtain ⟨d1, d2, d3⟩ := dgN_of (by omega) (by omega) hd (by omega)
  exact ⟨by rw [chrT_of (tk_lt (by omega) hd)]; exact d1, by omega, by omega⟩
theorem ans_f {n : Nat} {P : Prop} (h : ¬ P) : some (Value.int (nI n)) = some (Value.int (ic P (-1) (nI n))) := by rw [ic_f h]
/-- Day.firstError, in one -/
theorem c_X0_firstError (lu : Launch) (Dg : va_G) (E : Nat → ClassId) (N : Nat) (G : Nat → Nat) (shp : Nat → (Nat → Int32) → va_E) (σ : Nat → Nat → Int32) {x : Nat} (hX : DayS E G shp N x) {lz : Nat} (hl : σ x 1 = nI lz) (h100 : lz ≤ 100) : CS lu yX0_firstError wsX0_firstError { frames := 4, cells := 0, slots := 0, locals := 86 } Dg E N G shp σ [.ref (G x)] (some (.int (ic (prs (σ (x + 1)) lz).2 (-1) (nI (prs (σ (x + 1)) lz).1)))) (st2 σ x 2 (nI (prs (σ (x + 1)) lz).1)) := by
  by_cases hw : tkB (σ (x + 1)) lz (nI 87) (nI 87) 0
  · by_cases hd : tkB (σ (x + 1)) lz (nI 49) (nI 51) 1
    · obtain ⟨d1, d2, d3⟩ := dg_lines hd
      by_cases hp2 : (pacR (σ (x + 1)) lz 2 (dgN (σ (x + 1)) 1)).2
      · rw [prs_0 hw hd hp2]
        exact c_X0_firstError_0 lu Dg E N G shp σ hX hl h100 (m := dgN (σ (x + 1)) 1) hw hd d1 d3 hp2
      · rw [prs_l hw hd hp2]
        exact (c_X0_firstError_l lu Dg E N G shp σ hX hl h100 (m := dgN (σ (x + 1)) 1) hw hd d1 d3 hp2).to (ans_f (fun z => z)) rfl
    · rw [prs_d hw hd]
      exact (c_X0_firstError_d lu Dg E N G shp σ hX hl h100 hw hd).to (ans_f (fun z => z)) rfl
  · rw [prs_w hw]
    exact (c_X0_firstError_w lu Dg E N G shp σ hX hl h100 hw).to (ans_f (fun z => z)) rfl
/-- errorPosition, in one -/
theorem c_X5_errorPosition (lu : Launch) (Dg : va_G) (E : Nat → ClassId) (N : Nat) (G : Nat → Nat) (shp : Nat → (Nat → Int32) → va_E) (σ : Nat → Nat → Int32) (hS : StoodS E G shp N) (c : Nat → Int32) {lz : Nat} (hl : σ 779 1 = nI lz) (h100 : lz ≤ 100) : CS lu yX5_errorPosition wsX5_errorPosition { frames := 5, cells := 0, slots := 0, locals := 107 } Dg E N G shp (hs σ 1 c) [.ref (G 0)] (some (.int (ic (prs (σ 780) lz).2 (-1) (nI (prs (σ 780) lz).1)))) (hs (st2 σ 779 2 (nI (prs (σ 780) lz).1)) 1 c) := by
  by_cases hw : tkB (σ 780) lz (nI 87) (nI 87) 0
  · by_cases hd : tkB (σ 780) lz (nI 49) (nI 51) 1
    · obtain ⟨d1, d2, d3⟩ := dg_lines hd
      by_cases hp2 : (pacR (σ 780) lz 2 (dgN (σ 780) 1)).2
      · rw [prs_0 hw hd hp2]
        exact c_X5_errorPosition_0 lu Dg E N G shp σ hS c hl h100 (m := dgN (σ 780) 1) hw hd d1 d3 hp2
      · rw [prs_l hw hd hp2]
        exact (c_X5_errorPosition_l lu Dg E N G shp σ hS c hl h100 (m := dgN (σ 780) 1) hw hd d1 d3 hp2).to (ans_f (fun z => z)) rfl
    · rw [prs_d hw hd]
      exact (c_X5_errorPosition_d lu Dg E N G shp σ hS c hl h100 hw hd).to (ans_f (fun z => z)) rfl
  · rw [prs_w hw]
    exact (c_X5_errorPosition_w lu Dg E N G shp σ hS c hl h100 hw).to (ans_f (fun z => z)) rfl
theorem ic_docS {t s : Nat → Int32} {p : Nat} (h : docP t p s) : docS t p s = docX t p s := ic_t h
theorem ic_docN {t s : Nat → Int32} {p : Nat} (h : ¬ docP t p s) : docS t p s = s := ic_f h
set_option maxHeartbeats 4000000 in
/-- Day.doCommand, beside the model's command -/
theorem c_X0_doCommand_r (lu : Launch) (Dg : va_G) (E : Nat → ClassId) (N : Nat) (G : Nat → Nat) (shp : Nat → (Nat → Int32) → va_E) (σ : Nat → Nat → Int32) (hS : StoodS E G shp N) (c : Nat → Int32) {lz : Nat} (hl : σ 779 1 = nI lz) (h100 : lz ≤ 100) {p : Nat} (hp : p < 2 ^ 18) (hB : cmdB (σ 780) lz p) {s : Nat → Int32} {T : Nat} (r : Rel c s) (h : Inv T s) (hT : T ≤ 999900) : CX lu yX0_doCommand wsX0_doCommand { frames := 4, cells := 0, slots := 0, locals := 91 } Dg E N G shp (hs σ 1 c) [.ref (G 779), .ref (G 1), .int (nI p)] (fun v τ => ∃ c' x, v = some (.int x) ∧ τ = hs σ 1 c' ∧ Rel c' (docS (σ 780) p s) ∧ (x = -1 ↔ ¬ docP (σ 780) p s)) := by
  have hI := r.inv h
  have hlp := (cmdN_ok hB).2.2
  have e9 := chrT_of (t := σ 780) hlp
  have h30 := h.np30
  rcases cmdB_cases hB with q | q | q | q | q
  · have q9 := e9.symm.trans q
    rw [cmdB_c q] at hB
    obtain ⟨a1, a2, a3⟩ := dgN_of (by omega) (by omega) hB.1 (by omega)
    obtain ⟨b1, b2, b3⟩ := dgN_of (by omega) (by omega) hB.2 (by omega)
    have l1 := tk_lt (by omega) hB.1
    have l2 := tk_lt (by omega) hB.2
    have b4 : 48 + dgN (σ 780) (p + 2) ≤ 50 := b3
    refine ((c_X0_doCommand_c lu Dg E N G shp σ hS c hl h100 hp q hI (yz := dgN (σ 780) (p + 2)) (kz := dgN (σ 780) (p + 1)) ((congrArg (fun z => z - nI 48) (chrT_of (t := σ 780) l2)).trans b1) ((congrArg (fun z => z - nI 48) (chrT_of (t := σ 780) l1)).trans a1) (by omega) (by omega)).x).to (fun v τ hh => ?_)
    obtain ⟨rfl, rfl⟩ := hh
    refine ⟨_, _, rfl, rfl, ?_, ?_⟩
    · rw [r.come h]
      by_cases z : docP (σ 780) p s
      · rw [ic_docS z, docX_c q9]
        rw [docP_c q9] at z
        rw [ic_t z]
        have hk := come_ok h (by omega) z
        exact r.comes h hk.1 hk.2.1 hk.2.2
      · rw [ic_docN z]
        rw [docP_c q9] at z
        rw [ic_f z]; exact r
    · rw [r.come h, ic_m1 (by have := hI.np30; omega), docP_c q9]
  · have q9 := e9.symm.trans q
    rw [cmdB_g q] at hB
    obtain ⟨a1, a2, a3, a4, a5⟩ := pers_of hB
    refine ((c_X0_doCommand_g lu Dg E N G shp σ hS c hl h100 hp q hI (pz := nmN (σ 780) (p + 1)) a5 (by omega)).x).to (fun v τ hh => ?_)
    obtain ⟨rfl, rfl⟩ := hh
    have hi := r.goI h (p := nmN (σ 780) (p + 1)) (by omega)
    refine ⟨_, _, rfl, rfl, ?_, ?_⟩
    · by_cases z : docP (σ 780) p s
      · rw [ic_docS z, docX_g q9]
        rw [docP_g q9] at z
        rw [ic_t (hi.mpr z)]
        have hk := go_ok h (by omega) z
        exact r.goes h hk.1 hk.2
      · rw [ic_docN z]
        rw [docP_g q9] at z
        rw [ic_f (fun w => z (hi.mp w))]; exact r
    · rw [docP_g q9, ← hi]
      by_cases w : nmN (σ 780) (p + 1) < tn (c 2) ∧ c (58 + 10 * nmN (σ 780) (p + 1) + 5) = 0
      · rw [ic_t w, hI.stood w.1]
        exact ⟨fun z => absurd z (nI_m1 (tn_lt _)), fun z => absurd w z⟩
      · rw [ic_f w]
        exact ⟨fun _ => w, fun _ => rfl⟩
  · have q9 := e9.symm.trans q
    rw [cmdB_j q] at hB
    obtain ⟨a1, a2, a3, a4, a5⟩ := pers_of hB
    refine ((c_X0_doCommand_j lu Dg E N G shp σ hS c hl h100 hp q hI (pz := nmN (σ 780) (p + 1)) a5 (by omega)).x).to (fun v τ hh => ?_)
    obtain ⟨rfl, rfl⟩ := hh
    have hi := r.jumpI h (p := nmN (σ 780) (p + 1)) (by omega)
    refine ⟨_, _, rfl, rfl, ?_, ?_⟩
    · by_cases z : docP (σ 780) p s
      · rw [ic_docS z, docX_j q9]
        rw [docP_j q9] at z
        rw [ic_t (hi.mpr z)]
        have hk := jump_ok h (by omega) z
        exact r.jumps h hk.1 hk.2.1
      · rw [ic_docN z]
        rw [docP_j q9] at z
        rw [ic_f (fun w => z (hi.mp w))]; exact r
    · rw [docP_j q9, ← hi]
      have hj : jsteps c (nmN (σ 780) (p + 1)) ≤ tn (c 9) := Nat.min_le_right _ _
      have hj5 := hI.jump5
      exact ic_m1 (by omega)
  · have q9 := e9.symm.trans q
    rw [cmdB_t q] at hB
    obtain ⟨a1, a2, a3⟩ := dgN_of (by omega) (by omega) hB (by omega)
    have l1 := tk_lt (by omega) hB
    refine ((c_X0_doCommand_t lu Dg E N G shp σ hS c hl h100 hp q hI hT (kz := dgN (σ 780) (p + 1)) ((congrArg (fun z => z - nI 48) (chrT_of (t := σ 780) l1)).trans a1) (by omega)).x).to (fun v τ hh => ?_)
    obtain ⟨rfl, rfl⟩ := hh
    have hg := r.goBy h (n := dgN (σ 780) (p + 1)) (by omega)
    have z : docP (σ 780) p s := by rw [docP_t q9]; trivial
    refine ⟨_, _, rfl, rfl, ?_, ?_⟩
    · rw [ic_docS z, docX_t q9]; exact hg.1
    · have hb : goByN c (dgN (σ 780) (p + 1)) < 2 ^ 31 := by
        have := goByN_le hI (n := dgN (σ 780) (p + 1)) (by omega)
        omega
      exact ⟨fun w => absurd w (nI_m1 hb), fun w => absurd z w⟩
  · have q9 := e9.symm.trans q
    rw [cmdB_x q] at hB
    obtain ⟨a1, a2, a3, a4, a5⟩ := pers_of hB.1
    have h2 := hB.2
    rw [a3] at h2
    obtain ⟨b1, b2, b3, b4, b5⟩ := pers_of h2
    have b6 : nmN (σ 780) (p + 3) < 30 := b2
    refine ((c_X0_doCommand_x lu Dg E N G shp σ hS c hl h100 hp q hI (pz := nmN (σ 780) (p + 1)) (qz := nmN (σ 780) (p + 3)) a5 b5 (by omega) (by omega)).x).to (fun v τ hh => ?_)
    obtain ⟨rfl, rfl⟩ := hh
    have hi := r.exchI h (p := nmN (σ 780) (p + 1)) (q := nmN (σ 780) (p + 3)) (by omega) (by omega)
    refine ⟨_, _, rfl, rfl, ?_, ?_⟩
    · by_cases z : docP (σ 780) p s
      · rw [ic_docS z, docX_x q9]
        rw [docP_x q9] at z
        rw [ic_t (hi.mpr z)]
        have hk := exch_ok h (by omega) (by omega) z
        exact r.exch h hk.1 hk.2.1 hk.2.2.1 hk.2.2.2.1
      · rw [ic_docN z]
        rw [docP_x q9] at z
        rw [ic_f (fun w => z (hi.mp w))]; exact r
    · rw [docP_x q9, ← hi]
      by_cases w : nmN (σ 780) (p + 1) < tn (c 2) ∧ nmN (σ 780) (p + 3) < tn (c 2) ∧ MayX c (nmN (σ 780) (p + 1)) (nmN (σ 780) (p + 3))
      · rw [ic_t w]
        obtain ⟨g1, -, g3, -⟩ := hI.plcs w.1 w.2.2.1
        have g12 := hI.len12 g1
        have g9 := hI.price9
        have e8 : nI (plc c (nmN (σ 780) (p + 1)) - plc c (nmN (σ 780) (p + 3))) * c 8 = nI ((plc c (nmN (σ 780) (p + 1)) - plc c (nmN (σ 780) (p + 3))) * tn (c 8)) := by
          rw [← pk_mul]; exact congrArg _ hI.price
        have hm : (plc c (nmN (σ 780) (p + 1)) - plc c (nmN (σ 780) (p + 3))) * tn (c 8) ≤ 12 * 9 := Nat.mul_le_mul (by omega) g9
        rw [e8]
        exact ⟨fun z => absurd z (nI_m1 (by omega)), fun z => absurd w z⟩
      · rw [ic_f w]
        exact ⟨fun _ => w, fun _ => rfl⟩
end CT1
