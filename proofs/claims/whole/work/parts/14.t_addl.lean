/-- lines that are not there yet are empty -/
def Zl (s : Nat → Int32) : Prop := ∀ y, tn (s 1) ≤ y → y < 3 → s (13 + y) = 0 ∧ s (16 + y) = 0 ∧ s (19 + y) = 0
theorem Rel.setV {c s : Nat → Int32} {T : Nat} (r : Rel c s) (h : Inv T s) {k : Nat} (hk : k < 4) (v : Int32) : Rel (upd c (6 + k) v) (upd s (6 + k) v) := r.updw h.nl3 rfl (by omega) (by omega) (by omega) (by omega)
theorem Rel.addLine {c s : Nat → Int32} (r : Rel c s) (hz : Zl s) (hl3 : tn (s 1) < 3) (x : Int32) : Rel (addLS c x) (upd (upd s (10 + tn (s 1)) x) 1 (nI (tn (s 1) + 1))) := by
  have e1 : c 1 = s 1 := r.h (by omega)
  have hzm := hz (tn (s 1)) (Nat.le_refl _) hl3
  have eS : ∀ i, upd (upd s (10 + tn (s 1)) x) 1 (nI (tn (s 1) + 1)) i = if i = 1 then nI (tn (s 1) + 1) else if i = 10 + tn (s 1) then x else s i := fun i => by rw [upd_ap, upd_ap]
  have eC : ∀ i, addLS c x i = if i = 1 then nI (tn (s 1) + 1) else if i = 13 + tn (s 1) then nI 0 else if i = 19 + tn (s 1) then nI 0 else if i = 16 + tn (s 1) then nI 0 else if i = 10 + tn (s 1) then x else c i := fun i => by
    unfold addLS
    rw [e1, upd_ap, upd_ap, upd_ap, upd_ap, upd_ap]
  generalize upd (upd s (10 + tn (s 1)) x) 1 (nI (tn (s 1) + 1)) = S9 at eS
  generalize addLS c x = C9 at eC
  have f1 : tn (S9 1) = tn (s 1) + 1 := by rw [eS, if_pos rfl]; exact tn_nI (by omega)
  have f2 : S9 2 = s 2 := by rw [eS, if_neg (by omega), if_neg (by omega)]
  have eo : ∀ i, i ≠ 1 → i < 10 ∨ 22 ≤ i → C9 i = c i ∧ S9 i = s i := fun i h1 h2 => ⟨by rw [eC, if_neg h1, if_neg (by omega), if_neg (by omega), if_neg (by omega), if_neg (by omega)], by rw [eS, if_neg h1, if_neg (by omega)]⟩
  refine ⟨fun i hi => ?_, fun y hy => ?_, fun y k hy hk => ?_, fun p hp => ⟨fun j hj => ?_, ?_⟩⟩
  · by_cases h1 : i = 1
    · rw [eC, eS, if_pos h1, if_pos h1]
    · rw [(eo i h1 (Or.inl hi)).1, (eo i h1 (Or.inl hi)).2]; exact r.h hi
  · rw [f1] at hy
    by_cases h1 : y = tn (s 1)
    · rw [h1]
      refine ⟨?_, ?_, ?_, ?_⟩
      · rw [eC, eS, if_neg (by omega), if_neg (by omega), if_neg (by omega), if_neg (by omega), if_pos rfl, if_neg (by omega), if_pos rfl]
      · rw [eC, eS, if_neg (by omega), if_pos rfl, if_neg (by omega), if_neg (by omega)]; exact hzm.1.symm
      · rw [eC, eS, if_neg (by omega), if_neg (by omega), if_neg (by omega), if_pos rfl, if_neg (by omega), if_neg (by omega)]; exact hzm.2.1.symm
      · rw [eC, eS, if_neg (by omega), if_neg (by omega), if_pos rfl, if_neg (by omega), if_neg (by omega)]; exact hzm.2.2.symm
    · have hy2 : y < tn (s 1) := by omega
      have g : ∀ i, i = 10 + y ∨ i = 13 + y ∨ i = 16 + y ∨ i = 19 + y → C9 i = c i ∧ S9 i = s i := fun i hi => ⟨by rw [eC, if_neg (by omega), if_neg (by omega), if_neg (by omega), if_neg (by omega), if_neg (by omega)], by rw [eS, if_neg (by omega), if_neg (by omega)]⟩
      have hL := r.L hy2
      exact ⟨(g _ (by omega)).1.trans (hL.1.trans (g _ (by omega)).2.symm), (g _ (by omega)).1.trans (hL.2.1.trans (g _ (by omega)).2.symm), (g _ (by omega)).1.trans (hL.2.2.1.trans (g _ (by omega)).2.symm), (g _ (by omega)).1.trans (hL.2.2.2.trans (g _ (by omega)).2.symm)⟩
  · rw [f1] at hy
    have e13 : S9 (13 + y) = s (13 + y) := by rw [eS, if_neg (by omega), if_neg (by omega)]
    rw [e13] at hk
    by_cases h1 : y = tn (s 1)
    · rw [h1, hzm.1] at hk
      exact absurd hk (Nat.not_lt_zero _)
    · rw [(eo _ (by omega) (Or.inr (by omega))).1, (eo _ (by omega) (Or.inr (by omega))).2]; exact r.R (by omega) hk
  · rw [f2] at hp
    rw [(eo _ (by omega) (Or.inr (by omega))).1, (eo _ (by omega) (Or.inr (by omega))).2]; exact r.P hp hj
  · rw [f2] at hp
    have hj9 := (r.2.2.2 p hp).2
    unfold JR at hj9 ⊢
    rw [(eo (58 + 10 * p + 8) (by omega) (Or.inr (by omega))).1, (eo (58 + 10 * p + 8) (by omega) (Or.inr (by omega))).2, (eo (58 + 10 * p + 6) (by omega) (Or.inr (by omega))).1]
    exact hj9
