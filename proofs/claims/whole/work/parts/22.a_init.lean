/-! THE WORLD AS THE LAW'S LOOP FINDS IT FIRST -/
def shpL (z : Nat) (E : Nat → ClassId) (n : Nat) : (Nat → Int32) → va_E := if n < 781 then stShp z E n else if n < 788 then mShp z E 781 n else LoS E 1
def sgL (n : Nat) : Nat → Int32 := if n < 781 then stI c1I n else if n < 788 then moI 781 n else zeI
def abL : AB := (s1I, 0, fun _ _ => 0, fun _ _ => 0, fun _ => False, stI c1I 780, 0)
theorem sgL_st {n : Nat} (h : n < 781) : sgL n = stI c1I n := by unfold sgL; rw [if_pos h]
theorem sgL_mo {n : Nat} (h : 781 ≤ n) (h2 : n < 788) : sgL n = moI 781 n := by unfold sgL; rw [if_neg (by omega), if_pos h2]
theorem shpL_S {z : Nat} {E : Nat → ClassId} : StoodS E (Gz z) (shpL z E) 789 := st_S (by omega) (fun m hm => by unfold shpL; rw [if_pos hm])
theorem shpL_M {z : Nat} {E : Nat → ClassId} : ModS E (Gz z) (shpL z E) 789 781 := mShp_S (by omega) (fun m h1 h2 => by unfold shpL; rw [if_neg (by omega), if_pos (by omega)])
theorem shpL_O {z : Nat} {E : Nat → ClassId} : shpL z E 788 = LoS E 1 := by unfold shpL; rw [if_neg (by omega), if_neg (by omega)]
theorem c1I_rel : Rel c1I s1I := by
  have e1 : tn (beginF 1) = 0 := by decide +kernel
  have ec : tn (begC cI 1) = 0 := by rw [(begC_rel cI).h (by omega)]; exact e1
  have h := (begC_rel cI).addLine (lnS_zl (fun _ => 0) (j := 0) (by omega)) (by show tn (beginF 1) < 3; omega) (nI 3)
  unfold addLS at h
  rw [ec] at h
  have h2 : Rel c1I (upd (upd beginF (10 + tn (beginF 1)) (nI 3)) 1 (nI (tn (beginF 1) + 1))) := h
  rw [e1] at h2
  exact h2
theorem sgL_ck : Ck sgL abL := by
  have z0 : ∀ k, zeI k = nI 0 := fun k => (by decide +kernel : (0 : Int32) = nI 0)
  refine ⟨⟨c1I, ?_, c1I_rel, ⟨cI, ini_holds (fun n g1 g2 => ?_)⟩, ⟨0, ⟨?_, by omega⟩, ⟨?_, by show 0 ≤ 14; omega⟩, fun i hi => absurd hi (Nat.not_lt_zero i), fun i hi => ⟨cI, ini_holds (fun n g1 g2 => ?_)⟩⟩, fun j hj => ⟨?_, cI, ini_holds (fun n g1 g2 => ?_), fun z => z.elim⟩, sgL_st (by omega), ?_⟩, ?_⟩
  · funext n
    by_cases ho : n < 1 ∨ (1 + 2 ≤ n ∧ n < 1 + 7) ∨ 1 + 43 ≤ n
    · exact hs_out ho
    · rw [hs_cell ho (τ := hIni 1), sgL_st (by omega)]
      unfold stI; rw [if_neg (by omega), if_pos (by omega)]
  · rw [sgL_st (by omega)]; unfold stI; rw [if_neg (by omega), if_neg (by omega), if_pos (by omega)]
  · rw [sgL_st (by omega)]; unfold stI; rw [if_neg (by omega), if_neg (by omega), if_neg (by omega), if_pos rfl]; exact z0 1
  · rw [sgL_st (by omega)]; unfold stI; rw [if_neg (by omega), if_neg (by omega), if_neg (by omega), if_pos rfl]; exact z0 2
  · rw [sgL_st (by omega)]; unfold stI; rw [if_neg (by omega), if_neg (by omega), if_neg (by omega), if_neg (by omega), if_neg (by omega), if_pos (by omega), show (n - (87 + 2)) / 43 = i by omega]
  · rw [sgL_st (by omega), stI_hi (by omega), z0]; exact (bi_pf (fun z => z)).symm
  · rw [sgL_st (by omega)]; unfold stI; rw [if_neg (by omega), if_neg (by omega), if_neg (by omega), if_neg (by omega), if_neg (by omega), if_neg (by omega), if_neg (by omega), if_pos (by omega), show (n - 692) / 43 = j by omega]
  · rw [sgL_st (by omega), stI_hi (by omega), z0]; rfl
  · rw [sgL_st (by omega)]; unfold stI; rw [if_neg (by omega), if_pos (by omega), hs_out (by omega)]; unfold hIni; rw [if_neg (by omega)]; exact z0 3
theorem sgL_m : Mo sgL abL := by
  have e1 : sgL 781 = upd zeI 5 (nI 0) := by rw [sgL_mo (by omega) (by omega)]; exact mk7_0
  have e2 : sgL 782 = s1I := by rw [sgL_mo (by omega) (by omega)]; exact mk7_1 (b := 781)
  have e3 : sgL 786 = upd (upd zeI 0 (nI 0)) 1 (nI 0) := by rw [sgL_mo (by omega) (by omega)]; exact mk7_5 (b := 781)
  refine ⟨⟨?_, ?_, ?_⟩, e2, fun i hi => absurd hi (Nat.not_lt_zero i), fun j hj => ⟨?_, fun z => z.elim⟩, fun k hk => absurd hk (Nat.not_lt_zero k)⟩
  · rw [e1]; decide +kernel
  · rw [e1]; decide +kernel
  · rw [e1]; decide +kernel
  · rw [e3]
    refine Eq.trans ?_ (bi_pf (fun z => z)).symm
    rcases (show j = 0 ∨ j = 1 by omega) with rfl | rfl <;> decide +kernel
theorem abL_go : Go 0 abL := by
  have e1 : tn (beginF 1) = 0 := by decide +kernel
  have hz : Zl beginF := lnS_zl (fun _ => 0) (j := 0) (by omega)
  have h1 := Inv.beg.addLine hz (by omega) (k := 3) (by omega) (by omega)
  have h2 := hz.addLine (by omega) (nI 3)
  rw [e1] at h1 h2
  exact ⟨⟨h1, h2, by show 1 ≤ tn (s1I 1); decide +kernel⟩, fun i hi => absurd hi (Nat.not_lt_zero i), fun j hj hf => hf.elim, Nat.zero_le _, Nat.zero_le _, fun k hk => absurd hk (Nat.not_lt_zero k)⟩
