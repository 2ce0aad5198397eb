theorem st_S {z N : Nat} {E : Nat → ClassId} {shp : Nat → (Nat → Int32) → va_E} (hN : 781 ≤ N) (h : ∀ m, m < 781 → shp m = stShp z E m) : StoodS E (Gz z) shp N := by
  have e : ∀ (b m : Nat), m < 781 → stShp z E m = hShp z E b m → shp m = hShp z E b m := fun b m h1 h2 => (h m h1).trans h2
  refine ⟨⟨by omega, (h 0 (by omega)).trans (by unfold stShp; rw [if_pos rfl])⟩, ?_, ?_, ⟨by omega, (h _ (by omega)).trans ?_, (h _ (by omega)).trans ?_, ?_⟩, ⟨by omega, (h _ (by omega)).trans ?_⟩, ?_, ⟨by omega, (h _ (by omega)).trans ?_⟩, ⟨by omega, (h _ (by omega)).trans ?_, (h _ (by omega)).trans ?_⟩⟩
  · exact hShp_S (by omega) (fun m h1 h2 => e 1 m (by omega) (by unfold stShp; rw [if_neg (by omega), if_pos (by omega)]))
  · exact hShp_S (by omega) (fun m h1 h2 => e 44 m (by omega) (by unfold stShp; rw [if_neg (by omega), if_neg (by omega), if_pos (by omega)]))
  · unfold stShp; rw [if_neg (by omega), if_neg (by omega), if_neg (by omega), if_pos rfl]
  · unfold stShp; rw [if_neg (by omega), if_neg (by omega), if_neg (by omega), if_neg (by omega), if_pos rfl]
  · intro i hi
    refine hShp_S (by omega) (fun m h1 h2 => e _ m (by omega) ?_)
    unfold stShp; rw [if_neg (by omega), if_neg (by omega), if_neg (by omega), if_neg (by omega), if_neg (by omega), if_pos (by omega), show (m - (87 + 2)) / 43 = i by omega]
  · unfold stShp; rw [if_neg (by omega), if_neg (by omega), if_neg (by omega), if_neg (by omega), if_neg (by omega), if_neg (by omega), if_pos rfl]
  · intro i hi
    refine hShp_S (by omega) (fun m h1 h2 => e _ m (by omega) ?_)
    unfold stShp; rw [if_neg (by omega), if_neg (by omega), if_neg (by omega), if_neg (by omega), if_neg (by omega), if_neg (by omega), if_neg (by omega), if_pos (by omega), show (m - 692) / 43 = i by omega]
  · unfold stShp; rw [if_neg (by omega), if_neg (by omega), if_neg (by omega), if_neg (by omega), if_neg (by omega), if_neg (by omega), if_neg (by omega), if_neg (by omega), if_pos rfl]
  · unfold stShp; rw [if_neg (by omega), if_neg (by omega), if_neg (by omega), if_neg (by omega), if_neg (by omega), if_neg (by omega), if_neg (by omega), if_neg (by omega), if_neg (by omega), if_pos rfl]
  · unfold stShp; rw [if_neg (by omega), if_neg (by omega), if_neg (by omega), if_neg (by omega), if_neg (by omega), if_neg (by omega), if_neg (by omega), if_neg (by omega), if_neg (by omega), if_neg (by omega)]
theorem hs_far {σ : Nat → Nat → Int32} {b n : Nat} {c : Nat → Int32} (h : n < b ∨ b + 43 ≤ n) : hs σ b c n = σ n := hs_out (by omega)
/-! THE WORLD AS THE LAW'S LOOP FINDS IT FIRST -/
def shpL (z : Nat) (E : Nat → ClassId) (n : Nat) : (Nat → Int32) → va_E := if n < 781 then stShp z E n else ArS E 0 30
def sgL (n : Nat) : Nat → Int32 := if n < 781 then stI c1I n else zeI
theorem sgL_st {n : Nat} (h : n < 781) : sgL n = stI c1I n := by unfold sgL; rw [if_pos h]
theorem sgL_hi {n : Nat} (h : 781 ≤ n) : sgL n = zeI := by unfold sgL; rw [if_neg (by omega)]
theorem shpL_S {z : Nat} {E : Nat → ClassId} : StoodS E (Gz z) (shpL z E) 783 := st_S (by omega) (fun m hm => by unfold shpL; rw [if_pos hm])
theorem shpL_hi {z n : Nat} {E : Nat → ClassId} (h : 781 ≤ n) : shpL z E n = ArS E 0 30 := by unfold shpL; rw [if_neg (by omega)]
theorem zeI_0 (k : Nat) : zeI k = nI 0 := (by decide +kernel : (0 : Int32) = nI 0)
theorem sgL_hs : hs sgL 1 c1I = sgL := by
  funext n
  by_cases ho : n < 1 ∨ (1 + 2 ≤ n ∧ n < 1 + 7) ∨ 1 + 43 ≤ n
  · exact hs_out ho
  · rw [hs_cell ho (τ := hIni 1), sgL_st (by omega)]
    unfold stI; rw [if_neg (by omega), if_pos (by omega)]
theorem sgL_ho : HistOk sgL 0 0 := by
  refine ⟨⟨?_, by omega⟩, ⟨?_, by omega⟩, fun i hi => ⟨cI, ini_holds (fun n g1 g2 => ?_)⟩⟩
  · rw [sgL_st (by omega)]; unfold stI; rw [if_neg (by omega), if_neg (by omega), if_neg (by omega), if_pos rfl]; exact zeI_0 1
  · rw [sgL_st (by omega)]; unfold stI; rw [if_neg (by omega), if_neg (by omega), if_neg (by omega), if_pos rfl]; exact zeI_0 2
  · rw [sgL_st (by omega)]; unfold stI; rw [if_neg (by omega), if_neg (by omega), if_neg (by omega), if_neg (by omega), if_neg (by omega), if_pos (by omega), show (n - (87 + 2)) / 43 = i by omega]
theorem sgL_5 : sgL 5 3 = nI 0 := by
  rw [sgL_st (by omega)]; unfold stI; rw [if_neg (by omega), if_pos (by omega), hs_out (by omega)]; unfold hIni; rw [if_neg (by omega)]; exact zeI_0 3
theorem begC_inv : Inv 0 (begC cI) := by
  have e1 : tn (begC cI 1) = 0 := by decide +kernel
  have e2 : tn (begC cI 2) = 0 := by decide +kernel
  refine ⟨by omega, ⟨0, by omega, by decide +kernel⟩, ⟨0, by omega, by decide +kernel⟩, ⟨0, by omega, by decide +kernel⟩, fun l hl => ?_, fun l k hl _ => ?_, fun l j k hl _ _ _ => ?_, fun p hp => ?_, ?_⟩
  · rw [e1] at hl; omega
  · rw [e1] at hl; omega
  · rw [e1] at hl; omega
  · rw [e2] at hp; omega
  · exact ⟨⟨⟨30, by omega, by decide +kernel⟩, by decide +kernel⟩, ⟨5, by omega, by decide +kernel⟩, ⟨⟨2, by omega, by decide +kernel⟩, by decide +kernel⟩, ⟨2, by omega, by decide +kernel⟩, by decide +kernel⟩
theorem c1I_inv : Inv 0 c1I := by
  have e1 : tn (begC cI 1) = 0 := by decide +kernel
  have h := begC_inv.addL (by omega) (k := 3) (by omega) (by omega)
  unfold addLS at h
  rw [e1] at h
  exact h
theorem c1I_ex : Ex 0 0 c1I := by
  have e2 : tn (c1I 2) = 0 := by decide +kernel
  have e5 : c1I 5 = 0 := by decide +kernel
  unfold Ex
  rw [e2, e5]
  exact ⟨by decide +kernel, fun p hp => absurd hp (Nat.not_lt_zero p), rfl, rfl, fun p hp => absurd hp (Nat.not_lt_zero p)⟩
theorem sgL_jl : Jl c1I (sgL 781) := fun p hp => by
  have e2 : tn (c1I 2) = 0 := by decide +kernel
  rw [e2, sgL_hi (by omega)]
  exact ⟨fun q => absurd q (Nat.not_lt_zero p), fun _ => zeI_0 p⟩
theorem sgL_wb : Wb 0 0 sgL c1I 0 0 := ⟨sgL_ho, sgL_5, c1I_inv, c1I_ex, sgL_jl, by omega, by omega, by omega⟩
