/-! WHAT THE STATEMENT'S WORDS SAY OF THE START -/
section WORDS9
variable {args : Array Value} {s : State}
theorem lw_prim {ty : FieldType} (h : (Cond.arrayClass ty).before args s = true) : ∃ cA : ClassId, s.vm.findClass ("[" ++ ty.toString) = some cA ∧ ArrOfT s cA ty := by
  obtain ⟨cA, kA, comp, h1, h2, h3⟩ := Cond.arrayClass_spec h
  exact ⟨cA, h1, fun n z => ⟨fun k h => (by cases h), kA, h2, comp, h3⟩⟩
theorem lw_over {C : String} (h : (Cond.arrayOver (.object C)).before args s = true) : ∃ cA : ClassId, ArrOfT s cA (.object C) ∧ va_RA s cA (.object C) := by
  obtain ⟨comp, cA, kA, hcomp, hidx, hkA, hkindA, hnameA⟩ := Cond.arrayOver_spec h
  exact ⟨cA, fun n z => ⟨fun k h => (by cases h), kA, hkA, comp, hkindA⟩, kA, comp, hkA, hkindA, hcomp, hnameA⟩
theorem lw_E (h0 : (Cond.arrayClass .int).before args s = true) (h1 : (Cond.arrayClass .boolean).before args s = true) (h2 : (Cond.arrayClass .byte).before args s = true) (h4 : (Cond.arrayOver (.object "StoodMinutes$Line")).before args s = true) (h5 : (Cond.arrayOver (.object "StoodMinutes$Person")).before args s = true) (h6 : (Cond.arrayOver (.object "StoodMinutes$Hall")).before args s = true) : ∃ E : Nat → ClassId, ∀ (k : Nat) (q : ClassId × FieldType), (tysE E)[k]? = some q → ArrOfT s q.1 q.2 ∧ va_RA s q.1 q.2 := by
  obtain ⟨c0, a0, b0⟩ := lw_prim h0
  obtain ⟨c1, a1, b1⟩ := lw_prim h1
  obtain ⟨c2, a2, b2⟩ := lw_prim h2
  obtain ⟨c4, a4, b4⟩ := lw_over h4
  obtain ⟨c5, a5, b5⟩ := lw_over h5
  obtain ⟨c6, a6, b6⟩ := lw_over h6
  refine ⟨fun k => if k = 0 then c0 else if k = 1 then c1 else if k = 2 then c2 else if k = 3 then c0 else if k = 4 then c4 else if k = 5 then c5 else c6, fun k q hq => ?_⟩
  have hk : k < 7 := (List.getElem?_eq_some_iff.mp hq).1
  rcases (show k = 0 ∨ k = 1 ∨ k = 2 ∨ k = 3 ∨ k = 4 ∨ k = 5 ∨ k = 6 by omega) with rfl | rfl | rfl | rfl | rfl | rfl | rfl
  · cases hq; exact ⟨b0, a0⟩
  · cases hq; exact ⟨b1, a1⟩
  · cases hq; exact ⟨b2, a2⟩
  · cases hq; exact ⟨b0, a0⟩
  · cases hq; exact ⟨a4, b4⟩
  · cases hq; exact ⟨a5, b5⟩
  · cases hq; exact ⟨a6, b6⟩
theorem lw_D (hw : ∀ w ∈ wsL_law, w.before args s = true) : ∃ D : va_G, ∀ (k : Nat) (q : vw_C), vwCl[k]? = some q → u_Kn s q.1 q.2.1 q.2.2 (D.1 k) (D.2 k) := by
  have h0 : ∀ k : Nat, ∃ x : ClassId × (Nat → Nat), ∀ q : vw_C, vwCl[k]? = some q → u_Kn s q.1 q.2.1 q.2.2 x.1 x.2 := by
    intro k
    by_cases hk : k < 6
    · rcases (show k = 0 ∨ k = 1 ∨ k = 2 ∨ k = 3 ∨ k = 4 ∨ k = 5 by omega) with rfl | rfl | rfl | rfl | rfl | rfl
      · obtain ⟨cC, iS, h⟩ := u_known (C := RX0) (T := TX0) (N := 3) (n := 3) hw inlX0 (hw _ (by decide +kernel)); exact ⟨(cC, iS), fun q hq => by cases hq; exact h⟩
      · obtain ⟨cC, iS, h⟩ := u_known (C := RX1) (T := TX1) (N := 11) (n := 11) hw inlX1 (hw _ (by decide +kernel)); exact ⟨(cC, iS), fun q hq => by cases hq; exact h⟩
      · obtain ⟨cC, iS, h⟩ := u_known (C := RX2) (T := TX2) (N := 3) (n := 3) hw inlX2 (hw _ (by decide +kernel)); exact ⟨(cC, iS), fun q hq => by cases hq; exact h⟩
      · obtain ⟨cC, iS, h⟩ := u_known (C := RX3) (T := TX3) (N := 5) (n := 5) hw inlX3 (hw _ (by decide +kernel)); exact ⟨(cC, iS), fun q hq => by cases hq; exact h⟩
      · obtain ⟨cC, iS, h⟩ := u_known (C := RX4) (T := TX4) (N := 9) (n := 9) hw inlX4 (hw _ (by decide +kernel)); exact ⟨(cC, iS), fun q hq => by cases hq; exact h⟩
      · obtain ⟨cC, iS, h⟩ := u_known (C := RX5) (T := TX5) (N := 6) (n := 6) hw inlX5 (hw _ (by decide +kernel)); exact ⟨(cC, iS), fun q hq => by cases hq; exact h⟩
    · exact ⟨(0, fun _ => 0), fun q hq => absurd (show k < 6 from (List.getElem?_eq_some_iff.mp hq).1) hk⟩
  obtain ⟨f, hf⟩ := Classical.axiomOfChoice h0
  exact ⟨(fun k => (f k).1, fun k => (f k).2), fun k q hq => hf k q hq⟩
theorem lw_stA (hts : ∀ w ∈ lw_tbl, w.before args s = true) : StA s := by
  have h1 : ∀ C ∈ aoC, Cond.arrayOver (.object C) ∈ lw_tbl := by decide +kernel
  exact fun C hC => va_AO.of (hts _ (h1 C hC))
theorem lw_stX (hts : ∀ w ∈ lw_tbl, w.before args s = true) : StX (fun q => s.heap.size ≤ q) s := by
  have w1 : ∀ w ∈ xcW, w ∈ lw_tbl ∧ w.onTables = true := by decide +kernel
  exact fun w hw => va_Nw.of (w1 w hw).2 (hts w (w1 w hw).1)
theorem lw_tab {nm : String} {f : Nat → Int32} (hts : ∀ w ∈ lw_tbl, w.before args s = true) (hq : ∀ w ∈ flatC (Jvm.Cond.and given_1 narrow_1), w.before args s = true) (h1 : Cond.laysStatic "StoodMinutes" nm "[I" ∈ lw_tbl) (h2 : Cond.arrayOf (.static "StoodMinutes" nm "[I") .int ∈ flatC (Jvm.Cond.and given_1 narrow_1)) (h3 : Cond.eq (.length (.static "StoodMinutes" nm "[I")) (.int (Int32.ofNat 4)) ∈ flatC (Jvm.Cond.and given_1 narrow_1)) (h4 : ∀ j, j < 4 → Cond.eq (.elem (.static "StoodMinutes" nm "[I") (.int (Int32.ofNat j))) (.int (f j)) ∈ flatC (Jvm.Cond.and given_1 narrow_1)) :
    ∃ t : Nat, va_Z "StoodMinutes" nm "[I" (.ref t) (fun q => s.heap.size ≤ q) s s.heap ∧ va_T .int t 4 (fun j => .int (f j)) (fun q => s.heap.size ≤ q) s s.heap := by
  have hA : ∀ a : Nat, a < s.heap.size → ¬ s.heap.size ≤ a := fun a h => Nat.not_le.mpr h
  obtain ⟨t, ht, hT⟩ := va_Tof (tm := .static "StoodMinutes" nm "[I") (ty := .int) (N := 4) (f := fun j => .int (f j)) (A := fun q => s.heap.size ≤ q) (by decide) (hq _ h2) (va_eqt (hq _ h3)) (fun j hj => va_eqt (hq _ (h4 j hj))) hA
  exact ⟨t, va_Zref (hts _ h1) (hts _ (by decide +kernel)) ht hA, hT⟩
theorem lw_stZ (hts : ∀ w ∈ lw_tbl, w.before args s = true) (hq : ∀ w ∈ flatC (Jvm.Cond.and given_1 narrow_1), w.before args s = true) : StZ (fun q => s.heap.size ≤ q) s := by
  have w1 : ∀ w ∈ nestW, w ∈ lw_tbl ∧ w.onTables = true := by decide +kernel
  obtain ⟨t1, a1, b1⟩ := lw_tab (nm := "SETTING_AT_FIRST") (f := stFirst) hts hq (by decide +kernel) (by decide +kernel) (by decide +kernel) (by decide +kernel)
  obtain ⟨t2, a2, b2⟩ := lw_tab (nm := "SETTING_LEAST") (f := stLeast) hts hq (by decide +kernel) (by decide +kernel) (by decide +kernel) (by decide +kernel)
  obtain ⟨t3, a3, b3⟩ := lw_tab (nm := "SETTING_MOST") (f := stMost) hts hq (by decide +kernel) (by decide +kernel) (by decide +kernel) (by decide +kernel)
  exact ⟨⟨t1, t2, t3, ⟨a1, b1⟩, ⟨a2, b2⟩, a3, b3⟩, fun w hw => va_Nw.of (w1 w hw).2 (hts w (w1 w hw).1)⟩
end WORDS9
