/-! FROM THE LAW'S ENTRY -/
theorem lw_phi {z : Nat} {E : Nat → ClassId} {Φ : Nat → va_E} (h1 : Φ = φ (stShp z E) (stI c1I)) : ∀ n, n < 783 → va_up (va_up Φ 781 (.inl (E 0, (30, .inl (fun _ => 0))))) 782 (.inl (E 0, (30, .inl (fun _ => 0)))) n = φ (shpL z E) (hs sgL 1 c1I) n := by
  intro n hn
  rw [sgL_hs]
  by_cases q : n = 782
  · rw [q, va_up_self]
    show _ = shpL z E 782 (sgL 782)
    rw [shpL_hi (by omega), sgL_hi (by omega)]; rfl
  · rw [va_up_ne _ _ q]
    by_cases q1 : n = 781
    · rw [q1, va_up_self]
      show _ = shpL z E 781 (sgL 781)
      rw [shpL_hi (by omega), sgL_hi (by omega)]; rfl
    · rw [va_up_ne _ _ q1, h1]
      show stShp z E n (stI c1I n) = shpL z E n (sgL n)
      rw [sgL_st (by omega)]
      unfold shpL; rw [if_pos (by omega)]
section RUN9
variable {p : Program} {l : Launch} {e : Env} {s : State} {m : MethodId} {args : Array Value} {below : List Frame} {meth : Method} {c : Code} {Q : State → Prop} {D : va_G} {E : Nat → ClassId} {ret : Option FieldType} {b L : Nat} {xs : Nat → Int32}
set_option maxHeartbeats 4000000 in
set_option maxRecDepth 100000 in
theorem lw_run (hX : StX (fun q => s.heap.size ≤ q) s) (hA9 : StA s) (hb : va_X b L xs s s.heap) (hbl : b < s.heap.size) (hL : L ≤ 260)
    (hend : ∀ (Φ : Nat → va_E) (loc : List (Nat × Value)), V p l e room_1 s m args below meth c Q D E (fun q => s.heap.size ≤ q) cL_law 12 RL ret wsL_law 783 (Gz s.heap.size) 783 7300 Φ 226 loc [.int (nI 1)]) (Φ : Nat → va_E) :
    V p l e room_1 s m args below meth c Q D E (fun q => s.heap.size ≤ q) cL_law 12 RL ret wsL_law 0 (Gz s.heap.size) 0 0 Φ 0 [(0, .ref b)] [] := by
  refine v_new (C := RX5) (T := TX5) (NF := 6) (ci := 5) stood0 (by omega) (fun q => Iff.rfl) inlX5 tyX5 tyX5_ok (by decide +kernel) (by decide +kernel) (by decide +kernel) rfl (fun j9 hj9 => by rcases (show j9 = 0 ∨ j9 = 1 ∨ j9 = 2 ∨ j9 = 3 ∨ j9 = 4 ∨ j9 = 5 by omega) with rfl | rfl | rfl | rfl | rfl | rfl <;> rfl) (show _ ≤ 600130 by omega) (show _ ≤ 7301080 by omega) dL_law_0 ?_
  refine v_dup dL_law_3 rfl ?_
  refine v_callGI (n := 0) (N1 := 781) hX hA9 (Nat.le_refl _) (by omega) (fun q => Iff.rfl) (c_X5_init l D E s.heap.size (va_up_self _ _ _)) gL_law_X5_init (by decide +kernel) (by decide +kernel) (by decide +kernel) rfl rfl (show 780 = _ by omega) rfl (by decide +kernel) ⟨Nat.le_of_ble_eq_true rfl, Nat.le_of_ble_eq_true rfl⟩ ⟨show _ ≤ 600130 by omega, show _ ≤ 7301080 by omega⟩ (Nat.le_of_ble_eq_true rfl) rfl dL_law_4 (fun Φ1 h1 => ?_)
  refine v_astore_n [(1, .ref (Gz s.heap.size 0)), (0, .ref b)] dL_law_7 rfl (by decide) rfl ?_
  refine v_bipush (nI 30) dL_law_8 (by decide +kernel) ?_
  refine v_newarr 0 .int (ty := .int) 30 (30, .inl (fun _ => 0)) (by omega) (fun q => Iff.rfl) (by decide +kernel) rfl rfl (fun _ => rfl) rfl (by decide) (by decide) (show _ ≤ 600130 by omega) (show _ ≤ 7301080 by omega) dL_law_10 ?_
  refine v_astore_n [(2, .ref (Gz s.heap.size 781)), (1, .ref (Gz s.heap.size 0)), (0, .ref b)] dL_law_12 rfl (by decide) rfl ?_
  refine v_bipush (nI 30) dL_law_13 (by decide +kernel) ?_
  refine v_newarr 0 .int (ty := .int) 30 (30, .inl (fun _ => 0)) (by omega) (fun q => Iff.rfl) (by decide +kernel) rfl rfl (fun _ => rfl) rfl (by decide) (by decide) (show _ ≤ 600130 by omega) (show _ ≤ 7301080 by omega) dL_law_15 ?_
  refine v_astore_n [(3, .ref (Gz s.heap.size 782)), (2, .ref (Gz s.heap.size 781)), (1, .ref (Gz s.heap.size 0)), (0, .ref b)] dL_law_17 rfl (by decide) rfl ?_
  refine v_iconst (nI 0) dL_law_18 (by decide +kernel) ?_
  refine v_istore [(4, .int (nI 0)), (3, .ref (Gz s.heap.size 782)), (2, .ref (Gz s.heap.size 781)), (1, .ref (Gz s.heap.size 0)), (0, .ref b)] dL_law_19 (by decide) rfl ?_
  refine v_nc (N' := 783) (cells' := 783) (slots' := 7300) rfl rfl rfl ?_
  refine v_Φ (φ (shpL s.heap.size E) (hs sgL 1 c1I)) (lw_phi h1) ?_
  exact law_loop shpL_S ⟨by omega, shpL_hi (by omega)⟩ ⟨by omega, shpL_hi (by omega)⟩ ⟨L, xs, by omega, hb, hbl, Nat.not_le.mpr hbl⟩ hend 36 0 sgL c1I 0 0 rfl sgL_wb
end RUN9
