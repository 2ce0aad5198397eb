/-! FROM THE LAW'S ENTRY -/
section RUN9
variable {p : Program} {l : Launch} {e : Env} {s : State} {m : MethodId} {args : Array Value} {below : List Frame} {meth : Method} {c : Code} {Q : State → Prop} {D : va_G} {E : Nat → ClassId} {ret : Option FieldType} {b L : Nat} {xs : Nat → Int32}
theorem lw_phi {z : Nat} {Φ Φ' : Nat → va_E} {x : va_E} (h1 : Φ = φ (stShp z E) (stI c1I)) (h2 : ∀ m, m < 781 + 7 → Φ' m = (if m < 781 then va_up Φ 781 x m else mShp z E 781 m (moI 781 m))) : ∀ n, n < 789 → va_up Φ' 788 (.inl (E 3, (1, .inr (.inl (fun _ => 0))))) n = φ (shpL z E) sgL n := by
  intro n hn
  by_cases q : n = 788
  · rw [q, va_up_self]
    show _ = shpL z E 788 (sgL 788)
    rw [shpL_O]
    unfold sgL; rw [if_neg (by omega), if_neg (by omega)]
    rfl
  · rw [va_up_ne _ _ q, h2 n (by omega)]
    show _ = shpL z E n (sgL n)
    by_cases q2 : n < 781
    · rw [if_pos q2, va_up_ne _ _ (by omega), h1, sgL_st q2]
      unfold shpL; rw [if_pos q2]; rfl
    · rw [if_neg q2, sgL_mo (by omega) (by omega)]
      unfold shpL; rw [if_neg q2, if_pos (by omega)]
set_option maxHeartbeats 4000000 in
set_option maxRecDepth 100000 in
theorem lw_run (hl9 : l.stackTraces = false) (hX : StX (fun q => s.heap.size ≤ q) s) (hC : StC s) (hA9 : StA s) (hb : va_X b L xs s s.heap) (hbl : b < s.heap.size) (hL : L ≤ 2048)
    (hend : ∀ (Φ : Nat → va_E) (cells slots : Nat) (loc : List (Nat × Value)), cells ≤ 601024 → slots ≤ 7293034 → V p l e room_1 s m args below meth c Q D E (fun q => s.heap.size ≤ q) cL_law 7 RL ret wsL_law 789 (Gz s.heap.size) cells slots Φ 1799 loc [.int (nI 1)]) (Φ : Nat → va_E) :
    V p l e room_1 s m args below meth c Q D E (fun q => s.heap.size ≤ q) cL_law 7 RL ret wsL_law 0 (Gz s.heap.size) 0 0 Φ 0 [(0, .ref b)] [] := by
  refine v_new (C := RX5) (T := TX5) (NF := 6) (ci := 5) stood0 (by omega) (fun q => Iff.rfl) inlX5 tyX5 tyX5_ok (by decide +kernel) (by decide +kernel) (by decide +kernel) rfl (fun j9 hj9 => by rcases (show j9 = 0 ∨ j9 = 1 ∨ j9 = 2 ∨ j9 = 3 ∨ j9 = 4 ∨ j9 = 5 by omega) with rfl | rfl | rfl | rfl | rfl | rfl <;> rfl) (show _ ≤ 601024 by omega) (show _ ≤ 7293034 by omega) dL_law_0 ?_
  refine v_dup dL_law_3 rfl ?_
  refine v_callGI (n := 0) (N1 := 781) hX hA9 (Nat.le_refl _) (by omega) (fun q => Iff.rfl) (c_X5_init l D E s.heap.size (va_up_self _ _ _)) gL_law_X5_init (by decide +kernel) (by decide +kernel) (by decide +kernel) rfl rfl (show 780 = _ by omega) rfl (by decide +kernel) ⟨Nat.le_of_ble_eq_true rfl, Nat.le_of_ble_eq_true rfl⟩ ⟨show _ ≤ 601024 by omega, show _ ≤ 7293034 by omega⟩ (Nat.le_of_ble_eq_true rfl) rfl dL_law_4 (fun Φ1 h1 => ?_)
  refine v_astore_n [(1, .ref (Gz s.heap.size 0)), (0, .ref b)] dL_law_7 rfl (by decide) rfl ?_
  refine v_new (C := RX6) (T := TX6) (NF := 13) (ci := 6) mod0 (by omega) (fun q => Iff.rfl) inlX6 tyX6 tyX6_ok (by decide +kernel) (by decide +kernel) (by decide +kernel) rfl (fun j9 hj9 => by rcases (show j9 = 0 ∨ j9 = 1 ∨ j9 = 2 ∨ j9 = 3 ∨ j9 = 4 ∨ j9 = 5 ∨ j9 = 6 ∨ j9 = 7 ∨ j9 = 8 ∨ j9 = 9 ∨ j9 = 10 ∨ j9 = 11 ∨ j9 = 12 by omega) with rfl | rfl | rfl | rfl | rfl | rfl | rfl | rfl | rfl | rfl | rfl | rfl | rfl <;> rfl) (show _ ≤ 601024 by omega) (show _ ≤ 7293034 by omega) dL_law_8 ?_
  refine v_dup dL_law_11 rfl ?_
  refine v_callGI (n := 781) (N1 := 781 + 7) hX hA9 (Nat.le_refl _) (by omega) (fun q => Iff.rfl) (c_X6_init l D E s.heap.size (b := 781) (va_up_self _ _ _)) gL_law_X6_init (by decide +kernel) (by decide +kernel) (by decide +kernel) rfl rfl (show 6 = _ by omega) rfl (by decide +kernel) ⟨Nat.le_of_ble_eq_true rfl, Nat.le_of_ble_eq_true rfl⟩ ⟨show _ ≤ 601024 by omega, show _ ≤ 7293034 by omega⟩ (Nat.le_of_ble_eq_true rfl) rfl dL_law_12 (fun Φ2 h2 => ?_)
  refine v_astore_n [(2, .ref (Gz s.heap.size 781)), (1, .ref (Gz s.heap.size 0)), (0, .ref b)] dL_law_15 rfl (by decide) rfl ?_
  refine v_iconst (nI 1) dL_law_16 (by decide +kernel) ?_
  refine v_newarr 3 .long (ty := .long) 1 (1, .inr (.inl (fun _ => 0))) (by omega) (fun q => Iff.rfl) (by decide +kernel) rfl rfl (fun _ => rfl) rfl (by decide) (by decide) (show _ ≤ 601024 by omega) (show _ ≤ 7293034 by omega) dL_law_17 ?_
  refine v_astore_n [(3, .ref (Gz s.heap.size 788)), (2, .ref (Gz s.heap.size 781)), (1, .ref (Gz s.heap.size 0)), (0, .ref b)] dL_law_19 rfl (by decide) rfl ?_
  refine v_iconst (nI 0) dL_law_20 (by decide +kernel) ?_
  refine v_istore [(4, .int (nI 0)), (3, .ref (Gz s.heap.size 788)), (2, .ref (Gz s.heap.size 781)), (1, .ref (Gz s.heap.size 0)), (0, .ref b)] dL_law_21 (by decide) rfl ?_
  refine v_loc [0, 4, 3, 2, 1] (lw_loc (Gz s.heap.size) b 0) rfl ?_
  refine v_Φ (φ (shpL s.heap.size E) sgL) (lw_phi h1 h2) ?_
  exact lw_loop hl9 hX hC shpL_S shpL_O shpL_M hb hbl (Nat.not_le.mpr hbl) hL hend 512 (by omega) (by omega) sgL_ck sgL_m abL_go (by omega) (by omega) (by omega)
end RUN9
