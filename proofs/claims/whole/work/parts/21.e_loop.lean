/-! THE LAW'S LOOP -/
section LOOP9
variable {p : Program} {l : Launch} {e : Env} {s : State} {m : MethodId} {args : Array Value} {below : List Frame} {meth : Method} {c : Code} {Q : State → Prop} {D : va_G} {E : Nat → ClassId} {A : Nat → Prop} {ret : Option FieldType} {G : Nat → Nat} {shp : Nat → (Nat → Int32) → va_E} {b L : Nat} {xs : Nat → Int32}
set_option maxHeartbeats 4000000 in
set_option maxRecDepth 100000 in
theorem lw_body (hl9 : l.stackTraces = false) (hX : StX A s) (hC : StC s) (hS : StoodS E G shp 789) (hO : shp 788 = LoS E 1) (hM : ModS E G shp 789 781) (hb : va_X b L xs s s.heap) (hbl : b < s.heap.size) (hbA : ¬ A b) (hL : L ≤ 2048) {σ : Nat → Nat → Int32} {a : AB} {T i cells slots : Nat} (hCk : Ck σ a) (hMo : Mo σ a) (hG : Go T a) (hT : T ≤ 990000) (hi : i + 4 ≤ L) (hc : cells + 1 ≤ 601024) (hs : slots + 6 ≤ 7293034)
    (hk : ∀ σ' a' cells' slots', Ck σ' a' → Mo σ' a' → Go (T + 1000) a' → cells' ≤ cells + 1 → slots' ≤ slots + 6 → V p l e room_1 s m args below meth c Q D E A cL_law 7 RL ret wsL_law 789 G cells' slots' (φ shp σ') 1792 (lw_loc G b i) []) : V p l e room_1 s m args below meth c Q D E A cL_law 7 RL ret wsL_law 789 G cells slots (φ shp σ) 32 (lw_loc G b i) [] := by
  refine v_aload_n 1 dL_law_32 rfl rfl ?_
  refine v_iload 0 dL_law_33 rfl ?_
  refine v_sld hb hbl hbA (vp_in_nI (by omega) (by omega)) dL_law_35 ?_
  refine v_bipush (nI 31) dL_law_36 (by decide +kernel) ?_
  refine v_iand dL_law_38 ?_
  obtain ⟨j, hj, ej⟩ := pk_andE (xs (nI i).toNatClampNeg) (m := nI 31) 5 (by decide +kernel)
  refine v_topi (nI j) ej ?_
  have hj' : j < 32 := hj
  clear ej hj
  rcases (show j = 0 ∨ j = 1 ∨ j = 2 ∨ j = 3 ∨ j = 4 ∨ j = 5 ∨ j = 6 ∨ j = 7 ∨ j = 8 ∨ j = 9 ∨ j = 10 ∨ j = 11 ∨ j = 12 ∨ j = 13 ∨ j = 14 ∨ j = 15 ∨ j = 16 ∨ j = 17 ∨ j = 18 ∨ j = 19 ∨ j = 20 ∨ j = 21 ∨ j = 22 ∨ j = 23 ∨ j = 24 ∨ j = 25 ∨ j = 26 ∨ j = 27 ∨ j = 28 ∨ j = 29 ∨ j = 30 ∨ j = 31 by omega) with rfl | rfl | rfl | rfl | rfl | rfl | rfl | rfl | rfl | rfl | rfl | rfl | rfl | rfl | rfl | rfl | rfl | rfl | rfl | rfl | rfl | rfl | rfl | rfl | rfl | rfl | rfl | rfl | rfl | rfl | rfl | rfl
  · refine v_tableIn (off := 129) 168 dL_law_39 (by decide +kernel) (by decide +kernel) (by decide +kernel) rfl ?_
    exact law_append hl9 hX hC hS hO hM hb hbl hbA hL hCk hMo hG hT hi hc hs hk
  · refine v_tableIn (off := 185) 224 dL_law_39 (by decide +kernel) (by decide +kernel) (by decide +kernel) rfl ?_
    exact law_clearText hl9 hX hC hS hO hM hb hbl hbA hL hCk hMo hG hT hi hc hs hk
  · refine v_tableIn (off := 198) 237 dL_law_39 (by decide +kernel) (by decide +kernel) (by decide +kernel) rfl ?_
    exact law_errorPosition hl9 hX hC hS hO hM hb hbl hbA hL hCk hMo hG hT hi hc hs hk
  · refine v_tableIn (off := 211) 250 dL_law_39 (by decide +kernel) (by decide +kernel) (by decide +kernel) rfl ?_
    exact law_load hl9 hX hC hS hO hM hb hbl hbA hL hCk hMo hG hT hi hc hs hk
  · refine v_tableIn (off := 255) 294 dL_law_39 (by decide +kernel) (by decide +kernel) (by decide +kernel) rfl ?_
    exact law_about hl9 hX hC hS hO hM hb hbl hbA hL hCk hMo hG hT hi hc hs hk
  · refine v_tableIn (off := 311) 350 dL_law_39 (by decide +kernel) (by decide +kernel) (by decide +kernel) rfl ?_
    exact law_line hl9 hX hC hS hO hM hb hbl hbA hL hCk hMo hG hT hi hc hs hk
  · refine v_tableIn (off := 379) 418 dL_law_39 (by decide +kernel) (by decide +kernel) (by decide +kernel) rfl ?_
    exact law_at hl9 hX hC hS hO hM hb hbl hbA hL hCk hMo hG hT hi hc hs hk
  · refine v_tableIn (off := 447) 486 dL_law_39 (by decide +kernel) (by decide +kernel) (by decide +kernel) rfl ?_
    exact law_person hl9 hX hC hS hO hM hb hbl hbA hL hCk hMo hG hT hi hc hs hk
  · refine v_tableIn (off := 515) 554 dL_law_39 (by decide +kernel) (by decide +kernel) (by decide +kernel) rfl ?_
    exact law_setting hl9 hX hC hS hO hM hb hbl hbA hL hCk hMo hG hT hi hc hs hk
  · refine v_tableIn (off := 571) 610 dL_law_39 (by decide +kernel) (by decide +kernel) (by decide +kernel) rfl ?_
    exact law_open hl9 hX hC hS hO hM hb hbl hbA hL hCk hMo hG hT hi hc hs hk
  · refine v_tableIn (off := 627) 666 dL_law_39 (by decide +kernel) (by decide +kernel) (by decide +kernel) rfl ?_
    exact law_come hl9 hX hC hS hO hM hb hbl hbA hL hCk hMo hG hT hi hc hs hk
  · refine v_tableIn (off := 695) 734 dL_law_39 (by decide +kernel) (by decide +kernel) (by decide +kernel) rfl ?_
    exact law_go hl9 hX hC hS hO hM hb hbl hbA hL hCk hMo hG hT hi hc hs hk
  · refine v_tableIn (off := 751) 790 dL_law_39 (by decide +kernel) (by decide +kernel) (by decide +kernel) rfl ?_
    exact law_exchange hl9 hX hC hS hO hM hb hbl hbA hL hCk hMo hG hT hi hc hs hk
  · refine v_tableIn (off := 819) 858 dL_law_39 (by decide +kernel) (by decide +kernel) (by decide +kernel) rfl ?_
    exact law_jump hl9 hX hC hS hO hM hb hbl hbA hL hCk hMo hG hT hi hc hs hk
  · refine v_tableIn (off := 875) 914 dL_law_39 (by decide +kernel) (by decide +kernel) (by decide +kernel) rfl ?_
    exact law_merge hl9 hX hC hS hO hM hb hbl hbA hL hCk hMo hG hT hi hc hs hk
  · refine v_tableIn (off := 943) 982 dL_law_39 (by decide +kernel) (by decide +kernel) (by decide +kernel) rfl ?_
    exact law_minutes hl9 hX hC hS hO hM hb hbl hbA hL hCk hMo hG hT hi hc hs hk
  · refine v_tableIn (off := 999) 1038 dL_law_39 (by decide +kernel) (by decide +kernel) (by decide +kernel) rfl ?_
    exact law_set hl9 hX hC hS hO hM hb hbl hbA hL hCk hMo hG hT hi hc hs hk
  · refine v_tableIn (off := 1067) 1106 dL_law_39 (by decide +kernel) (by decide +kernel) (by decide +kernel) rfl ?_
    exact law_undo hl9 hX hC hS hO hM hb hbl hbA hL hCk hMo hG hT hi hc hs hk
  · refine v_tableIn (off := 1111) 1150 dL_law_39 (by decide +kernel) (by decide +kernel) (by decide +kernel) rfl ?_
    exact law_servedIn hl9 hX hC hS hO hM hb hbl hbA hL hCk hMo hG hT hi hc hs hk
  · refine v_tableIn (off := 1167) 1206 dL_law_39 (by decide +kernel) (by decide +kernel) (by decide +kernel) rfl ?_
    exact law_willPay hl9 hX hC hS hO hM hb hbl hbA hL hCk hMo hG hT hi hc hs hk
  · refine v_tableIn (off := 1223) 1262 dL_law_39 (by decide +kernel) (by decide +kernel) (by decide +kernel) rfl ?_
    exact law_gain hl9 hX hC hS hO hM hb hbl hbA hL hCk hMo hG hT hi hc hs hk
  · refine v_tableIn (off := 1291) 1330 dL_law_39 (by decide +kernel) (by decide +kernel) (by decide +kernel) rfl ?_
    exact law_partner hl9 hX hC hS hO hM hb hbl hbA hL hCk hMo hG hT hi hc hs hk
  · refine v_tableIn (off := 1347) 1386 dL_law_39 (by decide +kernel) (by decide +kernel) (by decide +kernel) rfl ?_
    exact law_bestLine hl9 hX hC hS hO hM hb hbl hbA hL hCk hMo hG hT hi hc hs hk
  · refine v_tableIn (off := 1360) 1399 dL_law_39 (by decide +kernel) (by decide +kernel) (by decide +kernel) rfl ?_
    exact law_longest hl9 hX hC hS hO hM hb hbl hbA hL hCk hMo hG hT hi hc hs hk
  · refine v_tableIn (off := 1373) 1412 dL_law_39 (by decide +kernel) (by decide +kernel) (by decide +kernel) rfl ?_
    exact law_saved hl9 hX hC hS hO hM hb hbl hbA hL hCk hMo hG hT hi hc hs hk
  · refine v_tableIn (off := 1441) 1480 dL_law_39 (by decide +kernel) (by decide +kernel) (by decide +kernel) rfl ?_
    exact law_runScript hl9 hX hC hS hO hM hb hbl hbA hL hCk hMo hG hT hi hc hs hk
  · refine v_tableIn (off := 1541) 1580 dL_law_39 (by decide +kernel) (by decide +kernel) (by decide +kernel) rfl ?_
    exact law_simulate hl9 hX hC hS hO hM hb hbl hbA hL hCk hMo hG hT hi hc hs hk
  · refine v_tableIn (off := 1641) 1680 dL_law_39 (by decide +kernel) (by decide +kernel) (by decide +kernel) rfl ?_
    exact law_save hl9 hX hC hS hO hM hb hbl hbA hL hCk hMo hG hT hi hc hs hk
  · refine v_tableIn (off := 1697) 1736 dL_law_39 (by decide +kernel) (by decide +kernel) (by decide +kernel) rfl ?_
    exact law_restore hl9 hX hC hS hO hM hb hbl hbA hL hCk hMo hG hT hi hc hs hk
  · refine v_tableOut 1792 dL_law_39 (by decide +kernel) rfl ?_
    exact hk σ a cells slots hCk hMo (hG.mono (by omega) (by omega)) (by omega) (by omega)
  · refine v_tableOut 1792 dL_law_39 (by decide +kernel) rfl ?_
    exact hk σ a cells slots hCk hMo (hG.mono (by omega) (by omega)) (by omega) (by omega)
  · refine v_tableOut 1792 dL_law_39 (by decide +kernel) rfl ?_
    exact hk σ a cells slots hCk hMo (hG.mono (by omega) (by omega)) (by omega) (by omega)
set_option maxHeartbeats 4000000 in
set_option maxRecDepth 100000 in
theorem lw_loop (hl9 : l.stackTraces = false) (hX : StX A s) (hC : StC s) (hS : StoodS E G shp 789) (hO : shp 788 = LoS E 1) (hM : ModS E G shp 789 781) (hb : va_X b L xs s s.heap) (hbl : b < s.heap.size) (hbA : ¬ A b) (hL : L ≤ 2048)
    (hend : ∀ (Φ : Nat → va_E) (cells slots : Nat) (loc : List (Nat × Value)), cells ≤ 601024 → slots ≤ 7293034 → V p l e room_1 s m args below meth c Q D E A cL_law 7 RL ret wsL_law 789 G cells slots Φ 1799 loc [.int (nI 1)]) :
    ∀ (n : Nat) {i : Nat} {σ : Nat → Nat → Int32} {a : AB} {T cells slots : Nat}, L ≤ i + 4 * n + 3 → i ≤ 2048 → Ck σ a → Mo σ a → Go T a → T ≤ 250 * i + 2000 → cells ≤ 1000 + i → slots ≤ 20000 + 2 * i → V p l e room_1 s m args below meth c Q D E A cL_law 7 RL ret wsL_law 789 G cells slots (φ shp σ) 23 (lw_loc G b i) []
  | n, i, σ, a, T, cells, slots, h1, h2, hCk, hMo, hG, hT, hcl, hsl => by
    refine v_iload 0 dL_law_23 rfl ?_
    refine v_aload_n 1 dL_law_25 rfl rfl ?_
    refine v_slen hb hbl hbA dL_law_26 ?_
    refine v_iconst (nI 4) dL_law_27 (by decide +kernel) ?_
    by_cases h4 : 4 ≤ L
    · refine v_isubN h4 dL_law_28 ?_
      refine v_icmp_gtN 1798 (by omega) (by omega) dL_law_29 rfl (fun _ => ?_) (fun h9 => ?_)
      · refine v_iconst (nI 1) dL_law_1798 (by decide +kernel) ?_
        exact hend _ _ _ _ (by omega) (by omega)
      · match n with
        | 0 => omega
        | n + 1 =>
          refine lw_body hl9 hX hC hS hO hM hb hbl hbA hL hCk hMo hG (by omega) (by omega) (by omega) (by omega) (fun σ' a' cells' slots' k1 k2 k3 k4 k5 => ?_)
          refine v_iinc 0 (nI (i + 4)) (lw_loc G b (i + 4)) dL_law_1792 rfl (by rw [show Int32.ofInt 4 = nI 4 by decide +kernel, nI_add]) (by decide) rfl ?_
          refine v_goto 23 dL_law_1795 rfl ?_
          exact lw_loop hl9 hX hC hS hO hM hb hbl hbA hL hend n (by omega) (by omega) k1 k2 k3 (by omega) (by omega) (by omega)
    · refine v_isub dL_law_28 ?_
      refine v_icmp_gt 1798 dL_law_29 rfl (fun _ => ?_) (fun h9 => ?_)
      · refine v_iconst (nI 1) dL_law_1798 (by decide +kernel) ?_
        exact hend _ _ _ _ (by omega) (by omega)
      · refine absurd (Int32.lt_of_lt_of_le ?_ (nI_pos' (show i < 2 ^ 31 by omega))) h9
        rcases (show L = 0 ∨ L = 1 ∨ L = 2 ∨ L = 3 by omega) with h | h | h | h <;> rw [h] <;> decide +kernel
end LOOP9
