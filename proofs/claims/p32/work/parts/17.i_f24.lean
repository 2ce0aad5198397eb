/-- a hall as it is made: nobody stands in any line -/
def cI : Nat → Int32 := fun i => if 58 ≤ i ∧ (i - 58) % 10 = 1 then -1 else if 58 ≤ i ∧ (i - 58) % 10 = 5 then 2 else 0
theorem cI_z {i : Nat} (h : i < 58 ∨ ((i - 58) % 10 ≠ 1 ∧ (i - 58) % 10 ≠ 5)) : cI i = 0 := by unfold cI; rw [if_neg (by omega), if_neg (by omega)]
theorem cI_1 (p : Nat) : cI (58 + 10 * p + 1) = -1 := by unfold cI; rw [if_pos (by omega)]
theorem cI_5 (p : Nat) : cI (58 + 10 * p + 5) = 2 := by unfold cI; rw [if_neg (by omega), if_pos (by omega)]
theorem ini_holds {σ : Nat → Nat → Int32} {b : Nat} (h : ∀ n, b ≤ n → n < b + 43 → σ n = hIni b n) : HoldsAt σ b cI := by
  funext n
  by_cases ho : n < b ∨ (b + 2 ≤ n ∧ n < b + 7) ∨ b + 43 ≤ n
  · exact hs_out ho
  · rw [h n (by omega) (by omega)]
    by_cases c1 : n = b
    · rw [c1, hs_b]
      unfold hIni; rw [if_neg (by omega)]
      funext k
      unfold hallF zeI
      rw [cI_z (by omega), cI_z (by omega), cI_z (by omega), cI_z (by omega), cI_z (by omega), cI_z (by omega)]
      repeat' split
      all_goals rfl
    · by_cases c2 : n = b + 1
      · rw [c2, hs_1]
        unfold hIni; rw [if_neg (by omega)]
        funext k
        unfold setgF zeI
        by_cases q : k < 4
        · rw [if_pos q, cI_z (by omega)]
        · rw [if_neg q]
      · by_cases c3 : n < b + 13
        · have e3 : hIni b n = zeI := by unfold hIni; rw [if_neg (by omega)]
          rw [e3]
          by_cases c4 : (n - (b + 7)) % 2 = 0
          · obtain ⟨l, hl3, el⟩ : ∃ l, l < 3 ∧ n = b + 7 + 2 * l := ⟨(n - (b + 7)) / 2, by omega, by omega⟩
            rw [el, hs_l hl3]
            funext k
            unfold lineF zeI
            rw [cI_z (by omega), cI_z (by omega), cI_z (by omega), cI_z (by omega)]
            repeat' split
            all_goals rfl
          · obtain ⟨l, hl3, el⟩ : ∃ l, l < 3 ∧ n = b + 7 + 2 * l + 1 := ⟨(n - (b + 7)) / 2, by omega, by omega⟩
            rw [el, hs_r hl3]
            funext k
            unfold rowF zeI
            by_cases q : k < 12
            · rw [if_pos q, cI_z (by omega)]
            · rw [if_neg q]
        · obtain ⟨p, hp3, ep⟩ : ∃ p, p < 30 ∧ n = b + 13 + p := ⟨n - (b + 13), by omega, by omega⟩
          have e3 : hIni b n = persI := by unfold hIni; rw [if_pos (by omega)]
          rw [e3, ep, hs_p hp3]
          funext k
          unfold persF persI
          rw [cI_1, cI_5, cI_z (i := 58 + 10 * p) (by omega), cI_z (i := 58 + 10 * p + 2) (by omega), cI_z (i := 58 + 10 * p + 3) (by omega), cI_z (i := 58 + 10 * p + 4) (by omega), cI_z (i := 58 + 10 * p + 6) (by omega), cI_z (i := 58 + 10 * p + 7) (by omega), cI_z (i := 58 + 10 * p + 8) (by omega)]
          by_cases k0 : k = 0
          · rw [if_pos k0, k0, if_neg (by omega), if_neg (by omega)]
          rw [if_neg k0]
          by_cases k1 : k = 1
          · rw [if_pos k1, if_pos k1]
          rw [if_neg k1, if_neg k1]
          by_cases k2 : k = 2
          · rw [if_pos k2, if_pos k2]
          rw [if_neg k2, if_neg k2]
          repeat' split
          all_goals rfl
section HSH
variable {z : Nat} {E : Nat → ClassId} {b : Nat}
theorem hShp_0 : hShp z E b b = ObS (Gz z) 1 (ksHall b) := by unfold hShp; rw [if_pos rfl]
theorem hShp_1 : hShp z E b (b + 1) = ArS E 0 4 := by unfold hShp; rw [if_neg (by omega), if_pos rfl]
theorem hShp_2 : hShp z E b (b + 2) = ReS E (Gz z) 4 3 (fun l => b + 7 + 2 * l) := by unfold hShp; rw [if_neg (by omega), if_neg (by omega), if_pos rfl]
theorem hShp_3 : hShp z E b (b + 3) = ReS E (Gz z) 5 30 (fun p => b + 13 + p) := by unfold hShp; rw [if_neg (by omega), if_neg (by omega), if_neg (by omega), if_pos rfl]
theorem hShp_4 : hShp z E b (b + 4) = ObS (Gz z) 3 (ksLine (b + 4)) := by unfold hShp; rw [if_neg (by omega), if_neg (by omega), if_neg (by omega), if_neg (by omega), if_pos rfl]
theorem hShp_5 : hShp z E b (b + 5) = ArS E 0 12 := by unfold hShp; rw [if_neg (by omega), if_neg (by omega), if_neg (by omega), if_neg (by omega), if_neg (by omega), if_pos rfl]
theorem hShp_6 : hShp z E b (b + 6) = ObS (Gz z) 4 ksPers := by unfold hShp; rw [if_neg (by omega), if_neg (by omega), if_neg (by omega), if_neg (by omega), if_neg (by omega), if_neg (by omega), if_pos rfl]
theorem hShp_l {l : Nat} (h : l < 3) : hShp z E b (b + 7 + 2 * l) = ObS (Gz z) 3 (ksLine (b + 7 + 2 * l)) := by unfold hShp; rw [if_neg (by omega), if_neg (by omega), if_neg (by omega), if_neg (by omega), if_neg (by omega), if_neg (by omega), if_neg (by omega), if_pos (by omega), if_pos (by omega)]
theorem hShp_r {l : Nat} (h : l < 3) : hShp z E b (b + 7 + 2 * l + 1) = ArS E 0 12 := by unfold hShp; rw [if_neg (by omega), if_neg (by omega), if_neg (by omega), if_neg (by omega), if_neg (by omega), if_neg (by omega), if_neg (by omega), if_pos (by omega), if_neg (by omega)]
theorem hShp_p (p : Nat) : hShp z E b (b + 13 + p) = ObS (Gz z) 4 ksPers := by unfold hShp; rw [if_neg (by omega), if_neg (by omega), if_neg (by omega), if_neg (by omega), if_neg (by omega), if_neg (by omega), if_neg (by omega), if_neg (by omega)]
theorem hShp_S {N : Nat} {shp : Nat → (Nat → Int32) → va_E} (hN : b + 42 < N) (h : ∀ m, b ≤ m → m < b + 43 → shp m = hShp z E b m) : HallS E (Gz z) shp N b := by
  refine ⟨hN, (h b (by omega) (by omega)).trans hShp_0, (h _ (by omega) (by omega)).trans hShp_1, (h _ (by omega) (by omega)).trans hShp_2, (h _ (by omega) (by omega)).trans hShp_3, ⟨by omega, (h _ (by omega) (by omega)).trans hShp_4, (h _ (by omega) (by omega)).trans hShp_5⟩, ⟨by omega, (h _ (by omega) (by omega)).trans hShp_6⟩, fun l hl => ⟨by omega, (h _ (by omega) (by omega)).trans (hShp_l hl), (h _ (by omega) (by omega)).trans (hShp_r hl)⟩, fun p hp => ⟨by omega, (h _ (by omega) (by omega)).trans (hShp_p p)⟩⟩
end HSH
/-- the shapes of the whole object's cells; what they hold at first (c1: the hall) -/
def stShp (z : Nat) (E : Nat → ClassId) (m : Nat) : (Nat → Int32) → va_E := if m = 0 then ObS (Gz z) 5 ksStood else if m < 44 then hShp z E 1 m else if m < 87 then hShp z E 44 m else if m = 87 then ObS (Gz z) 2 (ksHist 87) else if m = 87 + 1 then ReS E (Gz z) 6 14 (fun i => 87 + 2 + 43 * i) else if m < 691 then hShp z E (87 + 2 + 43 * ((m - (87 + 2)) / 43)) m else if m = 691 then ReS E (Gz z) 6 2 (fun i => 692 + 43 * i) else if m < 778 then hShp z E (692 + 43 * ((m - 692) / 43)) m else if m = 778 then ArS E 1 2 else if m = 779 then ObS (Gz z) 0 (ksDay 779) else ArS E 0 100
def stI (c1 : Nat → Int32) (m : Nat) : Nat → Int32 := if m = 0 then zeI else if m < 44 then hs (hIni 1) 1 c1 m else if m < 87 then hIni 44 m else if m = 87 then zeI else if m = 87 + 1 then zeI else if m < 691 then hIni (87 + 2 + 43 * ((m - (87 + 2)) / 43)) m else if m = 691 then zeI else if m < 778 then hIni (692 + 43 * ((m - 692) / 43)) m else zeI
def stood0 : List Value := [.null, .null, .null, .null, .null, .null]
def sPhi (z : Nat) (E : Nat → ClassId) (fs : List Value) (a : Nat → Option Nat) (c1 : Nat → Int32) : Nat → va_E := fun m => if m = 0 then .inr (5, fs) else if m = 691 then .inl (E 6, 2, .inr (.inr (.inr (.inr a)))) else stShp z E m (stI c1 m)
section SPH
variable {z : Nat} {E : Nat → ClassId} {fs fs' : List Value} {a a' : Nat → Option Nat} {c1 : Nat → Int32}
theorem sPhi_0 : sPhi z E fs a c1 0 = .inr (5, fs) := by unfold sPhi; rw [if_pos rfl]
theorem sPhi_a : sPhi z E fs a c1 691 = .inl (E 6, 2, .inr (.inr (.inr (.inr a)))) := by unfold sPhi; rw [if_neg (by omega), if_pos rfl]
theorem sPhi_s {m : Nat} (h : m ≠ 0) (h2 : m ≠ 691) : sPhi z E fs a c1 m = stShp z E m (stI c1 m) := by unfold sPhi; rw [if_neg h, if_neg h2]
theorem sPhi_u0 : va_up (sPhi z E fs a c1) 0 (.inr (5, fs')) = sPhi z E fs' a c1 := by
  funext m
  by_cases q : m = 0
  · rw [q, va_up_self, sPhi_0]
  · rw [va_up_ne _ _ q]; unfold sPhi; rw [if_neg q, if_neg q]
theorem sPhi_ua : va_up (sPhi z E fs a c1) 691 (.inl (E 6, 2, .inr (.inr (.inr (.inr a'))))) = sPhi z E fs a' c1 := by
  funext m
  by_cases q : m = 691
  · rw [q, va_up_self, sPhi_a]
  · rw [va_up_ne _ _ q]; unfold sPhi; rw [if_neg q, if_neg q]
theorem stI_1 {m : Nat} (h : 1 ≤ m) (h2 : m < 44) : stI cI m = hIni 1 m := by
  have e : HoldsAt (hIni 1) 1 cI := ini_holds (fun n _ _ => rfl)
  unfold stI; rw [if_neg (by omega), if_pos h2, show hs (hIni 1) 1 cI = hIni 1 from e]
theorem sPhi_h1 {m : Nat} (h : 1 ≤ m) (h2 : m < 44) : sPhi z E fs a cI m = hStat z E 1 m := by
  rw [sPhi_s (by omega) (by omega), stI_1 h h2]; unfold stShp hStat; rw [if_neg (by omega), if_pos h2]
theorem sPhi_h2 {m : Nat} (h : 44 ≤ m) (h2 : m < 87) : sPhi z E fs a c1 m = hStat z E 44 m := by
  rw [sPhi_s (by omega) (by omega)]; unfold stShp stI hStat; rw [if_neg (by omega), if_neg (by omega), if_pos h2, if_neg (by omega), if_neg (by omega), if_pos h2]
theorem sPhi_y {m : Nat} (h : 87 ≤ m) (h2 : m < 691) : sPhi z E fs a c1 m = yStat z E 87 m := by
  rw [sPhi_s (by omega) (by omega)]; unfold stShp stI yStat hStat
  have a0 : ¬ m = 0 := by omega
  have a1 : ¬ m < 44 := by omega
  have a2 : ¬ m < 87 := by omega
  rw [if_neg a0, if_neg a1, if_neg a2, if_neg a0, if_neg a1, if_neg a2]
  by_cases q : m = 87
  · rw [if_pos q, if_pos q, if_pos q]
  · rw [if_neg q, if_neg q, if_neg q]
    by_cases q2 : m = 87 + 1
    · rw [if_pos q2, if_pos q2, if_pos q2]
    · rw [if_neg q2, if_neg q2, if_neg q2, if_pos h2, if_pos h2]
theorem sPhi_h3 {m j : Nat} (hj : j < 2) (h : 692 + 43 * j ≤ m) (h2 : m < 692 + 43 * j + 43) : sPhi z E fs a c1 m = hStat z E (692 + 43 * j) m := by
  rw [sPhi_s (by omega) (by omega)]; unfold stShp stI hStat
  rw [if_neg (by omega), if_neg (by omega), if_neg (by omega), if_neg (by omega), if_neg (by omega), if_neg (by omega), if_neg (by omega), if_pos (by omega), if_neg (by omega), if_neg (by omega), if_neg (by omega), if_neg (by omega), if_neg (by omega), if_neg (by omega), if_neg (by omega), if_pos (by omega), show (m - 692) / 43 = j by omega]
theorem stI_hi {m : Nat} (h : 778 ≤ m) : stI c1 m = zeI := by unfold stI; rw [if_neg (by omega), if_neg (by omega), if_neg (by omega), if_neg (by omega), if_neg (by omega), if_neg (by omega), if_neg (by omega), if_neg (by omega)]
theorem sPhi_f : sPhi z E fs a c1 778 = ArS E 1 2 zeI := by
  rw [sPhi_s (by omega) (by omega), stI_hi (by omega)]; unfold stShp; rw [if_neg (by omega), if_neg (by omega), if_neg (by omega), if_neg (by omega), if_neg (by omega), if_neg (by omega), if_neg (by omega), if_neg (by omega), if_pos rfl]
theorem sPhi_d : sPhi z E fs a c1 779 = ObS (Gz z) 0 (ksDay 779) zeI := by
  rw [sPhi_s (by omega) (by omega), stI_hi (by omega)]; unfold stShp; rw [if_neg (by omega), if_neg (by omega), if_neg (by omega), if_neg (by omega), if_neg (by omega), if_neg (by omega), if_neg (by omega), if_neg (by omega), if_neg (by omega), if_pos rfl]
theorem sPhi_t : sPhi z E fs a c1 780 = ArS E 0 100 zeI := by
  rw [sPhi_s (by omega) (by omega), stI_hi (by omega)]; unfold stShp; rw [if_neg (by omega), if_neg (by omega), if_neg (by omega), if_neg (by omega), if_neg (by omega), if_neg (by omega), if_neg (by omega), if_neg (by omega), if_neg (by omega), if_neg (by omega)]
theorem sPhi_end : sPhi z E [.ref (Gz z 1), .ref (Gz z 44), .ref (Gz z 87), .ref (Gz z 691), .ref (Gz z 778), .ref (Gz z 779)] (ayp z 692 2) c1 = φ (stShp z E) (stI c1) := by
  funext m
  by_cases h0 : m = 0
  · rw [h0, sPhi_0]; unfold φ stShp; rw [if_pos rfl]; rfl
  · by_cases h1 : m = 691
    · rw [h1, sPhi_a]; unfold φ stShp; rw [if_neg (by omega), if_neg (by omega), if_neg (by omega), if_neg (by omega), if_neg (by omega), if_neg (by omega), if_pos rfl]; rfl
    · exact sPhi_s h0 h1
end SPH
theorem hs_base {σ τ : Nat → Nat → Int32} {b m : Nat} {c : Nat → Int32} (h : σ m = τ m) : hs σ b c m = hs τ b c m := by
  unfold hs
  repeat' split
  all_goals first | rfl | exact h
/-- the hall of a new object -/
def c1I : Nat → Int32 := upd (upd (upd (upd (upd (begC cI) (10 + 0) (nI 3)) (16 + 0) (nI 0)) (19 + 0) (nI 0)) (13 + 0) (nI 0)) 1 (nI (0 + 1))
set_option maxRecDepth 100000 in
theorem inX5_init_X5 : ∀ w ∈ wsX50, w ∈ wsX5_init := by decide +kernel
set_option maxRecDepth 100000 in
theorem inX5_init_X1 : ∀ w ∈ wsX10, w ∈ wsX5_init := by decide +kernel
set_option maxRecDepth 100000 in
theorem inX5_init_X2 : ∀ w ∈ wsX20, w ∈ wsX5_init := by decide +kernel
set_option maxRecDepth 100000 in
theorem inX5_init_X0 : ∀ w ∈ wsX00, w ∈ wsX5_init := by decide +kernel
set_option maxHeartbeats 4000000 in
set_option maxRecDepth 100000 in
/-- StoodMinutes() -/
theorem c_X5_init (lu : Launch) (Dg : va_G) (E : Nat → ClassId) (z : Nat) {Φ : Nat → va_E} (hΦ : Φ 0 = .inr (5, stood0)) : ConG lu yX5_init wsX5_init { frames := 4, cells := 780, slots := 7234, locals := 87 } Dg E z 1 781 7234 Φ [.ref (Gz z 0)] (fun Φ' => Φ' = φ (stShp z E) (stI c1I)) := by
  refine conG_of (cc := cX5_init) (maxL := 2) (ret := none) (by decide) rfl (Nat.le_of_ble_eq_true rfl) ?_
  intro p_ e_ s_ m_ args_ below_ meth_ c_ hs9 hn9 hX9 hA9
  refine v_eq (pc' := 0) (st' := []) rfl rfl ?_
  refine v_loc [0] [(0, .ref (Gz z 0))] rfl ?_
  refine v_aload_n 0 dX5_init_0 rfl rfl ?_
  refine v_objInit (by decide +kernel) (by decide +kernel) (by decide +kernel) dX5_init_1 (Nat.le_of_ble_eq_true rfl) (Nat.le_of_ble_eq_true rfl) ?_
  refine v_Φ (sPhi z E stood0 (ayp z 692 0) cI) (fun m hm => ?_) ?_
  · have e9 : m = 0 := by omega
    rw [e9, sPhi_0]; exact hΦ
  refine v_aload_n 0 dX5_init_4 rfl rfl ?_
  refine v_new (C := RX1) (T := TX1) (NF := 11) (ci := 1) hall0 (by omega) (fun q => AG_z) inX5_init_X1 tyX1 tyX1_ok (by decide +kernel) (by decide +kernel) (by decide +kernel) rfl (fun j9 hj9 => by rcases (show j9 = 0 ∨ j9 = 1 ∨ j9 = 2 ∨ j9 = 3 ∨ j9 = 4 ∨ j9 = 5 ∨ j9 = 6 ∨ j9 = 7 ∨ j9 = 8 ∨ j9 = 9 ∨ j9 = 10 by omega) with rfl | rfl | rfl | rfl | rfl | rfl | rfl | rfl | rfl | rfl | rfl <;> rfl) (show _ ≤ 780 by omega) (show _ ≤ 7234 by omega) dX5_init_5 ?_
  refine v_dup dX5_init_8 rfl ?_
  refine v_callGI (n := 1) (N1 := 1 + 43) hX9 hA9 (by omega) (by omega) (fun q => AG_z) (c_X1_init lu Dg E z (b := 1) (va_up_self _ _ _)) gX5_init_X1_init (by decide +kernel) (by decide +kernel) (by decide +kernel) rfl rfl (show 42 = _ by omega) rfl (by decide +kernel) ⟨(Nat.le_of_ble_eq_true rfl), (Nat.le_of_ble_eq_true rfl)⟩ ⟨show _ ≤ 780 by omega, show _ ≤ 7234 by omega⟩ (Nat.le_of_ble_eq_true rfl) rfl dX5_init_9 (fun Φ9 h9 => ?_)
  subst h9
  refine v_Φ (sPhi z E stood0 (ayp z 692 0) cI) (fun m hm => ?_) ?_
  · by_cases q : m < 1
    · rw [if_pos q, va_up_ne _ _ (by omega)]
    · rw [if_neg q]; exact (sPhi_h1 (by omega) (by omega)).symm
  refine v_nc (N' := 44) (cells' := 43) (slots' := 395) (by omega) (by omega) (by omega) ?_
  refine v_putF (n := 0) (k := 0) (C := RX5) (T := TX5) (NF := 6) (ty := (.object "StoodMinutes$Hall")) (by omega) sPhi_0 rfl inX5_init_X5 tyX5 tyX5_ok nmX5 (by decide) (by decide +kernel) rfl rfl hn9 rfl (by decide +kernel) rfl rfl (Nat.le_of_ble_eq_true rfl) dX5_init_12 ?_
  refine v_eqΦ (Φ' := sPhi z E [.ref (Gz z 1), .null, .null, .null, .null, .null] (ayp z 692 0) cI) (sPhi_u0) ?_
  have hsh : HallS E (Gz z) (fun m => if m = 0 then (fun _ => .inr (5, [.ref (Gz z 1), .null, .null, .null, .null, .null])) else stShp z E m) 44 1 := hShp_S (by omega) (fun m h1 h2 => by rw [if_neg (by omega)]; unfold stShp; rw [if_neg (by omega), if_pos (by omega)])
  have hho : hs (stI cI) 1 cI = stI cI := ini_holds (fun n h1 h2 => stI_1 h1 (by omega))
  refine v_Φ (φ (fun m => if m = 0 then (fun _ => .inr (5, [.ref (Gz z 1), .null, .null, .null, .null, .null])) else stShp z E m) (hs (stI cI) 1 cI)) (fun m hm => ?_) ?_
  · rw [hho]; dsimp only [φ]
    by_cases q : m = 0
    · rw [if_pos q, q]; exact sPhi_0
    · rw [if_neg q]; exact sPhi_s q (by omega)
  generalize hshp : (fun m => if m = 0 then (fun _ => .inr (5, [.ref (Gz z 1), .null, .null, .null, .null, .null])) else stShp z E m : Nat → (Nat → Int32) → va_E) = shp1 at hsh
  have hs0 : ∀ σ9, φ shp1 σ9 0 = .inr (5, [.ref (Gz z 1), .null, .null, .null, .null, .null]) := fun σ9 => by rw [← hshp]; rfl
  refine v_aload_n 0 dX5_init_15 rfl rfl ?_
  refine v_get (n := 0) (k := 0) (C := RX5) (T := TX5) (NF := 6) (by omega) (hs0 _) rfl inX5_init_X5 (by decide) (by decide +kernel) rfl rfl dX5_init_16 ?_
  refine u_callVXx hX9 [] [] 0 (c_X1_beginAnew lu Dg E 44 (Gz z) shp1 (stI cI) hsh cI) (ci := 1) (C := RX1) (T := TX1) (NF := 11) hsh.n hsh.s rfl gX5_init_X1_beginAnew rfl rfl rfl (by decide +kernel) rfl ⟨(Nat.le_of_ble_eq_true rfl), (Nat.le_of_ble_eq_true rfl)⟩ ⟨show _ ≤ 780 by omega, show _ ≤ 7234 by omega⟩ (Nat.le_of_ble_eq_true rfl) rfl dX5_init_19 (fun v9 τ9 hp9 => ?_)
  obtain ⟨rfl, rfl⟩ := hp9
  refine v_aload_n 0 dX5_init_22 rfl rfl ?_
  refine v_get (n := 0) (k := 0) (C := RX5) (T := TX5) (NF := 6) (by omega) (hs0 _) rfl inX5_init_X5 (by decide) (by decide +kernel) rfl rfl dX5_init_23 ?_
  refine v_iconst (nI 3) dX5_init_26 (by decide +kernel) ?_
  refine u_callVv [.int (nI 3)] [] 1 (c_X1_addLine lu Dg E 44 (Gz z) shp1 (stI cI) hsh (begC cI) (m := 0) rfl (by omega) (nI 3)) (ci := 1) (C := RX1) (T := TX1) (NF := 11) hsh.n hsh.s rfl gX5_init_X1_addLine rfl rfl rfl (by decide +kernel) rfl ⟨(Nat.le_of_ble_eq_true rfl), (Nat.le_of_ble_eq_true rfl)⟩ ⟨show _ ≤ 780 by omega, show _ ≤ 7234 by omega⟩ (Nat.le_of_ble_eq_true rfl) rfl dX5_init_27 ?_
  refine v_pop dX5_init_30 rfl ?_
  refine v_Φ (sPhi z E [.ref (Gz z 1), .null, .null, .null, .null, .null] (ayp z 692 0) c1I) (fun m hm => ?_) ?_
  · rw [← hshp]; dsimp only [φ]; rw [show upd (upd (upd (upd (upd (begC cI) (10 + 0) (nI 3)) (16 + 0) (nI 0)) (19 + 0) (nI 0)) (13 + 0) (nI 0)) 1 (nI (0 + 1)) = c1I from rfl]
    by_cases q : m = 0
    · rw [if_pos q, q]; exact sPhi_0.symm
    · rw [if_neg q, sPhi_s q (by omega)]
      have e9 : stI c1I m = hs (hIni 1) 1 c1I m := by unfold stI; rw [if_neg q, if_pos hm]
      rw [e9, hs_base (stI_1 (by omega) hm)]
  refine v_aload_n 0 dX5_init_31 rfl rfl ?_
  refine v_new (C := RX1) (T := TX1) (NF := 11) (ci := 1) hall0 (by omega) (fun q => AG_z) inX5_init_X1 tyX1 tyX1_ok (by decide +kernel) (by decide +kernel) (by decide +kernel) rfl (fun j9 hj9 => by rcases (show j9 = 0 ∨ j9 = 1 ∨ j9 = 2 ∨ j9 = 3 ∨ j9 = 4 ∨ j9 = 5 ∨ j9 = 6 ∨ j9 = 7 ∨ j9 = 8 ∨ j9 = 9 ∨ j9 = 10 by omega) with rfl | rfl | rfl | rfl | rfl | rfl | rfl | rfl | rfl | rfl | rfl <;> rfl) (show _ ≤ 780 by omega) (show _ ≤ 7234 by omega) dX5_init_32 ?_
  refine v_dup dX5_init_35 rfl ?_
  refine v_callGI (n := 44) (N1 := 44 + 43) hX9 hA9 (by omega) (by omega) (fun q => AG_z) (c_X1_init lu Dg E z (b := 44) (va_up_self _ _ _)) gX5_init_X1_init (by decide +kernel) (by decide +kernel) (by decide +kernel) rfl rfl (show 42 = _ by omega) rfl (by decide +kernel) ⟨(Nat.le_of_ble_eq_true rfl), (Nat.le_of_ble_eq_true rfl)⟩ ⟨show _ ≤ 780 by omega, show _ ≤ 7234 by omega⟩ (Nat.le_of_ble_eq_true rfl) rfl dX5_init_36 (fun Φ9 h9 => ?_)
  subst h9
  refine v_Φ (sPhi z E [.ref (Gz z 1), .null, .null, .null, .null, .null] (ayp z 692 0) c1I) (fun m hm => ?_) ?_
  · by_cases q : m < 44
    · rw [if_pos q, va_up_ne _ _ (by omega)]
    · rw [if_neg q]; exact (sPhi_h2 (by omega) (by omega)).symm
  refine v_nc (N' := 87) (cells' := 86) (slots' := 790) (by omega) (by omega) (by omega) ?_
  refine v_putF (n := 0) (k := 1) (C := RX5) (T := TX5) (NF := 6) (ty := (.object "StoodMinutes$Hall")) (by omega) sPhi_0 rfl inX5_init_X5 tyX5 tyX5_ok nmX5 (by decide) (by decide +kernel) rfl rfl hn9 rfl (by decide +kernel) rfl rfl (Nat.le_of_ble_eq_true rfl) dX5_init_39 ?_
  refine v_eqΦ (Φ' := sPhi z E [.ref (Gz z 1), .ref (Gz z 44), .null, .null, .null, .null] (ayp z 692 0) c1I) (sPhi_u0) ?_
  refine v_aload_n 0 dX5_init_42 rfl rfl ?_
  refine v_new (C := RX2) (T := TX2) (NF := 3) (ci := 2) hist0 (by omega) (fun q => AG_z) inX5_init_X2 tyX2 tyX2_ok (by decide +kernel) (by decide +kernel) (by decide +kernel) rfl (fun j9 hj9 => by rcases (show j9 = 0 ∨ j9 = 1 ∨ j9 = 2 by omega) with rfl | rfl | rfl <;> rfl) (show _ ≤ 780 by omega) (show _ ≤ 7234 by omega) dX5_init_43 ?_
  refine v_dup dX5_init_46 rfl ?_
  refine v_callGI (n := 87) (N1 := 87 + 604) hX9 hA9 (by omega) (by omega) (fun q => AG_z) (c_X2_init lu Dg E z (x := 87) (va_up_self _ _ _)) gX5_init_X2_init (by decide +kernel) (by decide +kernel) (by decide +kernel) rfl rfl (show 603 = _ by omega) rfl (by decide +kernel) ⟨(Nat.le_of_ble_eq_true rfl), (Nat.le_of_ble_eq_true rfl)⟩ ⟨show _ ≤ 780 by omega, show _ ≤ 7234 by omega⟩ (Nat.le_of_ble_eq_true rfl) rfl dX5_init_47 (fun Φ9 h9 => ?_)
  subst h9
  refine v_Φ (sPhi z E [.ref (Gz z 1), .ref (Gz z 44), .null, .null, .null, .null] (ayp z 692 0) c1I) (fun m hm => ?_) ?_
  · by_cases q : m < 87
    · rw [if_pos q, va_up_ne _ _ (by omega)]
    · rw [if_neg q]; exact (sPhi_y (by omega) (by omega)).symm
  refine v_nc (N' := 691) (cells' := 690) (slots' := 6337) (by omega) (by omega) (by omega) ?_
  refine v_putF (n := 0) (k := 2) (C := RX5) (T := TX5) (NF := 6) (ty := (.object "StoodMinutes$History")) (by omega) sPhi_0 rfl inX5_init_X5 tyX5 tyX5_ok nmX5 (by decide) (by decide +kernel) rfl rfl hn9 rfl (by decide +kernel) rfl rfl (Nat.le_of_ble_eq_true rfl) dX5_init_50 ?_
  refine v_eqΦ (Φ' := sPhi z E [.ref (Gz z 1), .ref (Gz z 44), .ref (Gz z 87), .null, .null, .null] (ayp z 692 0) c1I) (sPhi_u0) ?_
  refine v_aload_n 0 dX5_init_53 rfl rfl ?_
  refine v_iconst (nI 2) dX5_init_54 (by decide +kernel) ?_
  refine v_anew 6 2 (C := "StoodMinutes$Hall") (by omega) (fun q => AG_z) hA9 (by decide) (by decide +kernel) rfl rfl (by decide) (Nat.le_of_ble_eq_true rfl) (Nat.le_of_ble_eq_true rfl) dX5_init_55 ?_
  refine v_eqΦ (Φ' := sPhi z E [.ref (Gz z 1), .ref (Gz z 44), .ref (Gz z 87), .null, .null, .null] (ayp z 692 0) c1I) (va_up_fix (sPhi_a.trans (by rw [← ayp_0]))) ?_
  refine v_putF (n := 0) (k := 3) (C := RX5) (T := TX5) (NF := 6) (ty := (.array (.object "StoodMinutes$Hall"))) (by omega) sPhi_0 rfl inX5_init_X5 tyX5 tyX5_ok nmX5 (by decide) (by decide +kernel) rfl rfl hn9 rfl (by decide +kernel) rfl rfl (Nat.le_of_ble_eq_true rfl) dX5_init_58 ?_
  refine v_eqΦ (Φ' := sPhi z E [.ref (Gz z 1), .ref (Gz z 44), .ref (Gz z 87), .ref (Gz z 691), .null, .null] (ayp z 692 0) c1I) (sPhi_u0) ?_
  refine v_iconst (nI 0) dX5_init_61 (by decide +kernel) ?_
  refine v_istore_n [(1, .int (nI 0)), (0, .ref (Gz z 0))] dX5_init_62 rfl (by decide) rfl ?_
  refine dn_ind (M := 2) (P := fun j => V p_ lu e_ _ s_ m_ args_ below_ meth_ c_ _ Dg E _ _ _ _ _ _ (692 + 43 * j) (Gz z) (691 + 43 * j) (6339 + 395 * j) (sPhi z E [.ref (Gz z 1), .ref (Gz z 44), .ref (Gz z 87), .ref (Gz z 691), .null, .null] (ayp z 692 j) c1I) 63 [(1, .int (nI j)), (0, .ref (Gz z 0))] []) ?_ ?_
  · skip
    refine v_iload_n 0 dX5_init_63 rfl rfl ?_
    refine v_aload_n 1 dX5_init_64 rfl rfl ?_
    refine v_get (n := 0) (k := 3) (C := RX5) (T := TX5) (NF := 6) (by omega) sPhi_0 rfl inX5_init_X5 (by decide) (by decide +kernel) rfl rfl dX5_init_65 ?_
    refine v_alen 6 (nI 2) (n := 691) (by omega) sPhi_a rfl rfl dX5_init_68 ?_
    refine v_icmp_geN 91 (by omega) (by omega) dX5_init_69 rfl (fun hge => ?_) (fun hge => ?_)
    · skip
      refine v_aload_n 1 dX5_init_91 rfl rfl ?_
      refine v_iconst (nI 2) dX5_init_92 (by decide +kernel) ?_
      refine v_newarr 1 .boolean (ty := .boolean) 2 (2, .inl (fun _ => 0)) (by omega) (fun q => AG_z) (by decide +kernel) rfl rfl (fun _ => rfl) rfl (by decide) (by decide) (show _ ≤ 780 by omega) (show _ ≤ 7234 by omega) dX5_init_93 ?_
      refine v_eqΦ (Φ' := sPhi z E [.ref (Gz z 1), .ref (Gz z 44), .ref (Gz z 87), .ref (Gz z 691), .null, .null] (ayp z 692 2) c1I) (va_up_fix sPhi_f) ?_
      refine v_nc (N' := 779) (cells' := 778) (slots' := 7131) (by omega) (by omega) (by omega) ?_
      refine v_putF (n := 0) (k := 4) (C := RX5) (T := TX5) (NF := 6) (ty := (.array .boolean)) (by omega) sPhi_0 rfl inX5_init_X5 tyX5 tyX5_ok nmX5 (by decide) (by decide +kernel) rfl rfl hn9 rfl (by decide +kernel) rfl rfl (Nat.le_of_ble_eq_true rfl) dX5_init_95 ?_
      refine v_eqΦ (Φ' := sPhi z E [.ref (Gz z 1), .ref (Gz z 44), .ref (Gz z 87), .ref (Gz z 691), .ref (Gz z 778), .null] (ayp z 692 2) c1I) (sPhi_u0) ?_
      refine v_aload_n 1 dX5_init_98 rfl rfl ?_
      refine v_new (C := RX0) (T := TX0) (NF := 3) (ci := 0) day0 (by omega) (fun q => AG_z) inX5_init_X0 tyX0 tyX0_ok (by decide +kernel) (by decide +kernel) (by decide +kernel) rfl (fun j9 hj9 => by rcases (show j9 = 0 ∨ j9 = 1 ∨ j9 = 2 by omega) with rfl | rfl | rfl <;> rfl) (show _ ≤ 780 by omega) (show _ ≤ 7234 by omega) dX5_init_99 ?_
      refine v_dup dX5_init_102 rfl ?_
      refine v_callGN (host := "StoodMinutes") (n := 779) (N1 := 779 + 2) hX9 hA9 (by omega) (by omega) (fun q => AG_z) (c_X0_init lu Dg E z (n := 779) (va_up_self _ _ _)) gX5_init_X0_init_n43 (by decide +kernel) (by decide +kernel) (by decide +kernel) rfl rfl (show 1 = _ by omega) rfl (by decide +kernel) ⟨(Nat.le_of_ble_eq_true rfl), (Nat.le_of_ble_eq_true rfl)⟩ ⟨show _ ≤ 780 by omega, show _ ≤ 7234 by omega⟩ (Nat.le_of_ble_eq_true rfl) rfl dX5_init_103 (fun Φ9 h9 => ?_)
      subst h9
      refine v_eqΦ (Φ' := sPhi z E [.ref (Gz z 1), .ref (Gz z 44), .ref (Gz z 87), .ref (Gz z 691), .ref (Gz z 778), .null] (ayp z 692 2) c1I) (va_up3 (by omega) sPhi_t sPhi_d) ?_
      refine v_putF (n := 0) (k := 5) (C := RX5) (T := TX5) (NF := 6) (ty := (.object "StoodMinutes$Day")) (by omega) sPhi_0 rfl inX5_init_X5 tyX5 tyX5_ok nmX5 (by decide) (by decide +kernel) rfl rfl hn9 rfl (by decide +kernel) rfl rfl (Nat.le_of_ble_eq_true rfl) dX5_init_106 ?_
      refine v_eqΦ (Φ' := sPhi z E [.ref (Gz z 1), .ref (Gz z 44), .ref (Gz z 87), .ref (Gz z 691), .ref (Gz z 778), .ref (Gz z 779)] (ayp z 692 2) c1I) (sPhi_u0) ?_
      refine v_gret rfl hs9 rfl (by omega) (by omega) dX5_init_109 ?_
      exact sPhi_end
    · omega
  · intro j hj ih
    refine v_iload_n 0 dX5_init_63 rfl rfl ?_
    refine v_aload_n 1 dX5_init_64 rfl rfl ?_
    refine v_get (n := 0) (k := 3) (C := RX5) (T := TX5) (NF := 6) (by omega) sPhi_0 rfl inX5_init_X5 (by decide) (by decide +kernel) rfl rfl dX5_init_65 ?_
    refine v_alen 6 (nI 2) (n := 691) (by omega) sPhi_a rfl rfl dX5_init_68 ?_
    refine v_icmp_geN 91 (by omega) (by omega) dX5_init_69 rfl (fun hge => ?_) (fun hge => ?_)
    · omega
    · skip
      refine v_aload_n 1 dX5_init_72 rfl rfl ?_
      refine v_get (n := 0) (k := 3) (C := RX5) (T := TX5) (NF := 6) (by omega) sPhi_0 rfl inX5_init_X5 (by decide) (by decide +kernel) rfl rfl dX5_init_73 ?_
      refine v_iload_n 0 dX5_init_76 rfl rfl ?_
      refine v_new (C := RX1) (T := TX1) (NF := 11) (ci := 1) hall0 (by omega) (fun q => AG_z) inX5_init_X1 tyX1 tyX1_ok (by decide +kernel) (by decide +kernel) (by decide +kernel) rfl (fun j9 hj9 => by rcases (show j9 = 0 ∨ j9 = 1 ∨ j9 = 2 ∨ j9 = 3 ∨ j9 = 4 ∨ j9 = 5 ∨ j9 = 6 ∨ j9 = 7 ∨ j9 = 8 ∨ j9 = 9 ∨ j9 = 10 by omega) with rfl | rfl | rfl | rfl | rfl | rfl | rfl | rfl | rfl | rfl | rfl <;> rfl) (show _ ≤ 780 by omega) (show _ ≤ 7234 by omega) dX5_init_77 ?_
      refine v_dup dX5_init_80 rfl ?_
      refine v_callGI (n := 692 + 43 * j) (N1 := 692 + 43 * j + 43) hX9 hA9 (by omega) (by omega) (fun q => AG_z) (c_X1_init lu Dg E z (b := 692 + 43 * j) (va_up_self _ _ _)) gX5_init_X1_init (by decide +kernel) (by decide +kernel) (by decide +kernel) rfl rfl (show 42 = _ by omega) rfl (by decide +kernel) ⟨(Nat.le_of_ble_eq_true rfl), (Nat.le_of_ble_eq_true rfl)⟩ ⟨show _ ≤ 780 by omega, show _ ≤ 7234 by omega⟩ (Nat.le_of_ble_eq_true rfl) rfl dX5_init_81 (fun Φ9 h9 => ?_)
      subst h9
      refine v_Φ (sPhi z E [.ref (Gz z 1), .ref (Gz z 44), .ref (Gz z 87), .ref (Gz z 691), .null, .null] (ayp z 692 j) c1I) (fun m hm => ?_) ?_
      · by_cases q : m < 692 + 43 * j
        · rw [if_pos q, va_up_ne _ _ (by omega)]
        · rw [if_neg q]; exact (sPhi_h3 hj (by omega) (by omega)).symm
      refine v_aast 6 (n := 691) (k := 692 + 43 * j) (ci := 1) (C := RX1) (T := TX1) (NF := 11) j (by omega) (by omega) sPhi_a rfl ((sPhi_h3 hj (by omega) (by omega)).trans hStat_0) rfl rfl (by omega) (by decide) dX5_init_84 ?_
      refine v_eqΦ (Φ' := sPhi z E [.ref (Gz z 1), .ref (Gz z 44), .ref (Gz z 87), .ref (Gz z 691), .null, .null] (ayp z 692 (j + 1)) c1I) (by rw [sPhi_ua, ayp_s]) ?_
      refine v_nc (N' := 692 + 43 * (j + 1)) (cells' := 691 + 43 * (j + 1)) (slots' := 6339 + 395 * (j + 1)) (by omega) (by omega) (by omega) ?_
      refine v_iincN 0 [(1, .int (nI (j + 1))), (0, .ref (Gz z 0))] dX5_init_85 rfl (by decide) rfl ?_
      refine v_goto 63 dX5_init_88 rfl ?_
      exact ih
