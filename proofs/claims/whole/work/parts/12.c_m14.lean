theorem Inv.mono {T U : Nat} {s : Nat → Int32} (h : Inv T s) (hTU : T ≤ U) (hU : U ≤ 1000000) : Inv U s := by
  obtain ⟨a, b, c, d, e⟩ := h
  exact ⟨hU, b, c, d.mono hTU, e⟩
theorem Inv.turnI {T r n : Nat} {s : Nat → Int32} (h : Inv T s) (hr : r < 2 ^ 31) (hn : n ≤ 30) (hn1 : 1 ≤ n) (hl : 1 ≤ tn (s 1)) : Inv T (turnS s r n) := by
  have hnl3 := h.nl3
  have a1 : r / 16 % tn (s 1) < tn (s 1) := Nat.mod_lt _ (by omega)
  have a2 : r / 64 % n < n := Nat.mod_lt _ (by omega)
  have a3 : r / 2048 % n < n := Nat.mod_lt _ (by omega)
  have a4 : r / 64 % tn (s 1) < tn (s 1) := Nat.mod_lt _ (by omega)
  unfold turnS
  by_cases c1 : r % 16 ≤ 4
  · rw [ic_t c1]
    by_cases q : comeFl s (nI (r / 16 % tn (s 1))) (nI (r / 64 % 3)) = 0
    · rw [ic_t q]
      have hk := come_ok h (by omega) q
      exact h.comes hk.1 hk.2.1 hk.2.2
    · rw [ic_f q]; exact h
  · rw [ic_f c1]
    by_cases c2 : r % 16 ≤ 7
    · rw [ic_t c2]
      by_cases q : exchFl s (nI (r / 64 % n)) (nI (r / 2048 % n)) = 0
      · rw [ic_t q]
        have hk := exch_ok h (by omega) (by omega) q
        exact h.exch hk.1 hk.2.1 hk.2.2
      · rw [ic_f q]; exact h
    · rw [ic_f c2]
      by_cases c3 : r % 16 ≤ 9
      · rw [ic_t c3]
        by_cases q : jumpFl s (nI (r / 64 % n)) = 0
        · rw [ic_t q]
          have hk := jump_ok h (by omega) q
          exact h.jumps hk.1 hk.2.1
        · rw [ic_f q]; exact h
      · rw [ic_f c3]
        by_cases c4 : r % 16 = 10
        · rw [ic_t c4]
          by_cases q : goFl s (nI (r / 64 % n)) = 0
          · rw [ic_t q]
            have hk := go_ok h (by omega) q
            exact h.goes hk.1 hk.2
          · rw [ic_f q]; exact h
        · rw [ic_f c4]
          by_cases q : r % 16 = 11 ∧ mergeFl s (nI (r / 16 % tn (s 1))) (nI (r / 64 % tn (s 1))) = 0
          · rw [ic_t q]
            have hk := merge_ok h (by omega) (by omega) q.2
            exact h.merges hk.1 hk.2.1 hk.2.2.1 hk.2.2.2
          · rw [ic_f q]; exact h
theorem Inv.succI {T g : Nat} {s : Nat → Int32} (h : Inv T s) (hg : g < 100000) (hT : T + 60 ≤ 1000000) : Inv (T + 60) (succS s g) := by
  have h0 := h.mono (U := T + 60) (by omega) hT
  unfold succS
  by_cases q : succP s g
  · rw [ic_t q]
    have h10 : g / 10000 < 10 := by omega
    obtain ⟨m, hm⟩ : ∃ m, g / 10000 = m := ⟨_, rfl⟩
    unfold succP at q
    unfold succX
    rw [hm] at q ⊢
    have hcs : m = 0 ∨ m = 1 ∨ m = 2 ∨ m = 3 ∨ m = 4 ∨ m = 5 ∨ m = 6 ∨ m = 7 ∨ m = 8 ∨ m = 9 := by omega
    rcases hcs with rfl | rfl | rfl | rfl | rfl | rfl | rfl | rfl | rfl | rfl
    · exact h0
    · have hk := come_ok h (by omega) q.2
      exact h0.comes hk.1 hk.2.1 hk.2.2
    · have hk := go_ok h (by omega) q.2
      exact h0.goes hk.1 hk.2
    · have hk := exch_ok h (by omega) (by omega) q
      exact h0.exch hk.1 hk.2.1 hk.2.2
    · have hk := jump_ok h (by omega) q.2
      exact h0.jumps hk.1 hk.2.1
    · have hk := merge_ok h (by omega) (by omega) q.2
      exact h0.merges hk.1 hk.2.1 hk.2.2.1 hk.2.2.2
    · have q6 : g % 100 ≤ 60 := q.2.2
      exact (h.goBy (n := g % 100) (by omega)).mono (by omega) hT
    · exact h0
    · exact h0
    · exact h0
  · rw [ic_f q]; exact h0
/-- lines stay lines -/
theorem exchS_1 {T : Nat} {s : Nat → Int32} (h : Inv T s) {p q : Nat} (hp : p < tn (s 2)) (hs : s (58 + 10 * p + 5) = 0) : exchS s p q 1 = s 1 := by
  have h3 := h.nl3
  obtain ⟨a1, -, a3, -⟩ := h.plcs hp hs
  have a12 := h.len12 a1
  unfold exchS
  rw [exchF_row 1 (by omega) (by omega), if_neg (by omega), if_neg (by omega)]
theorem jumpsS_1 {T : Nat} {s : Nat → Int32} (h : Inv T s) {p : Nat} (hp : p < tn (s 2)) (hs : s (58 + 10 * p + 5) = 0) : jumpsS s p 1 = s 1 := by
  obtain ⟨h1, h2, h3, h4, -⟩ := h.plcs hp hs
  have hst : jsteps s p ≤ plc s p := Nat.min_le_left _ _
  have hj := (h.jmpK h1 h3 h4 hst).2 1 (by unfold FreeC; omega) (by omega)
  have e : 22 + 12 * liN s p + plc s p - jsteps s p = 22 + 12 * liN s p + (plc s p - jsteps s p) := by omega
  unfold jumpsS jumpsF
  rw [e]
  show upd (upd (upd (jmp s (22 + 12 * liN s p) (plc s p) p (jsteps s p)) (58 + 10 * p + 7) _) (58 + 10 * p + 8) _) 4 _ 1 = _
  rw [upd_ap, if_neg (by omega), upd_ap, if_neg (by omega), upd_ap, if_neg (by omega)]
  exact hj
theorem goBy_1 {T : Nat} {s : Nat → Int32} (h : Inv T s) : ∀ {n : Nat}, T + n ≤ 1000000 → goByS s n 1 = s 1
  | 0, _ => rfl
  | n + 1, hn => by
    show minuteS (goByS s n) 1 = _
    rw [(h.goBy (n := n) (by omega)).min_h (by omega) (by omega) (by omega) (by omega), goBy_1 h (by omega)]
theorem Inv.turn1 {T r n : Nat} {s : Nat → Int32} (h : Inv T s) (hr : r < 2 ^ 31) (hn : n ≤ 30) (hn1 : 1 ≤ n) (hl : 1 ≤ tn (s 1)) : turnS s r n 1 = s 1 := by
  have hnl3 := h.nl3
  have a1 : r / 16 % tn (s 1) < tn (s 1) := Nat.mod_lt _ (by omega)
  have a2 : r / 64 % n < n := Nat.mod_lt _ (by omega)
  have a3 : r / 2048 % n < n := Nat.mod_lt _ (by omega)
  have a4 : r / 64 % tn (s 1) < tn (s 1) := Nat.mod_lt _ (by omega)
  unfold turnS
  by_cases c1 : r % 16 ≤ 4
  · rw [ic_t c1]
    by_cases q : comeFl s (nI (r / 16 % tn (s 1))) (nI (r / 64 % 3)) = 0
    · rw [ic_t q]
      unfold comesS; rw [comesF_lo (by omega), if_neg (by omega), if_neg (by omega), if_neg (by omega)]
    · rw [ic_f q]
  · rw [ic_f c1]
    by_cases c2 : r % 16 ≤ 7
    · rw [ic_t c2]
      by_cases q : exchFl s (nI (r / 64 % n)) (nI (r / 2048 % n)) = 0
      · rw [ic_t q]
        have hk := exch_ok h (by omega) (by omega) q
        exact exchS_1 h hk.1 hk.2.2.1
      · rw [ic_f q]
    · rw [ic_f c2]
      by_cases c3 : r % 16 ≤ 9
      · rw [ic_t c3]
        by_cases q : jumpFl s (nI (r / 64 % n)) = 0
        · rw [ic_t q]
          have hk := jump_ok h (by omega) q
          exact jumpsS_1 h hk.1 hk.2.1
        · rw [ic_f q]
      · rw [ic_f c3]
        by_cases c4 : r % 16 = 10
        · rw [ic_t c4]
          by_cases q : goFl s (nI (r / 64 % n)) = 0
          · rw [ic_t q]
            unfold goesS; rw [lvF_h (by omega)]
          · rw [ic_f q]
        · rw [ic_f c4]
          by_cases q : r % 16 = 11 ∧ mergeFl s (nI (r / 16 % tn (s 1))) (nI (r / 64 % tn (s 1))) = 0
          · rw [ic_t q]
            have hk := merge_ok h (by omega) (by omega) q.2
            rw [h.merges_h hk.1 hk.2.1 hk.2.2.1 hk.2.2.2 (by omega), if_neg (by omega), if_neg (by omega), if_neg (by omega)]
          · rw [ic_f q]
/-- the numbers of a simulation -/
def seedX (x : Int64) : Nat → Int64 | 0 => x | k + 1 => seedX x k * 6364136223846793005 + 1442695040888963407
def seedR (x : Int64) (k : Nat) : Nat := (seedX x (k + 1)).toBitVec.toNat / 2 ^ 33
theorem seedR_lt (x : Int64) (k : Nat) : seedR x k < 2 ^ 31 := by
  have := (seedX x (k + 1)).toBitVec.isLt
  unfold seedR; omega
theorem seedR_eq (x : Int64) (k : Nat) : (((seedX x (k + 1)).toUInt64 >>> ((nI 33).toInt64.toUInt64 &&& Int64.toUInt64 63)).toInt64).toInt32 = nI (seedR x k) := by
  obtain ⟨m, hm, e⟩ := wb_of (seedX x (k + 1))
  unfold seedR
  rw [e, wb_tn hm, wb_shr hm (by omega), lN_i]
noncomputable def simS (s : Nat → Int32) (x : Int64) : Nat → Nat → Int32 | 0 => s | k + 1 => minuteS (turnS (simS s x k) (seedR x k) (max 1 (tn (simS s x k 2))))
noncomputable def simN (s : Nat → Int32) (x : Int64) : Nat → Nat | 0 => 0 | k + 1 => simN s x k + minuteN (turnS (simS s x k) (seedR x k) (max 1 (tn (simS s x k 2))))
theorem Inv.sim {T : Nat} {s : Nat → Int32} (h : Inv T s) (hl : 1 ≤ tn (s 1)) (x : Int64) : ∀ {k : Nat}, T + k ≤ 1000000 → Inv (T + k) (simS s x k) ∧ simS s x k 1 = s 1
  | 0, _ => ⟨h, rfl⟩
  | k + 1, hk => by
    obtain ⟨i1, i2⟩ := Inv.sim h hl x (k := k) (by omega)
    have h30 := i1.np30
    have t1 := i1.turnI (r := seedR x k) (n := max 1 (tn (simS s x k 2))) (seedR_lt x k) (by omega) (by omega) (by rw [i2]; exact hl)
    have t2 := i1.turn1 (r := seedR x k) (n := max 1 (tn (simS s x k 2))) (seedR_lt x k) (by omega) (by omega) (by rw [i2]; exact hl)
    refine ⟨t1.minute (by omega), ?_⟩
    show minuteS _ 1 = _
    rw [t1.min_h (by omega) (by omega) (by omega) (by omega), t2, i2]
/-- a script: the state, and which command fails first -/
noncomputable def scrStep (g k : Nat) (r : (Nat → Int32) × Int32) : (Nat → Int32) × Int32 := ic (r.2 = -1) (succS r.1 g, ic (succP r.1 g) (-1) (nI k)) r
def grp (n g k : Nat) : Nat := g / 100000 ^ (n - 1 - k) % 100000
noncomputable def scrB (s : Nat → Int32) (n g : Nat) : Nat → (Nat → Int32) × Int32 | 0 => (s, -1) | k + 1 => scrStep (grp n g k) k (scrB s n g k)
theorem grp_lt (n g k : Nat) : grp n g k < 100000 := Nat.mod_lt _ (by omega)
theorem scrB_stay {s : Nat → Int32} {n g : Nat} : ∀ {k j : Nat}, k ≤ j → ¬ (scrB s n g k).2 = -1 → scrB s n g j = scrB s n g k
  | k, 0, h, hn => by obtain rfl : k = 0 := by omega
                      rfl
  | k, j + 1, h, hn => by
    by_cases e : k = j + 1
    · rw [e]
    · have ih := scrB_stay (k := k) (j := j) (by omega) hn
      show scrStep _ _ (scrB s n g j) = _
      rw [ih, scrStep, ic_f hn]
theorem Inv.scr {T : Nat} {s : Nat → Int32} {n g : Nat} (h : Inv T s) : ∀ {k : Nat}, T + 60 * k ≤ 1000000 → Inv (T + 60 * k) (scrB s n g k).1
  | 0, _ => h
  | k + 1, hk => by
    have i1 := Inv.scr h (n := n) (g := g) (k := k) (by omega)
    show Inv _ (scrStep _ _ (scrB s n g k)).1
    unfold scrStep
    by_cases q : (scrB s n g k).2 = -1
    · rw [ic_t q]; exact (i1.succI (grp_lt n g k) (by omega)).mono (by omega) (by omega)
    · rw [ic_f q]; exact i1.mono (by omega) (by omega)
set_option maxHeartbeats 4000000 in
set_option maxRecDepth 100000 in
/-- simulate_1 -/
theorem c_X6_simulate_1 (lu : Launch) (Dg : va_G) (E : Nat → ClassId) (N : Nat) (G : Nat → Nat) (shp : Nat → (Nat → Int32) → va_E) (σ : Nat → Nat → Int32) {b : Nat} (hM : ModS E G shp N b) (f0 f1 f2 f3 f4 f5 f6 : Nat → Int32)  (z : Int64) (x : Int32) (hx : ¬ (nI 1 ≤ x ∧ x ≤ nI 99))  : CS lu yX6_simulate wsX6_simulate { frames := 7, cells := 0, slots := 0, locals := 160 } Dg E N G shp (mk7 σ b f0 f1 f2 f3 f4 f5 f6) [.ref (G b), .long z, .int x] (some (.int (nI 0))) (mk7 σ b (upd f0 0 (nI 1)) f1 f2 f3 f4 f5 f6) := by
  refine CS.of (cc := cX6_simulate) (maxL := 10) (ret := (some .int)) (by decide) rfl (Nat.le_of_ble_eq_true rfl) ?_
  intro p_ e_ s_ m_ args_ below_ meth_ c_
  refine v_eq (pc' := 0) (st' := []) rfl rfl ?_
  refine v_loc [0, 1, 2] [(0, .ref (G b)), (1, .long z), (3, .int x)] rfl ?_
  refine v_aload_n 0 dX6_simulate_0 rfl rfl ?_
  refine v_iload_n 2 dX6_simulate_1 rfl rfl ?_
  refine v_iconst (nI 1) dX6_simulate_2 (by decide +kernel) ?_
  refine v_bipush (nI 99) dX6_simulate_3 (by decide +kernel) ?_
  refine u_callSv [.int x, .int (nI 1), .int (nI 99)] [.ref (G b)] 3 (c_X6_in lu Dg E N G shp (mk7 σ b f0 f1 f2 f3 f4 f5 f6) (x) (nI 1) (nI 99)) gX6_simulate_X6_in rfl rfl rfl (by decide +kernel) rfl ⟨Nat.le_of_ble_eq_true rfl, Nat.le_of_ble_eq_true rfl⟩ ⟨Nat.le_of_ble_eq_true rfl, Nat.le_of_ble_eq_true rfl⟩ (Nat.le_of_ble_eq_true rfl) rfl dX6_simulate_5 ?_
  refine v_if_eqB 15 dX6_simulate_8 rfl (fun h8 => ?_) (fun h8 => ?_)
  · skip
    refine v_iconst (nI 1) dX6_simulate_15 (by decide +kernel) ?_
    refine u_callVv [.int (nI 1)] [] 1 (c_X6_holds lu Dg E N G shp σ hM f0 f1 f2 f3 f4 f5 f6 1 (by omega)) (ci := 6) (C := RX6) (T := TX6) (NF := 13) hM.n hM.s rfl gX6_simulate_X6_holds rfl rfl rfl (by decide +kernel) rfl ⟨Nat.le_of_ble_eq_true rfl, Nat.le_of_ble_eq_true rfl⟩ ⟨Nat.le_of_ble_eq_true rfl, Nat.le_of_ble_eq_true rfl⟩ (Nat.le_of_ble_eq_true rfl) rfl dX6_simulate_16 ?_
    refine v_if_neB 24 dX6_simulate_19 rfl (fun h19 => ?_) (fun h19 => ?_)
    · skip
      exact absurd h19 (by decide)
    · skip
      refine v_iconst (nI 0) dX6_simulate_22 (by decide +kernel) ?_
      refine v_iret rfl dX6_simulate_23 ⟨congrArg (fun z => some (Value.int z)) ?_, congrArg (φ shp) ?_⟩
      · rfl
      · rfl
  · skip
    exact absurd h8 hx

noncomputable def simI (s : Nat → Int32) (x : Int64) (k : Nat) : Int32 := nI (1000 * simN s x k) + (if nI 999 < simS s x k 5 - s 5 then nI 999 else simS s x k 5 - s 5)
set_option maxRecDepth 100000 in
theorem inX6_simulate_X6 : ∀ w ∈ wsX60, w ∈ wsX6_simulate := by decide +kernel
set_option maxHeartbeats 4000000 in
set_option maxRecDepth 100000 in
/-- simulate_0 -/
theorem c_X6_simulate_0 (lu : Launch) (Dg : va_G) (E : Nat → ClassId) (N : Nat) (G : Nat → Nat) (shp : Nat → (Nat → Int32) → va_E) (σ : Nat → Nat → Int32) {b : Nat} (hM : ModS E G shp N b) (f0 f1 f2 f3 f4 f5 f6 : Nat → Int32) {T : Nat} (hI : Inv T f1) (hT : T ≤ 999000) (hpd : f0 3 = nI 0) (hl1 : 1 ≤ tn (f1 1)) (z : Int64) {k : Nat} (h1 : 1 ≤ k) (h60 : k ≤ 99)  : CX lu yX6_simulate wsX6_simulate { frames := 7, cells := 0, slots := 0, locals := 160 } Dg E N G shp (mk7 σ b f0 f1 f2 f3 f4 f5 f6) [.ref (G b), .long z, .int (nI k)] (fun v' τ => v' = some (.int (simI f1 z k)) ∧ ∃ g2, (∀ i, i < 358 * 0 → g2 i = f2 i) ∧ τ = mk7 σ b (upd f0 0 (nI 0)) f1 g2 f3 f4 f5 f6) := by
  refine CX.of (cc := cX6_simulate) (maxL := 10) (ret := (some .int)) (by decide) rfl (Nat.le_of_ble_eq_true rfl) ?_
  intro p_ e_ s_ m_ args_ below_ meth_ c_
  refine v_eq (pc' := 0) (st' := []) rfl rfl ?_
  refine v_loc [0, 1, 2] [(0, .ref (G b)), (1, .long z), (3, .int (nI k))] rfl ?_
  have hu : upd (upd (upd f0 0 (nI 0)) 3 (nI (0 + 1))) 3 (nI 0) = upd f0 0 (nI 0) := upd_self (by rw [upd_ap, if_neg (by omega)]; exact hpd)
  have hnl3 := hI.nl3
  refine v_aload_n 0 dX6_simulate_0 rfl rfl ?_
  refine v_iload_n 2 dX6_simulate_1 rfl rfl ?_
  refine v_iconst (nI 1) dX6_simulate_2 (by decide +kernel) ?_
  refine v_bipush (nI 99) dX6_simulate_3 (by decide +kernel) ?_
  refine u_callSv [.int (nI k), .int (nI 1), .int (nI 99)] [.ref (G b)] 3 (c_X6_in lu Dg E N G shp (mk7 σ b f0 f1 f2 f3 f4 f5 f6) (nI k) (nI 1) (nI 99)) gX6_simulate_X6_in rfl rfl rfl (by decide +kernel) rfl ⟨Nat.le_of_ble_eq_true rfl, Nat.le_of_ble_eq_true rfl⟩ ⟨Nat.le_of_ble_eq_true rfl, Nat.le_of_ble_eq_true rfl⟩ (Nat.le_of_ble_eq_true rfl) rfl dX6_simulate_5 ?_
  refine v_if_eqB 15 dX6_simulate_8 rfl (fun h8 => ?_) (fun h8 => ?_)
  · skip
    exact absurd ⟨(nI_leI (by omega) (by omega)).mpr (by omega), (nI_leI (by omega) (by omega)).mpr (by omega)⟩ h8
  · skip
    refine v_iconst (nI 0) dX6_simulate_11 (by decide +kernel) ?_
    refine v_goto 16 dX6_simulate_12 rfl ?_
    refine u_callVv [.int (nI 0)] [] 1 (c_X6_holds lu Dg E N G shp σ hM f0 f1 f2 f3 f4 f5 f6 0 (by omega)) (ci := 6) (C := RX6) (T := TX6) (NF := 13) hM.n hM.s rfl gX6_simulate_X6_holds rfl rfl rfl (by decide +kernel) rfl ⟨Nat.le_of_ble_eq_true rfl, Nat.le_of_ble_eq_true rfl⟩ ⟨Nat.le_of_ble_eq_true rfl, Nat.le_of_ble_eq_true rfl⟩ (Nat.le_of_ble_eq_true rfl) rfl dX6_simulate_16 ?_
    refine v_if_neB 24 dX6_simulate_19 rfl (fun h19 => ?_) (fun h19 => ?_)
    · skip
      refine v_aload_n 0 dX6_simulate_24 rfl rfl ?_
      refine u_callVn [] [] 0 (c_X6_push lu Dg E N G shp σ hM (upd f0 0 (nI 0)) f1 f2 f3 f4 f5 f6 (pd := 0) (by rw [upd_ap, if_neg (by omega)]; exact hpd) (by omega)) (ci := 6) (C := RX6) (T := TX6) (NF := 13) hM.n hM.s rfl gX6_simulate_X6_push rfl rfl rfl (by decide +kernel) rfl ⟨Nat.le_of_ble_eq_true rfl, Nat.le_of_ble_eq_true rfl⟩ ⟨Nat.le_of_ble_eq_true rfl, Nat.le_of_ble_eq_true rfl⟩ (Nat.le_of_ble_eq_true rfl) rfl dX6_simulate_25 ?_
      refine v_σ (mk7 σ b (upd (upd f0 0 (nI 0)) 3 (nI (0 + 1))) (simS f1 z 0) (cpF f1 f2 0 (358 * (0)) 358) f3 f4 f5 f6) (congrArg (fun z9 => mk7 σ b (upd (upd f0 0 (nI 0)) 3 (nI (0 + 1))) z9 (cpF f1 f2 0 (358 * (0)) 358) f3 f4 f5 f6) (rfl)) ?_
      refine v_lload_n 1 dX6_simulate_28 rfl rfl ?_
      refine v_lstore [(4, .long z), (0, .ref (G b)), (1, .long z), (3, .int (nI k))] dX6_simulate_29 (by decide) rfl ?_
      refine v_iconst (nI 0) dX6_simulate_31 (by decide +kernel) ?_
      refine v_istore [(6, .int (nI 0)), (4, .long z), (0, .ref (G b)), (1, .long z), (3, .int (nI k))] dX6_simulate_32 (by decide) rfl ?_
      refine v_aload_n 2 dX6_simulate_34 rfl rfl ?_
      refine u_getr (k := 1) (C := RX6) (T := TX6) (NF := 13) hM.n hM.s rfl rfl inX6_simulate_X6 (by decide) (by decide +kernel) rfl dX6_simulate_35 ?_
      refine v_iconst (nI 5) dX6_simulate_38 (by decide +kernel) ?_
      refine m_ld1 5 hM (rfl) (by omega) dX6_simulate_39 ?_
      refine v_istore [(7, .int ((simS f1 z 0) 5)), (6, .int (nI 0)), (4, .long z), (0, .ref (G b)), (1, .long z), (3, .int (nI k))] dX6_simulate_40 (by decide) rfl ?_
      refine v_iconst (nI 0) dX6_simulate_42 (by decide +kernel) ?_
      refine v_istore [(8, .int (nI 0)), (7, .int (f1 5)), (6, .int (nI 0)), (4, .long z), (0, .ref (G b)), (1, .long z), (3, .int (nI k))] dX6_simulate_43 (by decide) rfl ?_
      refine v_loc [0, 1, 2, 3, 6, 4] [(8, .int (nI 0)), (7, .int (f1 5)), (6, .int (nI 0)), (4, .long z), (3, .int (nI k)), (0, .ref (G b))] rfl ?_
      refine u_loop1 (fun n (j : Nat) => j + n = k) (fun (j : Nat) => mk7 σ b (upd (upd f0 0 (nI 0)) 3 (nI (0 + 1))) (simS f1 z j) (cpF f1 f2 0 (358 * (0)) 358) f3 f4 f5 f6) (fun (j : Nat) => [(8, .int (nI j)), (7, .int (f1 5)), (6, .int (nI (simN f1 z j))), (4, .long (seedX z j)), (3, .int (nI k)), (0, .ref (G b))]) (k) 0 ((by omega)) ?_
      intro n j hL ih
      refine v_iload 0 dX6_simulate_45 rfl ?_
      refine v_iload_n 4 dX6_simulate_47 rfl rfl ?_
      refine v_icmp_geN 111 (by omega) (by omega) dX6_simulate_48 rfl (fun h48 => ?_) (fun h48 => ?_)
      · skip
        have hjk9 : j = k := by omega
        refine v_σ (mk7 σ b (upd (upd f0 0 (nI 0)) 3 (nI (0 + 1))) (simS f1 z k) (cpF f1 f2 0 (358 * (0)) 358) f3 f4 f5 f6) (congrArg (fun z9 => mk7 σ b (upd (upd f0 0 (nI 0)) 3 (nI (0 + 1))) z9 (cpF f1 f2 0 (358 * (0)) 358) f3 f4 f5 f6) ((by rw [hjk9]))) ?_
        refine v_aload_n 5 dX6_simulate_111 rfl rfl ?_
        refine u_getr (k := 1) (C := RX6) (T := TX6) (NF := 13) hM.n hM.s rfl rfl inX6_simulate_X6 (by decide) (by decide +kernel) rfl dX6_simulate_112 ?_
        refine v_iconst (nI 5) dX6_simulate_115 (by decide +kernel) ?_
        refine m_ld1 5 hM (rfl) (by omega) dX6_simulate_116 ?_
        refine v_iload 1 dX6_simulate_117 rfl ?_
        refine v_isub dX6_simulate_119 ?_
        refine v_istore [(8, .int (((simS f1 z k) 5) - (f1 5))), (7, .int (f1 5)), (6, .int (nI (simN f1 z j))), (4, .long (seedX z j)), (3, .int (nI k)), (0, .ref (G b))] dX6_simulate_120 (by decide) rfl ?_
        refine v_aload_n 5 dX6_simulate_122 rfl rfl ?_
        refine u_callVn [] [] 0 ((c_X6_pop lu Dg E N G shp σ hM (upd (upd f0 0 (nI 0)) 3 (nI (0 + 1))) (simS f1 z k) (cpF f1 f2 0 (358 * (0)) 358) f3 f4 f5 f6 (pd := 0) (by rw [upd_ap, if_pos rfl]) (by omega) f1 (fun i hi => by rw [cpF_in _ _ (by omega) (by omega)]; congr 1; omega)).to rfl (congrArg (fun z9 => mk7 σ b z9 f1 (cpF f1 f2 0 (358 * (0)) 358) f3 f4 f5 f6) hu)) (ci := 6) (C := RX6) (T := TX6) (NF := 13) hM.n hM.s rfl gX6_simulate_X6_pop rfl rfl rfl (by decide +kernel) rfl ⟨Nat.le_of_ble_eq_true rfl, Nat.le_of_ble_eq_true rfl⟩ ⟨Nat.le_of_ble_eq_true rfl, Nat.le_of_ble_eq_true rfl⟩ (Nat.le_of_ble_eq_true rfl) rfl dX6_simulate_123 ?_
        refine v_sipush (nI 1000) dX6_simulate_126 (by decide +kernel) ?_
        refine v_iload 2 dX6_simulate_129 rfl ?_
        refine v_imulN dX6_simulate_131 ?_
        refine v_iload 0 dX6_simulate_132 rfl ?_
        refine v_sipush (nI 999) dX6_simulate_134 (by decide +kernel) ?_
        refine v_icmp_le 146 dX6_simulate_137 rfl (fun h137 => ?_) (fun h137 => ?_)
        · skip
          refine v_iload 0 dX6_simulate_146 rfl ?_
          refine v_iadd dX6_simulate_148 ?_
          refine v_iret rfl dX6_simulate_149 ⟨mk7 σ b (upd f0 0 (nI 0)) f1 (cpF f1 f2 0 (358 * (0)) 358) f3 f4 f5 f6, rfl, ⟨congrArg (fun z9 => some (Value.int z9)) (by unfold simI; first | rw [if_pos (Int32.not_le.mp h137), hjk9, nI_add] | rw [if_neg (Int32.not_lt.mpr h137), hjk9] | rw [if_pos (Int32.not_le.mp h137), hjk9, nI_add]), _, fun i hi => by omega, rfl⟩⟩
        · skip
          refine v_sipush (nI 999) dX6_simulate_140 (by decide +kernel) ?_
          refine v_goto 148 dX6_simulate_143 rfl ?_
          refine v_iaddN dX6_simulate_148 ?_
          refine v_iret rfl dX6_simulate_149 ⟨mk7 σ b (upd f0 0 (nI 0)) f1 (cpF f1 f2 0 (358 * (0)) 358) f3 f4 f5 f6, rfl, ⟨congrArg (fun z9 => some (Value.int z9)) (by unfold simI; first | rw [if_pos (Int32.not_le.mp h137), hjk9, nI_add] | rw [if_neg (Int32.not_lt.mpr h137), hjk9] | rw [if_pos (Int32.not_le.mp h137), hjk9, nI_add]), _, fun i hi => by omega, rfl⟩⟩
      · skip
        obtain ⟨hIj, hIj1⟩ := hI.sim hl1 z (k := j) (by omega)
        have hjnp := hIj.np30
        refine v_lload 3 dX6_simulate_51 rfl ?_
        refine v_ldc2 (v := (6364136223846793005)) (by decide +kernel) dX6_simulate_53 ?_
        refine v_lmul dX6_simulate_56 ?_
        refine v_ldc2 (v := (1442695040888963407)) (by decide +kernel) dX6_simulate_57 ?_
        refine v_ladd dX6_simulate_60 ?_
        refine v_st (st' := [.long (seedX z (j + 1))]) rfl ?_
        refine v_lstore [(4, .long (seedX z (j + 1))), (8, .int (nI j)), (7, .int (f1 5)), (6, .int (nI (simN f1 z j))), (3, .int (nI k)), (0, .ref (G b))] dX6_simulate_61 (by decide) rfl ?_
        refine v_lload 0 dX6_simulate_63 rfl ?_
        refine v_bipush (nI 33) dX6_simulate_65 (by decide +kernel) ?_
        refine v_lushr dX6_simulate_67 ?_
        refine v_l2i dX6_simulate_68 ?_
        refine v_topi (nI (seedR z j)) (seedR_eq z j) ?_
        have hr31 := seedR_lt z j
        refine v_istore [(9, .int (nI (seedR z j))), (4, .long (seedX z (j + 1))), (8, .int (nI j)), (7, .int (f1 5)), (6, .int (nI (simN f1 z j))), (3, .int (nI k)), (0, .ref (G b))] dX6_simulate_69 (by decide) rfl ?_
        refine v_aload_n 6 dX6_simulate_71 rfl rfl ?_
        refine v_iload 0 dX6_simulate_72 rfl ?_
        refine v_aload_n 6 dX6_simulate_74 rfl rfl ?_
        refine u_getr (k := 1) (C := RX6) (T := TX6) (NF := 13) hM.n hM.s rfl rfl inX6_simulate_X6 (by decide) (by decide +kernel) rfl dX6_simulate_75 ?_
        refine v_iconst (nI 2) dX6_simulate_78 (by decide +kernel) ?_
        refine m_ld1 2 hM (rfl) (by omega) dX6_simulate_79 ?_
        refine v_topi (nI (tn (simS f1 z j 2))) (hIj.np) ?_
        refine v_if_neN 87 (by omega) dX6_simulate_80 rfl (fun h80 => ?_) (fun h80 => ?_)
        · skip
          refine v_aload_n 6 dX6_simulate_87 rfl rfl ?_
          refine u_getr (k := 1) (C := RX6) (T := TX6) (NF := 13) hM.n hM.s rfl rfl inX6_simulate_X6 (by decide) (by decide +kernel) rfl dX6_simulate_88 ?_
          refine v_iconst (nI 2) dX6_simulate_91 (by decide +kernel) ?_
          refine m_ld1 2 hM (rfl) (by omega) dX6_simulate_92 ?_
          refine v_topi (nI (tn (simS f1 z j 2))) (hIj.np) ?_
          refine u_callVn [.int (nI (seedR z j)), .int (nI (tn (simS f1 z j 2)))] [] 2 (c_X6_turn lu Dg E N G shp σ hM (upd (upd f0 0 (nI 0)) 3 (nI (0 + 1))) (simS f1 z j) (cpF f1 f2 0 (358 * (0)) 358) f3 f4 f5 f6 hIj (r := seedR z j) (n0 := tn (simS f1 z j 2)) hr31 (by omega) (by omega) (by rw [hIj1]; exact hl1)) (ci := 6) (C := RX6) (T := TX6) (NF := 13) hM.n hM.s rfl gX6_simulate_X6_turn rfl rfl rfl (by decide +kernel) rfl ⟨Nat.le_of_ble_eq_true rfl, Nat.le_of_ble_eq_true rfl⟩ ⟨Nat.le_of_ble_eq_true rfl, Nat.le_of_ble_eq_true rfl⟩ (Nat.le_of_ble_eq_true rfl) rfl dX6_simulate_93 ?_
          have ht9 := hIj.turnI (r := seedR z j) (n := max 1 (tn (simS f1 z j 2))) hr31 (by omega) (by omega) (by rw [hIj1]; exact hl1)
          refine v_σ (mk7 σ b (upd (upd f0 0 (nI 0)) 3 (nI (0 + 1))) (turnS (simS f1 z j) (seedR z j) (max 1 (tn (simS f1 z j 2)))) (cpF f1 f2 0 (358 * (0)) 358) f3 f4 f5 f6) (congrArg (fun z9 => mk7 σ b (upd (upd f0 0 (nI 0)) 3 (nI (0 + 1))) z9 (cpF f1 f2 0 (358 * (0)) 358) f3 f4 f5 f6) (congrArg (turnS (simS f1 z j) (seedR z j)) (by omega))) ?_
          refine v_iload 4 dX6_simulate_96 rfl ?_
          refine v_aload_n 6 dX6_simulate_98 rfl rfl ?_
          refine u_callVv [] [.int (nI (simN f1 z j))] 0 (c_X6_minute lu Dg E N G shp σ hM (upd (upd f0 0 (nI 0)) 3 (nI (0 + 1))) (turnS (simS f1 z j) (seedR z j) (max 1 (tn (simS f1 z j 2)))) (cpF f1 f2 0 (358 * (0)) 358) f3 f4 f5 f6 ht9) (ci := 6) (C := RX6) (T := TX6) (NF := 13) hM.n hM.s rfl gX6_simulate_X6_minute rfl rfl rfl (by decide +kernel) rfl ⟨Nat.le_of_ble_eq_true rfl, Nat.le_of_ble_eq_true rfl⟩ ⟨Nat.le_of_ble_eq_true rfl, Nat.le_of_ble_eq_true rfl⟩ (Nat.le_of_ble_eq_true rfl) rfl dX6_simulate_99 ?_
          refine v_iaddN dX6_simulate_102 ?_
          refine v_topi (nI (simN f1 z (j + 1))) (rfl) ?_
          refine v_istore [(6, .int (nI (simN f1 z (j + 1)))), (9, .int (nI (seedR z j))), (4, .long (seedX z (j + 1))), (8, .int (nI j)), (7, .int (f1 5)), (3, .int (nI k)), (0, .ref (G b))] dX6_simulate_103 (by decide) rfl ?_
          refine v_iincN 3 [(8, .int (nI (j + 1))), (6, .int (nI (simN f1 z (j + 1)))), (9, .int (nI (seedR z j))), (4, .long (seedX z (j + 1))), (7, .int (f1 5)), (3, .int (nI k)), (0, .ref (G b))] dX6_simulate_105 rfl (by decide) rfl ?_
          refine v_goto 45 dX6_simulate_108 rfl ?_
          refine v_loc [0, 4, 1, 3, 5, 6] [(8, .int (nI (j + 1))), (7, .int (f1 5)), (6, .int (nI (simN f1 z (j + 1)))), (4, .long (seedX z (j + 1))), (3, .int (nI k)), (0, .ref (G b))] rfl ?_
          exact ih _ (j + 1) (show n - 1 < n by omega) (by omega)
        · skip
          refine v_iconst (nI 1) dX6_simulate_83 (by decide +kernel) ?_
          refine v_goto 93 dX6_simulate_84 rfl ?_
          refine u_callVn [.int (nI (seedR z j)), .int (nI 1)] [] 2 (c_X6_turn lu Dg E N G shp σ hM (upd (upd f0 0 (nI 0)) 3 (nI (0 + 1))) (simS f1 z j) (cpF f1 f2 0 (358 * (0)) 358) f3 f4 f5 f6 hIj (r := seedR z j) (n0 := 1) hr31 (by omega) (by omega) (by rw [hIj1]; exact hl1)) (ci := 6) (C := RX6) (T := TX6) (NF := 13) hM.n hM.s rfl gX6_simulate_X6_turn rfl rfl rfl (by decide +kernel) rfl ⟨Nat.le_of_ble_eq_true rfl, Nat.le_of_ble_eq_true rfl⟩ ⟨Nat.le_of_ble_eq_true rfl, Nat.le_of_ble_eq_true rfl⟩ (Nat.le_of_ble_eq_true rfl) rfl dX6_simulate_93 ?_
          have ht9 := hIj.turnI (r := seedR z j) (n := max 1 (tn (simS f1 z j 2))) hr31 (by omega) (by omega) (by rw [hIj1]; exact hl1)
          refine v_σ (mk7 σ b (upd (upd f0 0 (nI 0)) 3 (nI (0 + 1))) (turnS (simS f1 z j) (seedR z j) (max 1 (tn (simS f1 z j 2)))) (cpF f1 f2 0 (358 * (0)) 358) f3 f4 f5 f6) (congrArg (fun z9 => mk7 σ b (upd (upd f0 0 (nI 0)) 3 (nI (0 + 1))) z9 (cpF f1 f2 0 (358 * (0)) 358) f3 f4 f5 f6) (congrArg (turnS (simS f1 z j) (seedR z j)) (by omega))) ?_
          refine v_iload 4 dX6_simulate_96 rfl ?_
          refine v_aload_n 6 dX6_simulate_98 rfl rfl ?_
          refine u_callVv [] [.int (nI (simN f1 z j))] 0 (c_X6_minute lu Dg E N G shp σ hM (upd (upd f0 0 (nI 0)) 3 (nI (0 + 1))) (turnS (simS f1 z j) (seedR z j) (max 1 (tn (simS f1 z j 2)))) (cpF f1 f2 0 (358 * (0)) 358) f3 f4 f5 f6 ht9) (ci := 6) (C := RX6) (T := TX6) (NF := 13) hM.n hM.s rfl gX6_simulate_X6_minute rfl rfl rfl (by decide +kernel) rfl ⟨Nat.le_of_ble_eq_true rfl, Nat.le_of_ble_eq_true rfl⟩ ⟨Nat.le_of_ble_eq_true rfl, Nat.le_of_ble_eq_true rfl⟩ (Nat.le_of_ble_eq_true rfl) rfl dX6_simulate_99 ?_
          refine v_iaddN dX6_simulate_102 ?_
          refine v_topi (nI (simN f1 z (j + 1))) (rfl) ?_
          refine v_istore [(6, .int (nI (simN f1 z (j + 1)))), (9, .int (nI (seedR z j))), (4, .long (seedX z (j + 1))), (8, .int (nI j)), (7, .int (f1 5)), (3, .int (nI k)), (0, .ref (G b))] dX6_simulate_103 (by decide) rfl ?_
          refine v_iincN 3 [(8, .int (nI (j + 1))), (6, .int (nI (simN f1 z (j + 1)))), (9, .int (nI (seedR z j))), (4, .long (seedX z (j + 1))), (7, .int (f1 5)), (3, .int (nI k)), (0, .ref (G b))] dX6_simulate_105 rfl (by decide) rfl ?_
          refine v_goto 45 dX6_simulate_108 rfl ?_
          refine v_loc [0, 4, 1, 3, 5, 6] [(8, .int (nI (j + 1))), (7, .int (f1 5)), (6, .int (nI (simN f1 z (j + 1)))), (4, .long (seedX z (j + 1))), (3, .int (nI k)), (0, .ref (G b))] rfl ?_
          exact ih _ (j + 1) (show n - 1 < n by omega) (by omega)
    · skip
      exact absurd rfl h19
