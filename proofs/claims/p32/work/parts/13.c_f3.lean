theorem CS.ans {l : Launch} {y : MethodName} {ws : List Cond} {rm : Room} {D : va_G} {E : Nat → ClassId} {N : Nat} {G : Nat → Nat} {shp : Nat → (Nat → Int32) → va_E} {σ τ σ' : Nat → Nat → Int32} {vargs : List Value} {v v' : Int32} (h : CS l y ws rm D E N G shp σ vargs (some (.int v)) τ) (ev : v = v') (e' : τ = σ') : CS l y ws rm D E N G shp σ vargs (some (.int v')) σ' := by
  rw [← ev, ← e']; exact h
/-- one state more is remembered, the hall being at 1 -/
def puH (σ : Nat → Nat → Int32) (c : Nat → Int32) (o r : Nat) : Nat → Nat → Int32 := if r < 14 then st2 (hs σ (87 + 2 + 43 * ((o + r) % 14)) c) 87 2 (nI (r + 1)) else st2 (hs σ (87 + 2 + 43 * ((o + r) % 14)) c) 87 1 (nI ((o + 1) % 14))
theorem st2_hs {σ : Nat → Nat → Int32} {b x k : Nat} {c : Nat → Int32} {v : Int32} (hxo : b + 43 ≤ x) : st2 (hs σ b c) x k v = hs (st2 σ x k v) b c := by
  funext n9; unfold st2
  by_cases en : n9 = x
  · subst en; rw [va_up_self, hs_out (by omega), hs_out (by omega), va_up_self]
  · rw [va_up_ne _ _ en]; by_cases h2 : n9 < b ∨ (b + 2 ≤ n9 ∧ n9 < b + 7) ∨ b + 43 ≤ n9
    · rw [hs_out h2, hs_out h2, va_up_ne _ _ en]
    · exact hs_cell h2
theorem remS_hs (σ : Nat → Nat → Int32) (c : Nat → Int32) (o r : Nat) : remS σ 87 1 c o r = hs (puH σ c o r) 1 c := by
  have e : hs (hs σ 1 c) (87 + 2 + 43 * ((o + r) % 14)) c = hs (hs σ (87 + 2 + 43 * ((o + r) % 14)) c) 1 c := hs_comm (by omega)
  unfold remS puH
  rw [e]
  by_cases h : r < 14
  · rw [if_pos h, if_pos h, st2_hs (by omega)]
  · rw [if_neg h, if_neg h, st2_hs (by omega)]
def HistOk (σ : Nat → Nat → Int32) (o r : Nat) : Prop := (σ 87 1 = nI o ∧ o < 14) ∧ (σ 87 2 = nI r ∧ r ≤ 14) ∧ ∀ i, i < 14 → ∃ d, HoldsAt σ (87 + 2 + 43 * i) d
theorem c_rem (lu : Launch) (Dg : va_G) (E : Nat → ClassId) (N : Nat) (G : Nat → Nat) (shp : Nat → (Nat → Int32) → va_E) (σ : Nat → Nat → Int32) (hS : StoodS E G shp N) (c : Nat → Int32) {og rg : Nat} (hO : HistOk σ og rg) : CS lu yX2_remember wsX2_remember { frames := 3, cells := 0, slots := 0, locals := 83 } Dg E N G shp (hs σ 1 c) [.ref (G 87), .ref (G 1)] none (hs (puH σ c og rg) 1 c) :=
  (c_X2_remember lu Dg E N G shp σ hS.y hS.h c hO.1.1 hO.1.2 hO.2.1.1 hO.2.1.2 (fun i _ => Or.inl (by omega)) (Or.inr (by omega)) hO.2.2).preS rfl (remS_hs σ c og rg)
/-- a line more -/
def addLS (c : Nat → Int32) (x : Int32) : Nat → Int32 := upd (upd (upd (upd (upd c (10 + tn (c 1)) x) (16 + tn (c 1)) (nI 0)) (19 + tn (c 1)) (nI 0)) (13 + tn (c 1)) (nI 0)) 1 (nI (tn (c 1) + 1))
set_option maxRecDepth 100000 in
theorem inX5_go_X5 : ∀ w ∈ wsX50, w ∈ wsX5_go := by decide +kernel
set_option maxHeartbeats 4000000 in
set_option maxRecDepth 100000 in
theorem c_X5_go_0 (lu : Launch) (Dg : va_G) (E : Nat → ClassId) (N : Nat) (G : Nat → Nat) (shp : Nat → (Nat → Int32) → va_E) (σ : Nat → Nat → Int32) (hS : StoodS E G shp N) (c : Nat → Int32) {T : Nat} (hI : Inv T c) {pz : Nat} (hz : pz < tn (c 2)) (hsd : c (58 + 10 * pz + 5) = 0) {og rg : Nat} (hO : HistOk σ og rg)  : CS lu yX5_go wsX5_go { frames := 7, cells := 0, slots := 0, locals := 162 } Dg E N G shp (hs σ 1 c) [.ref (G 0), .int (nI pz)] (some (.int (c (58 + 10 * pz + 2)))) (hs (puH σ c og rg) 1 (goesS c pz)) := by
  refine CS.of (cc := cX5_go) (maxL := 2) (ret := (some .int)) (by decide) rfl (Nat.le_of_ble_eq_true rfl) ?_
  intro p_ e_ s_ m_ args_ below_ meth_ c_
  refine v_eq (pc' := 0) (st' := []) rfl rfl ?_
  refine v_loc [0, 1] [(0, .ref (G 0)), (1, .int (nI pz))] rfl ?_
  refine v_aload_n 0 dX5_go_0 rfl rfl ?_
  refine v_iload_n 1 dX5_go_1 rfl rfl ?_
  refine u_callVn [.int (nI pz)] [] 1 (c_X5_requireStanding lu Dg E N G shp σ hS c hI (pz := pz) hz hsd) (ci := 5) (C := RX5) (T := TX5) (NF := 6) hS.o.1 hS.o.2 rfl gX5_go_X5_requireStanding rfl rfl rfl (by decide +kernel) rfl ⟨Nat.le_of_ble_eq_true rfl, Nat.le_of_ble_eq_true rfl⟩ ⟨Nat.le_of_ble_eq_true rfl, Nat.le_of_ble_eq_true rfl⟩ (Nat.le_of_ble_eq_true rfl) rfl dX5_go_2 ?_
  refine v_aload_n 0 dX5_go_5 rfl rfl ?_
  refine u_getr (k := 2) (C := RX5) (T := TX5) (NF := 6) hS.o.1 hS.o.2 rfl rfl inX5_go_X5 (by decide) (by decide +kernel) rfl dX5_go_6 ?_
  refine v_aload_n 0 dX5_go_9 rfl rfl ?_
  refine u_getr (k := 0) (C := RX5) (T := TX5) (NF := 6) hS.o.1 hS.o.2 rfl rfl inX5_go_X5 (by decide) (by decide +kernel) rfl dX5_go_10 ?_
  refine u_callVn [.ref (G 1)] [] 1 (c_rem lu Dg E N G shp σ hS c hO) (ci := 2) (C := RX2) (T := TX2) (NF := 3) (Nat.lt_of_succ_lt hS.y.1) hS.y.2.1 rfl gX5_go_X2_remember rfl rfl rfl (by decide +kernel) rfl ⟨Nat.le_of_ble_eq_true rfl, Nat.le_of_ble_eq_true rfl⟩ ⟨Nat.le_of_ble_eq_true rfl, Nat.le_of_ble_eq_true rfl⟩ (Nat.le_of_ble_eq_true rfl) rfl dX5_go_13 ?_
  refine v_aload_n 0 dX5_go_16 rfl rfl ?_
  refine u_getr (k := 0) (C := RX5) (T := TX5) (NF := 6) hS.o.1 hS.o.2 rfl rfl inX5_go_X5 (by decide) (by decide +kernel) rfl dX5_go_17 ?_
  refine v_iload_n 1 dX5_go_20 rfl rfl ?_
  refine u_callVv [.int (nI pz)] [] 1 ((c_X1_leave lu Dg E N G shp (puH σ c og rg) hS.h c hI (p := pz) (by have := hI.np30; omega)).ans (ic_t ⟨hz, hsd⟩) (congrArg (hs (puH σ c og rg) 1) (ic_t ⟨hz, hsd⟩))) (ci := 1) (C := RX1) (T := TX1) (NF := 11) hS.h.n hS.h.s rfl gX5_go_X1_leave rfl rfl rfl (by decide +kernel) rfl ⟨Nat.le_of_ble_eq_true rfl, Nat.le_of_ble_eq_true rfl⟩ ⟨Nat.le_of_ble_eq_true rfl, Nat.le_of_ble_eq_true rfl⟩ (Nat.le_of_ble_eq_true rfl) rfl dX5_go_21 ?_
  refine v_iret rfl dX5_go_24 ⟨congrArg (fun z => some (Value.int z)) ?_, congrArg (φ shp) ?_⟩
  · rfl
  · rfl
set_option maxRecDepth 100000 in
theorem inX5_exchange_X5 : ∀ w ∈ wsX50, w ∈ wsX5_exchange := by decide +kernel
set_option maxHeartbeats 4000000 in
set_option maxRecDepth 100000 in
theorem c_X5_exchange_0 (lu : Launch) (Dg : va_G) (E : Nat → ClassId) (N : Nat) (G : Nat → Nat) (shp : Nat → (Nat → Int32) → va_E) (σ : Nat → Nat → Int32) (hS : StoodS E G shp N) (c : Nat → Int32) {T : Nat} (hI : Inv T c) {pz qz : Nat} (hz : pz < tn (c 2)) (hw : qz < tn (c 2)) (hm : MayX c pz qz) {og rg : Nat} (hO : HistOk σ og rg)  : CS lu yX5_exchange wsX5_exchange { frames := 7, cells := 0, slots := 0, locals := 163 } Dg E N G shp (hs σ 1 c) [.ref (G 0), .int (nI pz), .int (nI qz)] (some (.int (nI (plc c pz - plc c qz) * c 8))) (hs (puH σ c og rg) 1 (exchS c pz qz)) := by
  refine CS.of (cc := cX5_exchange) (maxL := 3) (ret := (some .int)) (by decide) rfl (Nat.le_of_ble_eq_true rfl) ?_
  intro p_ e_ s_ m_ args_ below_ meth_ c_
  refine v_eq (pc' := 0) (st' := []) rfl rfl ?_
  refine v_loc [0, 1, 2] [(0, .ref (G 0)), (1, .int (nI pz)), (2, .int (nI qz))] rfl ?_
  refine v_aload_n 0 dX5_exchange_0 rfl rfl ?_
  refine v_iload_n 1 dX5_exchange_1 rfl rfl ?_
  refine v_iload_n 2 dX5_exchange_2 rfl rfl ?_
  refine u_callVn [.int (nI pz), .int (nI qz)] [] 2 (c_X5_requireTrade lu Dg E N G shp σ hS c hI (pz := pz) (qz := qz) hz hw hm) (ci := 5) (C := RX5) (T := TX5) (NF := 6) hS.o.1 hS.o.2 rfl gX5_exchange_X5_requireTrade rfl rfl rfl (by decide +kernel) rfl ⟨Nat.le_of_ble_eq_true rfl, Nat.le_of_ble_eq_true rfl⟩ ⟨Nat.le_of_ble_eq_true rfl, Nat.le_of_ble_eq_true rfl⟩ (Nat.le_of_ble_eq_true rfl) rfl dX5_exchange_3 ?_
  refine v_aload_n 0 dX5_exchange_6 rfl rfl ?_
  refine u_getr (k := 2) (C := RX5) (T := TX5) (NF := 6) hS.o.1 hS.o.2 rfl rfl inX5_exchange_X5 (by decide) (by decide +kernel) rfl dX5_exchange_7 ?_
  refine v_aload_n 0 dX5_exchange_10 rfl rfl ?_
  refine u_getr (k := 0) (C := RX5) (T := TX5) (NF := 6) hS.o.1 hS.o.2 rfl rfl inX5_exchange_X5 (by decide) (by decide +kernel) rfl dX5_exchange_11 ?_
  refine u_callVn [.ref (G 1)] [] 1 (c_rem lu Dg E N G shp σ hS c hO) (ci := 2) (C := RX2) (T := TX2) (NF := 3) (Nat.lt_of_succ_lt hS.y.1) hS.y.2.1 rfl gX5_exchange_X2_remember rfl rfl rfl (by decide +kernel) rfl ⟨Nat.le_of_ble_eq_true rfl, Nat.le_of_ble_eq_true rfl⟩ ⟨Nat.le_of_ble_eq_true rfl, Nat.le_of_ble_eq_true rfl⟩ (Nat.le_of_ble_eq_true rfl) rfl dX5_exchange_14 ?_
  refine v_aload_n 0 dX5_exchange_17 rfl rfl ?_
  refine u_getr (k := 0) (C := RX5) (T := TX5) (NF := 6) hS.o.1 hS.o.2 rfl rfl inX5_exchange_X5 (by decide) (by decide +kernel) rfl dX5_exchange_18 ?_
  refine v_iload_n 1 dX5_exchange_21 rfl rfl ?_
  refine v_iload_n 2 dX5_exchange_22 rfl rfl ?_
  refine u_callVv [.int (nI pz), .int (nI qz)] [] 2 ((c_X1_trade lu Dg E N G shp (puH σ c og rg) hS.h c hI (p := pz) (q := qz) (by have := hI.np30; omega) (by have := hI.np30; omega)).ans (ic_t ⟨hz, hw, hm⟩) (congrArg (hs (puH σ c og rg) 1) (ic_t ⟨hz, hw, hm⟩))) (ci := 1) (C := RX1) (T := TX1) (NF := 11) hS.h.n hS.h.s rfl gX5_exchange_X1_trade rfl rfl rfl (by decide +kernel) rfl ⟨Nat.le_of_ble_eq_true rfl, Nat.le_of_ble_eq_true rfl⟩ ⟨Nat.le_of_ble_eq_true rfl, Nat.le_of_ble_eq_true rfl⟩ (Nat.le_of_ble_eq_true rfl) rfl dX5_exchange_23 ?_
  refine v_iret rfl dX5_exchange_26 ⟨congrArg (fun z => some (Value.int z)) ?_, congrArg (φ shp) ?_⟩
  · rfl
  · rfl
set_option maxRecDepth 100000 in
theorem inX5_merge_X5 : ∀ w ∈ wsX50, w ∈ wsX5_merge := by decide +kernel
set_option maxHeartbeats 4000000 in
set_option maxRecDepth 100000 in
theorem c_X5_merge_0 (lu : Launch) (Dg : va_G) (E : Nat → ClassId) (N : Nat) (G : Nat → Nat) (shp : Nat → (Nat → Int32) → va_E) (σ : Nat → Nat → Int32) (hS : StoodS E G shp N) (c : Nat → Int32) {T : Nat} (hI : Inv T c) {lz oz : Nat} (hz : lz < tn (c 1)) (hw : oz < tn (c 1)) (hm : mergeFl c (nI lz) (nI oz) = 0) {og rg : Nat} (hO : HistOk σ og rg)  : CS lu yX5_merge wsX5_merge { frames := 7, cells := 0, slots := 0, locals := 163 } Dg E N G shp (hs σ 1 c) [.ref (G 0), .int (nI lz), .int (nI oz)] (some (.int (nI (tn (c (13 + lz)) + tn (c (13 + oz)))))) (hs (puH σ c og rg) 1 (mergesF c lz oz)) := by
  refine CS.of (cc := cX5_merge) (maxL := 3) (ret := (some .int)) (by decide) rfl (Nat.le_of_ble_eq_true rfl) ?_
  intro p_ e_ s_ m_ args_ below_ meth_ c_
  refine v_eq (pc' := 0) (st' := []) rfl rfl ?_
  refine v_loc [0, 1, 2] [(0, .ref (G 0)), (1, .int (nI lz)), (2, .int (nI oz))] rfl ?_
  refine v_aload_n 0 dX5_merge_0 rfl rfl ?_
  refine v_iload_n 1 dX5_merge_1 rfl rfl ?_
  refine v_iload_n 2 dX5_merge_2 rfl rfl ?_
  refine u_callVn [.int (nI lz), .int (nI oz)] [] 2 (c_X5_requireUnion lu Dg E N G shp σ hS c hI (lz := lz) (oz := oz) hz hw hm) (ci := 5) (C := RX5) (T := TX5) (NF := 6) hS.o.1 hS.o.2 rfl gX5_merge_X5_requireUnion rfl rfl rfl (by decide +kernel) rfl ⟨Nat.le_of_ble_eq_true rfl, Nat.le_of_ble_eq_true rfl⟩ ⟨Nat.le_of_ble_eq_true rfl, Nat.le_of_ble_eq_true rfl⟩ (Nat.le_of_ble_eq_true rfl) rfl dX5_merge_3 ?_
  refine v_aload_n 0 dX5_merge_6 rfl rfl ?_
  refine u_getr (k := 2) (C := RX5) (T := TX5) (NF := 6) hS.o.1 hS.o.2 rfl rfl inX5_merge_X5 (by decide) (by decide +kernel) rfl dX5_merge_7 ?_
  refine v_aload_n 0 dX5_merge_10 rfl rfl ?_
  refine u_getr (k := 0) (C := RX5) (T := TX5) (NF := 6) hS.o.1 hS.o.2 rfl rfl inX5_merge_X5 (by decide) (by decide +kernel) rfl dX5_merge_11 ?_
  refine u_callVn [.ref (G 1)] [] 1 (c_rem lu Dg E N G shp σ hS c hO) (ci := 2) (C := RX2) (T := TX2) (NF := 3) (Nat.lt_of_succ_lt hS.y.1) hS.y.2.1 rfl gX5_merge_X2_remember rfl rfl rfl (by decide +kernel) rfl ⟨Nat.le_of_ble_eq_true rfl, Nat.le_of_ble_eq_true rfl⟩ ⟨Nat.le_of_ble_eq_true rfl, Nat.le_of_ble_eq_true rfl⟩ (Nat.le_of_ble_eq_true rfl) rfl dX5_merge_14 ?_
  refine v_aload_n 0 dX5_merge_17 rfl rfl ?_
  refine u_getr (k := 0) (C := RX5) (T := TX5) (NF := 6) hS.o.1 hS.o.2 rfl rfl inX5_merge_X5 (by decide) (by decide +kernel) rfl dX5_merge_18 ?_
  refine v_iload_n 1 dX5_merge_21 rfl rfl ?_
  refine v_iload_n 2 dX5_merge_22 rfl rfl ?_
  refine u_callVv [.int (nI lz), .int (nI oz)] [] 2 ((c_X1_unite lu Dg E N G shp (puH σ c og rg) hS.h c hI (y := lz) (o := oz) (by have := hI.nl3; omega) (by have := hI.nl3; omega)).ans (ic_t hm) (congrArg (hs (puH σ c og rg) 1) (ic_t hm))) (ci := 1) (C := RX1) (T := TX1) (NF := 11) hS.h.n hS.h.s rfl gX5_merge_X1_unite rfl rfl rfl (by decide +kernel) rfl ⟨Nat.le_of_ble_eq_true rfl, Nat.le_of_ble_eq_true rfl⟩ ⟨Nat.le_of_ble_eq_true rfl, Nat.le_of_ble_eq_true rfl⟩ (Nat.le_of_ble_eq_true rfl) rfl dX5_merge_23 ?_
  refine v_iret rfl dX5_merge_26 ⟨congrArg (fun z => some (Value.int z)) ?_, congrArg (φ shp) ?_⟩
  · rfl
  · rfl
set_option maxRecDepth 100000 in
theorem inX5_jump_X5 : ∀ w ∈ wsX50, w ∈ wsX5_jump := by decide +kernel
set_option maxHeartbeats 4000000 in
set_option maxRecDepth 100000 in
theorem c_X5_jump_0 (lu : Launch) (Dg : va_G) (E : Nat → ClassId) (N : Nat) (G : Nat → Nat) (shp : Nat → (Nat → Int32) → va_E) (σ : Nat → Nat → Int32) (hS : StoodS E G shp N) (c : Nat → Int32) {T : Nat} (hI : Inv T c) {pz : Nat} (hz : pz < tn (c 2)) (hmc : MayC c pz) {og rg : Nat} (hO : HistOk σ og rg)  : CS lu yX5_jump wsX5_jump { frames := 6, cells := 0, slots := 0, locals := 141 } Dg E N G shp (hs σ 1 c) [.ref (G 0), .int (nI pz)] (some (.int (nI (jsteps c pz)))) (hs (puH σ c og rg) 1 (jumpsS c pz)) := by
  refine CS.of (cc := cX5_jump) (maxL := 2) (ret := (some .int)) (by decide) rfl (Nat.le_of_ble_eq_true rfl) ?_
  intro p_ e_ s_ m_ args_ below_ meth_ c_
  refine v_eq (pc' := 0) (st' := []) rfl rfl ?_
  refine v_loc [0, 1] [(0, .ref (G 0)), (1, .int (nI pz))] rfl ?_
  refine v_aload_n 0 dX5_jump_0 rfl rfl ?_
  refine v_iload_n 1 dX5_jump_1 rfl rfl ?_
  refine u_callVn [.int (nI pz)] [] 1 (c_X5_requirePerson lu Dg E N G shp σ hS c hI (pz := pz) hz) (ci := 5) (C := RX5) (T := TX5) (NF := 6) hS.o.1 hS.o.2 rfl gX5_jump_X5_requirePerson rfl rfl rfl (by decide +kernel) rfl ⟨Nat.le_of_ble_eq_true rfl, Nat.le_of_ble_eq_true rfl⟩ ⟨Nat.le_of_ble_eq_true rfl, Nat.le_of_ble_eq_true rfl⟩ (Nat.le_of_ble_eq_true rfl) rfl dX5_jump_2 ?_
  refine v_aload_n 0 dX5_jump_5 rfl rfl ?_
  refine u_getr (k := 0) (C := RX5) (T := TX5) (NF := 6) hS.o.1 hS.o.2 rfl rfl inX5_jump_X5 (by decide) (by decide +kernel) rfl dX5_jump_6 ?_
  refine v_iload_n 1 dX5_jump_9 rfl rfl ?_
  refine u_callVv [.int (nI pz)] [] 1 (c_X1_mayPass lu Dg E N G shp σ hS.h c hI (p := pz) (by have := hI.np30; omega)) (ci := 1) (C := RX1) (T := TX1) (NF := 11) hS.h.n hS.h.s rfl gX5_jump_X1_mayPass rfl rfl rfl (by decide +kernel) rfl ⟨Nat.le_of_ble_eq_true rfl, Nat.le_of_ble_eq_true rfl⟩ ⟨Nat.le_of_ble_eq_true rfl, Nat.le_of_ble_eq_true rfl⟩ (Nat.le_of_ble_eq_true rfl) rfl dX5_jump_10 ?_
  refine v_if_neB 26 dX5_jump_13 rfl (fun h13 => ?_) (fun h13 => ?_)
  · skip
    refine v_aload_n 0 dX5_jump_26 rfl rfl ?_
    refine u_getr (k := 2) (C := RX5) (T := TX5) (NF := 6) hS.o.1 hS.o.2 rfl rfl inX5_jump_X5 (by decide) (by decide +kernel) rfl dX5_jump_27 ?_
    refine v_aload_n 0 dX5_jump_30 rfl rfl ?_
    refine u_getr (k := 0) (C := RX5) (T := TX5) (NF := 6) hS.o.1 hS.o.2 rfl rfl inX5_jump_X5 (by decide) (by decide +kernel) rfl dX5_jump_31 ?_
    refine u_callVn [.ref (G 1)] [] 1 (c_rem lu Dg E N G shp σ hS c hO) (ci := 2) (C := RX2) (T := TX2) (NF := 3) (Nat.lt_of_succ_lt hS.y.1) hS.y.2.1 rfl gX5_jump_X2_remember rfl rfl rfl (by decide +kernel) rfl ⟨Nat.le_of_ble_eq_true rfl, Nat.le_of_ble_eq_true rfl⟩ ⟨Nat.le_of_ble_eq_true rfl, Nat.le_of_ble_eq_true rfl⟩ (Nat.le_of_ble_eq_true rfl) rfl dX5_jump_34 ?_
    refine v_aload_n 0 dX5_jump_37 rfl rfl ?_
    refine u_getr (k := 0) (C := RX5) (T := TX5) (NF := 6) hS.o.1 hS.o.2 rfl rfl inX5_jump_X5 (by decide) (by decide +kernel) rfl dX5_jump_38 ?_
    refine v_iload_n 1 dX5_jump_41 rfl rfl ?_
    refine u_callVv [.int (nI pz)] [] 1 ((c_X1_pass lu Dg E N G shp (puH σ c og rg) hS.h c hI (p := pz) (by have := hI.np30; omega)).ans (ic_t ⟨hz, hmc⟩) (congrArg (hs (puH σ c og rg) 1) (ic_t ⟨hz, hmc⟩))) (ci := 1) (C := RX1) (T := TX1) (NF := 11) hS.h.n hS.h.s rfl gX5_jump_X1_pass rfl rfl rfl (by decide +kernel) rfl ⟨Nat.le_of_ble_eq_true rfl, Nat.le_of_ble_eq_true rfl⟩ ⟨Nat.le_of_ble_eq_true rfl, Nat.le_of_ble_eq_true rfl⟩ (Nat.le_of_ble_eq_true rfl) rfl dX5_jump_42 ?_
    refine v_iret rfl dX5_jump_45 ⟨congrArg (fun z => some (Value.int z)) ?_, congrArg (φ shp) ?_⟩
    · rfl
    · rfl
  · skip
    exact absurd ⟨hz, hmc⟩ h13
set_option maxRecDepth 100000 in
theorem inX5_come_X5 : ∀ w ∈ wsX50, w ∈ wsX5_come := by decide +kernel
set_option maxHeartbeats 4000000 in
set_option maxRecDepth 100000 in
theorem c_X5_come_0 (lu : Launch) (Dg : va_G) (E : Nat → ClassId) (N : Nat) (G : Nat → Nat) (shp : Nat → (Nat → Int32) → va_E) (σ : Nat → Nat → Int32) (hS : StoodS E G shp N) (c : Nat → Int32) {T : Nat} (hI : Inv T c) {lz : Nat} (hz : lz < tn (c 1)) {kz : Nat} (hk : kz < 3) (hf : comeFl c (nI lz) (nI kz) = 0) {og rg : Nat} (hO : HistOk σ og rg)  : CS lu yX5_come wsX5_come { frames := 6, cells := 0, slots := 0, locals := 141 } Dg E N G shp (hs σ 1 c) [.ref (G 0), .int (nI lz), .int (nI kz)] (some (.int (nI (tn (c 2))))) (hs (puH σ c og rg) 1 (comesC c lz kz)) := by
  refine CS.of (cc := cX5_come) (maxL := 3) (ret := (some .int)) (by decide) rfl (Nat.le_of_ble_eq_true rfl) ?_
  intro p_ e_ s_ m_ args_ below_ meth_ c_
  refine v_eq (pc' := 0) (st' := []) rfl rfl ?_
  refine v_loc [0, 1, 2] [(0, .ref (G 0)), (1, .int (nI lz)), (2, .int (nI kz))] rfl ?_
  refine v_aload_n 0 dX5_come_0 rfl rfl ?_
  refine v_iload_n 1 dX5_come_1 rfl rfl ?_
  refine u_callVn [.int (nI lz)] [] 1 (c_X5_requireLine lu Dg E N G shp σ hS c hI (lz := lz) hz) (ci := 5) (C := RX5) (T := TX5) (NF := 6) hS.o.1 hS.o.2 rfl gX5_come_X5_requireLine rfl rfl rfl (by decide +kernel) rfl ⟨Nat.le_of_ble_eq_true rfl, Nat.le_of_ble_eq_true rfl⟩ ⟨Nat.le_of_ble_eq_true rfl, Nat.le_of_ble_eq_true rfl⟩ (Nat.le_of_ble_eq_true rfl) rfl dX5_come_2 ?_
  refine v_iload_n 2 dX5_come_5 rfl rfl ?_
  refine u_callSv [.int (nI kz)] [] 1 (c_X5_isKind lu Dg E N G shp (hs σ 1 c) (nI kz)) gX5_come_X5_isKind rfl rfl rfl (by decide +kernel) rfl ⟨Nat.le_of_ble_eq_true rfl, Nat.le_of_ble_eq_true rfl⟩ ⟨Nat.le_of_ble_eq_true rfl, Nat.le_of_ble_eq_true rfl⟩ (Nat.le_of_ble_eq_true rfl) rfl dX5_come_6 ?_
  refine v_if_neB 22 dX5_come_9 rfl (fun h9 => ?_) (fun h9 => ?_)
  · skip
    refine v_aload_n 0 dX5_come_22 rfl rfl ?_
    refine u_getr (k := 0) (C := RX5) (T := TX5) (NF := 6) hS.o.1 hS.o.2 rfl rfl inX5_come_X5 (by decide) (by decide +kernel) rfl dX5_come_23 ?_
    refine v_iload_n 1 dX5_come_26 rfl rfl ?_
    refine v_iload_n 2 dX5_come_27 rfl rfl ?_
    refine u_callVv [.int (nI lz), .int (nI kz)] [] 2 (c_X1_mayEnter lu Dg E N G shp σ hS.h c hI (y := lz) (k0 := kz) (by have := hI.nl3; omega) (by omega)) (ci := 1) (C := RX1) (T := TX1) (NF := 11) hS.h.n hS.h.s rfl gX5_come_X1_mayEnter rfl rfl rfl (by decide +kernel) rfl ⟨Nat.le_of_ble_eq_true rfl, Nat.le_of_ble_eq_true rfl⟩ ⟨Nat.le_of_ble_eq_true rfl, Nat.le_of_ble_eq_true rfl⟩ (Nat.le_of_ble_eq_true rfl) rfl dX5_come_28 ?_
    refine v_if_neB 44 dX5_come_31 rfl (fun h31 => ?_) (fun h31 => ?_)
    · skip
      refine v_aload_n 0 dX5_come_44 rfl rfl ?_
      refine u_getr (k := 2) (C := RX5) (T := TX5) (NF := 6) hS.o.1 hS.o.2 rfl rfl inX5_come_X5 (by decide) (by decide +kernel) rfl dX5_come_45 ?_
      refine v_aload_n 0 dX5_come_48 rfl rfl ?_
      refine u_getr (k := 0) (C := RX5) (T := TX5) (NF := 6) hS.o.1 hS.o.2 rfl rfl inX5_come_X5 (by decide) (by decide +kernel) rfl dX5_come_49 ?_
      refine u_callVn [.ref (G 1)] [] 1 (c_rem lu Dg E N G shp σ hS c hO) (ci := 2) (C := RX2) (T := TX2) (NF := 3) (Nat.lt_of_succ_lt hS.y.1) hS.y.2.1 rfl gX5_come_X2_remember rfl rfl rfl (by decide +kernel) rfl ⟨Nat.le_of_ble_eq_true rfl, Nat.le_of_ble_eq_true rfl⟩ ⟨Nat.le_of_ble_eq_true rfl, Nat.le_of_ble_eq_true rfl⟩ (Nat.le_of_ble_eq_true rfl) rfl dX5_come_52 ?_
      refine v_aload_n 0 dX5_come_55 rfl rfl ?_
      refine u_getr (k := 0) (C := RX5) (T := TX5) (NF := 6) hS.o.1 hS.o.2 rfl rfl inX5_come_X5 (by decide) (by decide +kernel) rfl dX5_come_56 ?_
      refine v_iload_n 1 dX5_come_59 rfl rfl ?_
      refine v_iload_n 2 dX5_come_60 rfl rfl ?_
      refine u_callVv [.int (nI lz), .int (nI kz)] [] 2 ((c_X1_enter lu Dg E N G shp (puH σ c og rg) hS.h c hI (y := lz) (k0 := kz) (by have := hI.nl3; omega) (by omega)).ans (ic_t hf) (congrArg (hs (puH σ c og rg) 1) (ic_t hf))) (ci := 1) (C := RX1) (T := TX1) (NF := 11) hS.h.n hS.h.s rfl gX5_come_X1_enter rfl rfl rfl (by decide +kernel) rfl ⟨Nat.le_of_ble_eq_true rfl, Nat.le_of_ble_eq_true rfl⟩ ⟨Nat.le_of_ble_eq_true rfl, Nat.le_of_ble_eq_true rfl⟩ (Nat.le_of_ble_eq_true rfl) rfl dX5_come_61 ?_
      refine v_iret rfl dX5_come_64 ⟨congrArg (fun z => some (Value.int z)) ?_, congrArg (φ shp) ?_⟩
      · rfl
      · rfl
    · skip
      exact absurd hf h31
  · skip
    exact absurd ⟨kz, hk, rfl⟩ h9
set_option maxRecDepth 100000 in
theorem inX5_open_X5 : ∀ w ∈ wsX50, w ∈ wsX5_open := by decide +kernel
set_option maxHeartbeats 4000000 in
set_option maxRecDepth 100000 in
theorem c_X5_open_0 (lu : Launch) (Dg : va_G) (E : Nat → ClassId) (N : Nat) (G : Nat → Nat) (shp : Nat → (Nat → Int32) → va_E) (σ : Nat → Nat → Int32) (hS : StoodS E G shp N) (c : Nat → Int32) {T : Nat} (hI : Inv T c) {kz : Nat} (h1 : 1 ≤ kz) (h20 : kz ≤ 20) (h3 : tn (c 1) < 3) {og rg : Nat} (hO : HistOk σ og rg)  : CS lu yX5_open wsX5_open { frames := 5, cells := 0, slots := 0, locals := 120 } Dg E N G shp (hs σ 1 c) [.ref (G 0), .int (nI kz)] (some (.int (nI (tn (c 1))))) (hs (puH σ c og rg) 1 (addLS c (nI kz))) := by
  refine CS.of (cc := cX5_open) (maxL := 2) (ret := (some .int)) (by decide) rfl (Nat.le_of_ble_eq_true rfl) ?_
  intro p_ e_ s_ m_ args_ below_ meth_ c_
  refine v_eq (pc' := 0) (st' := []) rfl rfl ?_
  refine v_loc [0, 1] [(0, .ref (G 0)), (1, .int (nI kz))] rfl ?_
  refine v_iload_n 1 dX5_open_0 rfl rfl ?_
  refine v_iconst (nI 1) dX5_open_1 (by decide +kernel) ?_
  refine v_icmp_ltN 11 (by omega) (by omega) dX5_open_2 rfl (fun h2 => ?_) (fun h2 => ?_)
  · skip
    omega
  · skip
    refine v_iload_n 1 dX5_open_5 rfl rfl ?_
    refine v_bipush (nI 20) dX5_open_6 (by decide +kernel) ?_
    refine v_icmp_leN 21 (by omega) (by omega) dX5_open_8 rfl (fun h8 => ?_) (fun h8 => ?_)
    · skip
      refine v_aload_n 0 dX5_open_21 rfl rfl ?_
      refine u_getr (k := 0) (C := RX5) (T := TX5) (NF := 6) hS.o.1 hS.o.2 rfl rfl inX5_open_X5 (by decide) (by decide +kernel) rfl dX5_open_22 ?_
      refine u_callVv [] [] 0 (c_X1_hasAllLines lu Dg E N G shp σ hS.h c (m := tn (c 1)) hI.nl (by have := hI.nl3; omega)) (ci := 1) (C := RX1) (T := TX1) (NF := 11) hS.h.n hS.h.s rfl gX5_open_X1_hasAllLines rfl rfl rfl (by decide +kernel) rfl ⟨Nat.le_of_ble_eq_true rfl, Nat.le_of_ble_eq_true rfl⟩ ⟨Nat.le_of_ble_eq_true rfl, Nat.le_of_ble_eq_true rfl⟩ (Nat.le_of_ble_eq_true rfl) rfl dX5_open_25 ?_
      refine v_if_eqB 41 dX5_open_28 rfl (fun h28 => ?_) (fun h28 => ?_)
      · skip
        refine v_aload_n 0 dX5_open_41 rfl rfl ?_
        refine u_getr (k := 2) (C := RX5) (T := TX5) (NF := 6) hS.o.1 hS.o.2 rfl rfl inX5_open_X5 (by decide) (by decide +kernel) rfl dX5_open_42 ?_
        refine v_aload_n 0 dX5_open_45 rfl rfl ?_
        refine u_getr (k := 0) (C := RX5) (T := TX5) (NF := 6) hS.o.1 hS.o.2 rfl rfl inX5_open_X5 (by decide) (by decide +kernel) rfl dX5_open_46 ?_
        refine u_callVn [.ref (G 1)] [] 1 (c_rem lu Dg E N G shp σ hS c hO) (ci := 2) (C := RX2) (T := TX2) (NF := 3) (Nat.lt_of_succ_lt hS.y.1) hS.y.2.1 rfl gX5_open_X2_remember rfl rfl rfl (by decide +kernel) rfl ⟨Nat.le_of_ble_eq_true rfl, Nat.le_of_ble_eq_true rfl⟩ ⟨Nat.le_of_ble_eq_true rfl, Nat.le_of_ble_eq_true rfl⟩ (Nat.le_of_ble_eq_true rfl) rfl dX5_open_49 ?_
        refine v_aload_n 0 dX5_open_52 rfl rfl ?_
        refine u_getr (k := 0) (C := RX5) (T := TX5) (NF := 6) hS.o.1 hS.o.2 rfl rfl inX5_open_X5 (by decide) (by decide +kernel) rfl dX5_open_53 ?_
        refine v_iload_n 1 dX5_open_56 rfl rfl ?_
        refine u_callVv [.int (nI kz)] [] 1 (c_X1_addLine lu Dg E N G shp (puH σ c og rg) hS.h c (m := tn (c 1)) hI.nl h3 (nI kz)) (ci := 1) (C := RX1) (T := TX1) (NF := 11) hS.h.n hS.h.s rfl gX5_open_X1_addLine rfl rfl rfl (by decide +kernel) rfl ⟨Nat.le_of_ble_eq_true rfl, Nat.le_of_ble_eq_true rfl⟩ ⟨Nat.le_of_ble_eq_true rfl, Nat.le_of_ble_eq_true rfl⟩ (Nat.le_of_ble_eq_true rfl) rfl dX5_open_57 ?_
        refine v_iret rfl dX5_open_60 ⟨congrArg (fun z => some (Value.int z)) ?_, congrArg (φ shp) ?_⟩
        · rfl
        · rfl
      · skip
        omega
    · skip
      omega
set_option maxRecDepth 100000 in
theorem inX5_minutes_X5 : ∀ w ∈ wsX50, w ∈ wsX5_minutes := by decide +kernel
set_option maxHeartbeats 4000000 in
set_option maxRecDepth 100000 in
theorem c_X5_minutes_0 (lu : Launch) (Dg : va_G) (E : Nat → ClassId) (N : Nat) (G : Nat → Nat) (shp : Nat → (Nat → Int32) → va_E) (σ : Nat → Nat → Int32) (hS : StoodS E G shp N) (c : Nat → Int32) {T : Nat} (hI : Inv T c) (hT : T ≤ 999000) {kz : Nat} (h1 : 1 ≤ kz) (h60 : kz ≤ 60) {og rg : Nat} (hO : HistOk σ og rg)  : CS lu yX5_minutes wsX5_minutes { frames := 5, cells := 0, slots := 0, locals := 120 } Dg E N G shp (hs σ 1 c) [.ref (G 0), .int (nI kz)] (some (.int (nI (goByN c kz)))) (hs (puH σ c og rg) 1 (goByS c kz)) := by
  refine CS.of (cc := cX5_minutes) (maxL := 2) (ret := (some .int)) (by decide) rfl (Nat.le_of_ble_eq_true rfl) ?_
  intro p_ e_ s_ m_ args_ below_ meth_ c_
  refine v_eq (pc' := 0) (st' := []) rfl rfl ?_
  refine v_loc [0, 1] [(0, .ref (G 0)), (1, .int (nI kz))] rfl ?_
  refine v_iload_n 1 dX5_minutes_0 rfl rfl ?_
  refine v_iconst (nI 1) dX5_minutes_1 (by decide +kernel) ?_
  refine v_icmp_ltN 11 (by omega) (by omega) dX5_minutes_2 rfl (fun h2 => ?_) (fun h2 => ?_)
  · skip
    omega
  · skip
    refine v_iload_n 1 dX5_minutes_5 rfl rfl ?_
    refine v_bipush (nI 60) dX5_minutes_6 (by decide +kernel) ?_
    refine v_icmp_leN 21 (by omega) (by omega) dX5_minutes_8 rfl (fun h8 => ?_) (fun h8 => ?_)
    · skip
      refine v_aload_n 0 dX5_minutes_21 rfl rfl ?_
      refine u_getr (k := 2) (C := RX5) (T := TX5) (NF := 6) hS.o.1 hS.o.2 rfl rfl inX5_minutes_X5 (by decide) (by decide +kernel) rfl dX5_minutes_22 ?_
      refine v_aload_n 0 dX5_minutes_25 rfl rfl ?_
      refine u_getr (k := 0) (C := RX5) (T := TX5) (NF := 6) hS.o.1 hS.o.2 rfl rfl inX5_minutes_X5 (by decide) (by decide +kernel) rfl dX5_minutes_26 ?_
      refine u_callVn [.ref (G 1)] [] 1 (c_rem lu Dg E N G shp σ hS c hO) (ci := 2) (C := RX2) (T := TX2) (NF := 3) (Nat.lt_of_succ_lt hS.y.1) hS.y.2.1 rfl gX5_minutes_X2_remember rfl rfl rfl (by decide +kernel) rfl ⟨Nat.le_of_ble_eq_true rfl, Nat.le_of_ble_eq_true rfl⟩ ⟨Nat.le_of_ble_eq_true rfl, Nat.le_of_ble_eq_true rfl⟩ (Nat.le_of_ble_eq_true rfl) rfl dX5_minutes_29 ?_
      refine v_aload_n 0 dX5_minutes_32 rfl rfl ?_
      refine u_getr (k := 0) (C := RX5) (T := TX5) (NF := 6) hS.o.1 hS.o.2 rfl rfl inX5_minutes_X5 (by decide) (by decide +kernel) rfl dX5_minutes_33 ?_
      refine v_iload_n 1 dX5_minutes_36 rfl rfl ?_
      refine u_callVv [.int (nI kz)] [] 1 (c_X1_letPass lu Dg E N G shp (puH σ c og rg) hS.h c kz (by omega) (fun k9 hk9 => ⟨_, hI.goBy (n := k9) (by omega)⟩)) (ci := 1) (C := RX1) (T := TX1) (NF := 11) hS.h.n hS.h.s rfl gX5_minutes_X1_letPass rfl rfl rfl (by decide +kernel) rfl ⟨Nat.le_of_ble_eq_true rfl, Nat.le_of_ble_eq_true rfl⟩ ⟨Nat.le_of_ble_eq_true rfl, Nat.le_of_ble_eq_true rfl⟩ (Nat.le_of_ble_eq_true rfl) rfl dX5_minutes_37 ?_
      refine v_iret rfl dX5_minutes_40 ⟨congrArg (fun z => some (Value.int z)) ?_, congrArg (φ shp) ?_⟩
      · rfl
      · rfl
    · skip
      omega
