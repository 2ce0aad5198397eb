def ksStood : List (Option Nat) := [some 1, some 44, some 87, some 691, some 778, some 779]
/-- the whole object, from the cell 0 on -/
def StoodS (E : Nat → ClassId) (G : Nat → Nat) (shp : Nat → (Nat → Int32) → va_E) (N : Nat) : Prop := (0 < N ∧ shp 0 = ObS G 5 ksStood) ∧ HallS E G shp N 1 ∧ HallS E G shp N 44 ∧ HistS E G shp N 87 ∧ (691 < N ∧ shp 691 = ReS E G 6 2 (fun i => 692 + 43 * i)) ∧ (∀ i, i < 2 → HallS E G shp N (692 + 43 * i)) ∧ (778 < N ∧ shp 778 = ArS E 1 2) ∧ DayS E G shp N 779
section SSS
variable {E : Nat → ClassId} {G : Nat → Nat} {shp : Nat → (Nat → Int32) → va_E} {N : Nat}
theorem StoodS.o (h : StoodS E G shp N) : 0 < N ∧ shp 0 = ObS G 5 ksStood := h.1
theorem StoodS.h (h : StoodS E G shp N) : HallS E G shp N 1 := h.2.1
theorem StoodS.t (h : StoodS E G shp N) : HallS E G shp N 44 := h.2.2.1
theorem StoodS.y (h : StoodS E G shp N) : HistS E G shp N 87 := h.2.2.2.1
theorem StoodS.d (h : StoodS E G shp N) : DayS E G shp N 779 := h.2.2.2.2.2.2.2
end SSS
set_option maxRecDepth 100000 in
theorem inX5_requireLine_X5 : ∀ w ∈ wsX50, w ∈ wsX5_requireLine := by decide +kernel
set_option maxHeartbeats 4000000 in
set_option maxRecDepth 100000 in
theorem c_X5_requireLine (lu : Launch) (Dg : va_G) (E : Nat → ClassId) (N : Nat) (G : Nat → Nat) (shp : Nat → (Nat → Int32) → va_E) (σ : Nat → Nat → Int32) (hS : StoodS E G shp N) (c : Nat → Int32) {T : Nat} (hI : Inv T c) {lz : Nat} (hz : lz < tn (c 1))  : CS lu yX5_requireLine wsX5_requireLine { frames := 5, cells := 0, slots := 0, locals := 120 } Dg E N G shp (hs σ 1 c) [.ref (G 0), .int (nI lz)] none (hs σ 1 c) := by
  refine CS.of (cc := cX5_requireLine) (maxL := 2) (ret := none) (by decide) rfl (Nat.le_of_ble_eq_true rfl) ?_
  intro p_ e_ s_ m_ args_ below_ meth_ c_
  refine v_eq (pc' := 0) (st' := []) rfl rfl ?_
  refine v_loc [0, 1] [(0, .ref (G 0)), (1, .int (nI lz))] rfl ?_
  refine v_aload_n 0 dX5_requireLine_0 rfl rfl ?_
  refine u_getr (k := 0) (C := RX5) (T := TX5) (NF := 6) hS.o.1 hS.o.2 rfl rfl inX5_requireLine_X5 (by decide) (by decide +kernel) rfl dX5_requireLine_1 ?_
  refine v_iload_n 1 dX5_requireLine_4 rfl rfl ?_
  refine u_callVv [.int (nI lz)] [] 1 (c_X1_isLine lu Dg E N G shp σ hS.h c hI.nl (by have := hI.nl3; omega) (nI lz)) (ci := 1) (C := RX1) (T := TX1) (NF := 11) hS.h.n hS.h.s rfl gX5_requireLine_X1_isLine rfl rfl rfl (by decide +kernel) rfl ⟨Nat.le_of_ble_eq_true rfl, Nat.le_of_ble_eq_true rfl⟩ ⟨Nat.le_of_ble_eq_true rfl, Nat.le_of_ble_eq_true rfl⟩ (Nat.le_of_ble_eq_true rfl) rfl dX5_requireLine_5 ?_
  refine v_if_neB 22 dX5_requireLine_8 rfl (fun h8 => ?_) (fun h8 => ?_)
  · skip
    refine v_vret rfl dX5_requireLine_22 ⟨rfl, congrArg (φ shp) ?_⟩
    · rfl
  · skip
    exact absurd ⟨lz, hz, rfl⟩ h8
set_option maxRecDepth 100000 in
theorem inX5_requirePerson_X5 : ∀ w ∈ wsX50, w ∈ wsX5_requirePerson := by decide +kernel
set_option maxHeartbeats 4000000 in
set_option maxRecDepth 100000 in
theorem c_X5_requirePerson (lu : Launch) (Dg : va_G) (E : Nat → ClassId) (N : Nat) (G : Nat → Nat) (shp : Nat → (Nat → Int32) → va_E) (σ : Nat → Nat → Int32) (hS : StoodS E G shp N) (c : Nat → Int32) {T : Nat} (hI : Inv T c) {pz : Nat} (hz : pz < tn (c 2))  : CS lu yX5_requirePerson wsX5_requirePerson { frames := 5, cells := 0, slots := 0, locals := 120 } Dg E N G shp (hs σ 1 c) [.ref (G 0), .int (nI pz)] none (hs σ 1 c) := by
  refine CS.of (cc := cX5_requirePerson) (maxL := 2) (ret := none) (by decide) rfl (Nat.le_of_ble_eq_true rfl) ?_
  intro p_ e_ s_ m_ args_ below_ meth_ c_
  refine v_eq (pc' := 0) (st' := []) rfl rfl ?_
  refine v_loc [0, 1] [(0, .ref (G 0)), (1, .int (nI pz))] rfl ?_
  refine v_aload_n 0 dX5_requirePerson_0 rfl rfl ?_
  refine u_getr (k := 0) (C := RX5) (T := TX5) (NF := 6) hS.o.1 hS.o.2 rfl rfl inX5_requirePerson_X5 (by decide) (by decide +kernel) rfl dX5_requirePerson_1 ?_
  refine v_iload_n 1 dX5_requirePerson_4 rfl rfl ?_
  refine u_callVv [.int (nI pz)] [] 1 (c_X1_isPerson lu Dg E N G shp σ hS.h c hI.np (by have := hI.np30; omega) (nI pz)) (ci := 1) (C := RX1) (T := TX1) (NF := 11) hS.h.n hS.h.s rfl gX5_requirePerson_X1_isPerson rfl rfl rfl (by decide +kernel) rfl ⟨Nat.le_of_ble_eq_true rfl, Nat.le_of_ble_eq_true rfl⟩ ⟨Nat.le_of_ble_eq_true rfl, Nat.le_of_ble_eq_true rfl⟩ (Nat.le_of_ble_eq_true rfl) rfl dX5_requirePerson_5 ?_
  refine v_if_neB 22 dX5_requirePerson_8 rfl (fun h8 => ?_) (fun h8 => ?_)
  · skip
    refine v_vret rfl dX5_requirePerson_22 ⟨rfl, congrArg (φ shp) ?_⟩
    · rfl
  · skip
    exact absurd ⟨pz, hz, rfl⟩ h8
set_option maxRecDepth 100000 in
theorem inX5_requireStanding_X5 : ∀ w ∈ wsX50, w ∈ wsX5_requireStanding := by decide +kernel
set_option maxHeartbeats 4000000 in
set_option maxRecDepth 100000 in
theorem c_X5_requireStanding (lu : Launch) (Dg : va_G) (E : Nat → ClassId) (N : Nat) (G : Nat → Nat) (shp : Nat → (Nat → Int32) → va_E) (σ : Nat → Nat → Int32) (hS : StoodS E G shp N) (c : Nat → Int32) {T : Nat} (hI : Inv T c) {pz : Nat} (hz : pz < tn (c 2)) (hsd : c (58 + 10 * pz + 5) = 0)  : CS lu yX5_requireStanding wsX5_requireStanding { frames := 6, cells := 0, slots := 0, locals := 141 } Dg E N G shp (hs σ 1 c) [.ref (G 0), .int (nI pz)] none (hs σ 1 c) := by
  refine CS.of (cc := cX5_requireStanding) (maxL := 2) (ret := none) (by decide) rfl (Nat.le_of_ble_eq_true rfl) ?_
  intro p_ e_ s_ m_ args_ below_ meth_ c_
  refine v_eq (pc' := 0) (st' := []) rfl rfl ?_
  refine v_loc [0, 1] [(0, .ref (G 0)), (1, .int (nI pz))] rfl ?_
  refine v_aload_n 0 dX5_requireStanding_0 rfl rfl ?_
  refine v_iload_n 1 dX5_requireStanding_1 rfl rfl ?_
  refine u_callVn [.int (nI pz)] [] 1 (c_X5_requirePerson lu Dg E N G shp σ hS c hI (pz := pz) hz) (ci := 5) (C := RX5) (T := TX5) (NF := 6) hS.o.1 hS.o.2 rfl gX5_requireStanding_X5_requirePerson rfl rfl rfl (by decide +kernel) rfl ⟨Nat.le_of_ble_eq_true rfl, Nat.le_of_ble_eq_true rfl⟩ ⟨Nat.le_of_ble_eq_true rfl, Nat.le_of_ble_eq_true rfl⟩ (Nat.le_of_ble_eq_true rfl) rfl dX5_requireStanding_2 ?_
  refine v_aload_n 0 dX5_requireStanding_5 rfl rfl ?_
  refine u_getr (k := 0) (C := RX5) (T := TX5) (NF := 6) hS.o.1 hS.o.2 rfl rfl inX5_requireStanding_X5 (by decide) (by decide +kernel) rfl dX5_requireStanding_6 ?_
  refine v_iload_n 1 dX5_requireStanding_9 rfl rfl ?_
  refine u_callVv [.int (nI pz)] [] 1 (c_X1_stands lu Dg E N G shp σ hS.h c hI.np hI.np30 (p := pz) (by have := hI.np30; omega)) (ci := 1) (C := RX1) (T := TX1) (NF := 11) hS.h.n hS.h.s rfl gX5_requireStanding_X1_stands rfl rfl rfl (by decide +kernel) rfl ⟨Nat.le_of_ble_eq_true rfl, Nat.le_of_ble_eq_true rfl⟩ ⟨Nat.le_of_ble_eq_true rfl, Nat.le_of_ble_eq_true rfl⟩ (Nat.le_of_ble_eq_true rfl) rfl dX5_requireStanding_10 ?_
  refine v_if_neB 27 dX5_requireStanding_13 rfl (fun h13 => ?_) (fun h13 => ?_)
  · skip
    refine v_vret rfl dX5_requireStanding_27 ⟨rfl, congrArg (φ shp) ?_⟩
    · rfl
  · skip
    exact absurd ⟨hz, hsd⟩ h13
set_option maxRecDepth 100000 in
theorem inX5_requireTrade_X5 : ∀ w ∈ wsX50, w ∈ wsX5_requireTrade := by decide +kernel
set_option maxHeartbeats 4000000 in
set_option maxRecDepth 100000 in
theorem c_X5_requireTrade (lu : Launch) (Dg : va_G) (E : Nat → ClassId) (N : Nat) (G : Nat → Nat) (shp : Nat → (Nat → Int32) → va_E) (σ : Nat → Nat → Int32) (hS : StoodS E G shp N) (c : Nat → Int32) {T : Nat} (hI : Inv T c) {pz qz : Nat} (hz : pz < tn (c 2)) (hw : qz < tn (c 2)) (hm : MayX c pz qz)  : CS lu yX5_requireTrade wsX5_requireTrade { frames := 6, cells := 0, slots := 0, locals := 141 } Dg E N G shp (hs σ 1 c) [.ref (G 0), .int (nI pz), .int (nI qz)] none (hs σ 1 c) := by
  refine CS.of (cc := cX5_requireTrade) (maxL := 3) (ret := none) (by decide) rfl (Nat.le_of_ble_eq_true rfl) ?_
  intro p_ e_ s_ m_ args_ below_ meth_ c_
  refine v_eq (pc' := 0) (st' := []) rfl rfl ?_
  refine v_loc [0, 1, 2] [(0, .ref (G 0)), (1, .int (nI pz)), (2, .int (nI qz))] rfl ?_
  refine v_aload_n 0 dX5_requireTrade_0 rfl rfl ?_
  refine v_iload_n 1 dX5_requireTrade_1 rfl rfl ?_
  refine u_callVn [.int (nI pz)] [] 1 (c_X5_requirePerson lu Dg E N G shp σ hS c hI (pz := pz) hz) (ci := 5) (C := RX5) (T := TX5) (NF := 6) hS.o.1 hS.o.2 rfl gX5_requireTrade_X5_requirePerson rfl rfl rfl (by decide +kernel) rfl ⟨Nat.le_of_ble_eq_true rfl, Nat.le_of_ble_eq_true rfl⟩ ⟨Nat.le_of_ble_eq_true rfl, Nat.le_of_ble_eq_true rfl⟩ (Nat.le_of_ble_eq_true rfl) rfl dX5_requireTrade_2 ?_
  refine v_aload_n 0 dX5_requireTrade_5 rfl rfl ?_
  refine v_iload_n 2 dX5_requireTrade_6 rfl rfl ?_
  refine u_callVn [.int (nI qz)] [] 1 (c_X5_requirePerson lu Dg E N G shp σ hS c hI (pz := qz) hw) (ci := 5) (C := RX5) (T := TX5) (NF := 6) hS.o.1 hS.o.2 rfl gX5_requireTrade_X5_requirePerson rfl rfl rfl (by decide +kernel) rfl ⟨Nat.le_of_ble_eq_true rfl, Nat.le_of_ble_eq_true rfl⟩ ⟨Nat.le_of_ble_eq_true rfl, Nat.le_of_ble_eq_true rfl⟩ (Nat.le_of_ble_eq_true rfl) rfl dX5_requireTrade_7 ?_
  refine v_aload_n 0 dX5_requireTrade_10 rfl rfl ?_
  refine u_getr (k := 0) (C := RX5) (T := TX5) (NF := 6) hS.o.1 hS.o.2 rfl rfl inX5_requireTrade_X5 (by decide) (by decide +kernel) rfl dX5_requireTrade_11 ?_
  refine v_iload_n 1 dX5_requireTrade_14 rfl rfl ?_
  refine v_iload_n 2 dX5_requireTrade_15 rfl rfl ?_
  refine u_callVv [.int (nI pz), .int (nI qz)] [] 2 (c_X1_mayTrade lu Dg E N G shp σ hS.h c hI (p := pz) (q := qz) (by have := hI.np30; omega) (by have := hI.np30; omega)) (ci := 1) (C := RX1) (T := TX1) (NF := 11) hS.h.n hS.h.s rfl gX5_requireTrade_X1_mayTrade rfl rfl rfl (by decide +kernel) rfl ⟨Nat.le_of_ble_eq_true rfl, Nat.le_of_ble_eq_true rfl⟩ ⟨Nat.le_of_ble_eq_true rfl, Nat.le_of_ble_eq_true rfl⟩ (Nat.le_of_ble_eq_true rfl) rfl dX5_requireTrade_16 ?_
  refine v_if_neB 33 dX5_requireTrade_19 rfl (fun h19 => ?_) (fun h19 => ?_)
  · skip
    refine v_vret rfl dX5_requireTrade_33 ⟨rfl, congrArg (φ shp) ?_⟩
    · rfl
  · skip
    exact absurd ⟨hz, hw, hm⟩ h19
set_option maxRecDepth 100000 in
theorem inX5_requireUnion_X5 : ∀ w ∈ wsX50, w ∈ wsX5_requireUnion := by decide +kernel
set_option maxHeartbeats 4000000 in
set_option maxRecDepth 100000 in
theorem c_X5_requireUnion (lu : Launch) (Dg : va_G) (E : Nat → ClassId) (N : Nat) (G : Nat → Nat) (shp : Nat → (Nat → Int32) → va_E) (σ : Nat → Nat → Int32) (hS : StoodS E G shp N) (c : Nat → Int32) {T : Nat} (hI : Inv T c) {lz oz : Nat} (hz : lz < tn (c 1)) (hw : oz < tn (c 1)) (hm : mergeFl c (nI lz) (nI oz) = 0)  : CS lu yX5_requireUnion wsX5_requireUnion { frames := 6, cells := 0, slots := 0, locals := 141 } Dg E N G shp (hs σ 1 c) [.ref (G 0), .int (nI lz), .int (nI oz)] none (hs σ 1 c) := by
  refine CS.of (cc := cX5_requireUnion) (maxL := 3) (ret := none) (by decide) rfl (Nat.le_of_ble_eq_true rfl) ?_
  intro p_ e_ s_ m_ args_ below_ meth_ c_
  refine v_eq (pc' := 0) (st' := []) rfl rfl ?_
  refine v_loc [0, 1, 2] [(0, .ref (G 0)), (1, .int (nI lz)), (2, .int (nI oz))] rfl ?_
  have hnl3 := hI.nl3
  refine v_aload_n 0 dX5_requireUnion_0 rfl rfl ?_
  refine v_iload_n 1 dX5_requireUnion_1 rfl rfl ?_
  refine u_callVn [.int (nI lz)] [] 1 (c_X5_requireLine lu Dg E N G shp σ hS c hI (lz := lz) hz) (ci := 5) (C := RX5) (T := TX5) (NF := 6) hS.o.1 hS.o.2 rfl gX5_requireUnion_X5_requireLine rfl rfl rfl (by decide +kernel) rfl ⟨Nat.le_of_ble_eq_true rfl, Nat.le_of_ble_eq_true rfl⟩ ⟨Nat.le_of_ble_eq_true rfl, Nat.le_of_ble_eq_true rfl⟩ (Nat.le_of_ble_eq_true rfl) rfl dX5_requireUnion_2 ?_
  refine v_aload_n 0 dX5_requireUnion_5 rfl rfl ?_
  refine v_iload_n 2 dX5_requireUnion_6 rfl rfl ?_
  refine u_callVn [.int (nI oz)] [] 1 (c_X5_requireLine lu Dg E N G shp σ hS c hI (lz := oz) hw) (ci := 5) (C := RX5) (T := TX5) (NF := 6) hS.o.1 hS.o.2 rfl gX5_requireUnion_X5_requireLine rfl rfl rfl (by decide +kernel) rfl ⟨Nat.le_of_ble_eq_true rfl, Nat.le_of_ble_eq_true rfl⟩ ⟨Nat.le_of_ble_eq_true rfl, Nat.le_of_ble_eq_true rfl⟩ (Nat.le_of_ble_eq_true rfl) rfl dX5_requireUnion_7 ?_
  refine v_iload_n 1 dX5_requireUnion_10 rfl rfl ?_
  refine v_iload_n 2 dX5_requireUnion_11 rfl rfl ?_
  refine v_icmp_neN 26 (by omega) (by omega) dX5_requireUnion_12 rfl (fun h12 => ?_) (fun h12 => ?_)
  · skip
    refine v_aload_n 0 dX5_requireUnion_26 rfl rfl ?_
    refine u_getr (k := 0) (C := RX5) (T := TX5) (NF := 6) hS.o.1 hS.o.2 rfl rfl inX5_requireUnion_X5 (by decide) (by decide +kernel) rfl dX5_requireUnion_27 ?_
    refine v_iload_n 1 dX5_requireUnion_30 rfl rfl ?_
    refine v_iload_n 2 dX5_requireUnion_31 rfl rfl ?_
    refine u_callVv [.int (nI lz), .int (nI oz)] [] 2 (c_X1_mayUnite lu Dg E N G shp σ hS.h c hI (y := lz) (o := oz) (by have := hI.nl3; omega) (by have := hI.nl3; omega)) (ci := 1) (C := RX1) (T := TX1) (NF := 11) hS.h.n hS.h.s rfl gX5_requireUnion_X1_mayUnite rfl rfl rfl (by decide +kernel) rfl ⟨Nat.le_of_ble_eq_true rfl, Nat.le_of_ble_eq_true rfl⟩ ⟨Nat.le_of_ble_eq_true rfl, Nat.le_of_ble_eq_true rfl⟩ (Nat.le_of_ble_eq_true rfl) rfl dX5_requireUnion_32 ?_
    refine v_if_neB 49 dX5_requireUnion_35 rfl (fun h35 => ?_) (fun h35 => ?_)
    · skip
      refine v_vret rfl dX5_requireUnion_49 ⟨rfl, congrArg (φ shp) ?_⟩
      · rfl
    · skip
      exact absurd hm h35
  · skip
    exact absurd (congrArg nI h12) (mergeFl_0.mp hm).2.1
