theorem ic_and {α : Type} {P Q : Prop} {x y : α} (h : P) : ic (P ∧ Q) x y = ic Q x y := by
  by_cases q : Q
  · rw [ic_t q, ic_t ⟨h, q⟩]
  · rw [ic_f q, ic_f (fun z => q z.2)]
theorem ic_nand {α : Type} {P Q : Prop} {x y : α} (h : ¬ P) : ic (P ∧ Q) x y = y := ic_f (fun z => h z.1)
theorem ic_same {α : Type} {P : Prop} {x : α} : ic P x x = x := by
  by_cases q : P
  · exact ic_t q
  · exact ic_f q
set_option maxHeartbeats 4000000 in
set_option maxRecDepth 100000 in
/-- succeeds 1 -/
theorem c_X6_succeeds_1 (lu : Launch) (Dg : va_G) (E : Nat → ClassId) (N : Nat) (G : Nat → Nat) (shp : Nat → (Nat → Int32) → va_E) (σ : Nat → Nat → Int32) {b : Nat} (hM : ModS E G shp N b) (f0 f1 f2 f3 f4 f5 f6 : Nat → Int32) {T : Nat} (hI : Inv T f1) {g a c hi lo : Nat} (hg : g < 100000) (ha : g / 1000 % 10 = a) (hc : g / 100 % 10 = c) (hh : g / 100 % 100 = hi) (hl : g % 100 = lo) (hm : g / 10000 = 1)  : CS lu yX6_succeeds wsX6_succeeds { frames := 6, cells := 0, slots := 0, locals := 134 } Dg E N G shp (mk7 σ b f0 f1 f2 f3 f4 f5 f6) [.ref (G b), .int (nI g)] (some (.int (bi (lo = 0 ∧ comeFl f1 (nI a) (nI c) = 0)))) (mk7 σ b f0 (ic (lo = 0 ∧ comeFl f1 (nI a) (nI c) = 0) (comesS f1 a c) f1) f2 f3 f4 f5 f6) := by
  refine CS.of (cc := cX6_succeeds) (maxL := 8) (ret := (some .boolean)) (by decide) rfl (Nat.le_of_ble_eq_true rfl) ?_
  intro p_ e_ s_ m_ args_ below_ meth_ c_
  refine v_eq (pc' := 0) (st' := []) rfl rfl ?_
  refine v_loc [0, 1] [(0, .ref (G b)), (1, .int (nI g))] rfl ?_
  have ha10 : a < 10 := by omega
  have hc10 : c < 10 := by omega
  have hh100 : hi < 100 := by omega
  have hl100 : lo < 100 := by omega
  have hnp30 := hI.np30
  have hnl3 := hI.nl3
  refine v_iload_n 1 dX6_succeeds_0 rfl rfl ?_
  refine v_sipush (nI 1000) dX6_succeeds_1 (by decide +kernel) ?_
  refine v_idivN (by omega) (by omega) (by omega) dX6_succeeds_4 ?_
  refine v_bipush (nI 10) dX6_succeeds_5 (by decide +kernel) ?_
  refine v_iremN (by omega) (by omega) (by omega) dX6_succeeds_7 ?_
  refine v_topi (nI a) (congrArg nI ha) ?_
  refine v_istore_n [(2, .int (nI a)), (0, .ref (G b)), (1, .int (nI g))] dX6_succeeds_8 rfl (by decide) rfl ?_
  refine v_iload_n 2 dX6_succeeds_9 rfl rfl ?_
  refine v_bipush (nI 100) dX6_succeeds_10 (by decide +kernel) ?_
  refine v_idivN (by omega) (by omega) (by omega) dX6_succeeds_12 ?_
  refine v_bipush (nI 10) dX6_succeeds_13 (by decide +kernel) ?_
  refine v_iremN (by omega) (by omega) (by omega) dX6_succeeds_15 ?_
  refine v_topi (nI c) (congrArg nI hc) ?_
  refine v_istore_n [(3, .int (nI c)), (2, .int (nI a)), (0, .ref (G b)), (1, .int (nI g))] dX6_succeeds_16 rfl (by decide) rfl ?_
  refine v_iload_n 3 dX6_succeeds_17 rfl rfl ?_
  refine v_bipush (nI 100) dX6_succeeds_18 (by decide +kernel) ?_
  refine v_idivN (by omega) (by omega) (by omega) dX6_succeeds_20 ?_
  refine v_bipush (nI 100) dX6_succeeds_21 (by decide +kernel) ?_
  refine v_iremN (by omega) (by omega) (by omega) dX6_succeeds_23 ?_
  refine v_topi (nI hi) (congrArg nI hh) ?_
  refine v_istore [(4, .int (nI hi)), (3, .int (nI c)), (2, .int (nI a)), (0, .ref (G b)), (1, .int (nI g))] dX6_succeeds_24 (by decide) rfl ?_
  refine v_iload_n 4 dX6_succeeds_26 rfl rfl ?_
  refine v_bipush (nI 100) dX6_succeeds_27 (by decide +kernel) ?_
  refine v_iremN (by omega) (by omega) (by omega) dX6_succeeds_29 ?_
  refine v_topi (nI lo) (congrArg nI hl) ?_
  refine v_istore [(5, .int (nI lo)), (4, .int (nI hi)), (3, .int (nI c)), (2, .int (nI a)), (0, .ref (G b)), (1, .int (nI g))] dX6_succeeds_30 (by decide) rfl ?_
  refine v_iload_n 5 dX6_succeeds_32 rfl rfl ?_
  refine v_sipush (nI 10000) dX6_succeeds_33 (by decide +kernel) ?_
  refine v_idivN (by omega) (by omega) (by omega) dX6_succeeds_36 ?_
  refine v_topi (nI 1) (congrArg nI hm) ?_
  refine v_tableIn (off := 51) 88 dX6_succeeds_37 (by decide +kernel) (by decide +kernel) (by decide +kernel) rfl ?_
  refine v_iload 0 dX6_succeeds_88 rfl ?_
  refine v_if_neN 108 (by omega) dX6_succeeds_90 rfl (fun h90 => ?_) (fun h90 => ?_)
  · skip
    refine v_iconst (nI 0) dX6_succeeds_108 (by decide +kernel) ?_
    refine v_zret rfl (by decide +kernel) dX6_succeeds_109 ⟨congrArg (fun z => some (Value.int z)) ?_, congrArg (φ shp) ?_⟩
    · exact bi_nf (fun z => by have := z.1; omega)
    · rw [ic_nand (P := lo = 0) (by omega)]
  · skip
    refine v_aload_n 4 dX6_succeeds_93 rfl rfl ?_
    refine v_bipush (nI 99) dX6_succeeds_94 (by decide +kernel) ?_
    refine v_iload_n 2 dX6_succeeds_96 rfl rfl ?_
    refine v_iload_n 3 dX6_succeeds_97 rfl rfl ?_
    refine u_callVv [.int (nI 99), .int (nI c), .int (nI a)] [] 3 (c_X6_carries_c lu Dg E N G shp σ hM f0 f1 f2 f3 f4 f5 f6 hI (y := a) (k0 := c) (by omega)) (ci := 6) (C := RX6) (T := TX6) (NF := 13) hM.n hM.s rfl gX6_succeeds_X6_carries rfl rfl rfl (by decide +kernel) rfl ⟨Nat.le_of_ble_eq_true rfl, Nat.le_of_ble_eq_true rfl⟩ ⟨Nat.le_of_ble_eq_true rfl, Nat.le_of_ble_eq_true rfl⟩ (Nat.le_of_ble_eq_true rfl) rfl dX6_succeeds_98 ?_
    refine v_if_eqB 108 dX6_succeeds_101 rfl (fun h101 => ?_) (fun h101 => ?_)
    · skip
      refine v_iconst (nI 0) dX6_succeeds_108 (by decide +kernel) ?_
      refine v_zret rfl (by decide +kernel) dX6_succeeds_109 ⟨congrArg (fun z => some (Value.int z)) ?_, congrArg (φ shp) ?_⟩
      · exact bi_nf (fun z => h101 z.2)
      · rw [ic_and h90]
    · skip
      refine v_iconst (nI 1) dX6_succeeds_104 (by decide +kernel) ?_
      refine v_goto 109 dX6_succeeds_105 rfl ?_
      refine v_zret rfl (by decide +kernel) dX6_succeeds_109 ⟨congrArg (fun z => some (Value.int z)) ?_, congrArg (φ shp) ?_⟩
      · exact bi_nt ⟨h90, h101⟩
      · rw [ic_and h90]

set_option maxHeartbeats 4000000 in
set_option maxRecDepth 100000 in
/-- succeeds 2 -/
theorem c_X6_succeeds_2 (lu : Launch) (Dg : va_G) (E : Nat → ClassId) (N : Nat) (G : Nat → Nat) (shp : Nat → (Nat → Int32) → va_E) (σ : Nat → Nat → Int32) {b : Nat} (hM : ModS E G shp N b) (f0 f1 f2 f3 f4 f5 f6 : Nat → Int32) {T : Nat} (hI : Inv T f1) {g a c hi lo : Nat} (hg : g < 100000) (ha : g / 1000 % 10 = a) (hc : g / 100 % 10 = c) (hh : g / 100 % 100 = hi) (hl : g % 100 = lo) (hm : g / 10000 = 2)  : CS lu yX6_succeeds wsX6_succeeds { frames := 6, cells := 0, slots := 0, locals := 134 } Dg E N G shp (mk7 σ b f0 f1 f2 f3 f4 f5 f6) [.ref (G b), .int (nI g)] (some (.int (bi (hi = 0 ∧ goFl f1 (nI lo) = 0)))) (mk7 σ b f0 (ic (hi = 0 ∧ goFl f1 (nI lo) = 0) (goesS f1 lo) f1) f2 f3 f4 f5 f6) := by
  refine CS.of (cc := cX6_succeeds) (maxL := 8) (ret := (some .boolean)) (by decide) rfl (Nat.le_of_ble_eq_true rfl) ?_
  intro p_ e_ s_ m_ args_ below_ meth_ c_
  refine v_eq (pc' := 0) (st' := []) rfl rfl ?_
  refine v_loc [0, 1] [(0, .ref (G b)), (1, .int (nI g))] rfl ?_
  have ha10 : a < 10 := by omega
  have hc10 : c < 10 := by omega
  have hh100 : hi < 100 := by omega
  have hl100 : lo < 100 := by omega
  have hnp30 := hI.np30
  have hnl3 := hI.nl3
  refine v_iload_n 1 dX6_succeeds_0 rfl rfl ?_
  refine v_sipush (nI 1000) dX6_succeeds_1 (by decide +kernel) ?_
  refine v_idivN (by omega) (by omega) (by omega) dX6_succeeds_4 ?_
  refine v_bipush (nI 10) dX6_succeeds_5 (by decide +kernel) ?_
  refine v_iremN (by omega) (by omega) (by omega) dX6_succeeds_7 ?_
  refine v_topi (nI a) (congrArg nI ha) ?_
  refine v_istore_n [(2, .int (nI a)), (0, .ref (G b)), (1, .int (nI g))] dX6_succeeds_8 rfl (by decide) rfl ?_
  refine v_iload_n 2 dX6_succeeds_9 rfl rfl ?_
  refine v_bipush (nI 100) dX6_succeeds_10 (by decide +kernel) ?_
  refine v_idivN (by omega) (by omega) (by omega) dX6_succeeds_12 ?_
  refine v_bipush (nI 10) dX6_succeeds_13 (by decide +kernel) ?_
  refine v_iremN (by omega) (by omega) (by omega) dX6_succeeds_15 ?_
  refine v_topi (nI c) (congrArg nI hc) ?_
  refine v_istore_n [(3, .int (nI c)), (2, .int (nI a)), (0, .ref (G b)), (1, .int (nI g))] dX6_succeeds_16 rfl (by decide) rfl ?_
  refine v_iload_n 3 dX6_succeeds_17 rfl rfl ?_
  refine v_bipush (nI 100) dX6_succeeds_18 (by decide +kernel) ?_
  refine v_idivN (by omega) (by omega) (by omega) dX6_succeeds_20 ?_
  refine v_bipush (nI 100) dX6_succeeds_21 (by decide +kernel) ?_
  refine v_iremN (by omega) (by omega) (by omega) dX6_succeeds_23 ?_
  refine v_topi (nI hi) (congrArg nI hh) ?_
  refine v_istore [(4, .int (nI hi)), (3, .int (nI c)), (2, .int (nI a)), (0, .ref (G b)), (1, .int (nI g))] dX6_succeeds_24 (by decide) rfl ?_
  refine v_iload_n 4 dX6_succeeds_26 rfl rfl ?_
  refine v_bipush (nI 100) dX6_succeeds_27 (by decide +kernel) ?_
  refine v_iremN (by omega) (by omega) (by omega) dX6_succeeds_29 ?_
  refine v_topi (nI lo) (congrArg nI hl) ?_
  refine v_istore [(5, .int (nI lo)), (4, .int (nI hi)), (3, .int (nI c)), (2, .int (nI a)), (0, .ref (G b)), (1, .int (nI g))] dX6_succeeds_30 (by decide) rfl ?_
  refine v_iload_n 5 dX6_succeeds_32 rfl rfl ?_
  refine v_sipush (nI 10000) dX6_succeeds_33 (by decide +kernel) ?_
  refine v_idivN (by omega) (by omega) (by omega) dX6_succeeds_36 ?_
  refine v_topi (nI 2) (congrArg nI hm) ?_
  refine v_tableIn (off := 73) 110 dX6_succeeds_37 (by decide +kernel) (by decide +kernel) (by decide +kernel) rfl ?_
  refine v_iload 1 dX6_succeeds_110 rfl ?_
  refine v_if_neN 131 (by omega) dX6_succeeds_112 rfl (fun h112 => ?_) (fun h112 => ?_)
  · skip
    refine v_iconst (nI 0) dX6_succeeds_131 (by decide +kernel) ?_
    refine v_zret rfl (by decide +kernel) dX6_succeeds_132 ⟨congrArg (fun z => some (Value.int z)) ?_, congrArg (φ shp) ?_⟩
    · exact bi_nf (fun z => by have := z.1; omega)
    · rw [ic_nand (P := hi = 0) (by omega)]
  · skip
    refine v_aload_n 4 dX6_succeeds_115 rfl rfl ?_
    refine v_bipush (nI 103) dX6_succeeds_116 (by decide +kernel) ?_
    refine v_iload 0 dX6_succeeds_118 rfl ?_
    refine v_iconst (nI 0) dX6_succeeds_120 (by decide +kernel) ?_
    refine u_callVv [.int (nI 103), .int (nI lo), .int (nI 0)] [] 3 (c_X6_carries_g lu Dg E N G shp σ hM f0 f1 f2 f3 f4 f5 f6 hI (p := lo) (q := 0) (by omega)) (ci := 6) (C := RX6) (T := TX6) (NF := 13) hM.n hM.s rfl gX6_succeeds_X6_carries rfl rfl rfl (by decide +kernel) rfl ⟨Nat.le_of_ble_eq_true rfl, Nat.le_of_ble_eq_true rfl⟩ ⟨Nat.le_of_ble_eq_true rfl, Nat.le_of_ble_eq_true rfl⟩ (Nat.le_of_ble_eq_true rfl) rfl dX6_succeeds_121 ?_
    refine v_if_eqB 131 dX6_succeeds_124 rfl (fun h124 => ?_) (fun h124 => ?_)
    · skip
      refine v_iconst (nI 0) dX6_succeeds_131 (by decide +kernel) ?_
      refine v_zret rfl (by decide +kernel) dX6_succeeds_132 ⟨congrArg (fun z => some (Value.int z)) ?_, congrArg (φ shp) ?_⟩
      · exact bi_nf (fun z => h124 z.2)
      · rw [ic_and h112]
    · skip
      refine v_iconst (nI 1) dX6_succeeds_127 (by decide +kernel) ?_
      refine v_goto 132 dX6_succeeds_128 rfl ?_
      refine v_zret rfl (by decide +kernel) dX6_succeeds_132 ⟨congrArg (fun z => some (Value.int z)) ?_, congrArg (φ shp) ?_⟩
      · exact bi_nt ⟨h112, h124⟩
      · rw [ic_and h112]

set_option maxHeartbeats 4000000 in
set_option maxRecDepth 100000 in
/-- succeeds 3 -/
theorem c_X6_succeeds_3 (lu : Launch) (Dg : va_G) (E : Nat → ClassId) (N : Nat) (G : Nat → Nat) (shp : Nat → (Nat → Int32) → va_E) (σ : Nat → Nat → Int32) {b : Nat} (hM : ModS E G shp N b) (f0 f1 f2 f3 f4 f5 f6 : Nat → Int32) {T : Nat} (hI : Inv T f1) {g a c hi lo : Nat} (hg : g < 100000) (ha : g / 1000 % 10 = a) (hc : g / 100 % 10 = c) (hh : g / 100 % 100 = hi) (hl : g % 100 = lo) (hm : g / 10000 = 3)  : CS lu yX6_succeeds wsX6_succeeds { frames := 6, cells := 0, slots := 0, locals := 134 } Dg E N G shp (mk7 σ b f0 f1 f2 f3 f4 f5 f6) [.ref (G b), .int (nI g)] (some (.int (bi (exchFl f1 (nI hi) (nI lo) = 0)))) (mk7 σ b f0 (ic (exchFl f1 (nI hi) (nI lo) = 0) (exchS f1 hi lo) f1) f2 f3 f4 f5 f6) := by
  refine CS.of (cc := cX6_succeeds) (maxL := 8) (ret := (some .boolean)) (by decide) rfl (Nat.le_of_ble_eq_true rfl) ?_
  intro p_ e_ s_ m_ args_ below_ meth_ c_
  refine v_eq (pc' := 0) (st' := []) rfl rfl ?_
  refine v_loc [0, 1] [(0, .ref (G b)), (1, .int (nI g))] rfl ?_
  have ha10 : a < 10 := by omega
  have hc10 : c < 10 := by omega
  have hh100 : hi < 100 := by omega
  have hl100 : lo < 100 := by omega
  have hnp30 := hI.np30
  have hnl3 := hI.nl3
  refine v_iload_n 1 dX6_succeeds_0 rfl rfl ?_
  refine v_sipush (nI 1000) dX6_succeeds_1 (by decide +kernel) ?_
  refine v_idivN (by omega) (by omega) (by omega) dX6_succeeds_4 ?_
  refine v_bipush (nI 10) dX6_succeeds_5 (by decide +kernel) ?_
  refine v_iremN (by omega) (by omega) (by omega) dX6_succeeds_7 ?_
  refine v_topi (nI a) (congrArg nI ha) ?_
  refine v_istore_n [(2, .int (nI a)), (0, .ref (G b)), (1, .int (nI g))] dX6_succeeds_8 rfl (by decide) rfl ?_
  refine v_iload_n 2 dX6_succeeds_9 rfl rfl ?_
  refine v_bipush (nI 100) dX6_succeeds_10 (by decide +kernel) ?_
  refine v_idivN (by omega) (by omega) (by omega) dX6_succeeds_12 ?_
  refine v_bipush (nI 10) dX6_succeeds_13 (by decide +kernel) ?_
  refine v_iremN (by omega) (by omega) (by omega) dX6_succeeds_15 ?_
  refine v_topi (nI c) (congrArg nI hc) ?_
  refine v_istore_n [(3, .int (nI c)), (2, .int (nI a)), (0, .ref (G b)), (1, .int (nI g))] dX6_succeeds_16 rfl (by decide) rfl ?_
  refine v_iload_n 3 dX6_succeeds_17 rfl rfl ?_
  refine v_bipush (nI 100) dX6_succeeds_18 (by decide +kernel) ?_
  refine v_idivN (by omega) (by omega) (by omega) dX6_succeeds_20 ?_
  refine v_bipush (nI 100) dX6_succeeds_21 (by decide +kernel) ?_
  refine v_iremN (by omega) (by omega) (by omega) dX6_succeeds_23 ?_
  refine v_topi (nI hi) (congrArg nI hh) ?_
  refine v_istore [(4, .int (nI hi)), (3, .int (nI c)), (2, .int (nI a)), (0, .ref (G b)), (1, .int (nI g))] dX6_succeeds_24 (by decide) rfl ?_
  refine v_iload_n 4 dX6_succeeds_26 rfl rfl ?_
  refine v_bipush (nI 100) dX6_succeeds_27 (by decide +kernel) ?_
  refine v_iremN (by omega) (by omega) (by omega) dX6_succeeds_29 ?_
  refine v_topi (nI lo) (congrArg nI hl) ?_
  refine v_istore [(5, .int (nI lo)), (4, .int (nI hi)), (3, .int (nI c)), (2, .int (nI a)), (0, .ref (G b)), (1, .int (nI g))] dX6_succeeds_30 (by decide) rfl ?_
  refine v_iload_n 5 dX6_succeeds_32 rfl rfl ?_
  refine v_sipush (nI 10000) dX6_succeeds_33 (by decide +kernel) ?_
  refine v_idivN (by omega) (by omega) (by omega) dX6_succeeds_36 ?_
  refine v_topi (nI 3) (congrArg nI hm) ?_
  refine v_tableIn (off := 96) 133 dX6_succeeds_37 (by decide +kernel) (by decide +kernel) (by decide +kernel) rfl ?_
  refine v_aload_n 4 dX6_succeeds_133 rfl rfl ?_
  refine v_bipush (nI 120) dX6_succeeds_134 (by decide +kernel) ?_
  refine v_iload 1 dX6_succeeds_136 rfl ?_
  refine v_iload 0 dX6_succeeds_138 rfl ?_
  refine u_callVv [.int (nI 120), .int (nI hi), .int (nI lo)] [] 3 (c_X6_carries_x lu Dg E N G shp σ hM f0 f1 f2 f3 f4 f5 f6 hI (p := hi) (q := lo) (by omega) (by omega)) (ci := 6) (C := RX6) (T := TX6) (NF := 13) hM.n hM.s rfl gX6_succeeds_X6_carries rfl rfl rfl (by decide +kernel) rfl ⟨Nat.le_of_ble_eq_true rfl, Nat.le_of_ble_eq_true rfl⟩ ⟨Nat.le_of_ble_eq_true rfl, Nat.le_of_ble_eq_true rfl⟩ (Nat.le_of_ble_eq_true rfl) rfl dX6_succeeds_140 ?_
  refine v_zret rfl (bi_01 _) dX6_succeeds_143 ⟨congrArg (fun z => some (Value.int z)) ?_, congrArg (φ shp) ?_⟩
  · rfl
  · rfl

set_option maxHeartbeats 4000000 in
set_option maxRecDepth 100000 in
/-- succeeds 4 -/
theorem c_X6_succeeds_4 (lu : Launch) (Dg : va_G) (E : Nat → ClassId) (N : Nat) (G : Nat → Nat) (shp : Nat → (Nat → Int32) → va_E) (σ : Nat → Nat → Int32) {b : Nat} (hM : ModS E G shp N b) (f0 f1 f2 f3 f4 f5 f6 : Nat → Int32) {T : Nat} (hI : Inv T f1) {g a c hi lo : Nat} (hg : g < 100000) (ha : g / 1000 % 10 = a) (hc : g / 100 % 10 = c) (hh : g / 100 % 100 = hi) (hl : g % 100 = lo) (hm : g / 10000 = 4)  : CS lu yX6_succeeds wsX6_succeeds { frames := 6, cells := 0, slots := 0, locals := 134 } Dg E N G shp (mk7 σ b f0 f1 f2 f3 f4 f5 f6) [.ref (G b), .int (nI g)] (some (.int (bi (hi = 0 ∧ jumpFl f1 (nI lo) = 0)))) (mk7 σ b f0 (ic (hi = 0 ∧ jumpFl f1 (nI lo) = 0) (jumpsS f1 lo) f1) f2 f3 f4 f5 f6) := by
  refine CS.of (cc := cX6_succeeds) (maxL := 8) (ret := (some .boolean)) (by decide) rfl (Nat.le_of_ble_eq_true rfl) ?_
  intro p_ e_ s_ m_ args_ below_ meth_ c_
  refine v_eq (pc' := 0) (st' := []) rfl rfl ?_
  refine v_loc [0, 1] [(0, .ref (G b)), (1, .int (nI g))] rfl ?_
  have ha10 : a < 10 := by omega
  have hc10 : c < 10 := by omega
  have hh100 : hi < 100 := by omega
  have hl100 : lo < 100 := by omega
  have hnp30 := hI.np30
  have hnl3 := hI.nl3
  refine v_iload_n 1 dX6_succeeds_0 rfl rfl ?_
  refine v_sipush (nI 1000) dX6_succeeds_1 (by decide +kernel) ?_
  refine v_idivN (by omega) (by omega) (by omega) dX6_succeeds_4 ?_
  refine v_bipush (nI 10) dX6_succeeds_5 (by decide +kernel) ?_
  refine v_iremN (by omega) (by omega) (by omega) dX6_succeeds_7 ?_
  refine v_topi (nI a) (congrArg nI ha) ?_
  refine v_istore_n [(2, .int (nI a)), (0, .ref (G b)), (1, .int (nI g))] dX6_succeeds_8 rfl (by decide) rfl ?_
  refine v_iload_n 2 dX6_succeeds_9 rfl rfl ?_
  refine v_bipush (nI 100) dX6_succeeds_10 (by decide +kernel) ?_
  refine v_idivN (by omega) (by omega) (by omega) dX6_succeeds_12 ?_
  refine v_bipush (nI 10) dX6_succeeds_13 (by decide +kernel) ?_
  refine v_iremN (by omega) (by omega) (by omega) dX6_succeeds_15 ?_
  refine v_topi (nI c) (congrArg nI hc) ?_
  refine v_istore_n [(3, .int (nI c)), (2, .int (nI a)), (0, .ref (G b)), (1, .int (nI g))] dX6_succeeds_16 rfl (by decide) rfl ?_
  refine v_iload_n 3 dX6_succeeds_17 rfl rfl ?_
  refine v_bipush (nI 100) dX6_succeeds_18 (by decide +kernel) ?_
  refine v_idivN (by omega) (by omega) (by omega) dX6_succeeds_20 ?_
  refine v_bipush (nI 100) dX6_succeeds_21 (by decide +kernel) ?_
  refine v_iremN (by omega) (by omega) (by omega) dX6_succeeds_23 ?_
  refine v_topi (nI hi) (congrArg nI hh) ?_
  refine v_istore [(4, .int (nI hi)), (3, .int (nI c)), (2, .int (nI a)), (0, .ref (G b)), (1, .int (nI g))] dX6_succeeds_24 (by decide) rfl ?_
  refine v_iload_n 4 dX6_succeeds_26 rfl rfl ?_
  refine v_bipush (nI 100) dX6_succeeds_27 (by decide +kernel) ?_
  refine v_iremN (by omega) (by omega) (by omega) dX6_succeeds_29 ?_
  refine v_topi (nI lo) (congrArg nI hl) ?_
  refine v_istore [(5, .int (nI lo)), (4, .int (nI hi)), (3, .int (nI c)), (2, .int (nI a)), (0, .ref (G b)), (1, .int (nI g))] dX6_succeeds_30 (by decide) rfl ?_
  refine v_iload_n 5 dX6_succeeds_32 rfl rfl ?_
  refine v_sipush (nI 10000) dX6_succeeds_33 (by decide +kernel) ?_
  refine v_idivN (by omega) (by omega) (by omega) dX6_succeeds_36 ?_
  refine v_topi (nI 4) (congrArg nI hm) ?_
  refine v_tableIn (off := 107) 144 dX6_succeeds_37 (by decide +kernel) (by decide +kernel) (by decide +kernel) rfl ?_
  refine v_iload 1 dX6_succeeds_144 rfl ?_
  refine v_if_neN 165 (by omega) dX6_succeeds_146 rfl (fun h146 => ?_) (fun h146 => ?_)
  · skip
    refine v_iconst (nI 0) dX6_succeeds_165 (by decide +kernel) ?_
    refine v_zret rfl (by decide +kernel) dX6_succeeds_166 ⟨congrArg (fun z => some (Value.int z)) ?_, congrArg (φ shp) ?_⟩
    · exact bi_nf (fun z => by have := z.1; omega)
    · rw [ic_nand (P := hi = 0) (by omega)]
  · skip
    refine v_aload_n 4 dX6_succeeds_149 rfl rfl ?_
    refine v_bipush (nI 106) dX6_succeeds_150 (by decide +kernel) ?_
    refine v_iload 0 dX6_succeeds_152 rfl ?_
    refine v_iconst (nI 0) dX6_succeeds_154 (by decide +kernel) ?_
    refine u_callVv [.int (nI 106), .int (nI lo), .int (nI 0)] [] 3 (c_X6_carries_j lu Dg E N G shp σ hM f0 f1 f2 f3 f4 f5 f6 hI (p := lo) (q := 0) (by omega)) (ci := 6) (C := RX6) (T := TX6) (NF := 13) hM.n hM.s rfl gX6_succeeds_X6_carries rfl rfl rfl (by decide +kernel) rfl ⟨Nat.le_of_ble_eq_true rfl, Nat.le_of_ble_eq_true rfl⟩ ⟨Nat.le_of_ble_eq_true rfl, Nat.le_of_ble_eq_true rfl⟩ (Nat.le_of_ble_eq_true rfl) rfl dX6_succeeds_155 ?_
    refine v_if_eqB 165 dX6_succeeds_158 rfl (fun h158 => ?_) (fun h158 => ?_)
    · skip
      refine v_iconst (nI 0) dX6_succeeds_165 (by decide +kernel) ?_
      refine v_zret rfl (by decide +kernel) dX6_succeeds_166 ⟨congrArg (fun z => some (Value.int z)) ?_, congrArg (φ shp) ?_⟩
      · exact bi_nf (fun z => h158 z.2)
      · rw [ic_and h146]
    · skip
      refine v_iconst (nI 1) dX6_succeeds_161 (by decide +kernel) ?_
      refine v_goto 166 dX6_succeeds_162 rfl ?_
      refine v_zret rfl (by decide +kernel) dX6_succeeds_166 ⟨congrArg (fun z => some (Value.int z)) ?_, congrArg (φ shp) ?_⟩
      · exact bi_nt ⟨h146, h158⟩
      · rw [ic_and h146]

set_option maxHeartbeats 4000000 in
set_option maxRecDepth 100000 in
/-- succeeds 5 -/
theorem c_X6_succeeds_5 (lu : Launch) (Dg : va_G) (E : Nat → ClassId) (N : Nat) (G : Nat → Nat) (shp : Nat → (Nat → Int32) → va_E) (σ : Nat → Nat → Int32) {b : Nat} (hM : ModS E G shp N b) (f0 f1 f2 f3 f4 f5 f6 : Nat → Int32) {T : Nat} (hI : Inv T f1) {g a c hi lo : Nat} (hg : g < 100000) (ha : g / 1000 % 10 = a) (hc : g / 100 % 10 = c) (hh : g / 100 % 100 = hi) (hl : g % 100 = lo) (hm : g / 10000 = 5)  : CS lu yX6_succeeds wsX6_succeeds { frames := 6, cells := 0, slots := 0, locals := 134 } Dg E N G shp (mk7 σ b f0 f1 f2 f3 f4 f5 f6) [.ref (G b), .int (nI g)] (some (.int (bi (lo = 0 ∧ mergeFl f1 (nI a) (nI c) = 0)))) (mk7 σ b f0 (ic (lo = 0 ∧ mergeFl f1 (nI a) (nI c) = 0) (mergesF f1 a c) f1) f2 f3 f4 f5 f6) := by
  refine CS.of (cc := cX6_succeeds) (maxL := 8) (ret := (some .boolean)) (by decide) rfl (Nat.le_of_ble_eq_true rfl) ?_
  intro p_ e_ s_ m_ args_ below_ meth_ c_
  refine v_eq (pc' := 0) (st' := []) rfl rfl ?_
  refine v_loc [0, 1] [(0, .ref (G b)), (1, .int (nI g))] rfl ?_
  have ha10 : a < 10 := by omega
  have hc10 : c < 10 := by omega
  have hh100 : hi < 100 := by omega
  have hl100 : lo < 100 := by omega
  have hnp30 := hI.np30
  have hnl3 := hI.nl3
  refine v_iload_n 1 dX6_succeeds_0 rfl rfl ?_
  refine v_sipush (nI 1000) dX6_succeeds_1 (by decide +kernel) ?_
  refine v_idivN (by omega) (by omega) (by omega) dX6_succeeds_4 ?_
  refine v_bipush (nI 10) dX6_succeeds_5 (by decide +kernel) ?_
  refine v_iremN (by omega) (by omega) (by omega) dX6_succeeds_7 ?_
  refine v_topi (nI a) (congrArg nI ha) ?_
  refine v_istore_n [(2, .int (nI a)), (0, .ref (G b)), (1, .int (nI g))] dX6_succeeds_8 rfl (by decide) rfl ?_
  refine v_iload_n 2 dX6_succeeds_9 rfl rfl ?_
  refine v_bipush (nI 100) dX6_succeeds_10 (by decide +kernel) ?_
  refine v_idivN (by omega) (by omega) (by omega) dX6_succeeds_12 ?_
  refine v_bipush (nI 10) dX6_succeeds_13 (by decide +kernel) ?_
  refine v_iremN (by omega) (by omega) (by omega) dX6_succeeds_15 ?_
  refine v_topi (nI c) (congrArg nI hc) ?_
  refine v_istore_n [(3, .int (nI c)), (2, .int (nI a)), (0, .ref (G b)), (1, .int (nI g))] dX6_succeeds_16 rfl (by decide) rfl ?_
  refine v_iload_n 3 dX6_succeeds_17 rfl rfl ?_
  refine v_bipush (nI 100) dX6_succeeds_18 (by decide +kernel) ?_
  refine v_idivN (by omega) (by omega) (by omega) dX6_succeeds_20 ?_
  refine v_bipush (nI 100) dX6_succeeds_21 (by decide +kernel) ?_
  refine v_iremN (by omega) (by omega) (by omega) dX6_succeeds_23 ?_
  refine v_topi (nI hi) (congrArg nI hh) ?_
  refine v_istore [(4, .int (nI hi)), (3, .int (nI c)), (2, .int (nI a)), (0, .ref (G b)), (1, .int (nI g))] dX6_succeeds_24 (by decide) rfl ?_
  refine v_iload_n 4 dX6_succeeds_26 rfl rfl ?_
  refine v_bipush (nI 100) dX6_succeeds_27 (by decide +kernel) ?_
  refine v_iremN (by omega) (by omega) (by omega) dX6_succeeds_29 ?_
  refine v_topi (nI lo) (congrArg nI hl) ?_
  refine v_istore [(5, .int (nI lo)), (4, .int (nI hi)), (3, .int (nI c)), (2, .int (nI a)), (0, .ref (G b)), (1, .int (nI g))] dX6_succeeds_30 (by decide) rfl ?_
  refine v_iload_n 5 dX6_succeeds_32 rfl rfl ?_
  refine v_sipush (nI 10000) dX6_succeeds_33 (by decide +kernel) ?_
  refine v_idivN (by omega) (by omega) (by omega) dX6_succeeds_36 ?_
  refine v_topi (nI 5) (congrArg nI hm) ?_
  refine v_tableIn (off := 130) 167 dX6_succeeds_37 (by decide +kernel) (by decide +kernel) (by decide +kernel) rfl ?_
  refine v_iload 0 dX6_succeeds_167 rfl ?_
  refine v_if_neN 185 (by omega) dX6_succeeds_169 rfl (fun h169 => ?_) (fun h169 => ?_)
  · skip
    refine v_iconst (nI 0) dX6_succeeds_185 (by decide +kernel) ?_
    refine v_istore [(6, .int (nI 0)), (5, .int (nI lo)), (4, .int (nI hi)), (3, .int (nI c)), (2, .int (nI a)), (0, .ref (G b)), (1, .int (nI g))] dX6_succeeds_186 (by decide) rfl ?_
    refine v_iload 0 dX6_succeeds_188 rfl ?_
    refine v_if_eqN 202 (by omega) dX6_succeeds_190 rfl (fun h190 => ?_) (fun h190 => ?_)
    · skip
      refine v_iconst (nI 0) dX6_succeeds_202 (by decide +kernel) ?_
      refine v_istore [(7, .int (nI 0)), (6, .int (nI 0)), (5, .int (nI lo)), (4, .int (nI hi)), (3, .int (nI c)), (2, .int (nI a)), (0, .ref (G b)), (1, .int (nI g))] dX6_succeeds_203 (by decide) rfl ?_
      refine v_iload 1 dX6_succeeds_205 rfl ?_
      refine v_zret rfl (by decide +kernel) dX6_succeeds_207 ⟨congrArg (fun z => some (Value.int z)) ?_, congrArg (φ shp) ?_⟩
      · first | exact bi_nf (fun z => h169 z.1) | exact bi_nf (fun z => by have := z.2; omega)
      · rw [ic_f (fun z => by have := z.1; have := z.2; omega)]
    · skip
      omega
  · skip
    refine v_aload_n 4 dX6_succeeds_172 rfl rfl ?_
    refine v_iload_n 3 dX6_succeeds_173 rfl rfl ?_
    refine v_iload_n 2 dX6_succeeds_174 rfl rfl ?_
    refine u_callVv [.int (nI a), .int (nI c)] [] 2 (c_X6_mergeFault lu Dg E N G shp σ hM f0 f1 f2 f3 f4 f5 f6 hI (nI a) (nI c)) (ci := 6) (C := RX6) (T := TX6) (NF := 13) hM.n hM.s rfl gX6_succeeds_X6_mergeFault rfl rfl rfl (by decide +kernel) rfl ⟨Nat.le_of_ble_eq_true rfl, Nat.le_of_ble_eq_true rfl⟩ ⟨Nat.le_of_ble_eq_true rfl, Nat.le_of_ble_eq_true rfl⟩ (Nat.le_of_ble_eq_true rfl) rfl dX6_succeeds_175 ?_
    refine v_if_neN 185 (by have := mergeFl_le f1 (nI a) (nI c); omega) dX6_succeeds_178 rfl (fun h178 => ?_) (fun h178 => ?_)
    · skip
      refine v_iconst (nI 0) dX6_succeeds_185 (by decide +kernel) ?_
      refine v_istore [(6, .int (nI 0)), (5, .int (nI lo)), (4, .int (nI hi)), (3, .int (nI c)), (2, .int (nI a)), (0, .ref (G b)), (1, .int (nI g))] dX6_succeeds_186 (by decide) rfl ?_
      refine v_iload 0 dX6_succeeds_188 rfl ?_
      refine v_if_eqN 202 (by omega) dX6_succeeds_190 rfl (fun h190 => ?_) (fun h190 => ?_)
      · skip
        refine v_iconst (nI 0) dX6_succeeds_202 (by decide +kernel) ?_
        refine v_istore [(7, .int (nI 0)), (6, .int (nI 0)), (5, .int (nI lo)), (4, .int (nI hi)), (3, .int (nI c)), (2, .int (nI a)), (0, .ref (G b)), (1, .int (nI g))] dX6_succeeds_203 (by decide) rfl ?_
        refine v_iload 1 dX6_succeeds_205 rfl ?_
        refine v_zret rfl (by decide +kernel) dX6_succeeds_207 ⟨congrArg (fun z => some (Value.int z)) ?_, congrArg (φ shp) ?_⟩
        · first | exact bi_nf (fun z => h169 z.1) | exact bi_nf (fun z => by have := z.2; omega)
        · rw [ic_f (fun z => by have := z.1; have := z.2; omega)]
      · skip
        omega
    · skip
      have hk := merge_ok hI (by omega) (by omega) h178
      refine v_iconst (nI 1) dX6_succeeds_181 (by decide +kernel) ?_
      refine v_goto 186 dX6_succeeds_182 rfl ?_
      refine v_istore [(6, .int (nI 1)), (5, .int (nI lo)), (4, .int (nI hi)), (3, .int (nI c)), (2, .int (nI a)), (0, .ref (G b)), (1, .int (nI g))] dX6_succeeds_186 (by decide) rfl ?_
      refine v_iload 0 dX6_succeeds_188 rfl ?_
      refine v_if_eqN 202 (by omega) dX6_succeeds_190 rfl (fun h190 => ?_) (fun h190 => ?_)
      · skip
        omega
      · skip
        refine v_aload_n 5 dX6_succeeds_193 rfl rfl ?_
        refine v_iload_n 4 dX6_succeeds_194 rfl rfl ?_
        refine v_iload_n 3 dX6_succeeds_195 rfl rfl ?_
        refine u_callVv [.int (nI a), .int (nI c)] [] 2 (c_X6_merges lu Dg E N G shp σ hM f0 f1 f2 f3 f4 f5 f6 hI hk.1 hk.2.1 hk.2.2.1 hk.2.2.2) (ci := 6) (C := RX6) (T := TX6) (NF := 13) hM.n hM.s rfl gX6_succeeds_X6_merges rfl rfl rfl (by decide +kernel) rfl ⟨Nat.le_of_ble_eq_true rfl, Nat.le_of_ble_eq_true rfl⟩ ⟨Nat.le_of_ble_eq_true rfl, Nat.le_of_ble_eq_true rfl⟩ (Nat.le_of_ble_eq_true rfl) rfl dX6_succeeds_196 ?_
        refine v_goto 203 dX6_succeeds_199 rfl ?_
        refine v_istore [(7, .int (nI (tn (f1 (13 + a)) + tn (f1 (13 + c))))), (6, .int (nI 1)), (5, .int (nI lo)), (4, .int (nI hi)), (3, .int (nI c)), (2, .int (nI a)), (0, .ref (G b)), (1, .int (nI g))] dX6_succeeds_203 (by decide) rfl ?_
        refine v_iload 1 dX6_succeeds_205 rfl ?_
        refine v_zret rfl (by decide +kernel) dX6_succeeds_207 ⟨congrArg (fun z => some (Value.int z)) ?_, congrArg (φ shp) ?_⟩
        · exact bi_nt ⟨h169, h178⟩
        · rw [ic_t ⟨h169, h178⟩]

set_option maxHeartbeats 4000000 in
set_option maxRecDepth 100000 in
/-- succeeds 6 -/
theorem c_X6_succeeds_6 (lu : Launch) (Dg : va_G) (E : Nat → ClassId) (N : Nat) (G : Nat → Nat) (shp : Nat → (Nat → Int32) → va_E) (σ : Nat → Nat → Int32) {b : Nat} (hM : ModS E G shp N b) (f0 f1 f2 f3 f4 f5 f6 : Nat → Int32) {T : Nat} (hI : Inv T f1) {g a c hi lo : Nat} (hg : g < 100000) (ha : g / 1000 % 10 = a) (hc : g / 100 % 10 = c) (hh : g / 100 % 100 = hi) (hl : g % 100 = lo) (hm : g / 10000 = 6) (hJ : ∀ k, k < 60 → ∃ T, Inv T (goByS f1 k))  : CS lu yX6_succeeds wsX6_succeeds { frames := 6, cells := 0, slots := 0, locals := 134 } Dg E N G shp (mk7 σ b f0 f1 f2 f3 f4 f5 f6) [.ref (G b), .int (nI g)] (some (.int (bi (hi = 0 ∧ 1 ≤ lo ∧ lo ≤ 60)))) (mk7 σ b f0 (ic (hi = 0 ∧ 1 ≤ lo ∧ lo ≤ 60) (goByS f1 lo) f1) f2 f3 f4 f5 f6) := by
  refine CS.of (cc := cX6_succeeds) (maxL := 8) (ret := (some .boolean)) (by decide) rfl (Nat.le_of_ble_eq_true rfl) ?_
  intro p_ e_ s_ m_ args_ below_ meth_ c_
  refine v_eq (pc' := 0) (st' := []) rfl rfl ?_
  refine v_loc [0, 1] [(0, .ref (G b)), (1, .int (nI g))] rfl ?_
  have ha10 : a < 10 := by omega
  have hc10 : c < 10 := by omega
  have hh100 : hi < 100 := by omega
  have hl100 : lo < 100 := by omega
  have hnp30 := hI.np30
  have hnl3 := hI.nl3
  refine v_iload_n 1 dX6_succeeds_0 rfl rfl ?_
  refine v_sipush (nI 1000) dX6_succeeds_1 (by decide +kernel) ?_
  refine v_idivN (by omega) (by omega) (by omega) dX6_succeeds_4 ?_
  refine v_bipush (nI 10) dX6_succeeds_5 (by decide +kernel) ?_
  refine v_iremN (by omega) (by omega) (by omega) dX6_succeeds_7 ?_
  refine v_topi (nI a) (congrArg nI ha) ?_
  refine v_istore_n [(2, .int (nI a)), (0, .ref (G b)), (1, .int (nI g))] dX6_succeeds_8 rfl (by decide) rfl ?_
  refine v_iload_n 2 dX6_succeeds_9 rfl rfl ?_
  refine v_bipush (nI 100) dX6_succeeds_10 (by decide +kernel) ?_
  refine v_idivN (by omega) (by omega) (by omega) dX6_succeeds_12 ?_
  refine v_bipush (nI 10) dX6_succeeds_13 (by decide +kernel) ?_
  refine v_iremN (by omega) (by omega) (by omega) dX6_succeeds_15 ?_
  refine v_topi (nI c) (congrArg nI hc) ?_
  refine v_istore_n [(3, .int (nI c)), (2, .int (nI a)), (0, .ref (G b)), (1, .int (nI g))] dX6_succeeds_16 rfl (by decide) rfl ?_
  refine v_iload_n 3 dX6_succeeds_17 rfl rfl ?_
  refine v_bipush (nI 100) dX6_succeeds_18 (by decide +kernel) ?_
  refine v_idivN (by omega) (by omega) (by omega) dX6_succeeds_20 ?_
  refine v_bipush (nI 100) dX6_succeeds_21 (by decide +kernel) ?_
  refine v_iremN (by omega) (by omega) (by omega) dX6_succeeds_23 ?_
  refine v_topi (nI hi) (congrArg nI hh) ?_
  refine v_istore [(4, .int (nI hi)), (3, .int (nI c)), (2, .int (nI a)), (0, .ref (G b)), (1, .int (nI g))] dX6_succeeds_24 (by decide) rfl ?_
  refine v_iload_n 4 dX6_succeeds_26 rfl rfl ?_
  refine v_bipush (nI 100) dX6_succeeds_27 (by decide +kernel) ?_
  refine v_iremN (by omega) (by omega) (by omega) dX6_succeeds_29 ?_
  refine v_topi (nI lo) (congrArg nI hl) ?_
  refine v_istore [(5, .int (nI lo)), (4, .int (nI hi)), (3, .int (nI c)), (2, .int (nI a)), (0, .ref (G b)), (1, .int (nI g))] dX6_succeeds_30 (by decide) rfl ?_
  refine v_iload_n 5 dX6_succeeds_32 rfl rfl ?_
  refine v_sipush (nI 10000) dX6_succeeds_33 (by decide +kernel) ?_
  refine v_idivN (by omega) (by omega) (by omega) dX6_succeeds_36 ?_
  refine v_topi (nI 6) (congrArg nI hm) ?_
  refine v_tableIn (off := 171) 208 dX6_succeeds_37 (by decide +kernel) (by decide +kernel) (by decide +kernel) rfl ?_
  refine v_iload 1 dX6_succeeds_208 rfl ?_
  refine v_if_neN 240 (by omega) dX6_succeeds_210 rfl (fun h210 => ?_) (fun h210 => ?_)
  · skip
    refine v_iconst (nI 0) dX6_succeeds_240 (by decide +kernel) ?_
    refine v_zret rfl (by decide +kernel) dX6_succeeds_241 ⟨congrArg (fun z => some (Value.int z)) ?_, congrArg (φ shp) ?_⟩
    · exact bi_nf (fun z => by first | (have := z.1; omega) | exact h221 ⟨(nI_leI (by omega) (by omega)).mpr z.2.1, (nI_leI (by omega) (by omega)).mpr z.2.2⟩)
    · rw [ic_f (fun z => by first | (have := z.1; omega) | exact h221 ⟨(nI_leI (by omega) (by omega)).mpr z.2.1, (nI_leI (by omega) (by omega)).mpr z.2.2⟩)]
  · skip
    refine v_iload 0 dX6_succeeds_213 rfl ?_
    refine v_iconst (nI 1) dX6_succeeds_215 (by decide +kernel) ?_
    refine v_bipush (nI 60) dX6_succeeds_216 (by decide +kernel) ?_
    refine u_callSv [.int (nI lo), .int (nI 1), .int (nI 60)] [] 3 (c_X6_in lu Dg E N G shp (mk7 σ b f0 f1 f2 f3 f4 f5 f6) (nI lo) (nI 1) (nI 60)) gX6_succeeds_X6_in rfl rfl rfl (by decide +kernel) rfl ⟨Nat.le_of_ble_eq_true rfl, Nat.le_of_ble_eq_true rfl⟩ ⟨Nat.le_of_ble_eq_true rfl, Nat.le_of_ble_eq_true rfl⟩ (Nat.le_of_ble_eq_true rfl) rfl dX6_succeeds_218 ?_
    refine v_if_eqB 240 dX6_succeeds_221 rfl (fun h221 => ?_) (fun h221 => ?_)
    · skip
      refine v_iconst (nI 0) dX6_succeeds_240 (by decide +kernel) ?_
      refine v_zret rfl (by decide +kernel) dX6_succeeds_241 ⟨congrArg (fun z => some (Value.int z)) ?_, congrArg (φ shp) ?_⟩
      · exact bi_nf (fun z => by first | (have := z.1; omega) | exact h221 ⟨(nI_leI (by omega) (by omega)).mpr z.2.1, (nI_leI (by omega) (by omega)).mpr z.2.2⟩)
      · rw [ic_f (fun z => by first | (have := z.1; omega) | exact h221 ⟨(nI_leI (by omega) (by omega)).mpr z.2.1, (nI_leI (by omega) (by omega)).mpr z.2.2⟩)]
    · skip
      refine v_aload_n 4 dX6_succeeds_224 rfl rfl ?_
      refine v_bipush (nI 116) dX6_succeeds_225 (by decide +kernel) ?_
      refine v_iload 0 dX6_succeeds_227 rfl ?_
      refine v_iconst (nI 0) dX6_succeeds_229 (by decide +kernel) ?_
      refine u_callVv [.int (nI 116), .int (nI lo), .int (nI 0)] [] 3 (c_X6_carries_t lu Dg E N G shp σ hM f0 f1 f2 f3 f4 f5 f6 (n0 := lo) (q := 0) (by omega) (fun k hk => hJ k (by have := (nI_leI (by omega) (by omega)).mp h221.2; omega))) (ci := 6) (C := RX6) (T := TX6) (NF := 13) hM.n hM.s rfl gX6_succeeds_X6_carries rfl rfl rfl (by decide +kernel) rfl ⟨Nat.le_of_ble_eq_true rfl, Nat.le_of_ble_eq_true rfl⟩ ⟨Nat.le_of_ble_eq_true rfl, Nat.le_of_ble_eq_true rfl⟩ (Nat.le_of_ble_eq_true rfl) rfl dX6_succeeds_230 ?_
      refine v_if_eqN 240 (by omega) dX6_succeeds_233 rfl (fun h233 => ?_) (fun h233 => ?_)
      · skip
        omega
      · skip
        refine v_iconst (nI 1) dX6_succeeds_236 (by decide +kernel) ?_
        refine v_goto 241 dX6_succeeds_237 rfl ?_
        refine v_zret rfl (by decide +kernel) dX6_succeeds_241 ⟨congrArg (fun z => some (Value.int z)) ?_, congrArg (φ shp) ?_⟩
        · exact bi_nt ⟨h210, (show 1 ≤ lo ∧ lo ≤ 60 from ⟨(nI_leI (by omega) (by omega)).mp h221.1, (nI_leI (by omega) (by omega)).mp h221.2⟩)⟩
        · rw [ic_t ⟨h210, (show 1 ≤ lo ∧ lo ≤ 60 from ⟨(nI_leI (by omega) (by omega)).mp h221.1, (nI_leI (by omega) (by omega)).mp h221.2⟩)⟩]

set_option maxRecDepth 100000 in
theorem inX6_succeeds_X6 : ∀ w ∈ wsX60, w ∈ wsX6_succeeds := by decide +kernel
set_option maxHeartbeats 4000000 in
set_option maxRecDepth 100000 in
/-- succeeds 7 -/
theorem c_X6_succeeds_7 (lu : Launch) (Dg : va_G) (E : Nat → ClassId) (N : Nat) (G : Nat → Nat) (shp : Nat → (Nat → Int32) → va_E) (σ : Nat → Nat → Int32) {b : Nat} (hM : ModS E G shp N b) (f0 f1 f2 f3 f4 f5 f6 : Nat → Int32) {T : Nat} (hI : Inv T f1) {g a c hi lo : Nat} (hg : g < 100000) (ha : g / 1000 % 10 = a) (hc : g / 100 % 10 = c) (hh : g / 100 % 100 = hi) (hl : g % 100 = lo) (hm : g / 10000 = 7)  : CS lu yX6_succeeds wsX6_succeeds { frames := 6, cells := 0, slots := 0, locals := 134 } Dg E N G shp (mk7 σ b f0 f1 f2 f3 f4 f5 f6) [.ref (G b), .int (nI g)] (some (.int (bi (hi = 0 ∧ Rg (tn (f1 2)) (nI lo) ∧ f1 (58 + 10 * lo + 5) = nI 1)))) (mk7 σ b f0 f1 f2 f3 f4 f5 f6) := by
  refine CS.of (cc := cX6_succeeds) (maxL := 8) (ret := (some .boolean)) (by decide) rfl (Nat.le_of_ble_eq_true rfl) ?_
  intro p_ e_ s_ m_ args_ below_ meth_ c_
  refine v_eq (pc' := 0) (st' := []) rfl rfl ?_
  refine v_loc [0, 1] [(0, .ref (G b)), (1, .int (nI g))] rfl ?_
  have ha10 : a < 10 := by omega
  have hc10 : c < 10 := by omega
  have hh100 : hi < 100 := by omega
  have hl100 : lo < 100 := by omega
  have hnp30 := hI.np30
  have hnl3 := hI.nl3
  refine v_iload_n 1 dX6_succeeds_0 rfl rfl ?_
  refine v_sipush (nI 1000) dX6_succeeds_1 (by decide +kernel) ?_
  refine v_idivN (by omega) (by omega) (by omega) dX6_succeeds_4 ?_
  refine v_bipush (nI 10) dX6_succeeds_5 (by decide +kernel) ?_
  refine v_iremN (by omega) (by omega) (by omega) dX6_succeeds_7 ?_
  refine v_topi (nI a) (congrArg nI ha) ?_
  refine v_istore_n [(2, .int (nI a)), (0, .ref (G b)), (1, .int (nI g))] dX6_succeeds_8 rfl (by decide) rfl ?_
  refine v_iload_n 2 dX6_succeeds_9 rfl rfl ?_
  refine v_bipush (nI 100) dX6_succeeds_10 (by decide +kernel) ?_
  refine v_idivN (by omega) (by omega) (by omega) dX6_succeeds_12 ?_
  refine v_bipush (nI 10) dX6_succeeds_13 (by decide +kernel) ?_
  refine v_iremN (by omega) (by omega) (by omega) dX6_succeeds_15 ?_
  refine v_topi (nI c) (congrArg nI hc) ?_
  refine v_istore_n [(3, .int (nI c)), (2, .int (nI a)), (0, .ref (G b)), (1, .int (nI g))] dX6_succeeds_16 rfl (by decide) rfl ?_
  refine v_iload_n 3 dX6_succeeds_17 rfl rfl ?_
  refine v_bipush (nI 100) dX6_succeeds_18 (by decide +kernel) ?_
  refine v_idivN (by omega) (by omega) (by omega) dX6_succeeds_20 ?_
  refine v_bipush (nI 100) dX6_succeeds_21 (by decide +kernel) ?_
  refine v_iremN (by omega) (by omega) (by omega) dX6_succeeds_23 ?_
  refine v_topi (nI hi) (congrArg nI hh) ?_
  refine v_istore [(4, .int (nI hi)), (3, .int (nI c)), (2, .int (nI a)), (0, .ref (G b)), (1, .int (nI g))] dX6_succeeds_24 (by decide) rfl ?_
  refine v_iload_n 4 dX6_succeeds_26 rfl rfl ?_
  refine v_bipush (nI 100) dX6_succeeds_27 (by decide +kernel) ?_
  refine v_iremN (by omega) (by omega) (by omega) dX6_succeeds_29 ?_
  refine v_topi (nI lo) (congrArg nI hl) ?_
  refine v_istore [(5, .int (nI lo)), (4, .int (nI hi)), (3, .int (nI c)), (2, .int (nI a)), (0, .ref (G b)), (1, .int (nI g))] dX6_succeeds_30 (by decide) rfl ?_
  refine v_iload_n 5 dX6_succeeds_32 rfl rfl ?_
  refine v_sipush (nI 10000) dX6_succeeds_33 (by decide +kernel) ?_
  refine v_idivN (by omega) (by omega) (by omega) dX6_succeeds_36 ?_
  refine v_topi (nI 7) (congrArg nI hm) ?_
  refine v_tableIn (off := 205) 242 dX6_succeeds_37 (by decide +kernel) (by decide +kernel) (by decide +kernel) rfl ?_
  refine v_iload 1 dX6_succeeds_242 rfl ?_
  refine v_if_neN 275 (by omega) dX6_succeeds_244 rfl (fun h244 => ?_) (fun h244 => ?_)
  · skip
    refine v_iconst (nI 0) dX6_succeeds_275 (by decide +kernel) ?_
    refine v_zret rfl (by decide +kernel) dX6_succeeds_276 ⟨congrArg (fun z => some (Value.int z)) ?_, congrArg (φ shp) ?_⟩
    · exact bi_nf (fun z => by first | (have := z.1; omega) | exact h253 z.2.1 | exact h268 z.2.2)
    · rfl
  · skip
    refine v_aload_n 4 dX6_succeeds_247 rfl rfl ?_
    refine v_iload 0 dX6_succeeds_248 rfl ?_
    refine u_callVv [.int (nI lo)] [] 1 (c_X6_isPerson lu Dg E N G shp σ hM f0 f1 f2 f3 f4 f5 f6 hI.np (by have := hI.np30; omega) (nI lo)) (ci := 6) (C := RX6) (T := TX6) (NF := 13) hM.n hM.s rfl gX6_succeeds_X6_isPerson rfl rfl rfl (by decide +kernel) rfl ⟨Nat.le_of_ble_eq_true rfl, Nat.le_of_ble_eq_true rfl⟩ ⟨Nat.le_of_ble_eq_true rfl, Nat.le_of_ble_eq_true rfl⟩ (Nat.le_of_ble_eq_true rfl) rfl dX6_succeeds_250 ?_
    refine v_if_eqB 275 dX6_succeeds_253 rfl (fun h253 => ?_) (fun h253 => ?_)
    · skip
      refine v_iconst (nI 0) dX6_succeeds_275 (by decide +kernel) ?_
      refine v_zret rfl (by decide +kernel) dX6_succeeds_276 ⟨congrArg (fun z => some (Value.int z)) ?_, congrArg (φ shp) ?_⟩
      · exact bi_nf (fun z => by first | (have := z.1; omega) | exact h253 z.2.1 | exact h268 z.2.2)
      · rfl
    · skip
      have hlp := (Rg_nI (by omega) (by omega)).mp h253
      refine v_aload_n 4 dX6_succeeds_256 rfl rfl ?_
      refine u_getr (k := 1) (C := RX6) (T := TX6) (NF := 13) hM.n hM.s rfl rfl inX6_succeeds_X6 (by decide) (by decide +kernel) rfl dX6_succeeds_257 ?_
      refine v_iload 0 dX6_succeeds_260 rfl ?_
      refine v_iconst (nI 5) dX6_succeeds_262 (by decide +kernel) ?_
      refine u_callSv [.int (nI lo), .int (nI 5)] [.ref (G (b + 1))] 2 (c_X6_of lu Dg E N G shp (mk7 σ b f0 f1 f2 f3 f4 f5 f6) lo 5) gX6_succeeds_X6_of rfl rfl rfl (by decide +kernel) rfl ⟨Nat.le_of_ble_eq_true rfl, Nat.le_of_ble_eq_true rfl⟩ ⟨Nat.le_of_ble_eq_true rfl, Nat.le_of_ble_eq_true rfl⟩ (Nat.le_of_ble_eq_true rfl) rfl dX6_succeeds_263 ?_
      refine m_ld1 (58 + 10 * lo + 5) hM (rfl) (by omega) dX6_succeeds_266 ?_
      refine v_iconst (nI 1) dX6_succeeds_267 (by decide +kernel) ?_
      refine v_icmp_ne 275 dX6_succeeds_268 rfl (fun h268 => ?_) (fun h268 => ?_)
      · skip
        refine v_iconst (nI 0) dX6_succeeds_275 (by decide +kernel) ?_
        refine v_zret rfl (by decide +kernel) dX6_succeeds_276 ⟨congrArg (fun z => some (Value.int z)) ?_, congrArg (φ shp) ?_⟩
        · exact bi_nf (fun z => by first | (have := z.1; omega) | exact h253 z.2.1 | exact h268 z.2.2)
        · rfl
      · skip
        refine v_iconst (nI 1) dX6_succeeds_271 (by decide +kernel) ?_
        refine v_goto 276 dX6_succeeds_272 rfl ?_
        refine v_zret rfl (by decide +kernel) dX6_succeeds_276 ⟨congrArg (fun z => some (Value.int z)) ?_, congrArg (φ shp) ?_⟩
        · exact bi_nt ⟨h244, h253, h268⟩
        · rfl

set_option maxHeartbeats 4000000 in
set_option maxRecDepth 100000 in
/-- succeeds 8 -/
theorem c_X6_succeeds_8 (lu : Launch) (Dg : va_G) (E : Nat → ClassId) (N : Nat) (G : Nat → Nat) (shp : Nat → (Nat → Int32) → va_E) (σ : Nat → Nat → Int32) {b : Nat} (hM : ModS E G shp N b) (f0 f1 f2 f3 f4 f5 f6 : Nat → Int32) {T : Nat} (hI : Inv T f1) {g a c hi lo : Nat} (hg : g < 100000) (ha : g / 1000 % 10 = a) (hc : g / 100 % 10 = c) (hh : g / 100 % 100 = hi) (hl : g % 100 = lo) (hm : g / 10000 = 8)  : CS lu yX6_succeeds wsX6_succeeds { frames := 6, cells := 0, slots := 0, locals := 134 } Dg E N G shp (mk7 σ b f0 f1 f2 f3 f4 f5 f6) [.ref (G b), .int (nI g)] (some (.int (bi (Rg (tn (f1 2)) (nI hi) ∧ f1 (58 + 10 * hi + 5) = 0 ∧ plc f1 hi = lo)))) (mk7 σ b f0 f1 f2 f3 f4 f5 f6) := by
  refine CS.of (cc := cX6_succeeds) (maxL := 8) (ret := (some .boolean)) (by decide) rfl (Nat.le_of_ble_eq_true rfl) ?_
  intro p_ e_ s_ m_ args_ below_ meth_ c_
  refine v_eq (pc' := 0) (st' := []) rfl rfl ?_
  refine v_loc [0, 1] [(0, .ref (G b)), (1, .int (nI g))] rfl ?_
  have ha10 : a < 10 := by omega
  have hc10 : c < 10 := by omega
  have hh100 : hi < 100 := by omega
  have hl100 : lo < 100 := by omega
  have hnp30 := hI.np30
  have hnl3 := hI.nl3
  refine v_iload_n 1 dX6_succeeds_0 rfl rfl ?_
  refine v_sipush (nI 1000) dX6_succeeds_1 (by decide +kernel) ?_
  refine v_idivN (by omega) (by omega) (by omega) dX6_succeeds_4 ?_
  refine v_bipush (nI 10) dX6_succeeds_5 (by decide +kernel) ?_
  refine v_iremN (by omega) (by omega) (by omega) dX6_succeeds_7 ?_
  refine v_topi (nI a) (congrArg nI ha) ?_
  refine v_istore_n [(2, .int (nI a)), (0, .ref (G b)), (1, .int (nI g))] dX6_succeeds_8 rfl (by decide) rfl ?_
  refine v_iload_n 2 dX6_succeeds_9 rfl rfl ?_
  refine v_bipush (nI 100) dX6_succeeds_10 (by decide +kernel) ?_
  refine v_idivN (by omega) (by omega) (by omega) dX6_succeeds_12 ?_
  refine v_bipush (nI 10) dX6_succeeds_13 (by decide +kernel) ?_
  refine v_iremN (by omega) (by omega) (by omega) dX6_succeeds_15 ?_
  refine v_topi (nI c) (congrArg nI hc) ?_
  refine v_istore_n [(3, .int (nI c)), (2, .int (nI a)), (0, .ref (G b)), (1, .int (nI g))] dX6_succeeds_16 rfl (by decide) rfl ?_
  refine v_iload_n 3 dX6_succeeds_17 rfl rfl ?_
  refine v_bipush (nI 100) dX6_succeeds_18 (by decide +kernel) ?_
  refine v_idivN (by omega) (by omega) (by omega) dX6_succeeds_20 ?_
  refine v_bipush (nI 100) dX6_succeeds_21 (by decide +kernel) ?_
  refine v_iremN (by omega) (by omega) (by omega) dX6_succeeds_23 ?_
  refine v_topi (nI hi) (congrArg nI hh) ?_
  refine v_istore [(4, .int (nI hi)), (3, .int (nI c)), (2, .int (nI a)), (0, .ref (G b)), (1, .int (nI g))] dX6_succeeds_24 (by decide) rfl ?_
  refine v_iload_n 4 dX6_succeeds_26 rfl rfl ?_
  refine v_bipush (nI 100) dX6_succeeds_27 (by decide +kernel) ?_
  refine v_iremN (by omega) (by omega) (by omega) dX6_succeeds_29 ?_
  refine v_topi (nI lo) (congrArg nI hl) ?_
  refine v_istore [(5, .int (nI lo)), (4, .int (nI hi)), (3, .int (nI c)), (2, .int (nI a)), (0, .ref (G b)), (1, .int (nI g))] dX6_succeeds_30 (by decide) rfl ?_
  refine v_iload_n 5 dX6_succeeds_32 rfl rfl ?_
  refine v_sipush (nI 10000) dX6_succeeds_33 (by decide +kernel) ?_
  refine v_idivN (by omega) (by omega) (by omega) dX6_succeeds_36 ?_
  refine v_topi (nI 8) (congrArg nI hm) ?_
  refine v_tableIn (off := 240) 277 dX6_succeeds_37 (by decide +kernel) (by decide +kernel) (by decide +kernel) rfl ?_
  refine v_aload_n 4 dX6_succeeds_277 rfl rfl ?_
  refine v_iload 1 dX6_succeeds_278 rfl ?_
  refine u_callVv [.int (nI hi)] [] 1 (c_X6_isPerson lu Dg E N G shp σ hM f0 f1 f2 f3 f4 f5 f6 hI.np (by have := hI.np30; omega) (nI hi)) (ci := 6) (C := RX6) (T := TX6) (NF := 13) hM.n hM.s rfl gX6_succeeds_X6_isPerson rfl rfl rfl (by decide +kernel) rfl ⟨Nat.le_of_ble_eq_true rfl, Nat.le_of_ble_eq_true rfl⟩ ⟨Nat.le_of_ble_eq_true rfl, Nat.le_of_ble_eq_true rfl⟩ (Nat.le_of_ble_eq_true rfl) rfl dX6_succeeds_280 ?_
  refine v_if_eqB 310 dX6_succeeds_283 rfl (fun h283 => ?_) (fun h283 => ?_)
  · skip
    refine v_iconst (nI 0) dX6_succeeds_310 (by decide +kernel) ?_
    refine v_zret rfl (by decide +kernel) dX6_succeeds_311 ⟨congrArg (fun z => some (Value.int z)) ?_, congrArg (φ shp) ?_⟩
    · exact bi_nf (fun z => by first | exact h283 z.1 | exact h292 z.2.1 | exact h303 z.2.2)
    · rfl
  · skip
    have hlp := (Rg_nI (by omega) (by omega)).mp h283
    refine v_aload_n 4 dX6_succeeds_286 rfl rfl ?_
    refine v_iload 1 dX6_succeeds_287 rfl ?_
    refine u_callVv [.int (nI hi)] [] 1 (c_X6_isStanding lu Dg E N G shp σ hM f0 f1 f2 f3 f4 f5 f6 hi (by omega)) (ci := 6) (C := RX6) (T := TX6) (NF := 13) hM.n hM.s rfl gX6_succeeds_X6_isStanding rfl rfl rfl (by decide +kernel) rfl ⟨Nat.le_of_ble_eq_true rfl, Nat.le_of_ble_eq_true rfl⟩ ⟨Nat.le_of_ble_eq_true rfl, Nat.le_of_ble_eq_true rfl⟩ (Nat.le_of_ble_eq_true rfl) rfl dX6_succeeds_289 ?_
    refine v_if_eqB 310 dX6_succeeds_292 rfl (fun h292 => ?_) (fun h292 => ?_)
    · skip
      refine v_iconst (nI 0) dX6_succeeds_310 (by decide +kernel) ?_
      refine v_zret rfl (by decide +kernel) dX6_succeeds_311 ⟨congrArg (fun z => some (Value.int z)) ?_, congrArg (φ shp) ?_⟩
      · exact bi_nf (fun z => by first | exact h283 z.1 | exact h292 z.2.1 | exact h303 z.2.2)
      · rfl
    · skip
      have hq := hI.plcs hlp h292
      have hq12 := hI.len12 hq.1
      have hq3 := hq.2.2.1
      refine v_aload_n 4 dX6_succeeds_295 rfl rfl ?_
      refine v_iload 1 dX6_succeeds_296 rfl ?_
      refine u_callVv [.int (nI hi)] [] 1 ((c_X6_placeOf lu Dg E N G shp σ hM f0 f1 f2 f3 f4 f5 f6 (p := hi) (by omega) (l := liN f1 hi) (by have := hI.nl3; omega) hq.2.1 (hI.len hq.1) (hI.len12 hq.1)).to (v' := some (.int (nI (plc f1 hi)))) (congrArg (fun z => some (Value.int z)) hq.2.2.2.2) rfl) (ci := 6) (C := RX6) (T := TX6) (NF := 13) hM.n hM.s rfl gX6_succeeds_X6_placeOf rfl rfl rfl (by decide +kernel) rfl ⟨Nat.le_of_ble_eq_true rfl, Nat.le_of_ble_eq_true rfl⟩ ⟨Nat.le_of_ble_eq_true rfl, Nat.le_of_ble_eq_true rfl⟩ (Nat.le_of_ble_eq_true rfl) rfl dX6_succeeds_298 ?_
      refine v_iload 0 dX6_succeeds_301 rfl ?_
      refine v_icmp_neN 310 (by omega) (by omega) dX6_succeeds_303 rfl (fun h303 => ?_) (fun h303 => ?_)
      · skip
        refine v_iconst (nI 0) dX6_succeeds_310 (by decide +kernel) ?_
        refine v_zret rfl (by decide +kernel) dX6_succeeds_311 ⟨congrArg (fun z => some (Value.int z)) ?_, congrArg (φ shp) ?_⟩
        · exact bi_nf (fun z => by first | exact h283 z.1 | exact h292 z.2.1 | exact h303 z.2.2)
        · rfl
      · skip
        refine v_iconst (nI 1) dX6_succeeds_306 (by decide +kernel) ?_
        refine v_goto 311 dX6_succeeds_307 rfl ?_
        refine v_zret rfl (by decide +kernel) dX6_succeeds_311 ⟨congrArg (fun z => some (Value.int z)) ?_, congrArg (φ shp) ?_⟩
        · exact bi_nt ⟨h283, h292, h303⟩
        · rfl

set_option maxHeartbeats 4000000 in
set_option maxRecDepth 100000 in
/-- succeeds 9 -/
theorem c_X6_succeeds_9 (lu : Launch) (Dg : va_G) (E : Nat → ClassId) (N : Nat) (G : Nat → Nat) (shp : Nat → (Nat → Int32) → va_E) (σ : Nat → Nat → Int32) {b : Nat} (hM : ModS E G shp N b) (f0 f1 f2 f3 f4 f5 f6 : Nat → Int32) {T : Nat} (hI : Inv T f1) {g a c hi lo : Nat} (hg : g < 100000) (ha : g / 1000 % 10 = a) (hc : g / 100 % 10 = c) (hh : g / 100 % 100 = hi) (hl : g % 100 = lo) (hm : g / 10000 = 9)  : CS lu yX6_succeeds wsX6_succeeds { frames := 6, cells := 0, slots := 0, locals := 134 } Dg E N G shp (mk7 σ b f0 f1 f2 f3 f4 f5 f6) [.ref (G b), .int (nI g)] (some (.int (bi (a = 0 ∧ f1 5 ≤ nI (g % 1000))))) (mk7 σ b f0 f1 f2 f3 f4 f5 f6) := by
  refine CS.of (cc := cX6_succeeds) (maxL := 8) (ret := (some .boolean)) (by decide) rfl (Nat.le_of_ble_eq_true rfl) ?_
  intro p_ e_ s_ m_ args_ below_ meth_ c_
  refine v_eq (pc' := 0) (st' := []) rfl rfl ?_
  refine v_loc [0, 1] [(0, .ref (G b)), (1, .int (nI g))] rfl ?_
  have ha10 : a < 10 := by omega
  have hc10 : c < 10 := by omega
  have hh100 : hi < 100 := by omega
  have hl100 : lo < 100 := by omega
  have hnp30 := hI.np30
  have hnl3 := hI.nl3
  refine v_iload_n 1 dX6_succeeds_0 rfl rfl ?_
  refine v_sipush (nI 1000) dX6_succeeds_1 (by decide +kernel) ?_
  refine v_idivN (by omega) (by omega) (by omega) dX6_succeeds_4 ?_
  refine v_bipush (nI 10) dX6_succeeds_5 (by decide +kernel) ?_
  refine v_iremN (by omega) (by omega) (by omega) dX6_succeeds_7 ?_
  refine v_topi (nI a) (congrArg nI ha) ?_
  refine v_istore_n [(2, .int (nI a)), (0, .ref (G b)), (1, .int (nI g))] dX6_succeeds_8 rfl (by decide) rfl ?_
  refine v_iload_n 2 dX6_succeeds_9 rfl rfl ?_
  refine v_bipush (nI 100) dX6_succeeds_10 (by decide +kernel) ?_
  refine v_idivN (by omega) (by omega) (by omega) dX6_succeeds_12 ?_
  refine v_bipush (nI 10) dX6_succeeds_13 (by decide +kernel) ?_
  refine v_iremN (by omega) (by omega) (by omega) dX6_succeeds_15 ?_
  refine v_topi (nI c) (congrArg nI hc) ?_
  refine v_istore_n [(3, .int (nI c)), (2, .int (nI a)), (0, .ref (G b)), (1, .int (nI g))] dX6_succeeds_16 rfl (by decide) rfl ?_
  refine v_iload_n 3 dX6_succeeds_17 rfl rfl ?_
  refine v_bipush (nI 100) dX6_succeeds_18 (by decide +kernel) ?_
  refine v_idivN (by omega) (by omega) (by omega) dX6_succeeds_20 ?_
  refine v_bipush (nI 100) dX6_succeeds_21 (by decide +kernel) ?_
  refine v_iremN (by omega) (by omega) (by omega) dX6_succeeds_23 ?_
  refine v_topi (nI hi) (congrArg nI hh) ?_
  refine v_istore [(4, .int (nI hi)), (3, .int (nI c)), (2, .int (nI a)), (0, .ref (G b)), (1, .int (nI g))] dX6_succeeds_24 (by decide) rfl ?_
  refine v_iload_n 4 dX6_succeeds_26 rfl rfl ?_
  refine v_bipush (nI 100) dX6_succeeds_27 (by decide +kernel) ?_
  refine v_iremN (by omega) (by omega) (by omega) dX6_succeeds_29 ?_
  refine v_topi (nI lo) (congrArg nI hl) ?_
  refine v_istore [(5, .int (nI lo)), (4, .int (nI hi)), (3, .int (nI c)), (2, .int (nI a)), (0, .ref (G b)), (1, .int (nI g))] dX6_succeeds_30 (by decide) rfl ?_
  refine v_iload_n 5 dX6_succeeds_32 rfl rfl ?_
  refine v_sipush (nI 10000) dX6_succeeds_33 (by decide +kernel) ?_
  refine v_idivN (by omega) (by omega) (by omega) dX6_succeeds_36 ?_
  refine v_topi (nI 9) (congrArg nI hm) ?_
  refine v_tableIn (off := 275) 312 dX6_succeeds_37 (by decide +kernel) (by decide +kernel) (by decide +kernel) rfl ?_
  refine v_iload_n 3 dX6_succeeds_312 rfl rfl ?_
  refine v_if_neN 334 (by omega) dX6_succeeds_313 rfl (fun h313 => ?_) (fun h313 => ?_)
  · skip
    refine v_iconst (nI 0) dX6_succeeds_334 (by decide +kernel) ?_
    refine v_zret rfl (by decide +kernel) dX6_succeeds_335 ⟨congrArg (fun z => some (Value.int z)) ?_, congrArg (φ shp) ?_⟩
    · exact bi_nf (fun z => by first | (have := z.1; omega) | exact absurd z.2 (Int32.not_le.mpr h327))
    · rfl
  · skip
    refine v_aload_n 4 dX6_succeeds_316 rfl rfl ?_
    refine u_getr (k := 1) (C := RX6) (T := TX6) (NF := 13) hM.n hM.s rfl rfl inX6_succeeds_X6 (by decide) (by decide +kernel) rfl dX6_succeeds_317 ?_
    refine v_iconst (nI 5) dX6_succeeds_320 (by decide +kernel) ?_
    refine m_ld1 5 hM (rfl) (by omega) dX6_succeeds_321 ?_
    refine v_iload_n 5 dX6_succeeds_322 rfl rfl ?_
    refine v_sipush (nI 1000) dX6_succeeds_323 (by decide +kernel) ?_
    refine v_iremN (by omega) (by omega) (by omega) dX6_succeeds_326 ?_
    refine v_icmp_gt 334 dX6_succeeds_327 rfl (fun h327 => ?_) (fun h327 => ?_)
    · skip
      refine v_iconst (nI 0) dX6_succeeds_334 (by decide +kernel) ?_
      refine v_zret rfl (by decide +kernel) dX6_succeeds_335 ⟨congrArg (fun z => some (Value.int z)) ?_, congrArg (φ shp) ?_⟩
      · exact bi_nf (fun z => by first | (have := z.1; omega) | exact absurd z.2 (Int32.not_le.mpr h327))
      · rfl
    · skip
      refine v_iconst (nI 1) dX6_succeeds_330 (by decide +kernel) ?_
      refine v_goto 335 dX6_succeeds_331 rfl ?_
      refine v_zret rfl (by decide +kernel) dX6_succeeds_335 ⟨congrArg (fun z => some (Value.int z)) ?_, congrArg (φ shp) ?_⟩
      · exact bi_nt ⟨h313, Int32.not_lt.mp h327⟩
      · rfl

set_option maxHeartbeats 4000000 in
set_option maxRecDepth 100000 in
/-- succeeds 0 -/
theorem c_X6_succeeds_0 (lu : Launch) (Dg : va_G) (E : Nat → ClassId) (N : Nat) (G : Nat → Nat) (shp : Nat → (Nat → Int32) → va_E) (σ : Nat → Nat → Int32) {b : Nat} (hM : ModS E G shp N b) (f0 f1 f2 f3 f4 f5 f6 : Nat → Int32) {T : Nat} (hI : Inv T f1) {g a c hi lo : Nat} (hg : g < 100000) (ha : g / 1000 % 10 = a) (hc : g / 100 % 10 = c) (hh : g / 100 % 100 = hi) (hl : g % 100 = lo) (hm : g / 10000 = 0)  : CS lu yX6_succeeds wsX6_succeeds { frames := 6, cells := 0, slots := 0, locals := 134 } Dg E N G shp (mk7 σ b f0 f1 f2 f3 f4 f5 f6) [.ref (G b), .int (nI g)] (some (.int (bi False))) (mk7 σ b f0 f1 f2 f3 f4 f5 f6) := by
  refine CS.of (cc := cX6_succeeds) (maxL := 8) (ret := (some .boolean)) (by decide) rfl (Nat.le_of_ble_eq_true rfl) ?_
  intro p_ e_ s_ m_ args_ below_ meth_ c_
  refine v_eq (pc' := 0) (st' := []) rfl rfl ?_
  refine v_loc [0, 1] [(0, .ref (G b)), (1, .int (nI g))] rfl ?_
  have ha10 : a < 10 := by omega
  have hc10 : c < 10 := by omega
  have hh100 : hi < 100 := by omega
  have hl100 : lo < 100 := by omega
  have hnp30 := hI.np30
  have hnl3 := hI.nl3
  refine v_iload_n 1 dX6_succeeds_0 rfl rfl ?_
  refine v_sipush (nI 1000) dX6_succeeds_1 (by decide +kernel) ?_
  refine v_idivN (by omega) (by omega) (by omega) dX6_succeeds_4 ?_
  refine v_bipush (nI 10) dX6_succeeds_5 (by decide +kernel) ?_
  refine v_iremN (by omega) (by omega) (by omega) dX6_succeeds_7 ?_
  refine v_topi (nI a) (congrArg nI ha) ?_
  refine v_istore_n [(2, .int (nI a)), (0, .ref (G b)), (1, .int (nI g))] dX6_succeeds_8 rfl (by decide) rfl ?_
  refine v_iload_n 2 dX6_succeeds_9 rfl rfl ?_
  refine v_bipush (nI 100) dX6_succeeds_10 (by decide +kernel) ?_
  refine v_idivN (by omega) (by omega) (by omega) dX6_succeeds_12 ?_
  refine v_bipush (nI 10) dX6_succeeds_13 (by decide +kernel) ?_
  refine v_iremN (by omega) (by omega) (by omega) dX6_succeeds_15 ?_
  refine v_topi (nI c) (congrArg nI hc) ?_
  refine v_istore_n [(3, .int (nI c)), (2, .int (nI a)), (0, .ref (G b)), (1, .int (nI g))] dX6_succeeds_16 rfl (by decide) rfl ?_
  refine v_iload_n 3 dX6_succeeds_17 rfl rfl ?_
  refine v_bipush (nI 100) dX6_succeeds_18 (by decide +kernel) ?_
  refine v_idivN (by omega) (by omega) (by omega) dX6_succeeds_20 ?_
  refine v_bipush (nI 100) dX6_succeeds_21 (by decide +kernel) ?_
  refine v_iremN (by omega) (by omega) (by omega) dX6_succeeds_23 ?_
  refine v_topi (nI hi) (congrArg nI hh) ?_
  refine v_istore [(4, .int (nI hi)), (3, .int (nI c)), (2, .int (nI a)), (0, .ref (G b)), (1, .int (nI g))] dX6_succeeds_24 (by decide) rfl ?_
  refine v_iload_n 4 dX6_succeeds_26 rfl rfl ?_
  refine v_bipush (nI 100) dX6_succeeds_27 (by decide +kernel) ?_
  refine v_iremN (by omega) (by omega) (by omega) dX6_succeeds_29 ?_
  refine v_topi (nI lo) (congrArg nI hl) ?_
  refine v_istore [(5, .int (nI lo)), (4, .int (nI hi)), (3, .int (nI c)), (2, .int (nI a)), (0, .ref (G b)), (1, .int (nI g))] dX6_succeeds_30 (by decide) rfl ?_
  refine v_iload_n 5 dX6_succeeds_32 rfl rfl ?_
  refine v_sipush (nI 10000) dX6_succeeds_33 (by decide +kernel) ?_
  refine v_idivN (by omega) (by omega) (by omega) dX6_succeeds_36 ?_
  refine v_topi (nI 0) (congrArg nI hm) ?_
  refine v_tableOut 336 dX6_succeeds_37 (by decide +kernel) rfl ?_
  refine v_iconst (nI 0) dX6_succeeds_336 (by decide +kernel) ?_
  refine v_zret rfl (by decide +kernel) dX6_succeeds_337 ⟨congrArg (fun z => some (Value.int z)) ?_, congrArg (φ shp) ?_⟩
  · exact bi_nf id
  · rfl

noncomputable def succP (s : Nat → Int32) (g : Nat) : Prop := match g / 10000 with
  | 1 => g % 100 = 0 ∧ comeFl s (nI (g / 1000 % 10)) (nI (g / 100 % 10)) = 0
  | 2 => g / 100 % 100 = 0 ∧ goFl s (nI (g % 100)) = 0
  | 3 => exchFl s (nI (g / 100 % 100)) (nI (g % 100)) = 0
  | 4 => g / 100 % 100 = 0 ∧ jumpFl s (nI (g % 100)) = 0
  | 5 => g % 100 = 0 ∧ mergeFl s (nI (g / 1000 % 10)) (nI (g / 100 % 10)) = 0
  | 6 => g / 100 % 100 = 0 ∧ 1 ≤ g % 100 ∧ g % 100 ≤ 60
  | 7 => g / 100 % 100 = 0 ∧ Rg (tn (s 2)) (nI (g % 100)) ∧ s (58 + 10 * (g % 100) + 5) = nI 1
  | 8 => Rg (tn (s 2)) (nI (g / 100 % 100)) ∧ s (58 + 10 * (g / 100 % 100) + 5) = 0 ∧ plc s (g / 100 % 100) = g % 100
  | 9 => g / 1000 % 10 = 0 ∧ s 5 ≤ nI (g % 1000)
  | _ => False
noncomputable def succX (s : Nat → Int32) (g : Nat) : Nat → Int32 := match g / 10000 with
  | 1 => comesS s (g / 1000 % 10) (g / 100 % 10)
  | 2 => goesS s (g % 100)
  | 3 => exchS s (g / 100 % 100) (g % 100)
  | 4 => jumpsS s (g % 100)
  | 5 => mergesF s (g / 1000 % 10) (g / 100 % 10)
  | 6 => goByS s (g % 100)
  | _ => s
noncomputable def succS (s : Nat → Int32) (g : Nat) : Nat → Int32 := ic (succP s g) (succX s g) s
theorem c_X6_succeeds (lu : Launch) (Dg : va_G) (E : Nat → ClassId) (N : Nat) (G : Nat → Nat) (shp : Nat → (Nat → Int32) → va_E) (σ : Nat → Nat → Int32) {b : Nat} (hM : ModS E G shp N b) (f0 f1 f2 f3 f4 f5 f6 : Nat → Int32) {T : Nat} (hI : Inv T f1) {g : Nat} (hg : g < 100000) (hJ : ∀ k, k < 60 → ∃ T, Inv T (goByS f1 k)) : CS lu yX6_succeeds wsX6_succeeds { frames := 6, cells := 0, slots := 0, locals := 134 } Dg E N G shp (mk7 σ b f0 f1 f2 f3 f4 f5 f6) [.ref (G b), .int (nI g)] (some (.int (bi (succP f1 g)))) (mk7 σ b f0 (succS f1 g) f2 f3 f4 f5 f6) := by
  have h10 : g / 10000 < 10 := by omega
  obtain ⟨m, hm⟩ : ∃ m, g / 10000 = m := ⟨_, rfl⟩
  rw [hm] at h10
  have hcs : m = 0 ∨ m = 1 ∨ m = 2 ∨ m = 3 ∨ m = 4 ∨ m = 5 ∨ m = 6 ∨ m = 7 ∨ m = 8 ∨ m = 9 := by omega
  unfold succS succP succX
  rcases hcs with rfl | rfl | rfl | rfl | rfl | rfl | rfl | rfl | rfl | rfl <;> rw [hm] <;> simp only [ic_same]
  · exact c_X6_succeeds_0 lu Dg E N G shp σ hM f0 f1 f2 f3 f4 f5 f6 hI hg rfl rfl rfl rfl hm
  · exact c_X6_succeeds_1 lu Dg E N G shp σ hM f0 f1 f2 f3 f4 f5 f6 hI hg rfl rfl rfl rfl hm
  · exact c_X6_succeeds_2 lu Dg E N G shp σ hM f0 f1 f2 f3 f4 f5 f6 hI hg rfl rfl rfl rfl hm
  · exact c_X6_succeeds_3 lu Dg E N G shp σ hM f0 f1 f2 f3 f4 f5 f6 hI hg rfl rfl rfl rfl hm
  · exact c_X6_succeeds_4 lu Dg E N G shp σ hM f0 f1 f2 f3 f4 f5 f6 hI hg rfl rfl rfl rfl hm
  · exact c_X6_succeeds_5 lu Dg E N G shp σ hM f0 f1 f2 f3 f4 f5 f6 hI hg rfl rfl rfl rfl hm
  · exact c_X6_succeeds_6 lu Dg E N G shp σ hM f0 f1 f2 f3 f4 f5 f6 hI hg rfl rfl rfl rfl hm hJ
  · exact c_X6_succeeds_7 lu Dg E N G shp σ hM f0 f1 f2 f3 f4 f5 f6 hI hg rfl rfl rfl rfl hm
  · exact c_X6_succeeds_8 lu Dg E N G shp σ hM f0 f1 f2 f3 f4 f5 f6 hI hg rfl rfl rfl rfl hm
  · exact c_X6_succeeds_9 lu Dg E N G shp σ hM f0 f1 f2 f3 f4 f5 f6 hI hg rfl rfl rfl rfl hm
noncomputable def turnS (s : Nat → Int32) (r n : Nat) : Nat → Int32 :=
  ic (r % 16 ≤ 4) (ic (comeFl s (nI (r / 16 % tn (s 1))) (nI (r / 64 % 3)) = 0) (comesS s (r / 16 % tn (s 1)) (r / 64 % 3)) s)
  (ic (r % 16 ≤ 7) (ic (exchFl s (nI (r / 64 % n)) (nI (r / 2048 % n)) = 0) (exchS s (r / 64 % n) (r / 2048 % n)) s)
  (ic (r % 16 ≤ 9) (ic (jumpFl s (nI (r / 64 % n)) = 0) (jumpsS s (r / 64 % n)) s)
  (ic (r % 16 = 10) (ic (goFl s (nI (r / 64 % n)) = 0) (goesS s (r / 64 % n)) s)
  (ic (r % 16 = 11 ∧ mergeFl s (nI (r / 16 % tn (s 1))) (nI (r / 64 % tn (s 1))) = 0) (mergesF s (r / 16 % tn (s 1)) (r / 64 % tn (s 1))) s))))
set_option maxRecDepth 100000 in
theorem inX6_turn_X6 : ∀ w ∈ wsX60, w ∈ wsX6_turn := by decide +kernel
set_option maxHeartbeats 4000000 in
set_option maxRecDepth 100000 in
/-- turn -/
theorem c_X6_turn (lu : Launch) (Dg : va_G) (E : Nat → ClassId) (N : Nat) (G : Nat → Nat) (shp : Nat → (Nat → Int32) → va_E) (σ : Nat → Nat → Int32) {b : Nat} (hM : ModS E G shp N b) (f0 f1 f2 f3 f4 f5 f6 : Nat → Int32) {T : Nat} (hI : Inv T f1) {r n0 : Nat} (hr : r < 2 ^ 31) (hn0 : 1 ≤ n0) (hn1 : n0 ≤ 30) (hl1 : 1 ≤ tn (f1 1))  : CS lu yX6_turn wsX6_turn { frames := 6, cells := 0, slots := 0, locals := 134 } Dg E N G shp (mk7 σ b f0 f1 f2 f3 f4 f5 f6) [.ref (G b), .int (nI r), .int (nI n0)] none (mk7 σ b f0 (turnS f1 r n0) f2 f3 f4 f5 f6) := by
  refine CS.of (cc := cX6_turn) (maxL := 7) (ret := none) (by decide) rfl (Nat.le_of_ble_eq_true rfl) ?_
  intro p_ e_ s_ m_ args_ below_ meth_ c_
  refine v_eq (pc' := 0) (st' := []) rfl rfl ?_
  refine v_loc [0, 1, 2] [(0, .ref (G b)), (1, .int (nI r)), (2, .int (nI n0))] rfl ?_
  have hnp30 := hI.np30
  have hnl3 := hI.nl3
  have hll : r / 16 % tn (f1 1) < tn (f1 1) := Nat.mod_lt _ (by omega)
  have hpp : r / 64 % n0 < n0 := Nat.mod_lt _ (by omega)
  have hqq : r / 2048 % n0 < n0 := Nat.mod_lt _ (by omega)
  have hoo : r / 64 % tn (f1 1) < tn (f1 1) := Nat.mod_lt _ (by omega)
  refine v_iload_n 1 dX6_turn_0 rfl rfl ?_
  refine v_bipush (nI 16) dX6_turn_1 (by decide +kernel) ?_
  refine v_idivN (by omega) (by omega) (by omega) dX6_turn_3 ?_
  refine v_aload_n 0 dX6_turn_4 rfl rfl ?_
  refine u_getr (k := 1) (C := RX6) (T := TX6) (NF := 13) hM.n hM.s rfl rfl inX6_turn_X6 (by decide) (by decide +kernel) rfl dX6_turn_5 ?_
  refine v_iconst (nI 1) dX6_turn_8 (by decide +kernel) ?_
  refine m_ld1 1 hM (rfl) (by omega) dX6_turn_9 ?_
  refine v_topi (nI (tn (f1 1))) (hI.nl) ?_
  refine v_iremN (by omega) (by omega) (by omega) dX6_turn_10 ?_
  obtain ⟨l, el⟩ : ∃ l, r / 16 % tn (f1 1) = l := ⟨_, rfl⟩
  refine v_topi (nI l) (congrArg nI el) ?_
  rw [el] at hll
  refine v_istore_n [(3, .int (nI l)), (0, .ref (G b)), (1, .int (nI r)), (2, .int (nI n0))] dX6_turn_11 rfl (by decide) rfl ?_
  refine v_iload_n 2 dX6_turn_12 rfl rfl ?_
  refine v_bipush (nI 64) dX6_turn_13 (by decide +kernel) ?_
  refine v_idivN (by omega) (by omega) (by omega) dX6_turn_15 ?_
  refine v_iload_n 3 dX6_turn_16 rfl rfl ?_
  refine v_iremN (by omega) (by omega) (by omega) dX6_turn_17 ?_
  obtain ⟨p, ep⟩ : ∃ p, r / 64 % n0 = p := ⟨_, rfl⟩
  refine v_topi (nI p) (congrArg nI ep) ?_
  rw [ep] at hpp
  refine v_istore [(4, .int (nI p)), (3, .int (nI l)), (0, .ref (G b)), (1, .int (nI r)), (2, .int (nI n0))] dX6_turn_18 (by decide) rfl ?_
  refine v_iload_n 3 dX6_turn_20 rfl rfl ?_
  refine v_bipush (nI 16) dX6_turn_21 (by decide +kernel) ?_
  refine v_iremN (by omega) (by omega) (by omega) dX6_turn_23 ?_
  obtain ⟨y, ey⟩ : ∃ y, r % 16 = y := ⟨_, rfl⟩
  refine v_topi (nI y) (congrArg nI ey) ?_
  refine v_istore [(5, .int (nI y)), (4, .int (nI p)), (3, .int (nI l)), (0, .ref (G b)), (1, .int (nI r)), (2, .int (nI n0))] dX6_turn_24 (by decide) rfl ?_
  refine v_iload 0 dX6_turn_26 rfl ?_
  refine v_iconst (nI 4) dX6_turn_28 (by decide +kernel) ?_
  refine v_icmp_gtN 50 (by omega) (by omega) dX6_turn_29 rfl (fun h29 => ?_) (fun h29 => ?_)
  · skip
    refine v_iload 0 dX6_turn_50 rfl ?_
    refine v_bipush (nI 7) dX6_turn_52 (by decide +kernel) ?_
    refine v_icmp_gtN 77 (by omega) (by omega) dX6_turn_54 rfl (fun h54 => ?_) (fun h54 => ?_)
    · skip
      refine v_iload 0 dX6_turn_77 rfl ?_
      refine v_bipush (nI 9) dX6_turn_79 (by decide +kernel) ?_
      refine v_icmp_gtN 98 (by omega) (by omega) dX6_turn_81 rfl (fun h81 => ?_) (fun h81 => ?_)
      · skip
        refine v_iload 0 dX6_turn_98 rfl ?_
        refine v_bipush (nI 10) dX6_turn_100 (by decide +kernel) ?_
        refine v_icmp_neN 119 (by omega) (by omega) dX6_turn_102 rfl (fun h102 => ?_) (fun h102 => ?_)
        · skip
          refine v_iload 0 dX6_turn_119 rfl ?_
          refine v_bipush (nI 11) dX6_turn_121 (by decide +kernel) ?_
          refine v_icmp_neN 163 (by omega) (by omega) dX6_turn_123 rfl (fun h123 => ?_) (fun h123 => ?_)
          · skip
            refine v_vret rfl dX6_turn_163 ⟨rfl, congrArg (φ shp) ?_⟩
            · unfold turnS; first | rw [ic_t (P := r % 16 ≤ 4) (by omega), el, ek] | rw [ic_f (P := r % 16 ≤ 4) (by omega), ic_t (P := r % 16 ≤ 7) (by omega), ep, eq] | rw [ic_f (P := r % 16 ≤ 4) (by omega), ic_f (P := r % 16 ≤ 7) (by omega), ic_t (P := r % 16 ≤ 9) (by omega), ep] | rw [ic_f (P := r % 16 ≤ 4) (by omega), ic_f (P := r % 16 ≤ 7) (by omega), ic_f (P := r % 16 ≤ 9) (by omega), ic_t (P := r % 16 = 10) (by omega), ep] | rw [ic_f (P := r % 16 ≤ 4) (by omega), ic_f (P := r % 16 ≤ 7) (by omega), ic_f (P := r % 16 ≤ 9) (by omega), ic_f (P := r % 16 = 10) (by omega), el, eo, ic_t (P := r % 16 = 11 ∧ mergeFl f1 (nI l) (nI o) = 0) ⟨by omega, h142⟩] | rw [ic_f (P := r % 16 ≤ 4) (by omega), ic_f (P := r % 16 ≤ 7) (by omega), ic_f (P := r % 16 ≤ 9) (by omega), ic_f (P := r % 16 = 10) (by omega), el, eo, ic_f (P := r % 16 = 11 ∧ mergeFl f1 (nI l) (nI o) = 0) (fun z => by have := z.2; omega)] | rw [ic_f (P := r % 16 ≤ 4) (by omega), ic_f (P := r % 16 ≤ 7) (by omega), ic_f (P := r % 16 ≤ 9) (by omega), ic_f (P := r % 16 = 10) (by omega), ic_f (P := r % 16 = 11 ∧ mergeFl f1 (nI (r / 16 % tn (f1 1))) (nI (r / 64 % tn (f1 1))) = 0) (fun z => by have := z.1; omega)]
          · skip
            refine v_aload_n 3 dX6_turn_126 rfl rfl ?_
            refine v_iload_n 2 dX6_turn_127 rfl rfl ?_
            refine v_iload_n 4 dX6_turn_128 rfl rfl ?_
            refine v_bipush (nI 64) dX6_turn_129 (by decide +kernel) ?_
            refine v_idivN (by omega) (by omega) (by omega) dX6_turn_131 ?_
            refine v_aload_n 3 dX6_turn_132 rfl rfl ?_
            refine u_getr (k := 1) (C := RX6) (T := TX6) (NF := 13) hM.n hM.s rfl rfl inX6_turn_X6 (by decide) (by decide +kernel) rfl dX6_turn_133 ?_
            refine v_iconst (nI 1) dX6_turn_136 (by decide +kernel) ?_
            refine m_ld1 1 hM (rfl) (by omega) dX6_turn_137 ?_
            refine v_topi (nI (tn (f1 1))) (hI.nl) ?_
            refine v_iremN (by omega) (by omega) (by omega) dX6_turn_138 ?_
            obtain ⟨o, eo⟩ : ∃ o, r / 64 % tn (f1 1) = o := ⟨_, rfl⟩
            refine v_topi (nI o) (congrArg nI eo) ?_
            rw [eo] at hoo
            refine u_callVv [.int (nI l), .int (nI o)] [] 2 (c_X6_mergeFault lu Dg E N G shp σ hM f0 f1 f2 f3 f4 f5 f6 hI (nI l) (nI o)) (ci := 6) (C := RX6) (T := TX6) (NF := 13) hM.n hM.s rfl gX6_turn_X6_mergeFault rfl rfl rfl (by decide +kernel) rfl ⟨Nat.le_of_ble_eq_true rfl, Nat.le_of_ble_eq_true rfl⟩ ⟨Nat.le_of_ble_eq_true rfl, Nat.le_of_ble_eq_true rfl⟩ (Nat.le_of_ble_eq_true rfl) rfl dX6_turn_139 ?_
            refine v_if_neN 163 (by have := mergeFl_le f1 (nI l) (nI o); omega) dX6_turn_142 rfl (fun h142 => ?_) (fun h142 => ?_)
            · skip
              refine v_vret rfl dX6_turn_163 ⟨rfl, congrArg (φ shp) ?_⟩
              · unfold turnS; first | rw [ic_t (P := r % 16 ≤ 4) (by omega), el, ek] | rw [ic_f (P := r % 16 ≤ 4) (by omega), ic_t (P := r % 16 ≤ 7) (by omega), ep, eq] | rw [ic_f (P := r % 16 ≤ 4) (by omega), ic_f (P := r % 16 ≤ 7) (by omega), ic_t (P := r % 16 ≤ 9) (by omega), ep] | rw [ic_f (P := r % 16 ≤ 4) (by omega), ic_f (P := r % 16 ≤ 7) (by omega), ic_f (P := r % 16 ≤ 9) (by omega), ic_t (P := r % 16 = 10) (by omega), ep] | rw [ic_f (P := r % 16 ≤ 4) (by omega), ic_f (P := r % 16 ≤ 7) (by omega), ic_f (P := r % 16 ≤ 9) (by omega), ic_f (P := r % 16 = 10) (by omega), el, eo, ic_t (P := r % 16 = 11 ∧ mergeFl f1 (nI l) (nI o) = 0) ⟨by omega, h142⟩] | rw [ic_f (P := r % 16 ≤ 4) (by omega), ic_f (P := r % 16 ≤ 7) (by omega), ic_f (P := r % 16 ≤ 9) (by omega), ic_f (P := r % 16 = 10) (by omega), el, eo, ic_f (P := r % 16 = 11 ∧ mergeFl f1 (nI l) (nI o) = 0) (fun z => by have := z.2; omega)] | rw [ic_f (P := r % 16 ≤ 4) (by omega), ic_f (P := r % 16 ≤ 7) (by omega), ic_f (P := r % 16 ≤ 9) (by omega), ic_f (P := r % 16 = 10) (by omega), ic_f (P := r % 16 = 11 ∧ mergeFl f1 (nI (r / 16 % tn (f1 1))) (nI (r / 64 % tn (f1 1))) = 0) (fun z => by have := z.1; omega)]
            · skip
              have hk := merge_ok hI (by omega) (by omega) h142
              refine v_aload_n 3 dX6_turn_145 rfl rfl ?_
              refine v_iload_n 2 dX6_turn_146 rfl rfl ?_
              refine v_iload_n 4 dX6_turn_147 rfl rfl ?_
              refine v_bipush (nI 64) dX6_turn_148 (by decide +kernel) ?_
              refine v_idivN (by omega) (by omega) (by omega) dX6_turn_150 ?_
              refine v_aload_n 3 dX6_turn_151 rfl rfl ?_
              refine u_getr (k := 1) (C := RX6) (T := TX6) (NF := 13) hM.n hM.s rfl rfl inX6_turn_X6 (by decide) (by decide +kernel) rfl dX6_turn_152 ?_
              refine v_iconst (nI 1) dX6_turn_155 (by decide +kernel) ?_
              refine m_ld1 1 hM (rfl) (by omega) dX6_turn_156 ?_
              refine v_topi (nI (tn (f1 1))) (hI.nl) ?_
              refine v_iremN (by omega) (by omega) (by omega) dX6_turn_157 ?_
              refine v_topi (nI o) (congrArg nI eo) ?_
              refine u_callVv [.int (nI l), .int (nI o)] [] 2 (c_X6_merges lu Dg E N G shp σ hM f0 f1 f2 f3 f4 f5 f6 hI hk.1 hk.2.1 hk.2.2.1 hk.2.2.2) (ci := 6) (C := RX6) (T := TX6) (NF := 13) hM.n hM.s rfl gX6_turn_X6_merges rfl rfl rfl (by decide +kernel) rfl ⟨Nat.le_of_ble_eq_true rfl, Nat.le_of_ble_eq_true rfl⟩ ⟨Nat.le_of_ble_eq_true rfl, Nat.le_of_ble_eq_true rfl⟩ (Nat.le_of_ble_eq_true rfl) rfl dX6_turn_158 ?_
              refine v_istore [(6, .int (nI (tn (f1 (13 + l)) + tn (f1 (13 + o))))), (5, .int (nI y)), (4, .int (nI p)), (3, .int (nI l)), (0, .ref (G b)), (1, .int (nI r)), (2, .int (nI n0))] dX6_turn_161 (by decide) rfl ?_
              refine v_vret rfl dX6_turn_163 ⟨rfl, congrArg (φ shp) ?_⟩
              · unfold turnS; first | rw [ic_t (P := r % 16 ≤ 4) (by omega), el, ek] | rw [ic_f (P := r % 16 ≤ 4) (by omega), ic_t (P := r % 16 ≤ 7) (by omega), ep, eq] | rw [ic_f (P := r % 16 ≤ 4) (by omega), ic_f (P := r % 16 ≤ 7) (by omega), ic_t (P := r % 16 ≤ 9) (by omega), ep] | rw [ic_f (P := r % 16 ≤ 4) (by omega), ic_f (P := r % 16 ≤ 7) (by omega), ic_f (P := r % 16 ≤ 9) (by omega), ic_t (P := r % 16 = 10) (by omega), ep] | rw [ic_f (P := r % 16 ≤ 4) (by omega), ic_f (P := r % 16 ≤ 7) (by omega), ic_f (P := r % 16 ≤ 9) (by omega), ic_f (P := r % 16 = 10) (by omega), el, eo, ic_t (P := r % 16 = 11 ∧ mergeFl f1 (nI l) (nI o) = 0) ⟨by omega, h142⟩] | rw [ic_f (P := r % 16 ≤ 4) (by omega), ic_f (P := r % 16 ≤ 7) (by omega), ic_f (P := r % 16 ≤ 9) (by omega), ic_f (P := r % 16 = 10) (by omega), el, eo, ic_f (P := r % 16 = 11 ∧ mergeFl f1 (nI l) (nI o) = 0) (fun z => by have := z.2; omega)] | rw [ic_f (P := r % 16 ≤ 4) (by omega), ic_f (P := r % 16 ≤ 7) (by omega), ic_f (P := r % 16 ≤ 9) (by omega), ic_f (P := r % 16 = 10) (by omega), ic_f (P := r % 16 = 11 ∧ mergeFl f1 (nI (r / 16 % tn (f1 1))) (nI (r / 64 % tn (f1 1))) = 0) (fun z => by have := z.1; omega)]
        · skip
          refine v_aload_n 3 dX6_turn_105 rfl rfl ?_
          refine v_bipush (nI 103) dX6_turn_106 (by decide +kernel) ?_
          refine v_iload 1 dX6_turn_108 rfl ?_
          refine v_iconst (nI 0) dX6_turn_110 (by decide +kernel) ?_
          refine u_callVv [.int (nI 103), .int (nI p), .int (nI 0)] [] 3 (c_X6_carries_g lu Dg E N G shp σ hM f0 f1 f2 f3 f4 f5 f6 hI (p := p) (q := 0) (by omega)) (ci := 6) (C := RX6) (T := TX6) (NF := 13) hM.n hM.s rfl gX6_turn_X6_carries rfl rfl rfl (by decide +kernel) rfl ⟨Nat.le_of_ble_eq_true rfl, Nat.le_of_ble_eq_true rfl⟩ ⟨Nat.le_of_ble_eq_true rfl, Nat.le_of_ble_eq_true rfl⟩ (Nat.le_of_ble_eq_true rfl) rfl dX6_turn_111 ?_
          refine v_istore [(6, .int (bi (goFl f1 (nI p) = 0))), (5, .int (nI y)), (4, .int (nI p)), (3, .int (nI l)), (0, .ref (G b)), (1, .int (nI r)), (2, .int (nI n0))] dX6_turn_114 (by decide) rfl ?_
          refine v_goto 163 dX6_turn_116 rfl ?_
          refine v_vret rfl dX6_turn_163 ⟨rfl, congrArg (φ shp) ?_⟩
          · unfold turnS; first | rw [ic_t (P := r % 16 ≤ 4) (by omega), el, ek] | rw [ic_f (P := r % 16 ≤ 4) (by omega), ic_t (P := r % 16 ≤ 7) (by omega), ep, eq] | rw [ic_f (P := r % 16 ≤ 4) (by omega), ic_f (P := r % 16 ≤ 7) (by omega), ic_t (P := r % 16 ≤ 9) (by omega), ep] | rw [ic_f (P := r % 16 ≤ 4) (by omega), ic_f (P := r % 16 ≤ 7) (by omega), ic_f (P := r % 16 ≤ 9) (by omega), ic_t (P := r % 16 = 10) (by omega), ep] | rw [ic_f (P := r % 16 ≤ 4) (by omega), ic_f (P := r % 16 ≤ 7) (by omega), ic_f (P := r % 16 ≤ 9) (by omega), ic_f (P := r % 16 = 10) (by omega), el, eo, ic_t (P := r % 16 = 11 ∧ mergeFl f1 (nI l) (nI o) = 0) ⟨by omega, h142⟩] | rw [ic_f (P := r % 16 ≤ 4) (by omega), ic_f (P := r % 16 ≤ 7) (by omega), ic_f (P := r % 16 ≤ 9) (by omega), ic_f (P := r % 16 = 10) (by omega), el, eo, ic_f (P := r % 16 = 11 ∧ mergeFl f1 (nI l) (nI o) = 0) (fun z => by have := z.2; omega)] | rw [ic_f (P := r % 16 ≤ 4) (by omega), ic_f (P := r % 16 ≤ 7) (by omega), ic_f (P := r % 16 ≤ 9) (by omega), ic_f (P := r % 16 = 10) (by omega), ic_f (P := r % 16 = 11 ∧ mergeFl f1 (nI (r / 16 % tn (f1 1))) (nI (r / 64 % tn (f1 1))) = 0) (fun z => by have := z.1; omega)]
      · skip
        refine v_aload_n 3 dX6_turn_84 rfl rfl ?_
        refine v_bipush (nI 106) dX6_turn_85 (by decide +kernel) ?_
        refine v_iload 1 dX6_turn_87 rfl ?_
        refine v_iconst (nI 0) dX6_turn_89 (by decide +kernel) ?_
        refine u_callVv [.int (nI 106), .int (nI p), .int (nI 0)] [] 3 (c_X6_carries_j lu Dg E N G shp σ hM f0 f1 f2 f3 f4 f5 f6 hI (p := p) (q := 0) (by omega)) (ci := 6) (C := RX6) (T := TX6) (NF := 13) hM.n hM.s rfl gX6_turn_X6_carries rfl rfl rfl (by decide +kernel) rfl ⟨Nat.le_of_ble_eq_true rfl, Nat.le_of_ble_eq_true rfl⟩ ⟨Nat.le_of_ble_eq_true rfl, Nat.le_of_ble_eq_true rfl⟩ (Nat.le_of_ble_eq_true rfl) rfl dX6_turn_90 ?_
        refine v_istore [(6, .int (bi (jumpFl f1 (nI p) = 0))), (5, .int (nI y)), (4, .int (nI p)), (3, .int (nI l)), (0, .ref (G b)), (1, .int (nI r)), (2, .int (nI n0))] dX6_turn_93 (by decide) rfl ?_
        refine v_goto 163 dX6_turn_95 rfl ?_
        refine v_vret rfl dX6_turn_163 ⟨rfl, congrArg (φ shp) ?_⟩
        · unfold turnS; first | rw [ic_t (P := r % 16 ≤ 4) (by omega), el, ek] | rw [ic_f (P := r % 16 ≤ 4) (by omega), ic_t (P := r % 16 ≤ 7) (by omega), ep, eq] | rw [ic_f (P := r % 16 ≤ 4) (by omega), ic_f (P := r % 16 ≤ 7) (by omega), ic_t (P := r % 16 ≤ 9) (by omega), ep] | rw [ic_f (P := r % 16 ≤ 4) (by omega), ic_f (P := r % 16 ≤ 7) (by omega), ic_f (P := r % 16 ≤ 9) (by omega), ic_t (P := r % 16 = 10) (by omega), ep] | rw [ic_f (P := r % 16 ≤ 4) (by omega), ic_f (P := r % 16 ≤ 7) (by omega), ic_f (P := r % 16 ≤ 9) (by omega), ic_f (P := r % 16 = 10) (by omega), el, eo, ic_t (P := r % 16 = 11 ∧ mergeFl f1 (nI l) (nI o) = 0) ⟨by omega, h142⟩] | rw [ic_f (P := r % 16 ≤ 4) (by omega), ic_f (P := r % 16 ≤ 7) (by omega), ic_f (P := r % 16 ≤ 9) (by omega), ic_f (P := r % 16 = 10) (by omega), el, eo, ic_f (P := r % 16 = 11 ∧ mergeFl f1 (nI l) (nI o) = 0) (fun z => by have := z.2; omega)] | rw [ic_f (P := r % 16 ≤ 4) (by omega), ic_f (P := r % 16 ≤ 7) (by omega), ic_f (P := r % 16 ≤ 9) (by omega), ic_f (P := r % 16 = 10) (by omega), ic_f (P := r % 16 = 11 ∧ mergeFl f1 (nI (r / 16 % tn (f1 1))) (nI (r / 64 % tn (f1 1))) = 0) (fun z => by have := z.1; omega)]
    · skip
      refine v_aload_n 3 dX6_turn_57 rfl rfl ?_
      refine v_bipush (nI 120) dX6_turn_58 (by decide +kernel) ?_
      refine v_iload 1 dX6_turn_60 rfl ?_
      refine v_iload_n 4 dX6_turn_62 rfl rfl ?_
      refine v_sipush (nI 2048) dX6_turn_63 (by decide +kernel) ?_
      refine v_idivN (by omega) (by omega) (by omega) dX6_turn_66 ?_
      refine v_iload_n 5 dX6_turn_67 rfl rfl ?_
      refine v_iremN (by omega) (by omega) (by omega) dX6_turn_68 ?_
      obtain ⟨q, eq⟩ : ∃ q, r / 2048 % n0 = q := ⟨_, rfl⟩
      refine v_topi (nI q) (congrArg nI eq) ?_
      rw [eq] at hqq
      refine u_callVv [.int (nI 120), .int (nI p), .int (nI q)] [] 3 (c_X6_carries_x lu Dg E N G shp σ hM f0 f1 f2 f3 f4 f5 f6 hI (p := p) (q := q) (by omega) (by omega)) (ci := 6) (C := RX6) (T := TX6) (NF := 13) hM.n hM.s rfl gX6_turn_X6_carries rfl rfl rfl (by decide +kernel) rfl ⟨Nat.le_of_ble_eq_true rfl, Nat.le_of_ble_eq_true rfl⟩ ⟨Nat.le_of_ble_eq_true rfl, Nat.le_of_ble_eq_true rfl⟩ (Nat.le_of_ble_eq_true rfl) rfl dX6_turn_69 ?_
      refine v_istore [(6, .int (bi (exchFl f1 (nI p) (nI q) = 0))), (5, .int (nI y)), (4, .int (nI p)), (3, .int (nI l)), (0, .ref (G b)), (1, .int (nI r)), (2, .int (nI n0))] dX6_turn_72 (by decide) rfl ?_
      refine v_goto 163 dX6_turn_74 rfl ?_
      refine v_vret rfl dX6_turn_163 ⟨rfl, congrArg (φ shp) ?_⟩
      · unfold turnS; first | rw [ic_t (P := r % 16 ≤ 4) (by omega), el, ek] | rw [ic_f (P := r % 16 ≤ 4) (by omega), ic_t (P := r % 16 ≤ 7) (by omega), ep, eq] | rw [ic_f (P := r % 16 ≤ 4) (by omega), ic_f (P := r % 16 ≤ 7) (by omega), ic_t (P := r % 16 ≤ 9) (by omega), ep] | rw [ic_f (P := r % 16 ≤ 4) (by omega), ic_f (P := r % 16 ≤ 7) (by omega), ic_f (P := r % 16 ≤ 9) (by omega), ic_t (P := r % 16 = 10) (by omega), ep] | rw [ic_f (P := r % 16 ≤ 4) (by omega), ic_f (P := r % 16 ≤ 7) (by omega), ic_f (P := r % 16 ≤ 9) (by omega), ic_f (P := r % 16 = 10) (by omega), el, eo, ic_t (P := r % 16 = 11 ∧ mergeFl f1 (nI l) (nI o) = 0) ⟨by omega, h142⟩] | rw [ic_f (P := r % 16 ≤ 4) (by omega), ic_f (P := r % 16 ≤ 7) (by omega), ic_f (P := r % 16 ≤ 9) (by omega), ic_f (P := r % 16 = 10) (by omega), el, eo, ic_f (P := r % 16 = 11 ∧ mergeFl f1 (nI l) (nI o) = 0) (fun z => by have := z.2; omega)] | rw [ic_f (P := r % 16 ≤ 4) (by omega), ic_f (P := r % 16 ≤ 7) (by omega), ic_f (P := r % 16 ≤ 9) (by omega), ic_f (P := r % 16 = 10) (by omega), ic_f (P := r % 16 = 11 ∧ mergeFl f1 (nI (r / 16 % tn (f1 1))) (nI (r / 64 % tn (f1 1))) = 0) (fun z => by have := z.1; omega)]
  · skip
    refine v_aload_n 3 dX6_turn_32 rfl rfl ?_
    refine v_bipush (nI 99) dX6_turn_33 (by decide +kernel) ?_
    refine v_iload_n 4 dX6_turn_35 rfl rfl ?_
    refine v_bipush (nI 64) dX6_turn_36 (by decide +kernel) ?_
    refine v_idivN (by omega) (by omega) (by omega) dX6_turn_38 ?_
    refine v_iconst (nI 3) dX6_turn_39 (by decide +kernel) ?_
    refine v_iremN (by omega) (by omega) (by omega) dX6_turn_40 ?_
    obtain ⟨k0, ek⟩ : ∃ k0, r / 64 % 3 = k0 := ⟨_, rfl⟩
    refine v_topi (nI k0) (congrArg nI ek) ?_
    refine v_iload_n 2 dX6_turn_41 rfl rfl ?_
    refine u_callVv [.int (nI 99), .int (nI k0), .int (nI l)] [] 3 (c_X6_carries_c lu Dg E N G shp σ hM f0 f1 f2 f3 f4 f5 f6 hI (y := l) (k0 := k0) (by omega)) (ci := 6) (C := RX6) (T := TX6) (NF := 13) hM.n hM.s rfl gX6_turn_X6_carries rfl rfl rfl (by decide +kernel) rfl ⟨Nat.le_of_ble_eq_true rfl, Nat.le_of_ble_eq_true rfl⟩ ⟨Nat.le_of_ble_eq_true rfl, Nat.le_of_ble_eq_true rfl⟩ (Nat.le_of_ble_eq_true rfl) rfl dX6_turn_42 ?_
    refine v_istore [(6, .int (bi (comeFl f1 (nI l) (nI k0) = 0))), (5, .int (nI y)), (4, .int (nI p)), (3, .int (nI l)), (0, .ref (G b)), (1, .int (nI r)), (2, .int (nI n0))] dX6_turn_45 (by decide) rfl ?_
    refine v_goto 163 dX6_turn_47 rfl ?_
    refine v_vret rfl dX6_turn_163 ⟨rfl, congrArg (φ shp) ?_⟩
    · unfold turnS; first | rw [ic_t (P := r % 16 ≤ 4) (by omega), el, ek] | rw [ic_f (P := r % 16 ≤ 4) (by omega), ic_t (P := r % 16 ≤ 7) (by omega), ep, eq] | rw [ic_f (P := r % 16 ≤ 4) (by omega), ic_f (P := r % 16 ≤ 7) (by omega), ic_t (P := r % 16 ≤ 9) (by omega), ep] | rw [ic_f (P := r % 16 ≤ 4) (by omega), ic_f (P := r % 16 ≤ 7) (by omega), ic_f (P := r % 16 ≤ 9) (by omega), ic_t (P := r % 16 = 10) (by omega), ep] | rw [ic_f (P := r % 16 ≤ 4) (by omega), ic_f (P := r % 16 ≤ 7) (by omega), ic_f (P := r % 16 ≤ 9) (by omega), ic_f (P := r % 16 = 10) (by omega), el, eo, ic_t (P := r % 16 = 11 ∧ mergeFl f1 (nI l) (nI o) = 0) ⟨by omega, h142⟩] | rw [ic_f (P := r % 16 ≤ 4) (by omega), ic_f (P := r % 16 ≤ 7) (by omega), ic_f (P := r % 16 ≤ 9) (by omega), ic_f (P := r % 16 = 10) (by omega), el, eo, ic_f (P := r % 16 = 11 ∧ mergeFl f1 (nI l) (nI o) = 0) (fun z => by have := z.2; omega)] | rw [ic_f (P := r % 16 ≤ 4) (by omega), ic_f (P := r % 16 ≤ 7) (by omega), ic_f (P := r % 16 ≤ 9) (by omega), ic_f (P := r % 16 = 10) (by omega), ic_f (P := r % 16 = 11 ∧ mergeFl f1 (nI (r / 16 % tn (f1 1))) (nI (r / 64 % tn (f1 1))) = 0) (fun z => by have := z.1; omega)]

/-- what is remembered, with one state more -/
def remF (f g : Nat → Int32) (m : Nat) : Nat → Int32 := if m < 14 then cpF f g 0 (358 * m) 358 else cpF f (cpF g g 358 0 4654) 0 4654 358
set_option maxRecDepth 100000 in
theorem inX6_remember_X6 : ∀ w ∈ wsX60, w ∈ wsX6_remember := by decide +kernel
set_option maxHeartbeats 4000000 in
set_option maxRecDepth 100000 in
/-- remember -/
theorem c_X6_remember_l (lu : Launch) (Dg : va_G) (E : Nat → ClassId) (N : Nat) (G : Nat → Nat) (shp : Nat → (Nat → Int32) → va_E) (σ : Nat → Nat → Int32) {b : Nat} (hM : ModS E G shp N b) (f0 f1 f2 f3 f4 f5 f6 : Nat → Int32) {m : Nat} (hm : f0 5 = nI m) (hlt : m < 14)  : CS lu yX6_remember wsX6_remember { frames := 0, cells := 0, slots := 0, locals := 0 } Dg E N G shp (mk7 σ b f0 f1 f2 f3 f4 f5 f6) [.ref (G b)] none (mk7 σ b (upd f0 5 (nI (min (m + 1) 14))) f1 f2 (remF f1 f3 m) f4 f5 f6) := by
  refine CS.of (cc := cX6_remember) (maxL := 2) (ret := none) (by decide) rfl (Nat.le_of_ble_eq_true rfl) ?_
  intro p_ e_ s_ m_ args_ below_ meth_ c_
  refine v_eq (pc' := 0) (st' := []) rfl rfl ?_
  refine v_loc [0] [(0, .ref (G b))] rfl ?_
  refine v_aload_n 0 dX6_remember_0 rfl rfl ?_
  refine m_geti (k := 5) hM rfl inX6_remember_X6 (by decide) (by decide +kernel) rfl dX6_remember_1 ?_
  refine v_topi (nI m) (hm) ?_
  refine v_bipush (nI 14) dX6_remember_4 (by decide +kernel) ?_
  refine v_icmp_neN 50 (by omega) (by omega) dX6_remember_6 rfl (fun h6 => ?_) (fun h6 => ?_)
  · skip
    refine v_σ (mk7 σ b f0 f1 f2 (cpF f1 (f3) 0 (358 * m) 0) f4 f5 f6) (congrArg (fun z9 => mk7 σ b f0 f1 f2 z9 f4 f5 f6) ((cpF_0 _ _ _ _).symm)) ?_
    refine v_iconst (nI 0) dX6_remember_50 (by decide +kernel) ?_
    refine v_istore_n [(1, .int (nI 0)), (0, .ref (G b))] dX6_remember_51 rfl (by decide) rfl ?_
    refine v_loc [0, 1] [(1, .int (nI 0)), (0, .ref (G b))] rfl ?_
    refine u_loop1 (fun n (k : Nat) => k + n = 358) (fun (k : Nat) => mk7 σ b (f0) f1 f2 (cpF f1 (f3) 0 (358 * m) k) f4 f5 f6) (fun (k : Nat) => [(1, .int (nI k)), (0, .ref (G b))]) (358) 0 (rfl) ?_
    intro n k hL ih
    refine v_iload_n 0 dX6_remember_52 rfl rfl ?_
    refine v_sipush (nI 358) dX6_remember_53 (by decide +kernel) ?_
    refine v_icmp_geN 86 (by omega) (by omega) dX6_remember_56 rfl (fun h56 => ?_) (fun h56 => ?_)
    · skip
      obtain rfl : k = 358 := by omega
      refine v_aload_n 1 dX6_remember_86 rfl rfl ?_
      refine v_dup dX6_remember_87 rfl ?_
      refine m_geti (k := 5) hM rfl inX6_remember_X6 (by decide) (by decide +kernel) rfl dX6_remember_88 ?_
      refine v_topi (nI m) (hm) ?_
      refine v_iconst (nI 1) dX6_remember_91 (by decide +kernel) ?_
      refine v_iaddN dX6_remember_92 ?_
      refine m_puti (k := 5) (ty := .int) hM rfl inX6_remember_X6 (by decide) (by decide +kernel) rfl rfl (by decide +kernel) ⟨rfl, rfl⟩ dX6_remember_93 ?_
      generalize hg1 : upd f0 5 (nI (m + 1)) = g1
      refine v_vret rfl dX6_remember_96 ⟨rfl, congrArg (φ shp) ?_⟩
      · subst hg1; rw [Nat.min_eq_left (by omega)]; simp only [remF, if_pos hlt]
    · skip
      refine v_aload_n 1 dX6_remember_59 rfl rfl ?_
      refine u_getr (k := 4) (C := RX6) (T := TX6) (NF := 13) hM.n hM.s rfl rfl inX6_remember_X6 (by decide) (by decide +kernel) rfl dX6_remember_60 ?_
      refine v_sipush (nI 358) dX6_remember_63 (by decide +kernel) ?_
      refine v_aload_n 1 dX6_remember_66 rfl rfl ?_
      refine m_geti (k := 5) hM rfl inX6_remember_X6 (by decide) (by decide +kernel) rfl dX6_remember_67 ?_
      refine v_topi (nI m) (hm) ?_
      refine v_imulN dX6_remember_70 ?_
      refine v_iload_n 0 dX6_remember_71 rfl rfl ?_
      refine v_iaddN dX6_remember_72 ?_
      refine v_aload_n 1 dX6_remember_73 rfl rfl ?_
      refine u_getr (k := 1) (C := RX6) (T := TX6) (NF := 13) hM.n hM.s rfl rfl inX6_remember_X6 (by decide) (by decide +kernel) rfl dX6_remember_74 ?_
      refine v_iload_n 0 dX6_remember_77 rfl rfl ?_
      refine m_ld1 k hM (rfl) (by omega) dX6_remember_78 ?_
      refine m_st3 (358 * m + k) hM (rfl) (by omega) dX6_remember_79 ?_
      generalize hg2 : upd (cpF f1 (f3) 0 (358 * m) k) (358 * m + k) (f1 k) = g2
      refine v_σ (mk7 σ b f0 f1 f2 (cpF f1 (f3) 0 (358 * m) (k + 1)) f4 f5 f6) (congrArg (fun z9 => mk7 σ b f0 f1 f2 z9 f4 f5 f6) ((by rw [← cpF_s, Nat.zero_add]; subst hg2; rfl))) ?_
      refine v_iincN 0 [(1, .int (nI (k + 1))), (0, .ref (G b))] dX6_remember_80 rfl (by decide) rfl ?_
      refine v_goto 52 dX6_remember_83 rfl ?_
      refine v_loc [0, 1] [(1, .int (nI (k + 1))), (0, .ref (G b))] rfl ?_
      exact ih _ (k + 1) (show n - 1 < n by omega) (by omega)
  · skip
    omega

set_option maxHeartbeats 4000000 in
set_option maxRecDepth 100000 in
/-- remember -/
theorem c_X6_remember_f (lu : Launch) (Dg : va_G) (E : Nat → ClassId) (N : Nat) (G : Nat → Nat) (shp : Nat → (Nat → Int32) → va_E) (σ : Nat → Nat → Int32) {b : Nat} (hM : ModS E G shp N b) (f0 f1 f2 f3 f4 f5 f6 : Nat → Int32) (hm : f0 5 = nI 14)  : CS lu yX6_remember wsX6_remember { frames := 0, cells := 0, slots := 0, locals := 0 } Dg E N G shp (mk7 σ b f0 f1 f2 f3 f4 f5 f6) [.ref (G b)] none (mk7 σ b (upd f0 5 (nI (min (14 + 1) 14))) f1 f2 (remF f1 f3 14) f4 f5 f6) := by
  refine CS.of (cc := cX6_remember) (maxL := 2) (ret := none) (by decide) rfl (Nat.le_of_ble_eq_true rfl) ?_
  intro p_ e_ s_ m_ args_ below_ meth_ c_
  refine v_eq (pc' := 0) (st' := []) rfl rfl ?_
  refine v_loc [0] [(0, .ref (G b))] rfl ?_
  refine v_aload_n 0 dX6_remember_0 rfl rfl ?_
  refine m_geti (k := 5) hM rfl inX6_remember_X6 (by decide) (by decide +kernel) rfl dX6_remember_1 ?_
  refine v_topi (nI 14) (hm) ?_
  refine v_bipush (nI 14) dX6_remember_4 (by decide +kernel) ?_
  refine v_icmp_neN 50 (by omega) (by omega) dX6_remember_6 rfl (fun h6 => ?_) (fun h6 => ?_)
  · skip
    omega
  · skip
    refine v_σ (mk7 σ b f0 f1 f2 (cpF f3 f3 358 0 0) f4 f5 f6) (congrArg (fun z9 => mk7 σ b f0 f1 f2 z9 f4 f5 f6) ((cpF_0 _ _ _ _).symm)) ?_
    refine v_iconst (nI 0) dX6_remember_9 (by decide +kernel) ?_
    refine v_istore_n [(1, .int (nI 0)), (0, .ref (G b))] dX6_remember_10 rfl (by decide) rfl ?_
    refine v_loc [0, 1] [(1, .int (nI 0)), (0, .ref (G b))] rfl ?_
    refine u_loop1 (fun n (k : Nat) => k + n = 4654) (fun (k : Nat) => mk7 σ b f0 f1 f2 (cpF f3 f3 358 0 k) f4 f5 f6) (fun (k : Nat) => [(1, .int (nI k)), (0, .ref (G b))]) (4654) 0 (rfl) ?_
    intro n k hL ih
    refine v_iload_n 0 dX6_remember_11 rfl rfl ?_
    refine v_sipush (nI 4654) dX6_remember_12 (by decide +kernel) ?_
    refine v_icmp_geN 40 (by omega) (by omega) dX6_remember_15 rfl (fun h15 => ?_) (fun h15 => ?_)
    · skip
      obtain rfl : k = 4654 := by omega
      refine v_aload_n 1 dX6_remember_40 rfl rfl ?_
      refine v_dup dX6_remember_41 rfl ?_
      refine m_geti (k := 5) hM rfl inX6_remember_X6 (by decide) (by decide +kernel) rfl dX6_remember_42 ?_
      refine v_topi (nI 14) (hm) ?_
      refine v_iconst (nI 1) dX6_remember_45 (by decide +kernel) ?_
      refine v_isubN (by omega) dX6_remember_46 ?_
      refine v_topi (nI 13) (rfl) ?_
      refine m_puti (k := 5) (ty := .int) hM rfl inX6_remember_X6 (by decide) (by decide +kernel) rfl rfl (by decide +kernel) ⟨rfl, rfl⟩ dX6_remember_47 ?_
      generalize hg1 : upd f0 5 (nI 13) = g1
      subst hg1
      refine v_σ (mk7 σ b (upd f0 5 (nI 13)) f1 f2 (cpF f1 (cpF f3 f3 358 0 4654) 0 (358 * 13) 0) f4 f5 f6) (congrArg (fun z9 => mk7 σ b (upd f0 5 (nI 13)) f1 f2 z9 f4 f5 f6) ((cpF_0 _ _ _ _).symm)) ?_
      refine v_iconst (nI 0) dX6_remember_50 (by decide +kernel) ?_
      refine v_istore_n [(1, .int (nI 0)), (0, .ref (G b))] dX6_remember_51 rfl (by decide) rfl ?_
      refine v_loc [0, 1] [(1, .int (nI 0)), (0, .ref (G b))] rfl ?_
      refine u_loop1 (fun n (k : Nat) => k + n = 358) (fun (k : Nat) => mk7 σ b (upd f0 5 (nI 13)) f1 f2 (cpF f1 (cpF f3 f3 358 0 4654) 0 (358 * 13) k) f4 f5 f6) (fun (k : Nat) => [(1, .int (nI k)), (0, .ref (G b))]) (358) 0 (rfl) ?_
      intro n k hL ih
      refine v_iload_n 0 dX6_remember_52 rfl rfl ?_
      refine v_sipush (nI 358) dX6_remember_53 (by decide +kernel) ?_
      refine v_icmp_geN 86 (by omega) (by omega) dX6_remember_56 rfl (fun h56 => ?_) (fun h56 => ?_)
      · skip
        obtain rfl : k = 358 := by omega
        refine v_aload_n 1 dX6_remember_86 rfl rfl ?_
        refine v_dup dX6_remember_87 rfl ?_
        refine m_geti (k := 5) hM rfl inX6_remember_X6 (by decide) (by decide +kernel) rfl dX6_remember_88 ?_
        refine v_topi (nI 13) ((by rw [upd_ap, if_pos rfl])) ?_
        refine v_iconst (nI 1) dX6_remember_91 (by decide +kernel) ?_
        refine v_iaddN dX6_remember_92 ?_
        refine v_topi (nI 14) (rfl) ?_
        refine m_puti (k := 5) (ty := .int) hM rfl inX6_remember_X6 (by decide) (by decide +kernel) rfl rfl (by decide +kernel) ⟨rfl, rfl⟩ dX6_remember_93 ?_
        generalize hg2 : upd (upd f0 5 (nI 13)) 5 (nI 14) = g2
        refine v_vret rfl dX6_remember_96 ⟨rfl, congrArg (φ shp) ?_⟩
        · subst hg2; rw [show upd (upd f0 5 (nI 13)) 5 (nI (13 + 1)) = upd f0 5 (nI (min (14 + 1) 14)) from by funext i; simp only [upd_ap]; split <;> rfl]; rfl
      · skip
        refine v_aload_n 1 dX6_remember_59 rfl rfl ?_
        refine u_getr (k := 4) (C := RX6) (T := TX6) (NF := 13) hM.n hM.s rfl rfl inX6_remember_X6 (by decide) (by decide +kernel) rfl dX6_remember_60 ?_
        refine v_sipush (nI 358) dX6_remember_63 (by decide +kernel) ?_
        refine v_aload_n 1 dX6_remember_66 rfl rfl ?_
        refine m_geti (k := 5) hM rfl inX6_remember_X6 (by decide) (by decide +kernel) rfl dX6_remember_67 ?_
        refine v_topi (nI 13) ((by rw [upd_ap, if_pos rfl])) ?_
        refine v_imulN dX6_remember_70 ?_
        refine v_iload_n 0 dX6_remember_71 rfl rfl ?_
        refine v_iaddN dX6_remember_72 ?_
        refine v_aload_n 1 dX6_remember_73 rfl rfl ?_
        refine u_getr (k := 1) (C := RX6) (T := TX6) (NF := 13) hM.n hM.s rfl rfl inX6_remember_X6 (by decide) (by decide +kernel) rfl dX6_remember_74 ?_
        refine v_iload_n 0 dX6_remember_77 rfl rfl ?_
        refine m_ld1 k hM (rfl) (by omega) dX6_remember_78 ?_
        refine m_st3 (358 * 13 + k) hM (rfl) (by omega) dX6_remember_79 ?_
        generalize hg3 : upd (cpF f1 (cpF f3 f3 358 0 4654) 0 (358 * 13) k) (358 * 13 + k) (f1 k) = g3
        refine v_σ (mk7 σ b (upd f0 5 (nI 13)) f1 f2 (cpF f1 (cpF f3 f3 358 0 4654) 0 (358 * 13) (k + 1)) f4 f5 f6) (congrArg (fun z9 => mk7 σ b (upd f0 5 (nI 13)) f1 f2 z9 f4 f5 f6) ((by rw [← cpF_s, Nat.zero_add]; subst hg3; rfl))) ?_
        refine v_iincN 0 [(1, .int (nI (k + 1))), (0, .ref (G b))] dX6_remember_80 rfl (by decide) rfl ?_
        refine v_goto 52 dX6_remember_83 rfl ?_
        refine v_loc [0, 1] [(1, .int (nI (k + 1))), (0, .ref (G b))] rfl ?_
        exact ih _ (k + 1) (show n - 1 < n by omega) (by omega)
    · skip
      refine v_aload_n 1 dX6_remember_18 rfl rfl ?_
      refine u_getr (k := 4) (C := RX6) (T := TX6) (NF := 13) hM.n hM.s rfl rfl inX6_remember_X6 (by decide) (by decide +kernel) rfl dX6_remember_19 ?_
      refine v_iload_n 0 dX6_remember_22 rfl rfl ?_
      refine v_aload_n 1 dX6_remember_23 rfl rfl ?_
      refine u_getr (k := 4) (C := RX6) (T := TX6) (NF := 13) hM.n hM.s rfl rfl inX6_remember_X6 (by decide) (by decide +kernel) rfl dX6_remember_24 ?_
      refine v_sipush (nI 358) dX6_remember_27 (by decide +kernel) ?_
      refine v_iload_n 0 dX6_remember_30 rfl rfl ?_
      refine v_iaddN dX6_remember_31 ?_
      refine m_ld3 (358 + k) hM (rfl) (by omega) dX6_remember_32 ?_
      refine v_topi (f3 (358 + k)) (cpF_out _ _ (Or.inr (by omega))) ?_
      refine m_st3 k hM (rfl) (by omega) dX6_remember_33 ?_
      generalize hg4 : upd (cpF f3 f3 358 0 k) k (f3 (358 + k)) = g4
      refine v_σ (mk7 σ b f0 f1 f2 (cpF f3 f3 358 0 (k + 1)) f4 f5 f6) (congrArg (fun z9 => mk7 σ b f0 f1 f2 z9 f4 f5 f6) ((by rw [← cpF_s, Nat.zero_add]; subst hg4; rfl))) ?_
      refine v_iincN 0 [(1, .int (nI (k + 1))), (0, .ref (G b))] dX6_remember_34 rfl (by decide) rfl ?_
      refine v_goto 11 dX6_remember_37 rfl ?_
      refine v_loc [0, 1] [(1, .int (nI (k + 1))), (0, .ref (G b))] rfl ?_
      exact ih _ (k + 1) (show n - 1 < n by omega) (by omega)

theorem c_X6_remember (lu : Launch) (Dg : va_G) (E : Nat → ClassId) (N : Nat) (G : Nat → Nat) (shp : Nat → (Nat → Int32) → va_E) (σ : Nat → Nat → Int32) {b : Nat} (hM : ModS E G shp N b) (f0 f1 f2 f3 f4 f5 f6 : Nat → Int32) {m : Nat} (hm : f0 5 = nI m) (h14 : m ≤ 14) : CS lu yX6_remember wsX6_remember { frames := 0, cells := 0, slots := 0, locals := 0 } Dg E N G shp (mk7 σ b f0 f1 f2 f3 f4 f5 f6) [.ref (G b)] none (mk7 σ b (upd f0 5 (nI (min (m + 1) 14))) f1 f2 (remF f1 f3 m) f4 f5 f6) := by
  rcases Nat.lt_or_eq_of_le h14 with h | rfl
  · exact c_X6_remember_l lu Dg E N G shp σ hM f0 f1 f2 f3 f4 f5 f6 hm h
  · exact c_X6_remember_f lu Dg E N G shp σ hM f0 f1 f2 f3 f4 f5 f6 hm