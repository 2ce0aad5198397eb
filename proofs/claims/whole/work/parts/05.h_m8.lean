theorem come_ok {T : Nat} {s : Nat → Int32} (hI : Inv T s) {y k0 : Nat} (hy : y < 2 ^ 31) (h : comeFl s (nI y) (nI k0) = 0) : y < tn (s 1) ∧ tn (s 2) < 30 ∧ tn (s (13 + y)) < 12 := by
  have hf := comeFl_0.mp h
  have hnl3 := hI.nl3
  have hyl := (Rg_nI hy (by omega)).mp hf.1
  have h1 := hI.np30
  have h2 := hf.2.2.1
  have h3 := hI.len12 hyl
  have h4 := hf.2.2.2
  rw [tn_nI hy, hI.len hyl] at h4
  rw [hI.np] at h2
  refine ⟨hyl, ?_, ?_⟩
  · rcases Nat.lt_or_eq_of_le h1 with h5 | h5
    · exact h5
    · exact absurd (congrArg nI h5) h2
  · rcases Nat.lt_or_eq_of_le h3 with h5 | h5
    · exact h5
    · exact absurd (congrArg nI h5) h4
theorem go_ok {T : Nat} {s : Nat → Int32} (hI : Inv T s) {p : Nat} (hp : p < 2 ^ 31) (h : goFl s (nI p) = 0) : p < tn (s 2) ∧ s (58 + 10 * p + 5) = 0 := by
  have hf := goFl_0.mp h
  have h1 := hI.np30
  rw [tn_nI hp] at hf
  exact ⟨(Rg_nI hp (by omega)).mp hf.1, hf.2⟩
theorem exch_ok {T : Nat} {s : Nat → Int32} (hI : Inv T s) {p q : Nat} (hp : p < 2 ^ 31) (hq : q < 2 ^ 31) (h : exchFl s (nI p) (nI q) = 0) : p < tn (s 2) ∧ q < tn (s 2) ∧ MayX s p q := by
  have hf := exchFl_0.mp h
  have h1 := hI.np30
  rw [tn_nI hp, tn_nI hq] at hf
  exact ⟨(Rg_nI hp (by omega)).mp hf.1.1, (Rg_nI hq (by omega)).mp hf.1.2, hf.2⟩
theorem jump_ok {T : Nat} {s : Nat → Int32} (hI : Inv T s) {p : Nat} (hp : p < 2 ^ 31) (h : jumpFl s (nI p) = 0) : p < tn (s 2) ∧ MayJ s p := by
  have hf := jumpFl_0.mp h
  have h1 := hI.np30
  rw [tn_nI hp] at hf
  exact ⟨(Rg_nI hp (by omega)).mp hf.1, hf.2⟩
theorem merge_ok {T : Nat} {s : Nat → Int32} (hI : Inv T s) {y o : Nat} (hy : y < 2 ^ 31) (ho : o < 2 ^ 31) (h : mergeFl s (nI y) (nI o) = 0) : y < tn (s 1) ∧ o < tn (s 1) ∧ y ≠ o ∧ tn (s (13 + y)) + tn (s (13 + o)) ≤ 12 := by
  have hf := mergeFl_0.mp h
  have h1 := hI.nl3
  rw [tn_nI hy, tn_nI ho] at hf
  exact ⟨(Rg_nI hy (by omega)).mp hf.1.1, (Rg_nI ho (by omega)).mp hf.1.2, fun e => hf.2.1 (congrArg nI e), hf.2.2⟩
set_option maxHeartbeats 4000000 in
set_option maxRecDepth 100000 in
/-- carries c -/
theorem c_X6_carries_c (lu : Launch) (Dg : va_G) (E : Nat → ClassId) (N : Nat) (G : Nat → Nat) (shp : Nat → (Nat → Int32) → va_E) (σ : Nat → Nat → Int32) {b : Nat} (hM : ModS E G shp N b) (f0 f1 f2 f3 f4 f5 f6 : Nat → Int32) {T : Nat} (hI : Inv T f1) {y k0 : Nat} (hy : y < 2 ^ 31)  : CS lu yX6_carries wsX6_carries { frames := 5, cells := 0, slots := 0, locals := 109 } Dg E N G shp (mk7 σ b f0 f1 f2 f3 f4 f5 f6) [.ref (G b), .int (nI 99), .int (nI k0), .int (nI y)] (some (.int (bi (comeFl f1 (nI y) (nI k0) = 0)))) (mk7 σ b f0 (ic (comeFl f1 (nI y) (nI k0) = 0) (comesS f1 y k0) f1) f2 f3 f4 f5 f6) := by
  refine CS.of (cc := cX6_carries) (maxL := 6) (ret := (some .boolean)) (by decide) rfl (Nat.le_of_ble_eq_true rfl) ?_
  intro p_ e_ s_ m_ args_ below_ meth_ c_
  refine v_eq (pc' := 0) (st' := []) rfl rfl ?_
  refine v_loc [0, 1, 2, 3] [(0, .ref (G b)), (1, .int (nI 99)), (2, .int (nI k0)), (3, .int (nI y))] rfl ?_
  refine v_iload_n 1 dX6_carries_0 rfl rfl ?_
  refine v_bipush (nI 99) dX6_carries_1 (by decide +kernel) ?_
  refine v_icmp_neN 15 (by omega) (by omega) dX6_carries_3 rfl (fun h3 => ?_) (fun h3 => ?_)
  · skip
    omega
  · skip
    refine v_aload_n 0 dX6_carries_6 rfl rfl ?_
    refine v_iload_n 3 dX6_carries_7 rfl rfl ?_
    refine v_iload_n 2 dX6_carries_8 rfl rfl ?_
    refine u_callVv [.int (nI y), .int (nI k0)] [] 2 (c_X6_comeFault lu Dg E N G shp σ hM f0 f1 f2 f3 f4 f5 f6 hI (nI y) (nI k0)) (ci := 6) (C := RX6) (T := TX6) (NF := 13) hM.n hM.s rfl gX6_carries_X6_comeFault rfl rfl rfl (by decide +kernel) rfl ⟨Nat.le_of_ble_eq_true rfl, Nat.le_of_ble_eq_true rfl⟩ ⟨Nat.le_of_ble_eq_true rfl, Nat.le_of_ble_eq_true rfl⟩ (Nat.le_of_ble_eq_true rfl) rfl dX6_carries_9 ?_
    refine v_goto 59 dX6_carries_12 rfl ?_
    refine v_istore [(4, .int (nI (comeFl f1 (nI y) (nI k0)))), (0, .ref (G b)), (1, .int (nI 99)), (2, .int (nI k0)), (3, .int (nI y))] dX6_carries_59 (by decide) rfl ?_
    refine v_iload 0 dX6_carries_61 rfl ?_
    refine v_if_neN 131 (by have := comeFl_le f1 (nI y) (nI k0); omega) dX6_carries_63 rfl (fun h63 => ?_) (fun h63 => ?_)
    · skip
      refine v_iload 0 dX6_carries_131 rfl ?_
      refine v_if_neN 140 (by have := comeFl_le f1 (nI y) (nI k0); omega) dX6_carries_133 rfl (fun h133 => ?_) (fun h133 => ?_)
      · skip
        refine v_iconst (nI 0) dX6_carries_140 (by decide +kernel) ?_
        refine v_zret rfl (by decide +kernel) dX6_carries_141 ⟨congrArg (fun z => some (Value.int z)) ?_, congrArg (φ shp) ?_⟩
        · exact bi_nf (by omega)
        · rw [ic_f (by omega)]
      · skip
        omega
    · skip
      have hk := come_ok hI hy h63
      have hl3 := Nat.lt_of_lt_of_le hk.1 hI.nl3
      refine v_iload_n 2 dX6_carries_66 rfl rfl ?_
      refine v_bipush (nI 99) dX6_carries_67 (by decide +kernel) ?_
      refine v_icmp_neN 81 (by omega) (by omega) dX6_carries_69 rfl (fun h69 => ?_) (fun h69 => ?_)
      · skip
        omega
      · skip
        refine v_aload_n 1 dX6_carries_72 rfl rfl ?_
        refine v_iload_n 4 dX6_carries_73 rfl rfl ?_
        refine v_iload_n 3 dX6_carries_74 rfl rfl ?_
        refine u_callVv [.int (nI y), .int (nI k0)] [] 2 (c_X6_comes lu Dg E N G shp σ hM f0 f1 f2 f3 f4 f5 f6 (p := tn (f1 2)) (l := y) (len := tn (f1 (13 + y))) (k0 := k0) hI.np hk.2.1 hl3 (hI.len hk.1) hk.2.2) (ci := 6) (C := RX6) (T := TX6) (NF := 13) hM.n hM.s rfl gX6_carries_X6_comes rfl rfl rfl (by decide +kernel) rfl ⟨Nat.le_of_ble_eq_true rfl, Nat.le_of_ble_eq_true rfl⟩ ⟨Nat.le_of_ble_eq_true rfl, Nat.le_of_ble_eq_true rfl⟩ (Nat.le_of_ble_eq_true rfl) rfl dX6_carries_75 ?_
        refine v_goto 129 dX6_carries_78 rfl ?_
        refine v_istore [(5, .int (nI (tn (f1 2)))), (4, .int (nI (comeFl f1 (nI y) (nI k0)))), (0, .ref (G b)), (1, .int (nI 99)), (2, .int (nI k0)), (3, .int (nI y))] dX6_carries_129 (by decide) rfl ?_
        refine v_iload 1 dX6_carries_131 rfl ?_
        refine v_if_neN 140 (by have := comeFl_le f1 (nI y) (nI k0); omega) dX6_carries_133 rfl (fun h133 => ?_) (fun h133 => ?_)
        · skip
          omega
        · skip
          refine v_iconst (nI 1) dX6_carries_136 (by decide +kernel) ?_
          refine v_goto 141 dX6_carries_137 rfl ?_
          refine v_zret rfl (by decide +kernel) dX6_carries_141 ⟨congrArg (fun z => some (Value.int z)) ?_, congrArg (φ shp) ?_⟩
          · exact bi_nt h63
          · rw [ic_t h63]; rfl

set_option maxHeartbeats 4000000 in
set_option maxRecDepth 100000 in
/-- carries g -/
theorem c_X6_carries_g (lu : Launch) (Dg : va_G) (E : Nat → ClassId) (N : Nat) (G : Nat → Nat) (shp : Nat → (Nat → Int32) → va_E) (σ : Nat → Nat → Int32) {b : Nat} (hM : ModS E G shp N b) (f0 f1 f2 f3 f4 f5 f6 : Nat → Int32) {T : Nat} (hI : Inv T f1) {p q : Nat} (hp : p < 2 ^ 31)  : CS lu yX6_carries wsX6_carries { frames := 5, cells := 0, slots := 0, locals := 109 } Dg E N G shp (mk7 σ b f0 f1 f2 f3 f4 f5 f6) [.ref (G b), .int (nI 103), .int (nI p), .int (nI q)] (some (.int (bi (goFl f1 (nI p) = 0)))) (mk7 σ b f0 (ic (goFl f1 (nI p) = 0) (goesS f1 p) f1) f2 f3 f4 f5 f6) := by
  refine CS.of (cc := cX6_carries) (maxL := 6) (ret := (some .boolean)) (by decide) rfl (Nat.le_of_ble_eq_true rfl) ?_
  intro p_ e_ s_ m_ args_ below_ meth_ c_
  refine v_eq (pc' := 0) (st' := []) rfl rfl ?_
  refine v_loc [0, 1, 2, 3] [(0, .ref (G b)), (1, .int (nI 103)), (2, .int (nI p)), (3, .int (nI q))] rfl ?_
  refine v_iload_n 1 dX6_carries_0 rfl rfl ?_
  refine v_bipush (nI 99) dX6_carries_1 (by decide +kernel) ?_
  refine v_icmp_neN 15 (by omega) (by omega) dX6_carries_3 rfl (fun h3 => ?_) (fun h3 => ?_)
  · skip
    refine v_iload_n 1 dX6_carries_15 rfl rfl ?_
    refine v_bipush (nI 103) dX6_carries_16 (by decide +kernel) ?_
    refine v_icmp_neN 29 (by omega) (by omega) dX6_carries_18 rfl (fun h18 => ?_) (fun h18 => ?_)
    · skip
      omega
    · skip
      refine v_aload_n 0 dX6_carries_21 rfl rfl ?_
      refine v_iload_n 2 dX6_carries_22 rfl rfl ?_
      refine u_callVv [.int (nI p)] [] 1 (c_X6_goFault lu Dg E N G shp σ hM f0 f1 f2 f3 f4 f5 f6 hI (nI p)) (ci := 6) (C := RX6) (T := TX6) (NF := 13) hM.n hM.s rfl gX6_carries_X6_goFault rfl rfl rfl (by decide +kernel) rfl ⟨Nat.le_of_ble_eq_true rfl, Nat.le_of_ble_eq_true rfl⟩ ⟨Nat.le_of_ble_eq_true rfl, Nat.le_of_ble_eq_true rfl⟩ (Nat.le_of_ble_eq_true rfl) rfl dX6_carries_23 ?_
      refine v_goto 59 dX6_carries_26 rfl ?_
      refine v_istore [(4, .int (nI (goFl f1 (nI p)))), (0, .ref (G b)), (1, .int (nI 103)), (2, .int (nI p)), (3, .int (nI q))] dX6_carries_59 (by decide) rfl ?_
      refine v_iload 0 dX6_carries_61 rfl ?_
      refine v_if_neN 131 (by have := goFl_le f1 (nI p); omega) dX6_carries_63 rfl (fun h63 => ?_) (fun h63 => ?_)
      · skip
        refine v_iload 0 dX6_carries_131 rfl ?_
        refine v_if_neN 140 (by have := goFl_le f1 (nI p); omega) dX6_carries_133 rfl (fun h133 => ?_) (fun h133 => ?_)
        · skip
          refine v_iconst (nI 0) dX6_carries_140 (by decide +kernel) ?_
          refine v_zret rfl (by decide +kernel) dX6_carries_141 ⟨congrArg (fun z => some (Value.int z)) ?_, congrArg (φ shp) ?_⟩
          · exact bi_nf (by omega)
          · rw [ic_f (by omega)]
        · skip
          omega
      · skip
        have hk := go_ok hI hp h63
        refine v_iload_n 2 dX6_carries_66 rfl rfl ?_
        refine v_bipush (nI 99) dX6_carries_67 (by decide +kernel) ?_
        refine v_icmp_neN 81 (by omega) (by omega) dX6_carries_69 rfl (fun h69 => ?_) (fun h69 => ?_)
        · skip
          refine v_iload_n 2 dX6_carries_81 rfl rfl ?_
          refine v_bipush (nI 103) dX6_carries_82 (by decide +kernel) ?_
          refine v_icmp_neN 95 (by omega) (by omega) dX6_carries_84 rfl (fun h84 => ?_) (fun h84 => ?_)
          · skip
            omega
          · skip
            refine v_aload_n 1 dX6_carries_87 rfl rfl ?_
            refine v_iload_n 3 dX6_carries_88 rfl rfl ?_
            refine u_callVv [.int (nI p)] [] 1 (c_X6_goes lu Dg E N G shp σ hM f0 f1 f2 f3 f4 f5 f6 hI hk.1 hk.2) (ci := 6) (C := RX6) (T := TX6) (NF := 13) hM.n hM.s rfl gX6_carries_X6_goes rfl rfl rfl (by decide +kernel) rfl ⟨Nat.le_of_ble_eq_true rfl, Nat.le_of_ble_eq_true rfl⟩ ⟨Nat.le_of_ble_eq_true rfl, Nat.le_of_ble_eq_true rfl⟩ (Nat.le_of_ble_eq_true rfl) rfl dX6_carries_89 ?_
            refine v_goto 129 dX6_carries_92 rfl ?_
            refine v_istore [(5, .int (f1 (58 + 10 * p + 2))), (4, .int (nI (goFl f1 (nI p)))), (0, .ref (G b)), (1, .int (nI 103)), (2, .int (nI p)), (3, .int (nI q))] dX6_carries_129 (by decide) rfl ?_
            refine v_iload 1 dX6_carries_131 rfl ?_
            refine v_if_neN 140 (by have := goFl_le f1 (nI p); omega) dX6_carries_133 rfl (fun h133 => ?_) (fun h133 => ?_)
            · skip
              omega
            · skip
              refine v_iconst (nI 1) dX6_carries_136 (by decide +kernel) ?_
              refine v_goto 141 dX6_carries_137 rfl ?_
              refine v_zret rfl (by decide +kernel) dX6_carries_141 ⟨congrArg (fun z => some (Value.int z)) ?_, congrArg (φ shp) ?_⟩
              · exact bi_nt h63
              · rw [ic_t h63]; rfl
        · skip
          omega
  · skip
    omega

set_option maxHeartbeats 4000000 in
set_option maxRecDepth 100000 in
/-- carries x -/
theorem c_X6_carries_x (lu : Launch) (Dg : va_G) (E : Nat → ClassId) (N : Nat) (G : Nat → Nat) (shp : Nat → (Nat → Int32) → va_E) (σ : Nat → Nat → Int32) {b : Nat} (hM : ModS E G shp N b) (f0 f1 f2 f3 f4 f5 f6 : Nat → Int32) {T : Nat} (hI : Inv T f1) {p q : Nat} (hp : p < 2 ^ 31) (hq : q < 2 ^ 31)  : CS lu yX6_carries wsX6_carries { frames := 5, cells := 0, slots := 0, locals := 109 } Dg E N G shp (mk7 σ b f0 f1 f2 f3 f4 f5 f6) [.ref (G b), .int (nI 120), .int (nI p), .int (nI q)] (some (.int (bi (exchFl f1 (nI p) (nI q) = 0)))) (mk7 σ b f0 (ic (exchFl f1 (nI p) (nI q) = 0) (exchS f1 p q) f1) f2 f3 f4 f5 f6) := by
  refine CS.of (cc := cX6_carries) (maxL := 6) (ret := (some .boolean)) (by decide) rfl (Nat.le_of_ble_eq_true rfl) ?_
  intro p_ e_ s_ m_ args_ below_ meth_ c_
  refine v_eq (pc' := 0) (st' := []) rfl rfl ?_
  refine v_loc [0, 1, 2, 3] [(0, .ref (G b)), (1, .int (nI 120)), (2, .int (nI p)), (3, .int (nI q))] rfl ?_
  refine v_iload_n 1 dX6_carries_0 rfl rfl ?_
  refine v_bipush (nI 99) dX6_carries_1 (by decide +kernel) ?_
  refine v_icmp_neN 15 (by omega) (by omega) dX6_carries_3 rfl (fun h3 => ?_) (fun h3 => ?_)
  · skip
    refine v_iload_n 1 dX6_carries_15 rfl rfl ?_
    refine v_bipush (nI 103) dX6_carries_16 (by decide +kernel) ?_
    refine v_icmp_neN 29 (by omega) (by omega) dX6_carries_18 rfl (fun h18 => ?_) (fun h18 => ?_)
    · skip
      refine v_iload_n 1 dX6_carries_29 rfl rfl ?_
      refine v_bipush (nI 120) dX6_carries_30 (by decide +kernel) ?_
      refine v_icmp_neN 44 (by omega) (by omega) dX6_carries_32 rfl (fun h32 => ?_) (fun h32 => ?_)
      · skip
        omega
      · skip
        refine v_aload_n 0 dX6_carries_35 rfl rfl ?_
        refine v_iload_n 2 dX6_carries_36 rfl rfl ?_
        refine v_iload_n 3 dX6_carries_37 rfl rfl ?_
        refine u_callVv [.int (nI p), .int (nI q)] [] 2 (c_X6_exchangeFault lu Dg E N G shp σ hM f0 f1 f2 f3 f4 f5 f6 hI (nI p) (nI q)) (ci := 6) (C := RX6) (T := TX6) (NF := 13) hM.n hM.s rfl gX6_carries_X6_exchangeFault rfl rfl rfl (by decide +kernel) rfl ⟨Nat.le_of_ble_eq_true rfl, Nat.le_of_ble_eq_true rfl⟩ ⟨Nat.le_of_ble_eq_true rfl, Nat.le_of_ble_eq_true rfl⟩ (Nat.le_of_ble_eq_true rfl) rfl dX6_carries_38 ?_
        refine v_goto 59 dX6_carries_41 rfl ?_
        refine v_istore [(4, .int (nI (exchFl f1 (nI p) (nI q)))), (0, .ref (G b)), (1, .int (nI 120)), (2, .int (nI p)), (3, .int (nI q))] dX6_carries_59 (by decide) rfl ?_
        refine v_iload 0 dX6_carries_61 rfl ?_
        refine v_if_neN 131 (by have := exchFl_le f1 (nI p) (nI q); omega) dX6_carries_63 rfl (fun h63 => ?_) (fun h63 => ?_)
        · skip
          refine v_iload 0 dX6_carries_131 rfl ?_
          refine v_if_neN 140 (by have := exchFl_le f1 (nI p) (nI q); omega) dX6_carries_133 rfl (fun h133 => ?_) (fun h133 => ?_)
          · skip
            refine v_iconst (nI 0) dX6_carries_140 (by decide +kernel) ?_
            refine v_zret rfl (by decide +kernel) dX6_carries_141 ⟨congrArg (fun z => some (Value.int z)) ?_, congrArg (φ shp) ?_⟩
            · exact bi_nf (by omega)
            · rw [ic_f (by omega)]
          · skip
            omega
        · skip
          have hk := exch_ok hI hp hq h63
          refine v_iload_n 2 dX6_carries_66 rfl rfl ?_
          refine v_bipush (nI 99) dX6_carries_67 (by decide +kernel) ?_
          refine v_icmp_neN 81 (by omega) (by omega) dX6_carries_69 rfl (fun h69 => ?_) (fun h69 => ?_)
          · skip
            refine v_iload_n 2 dX6_carries_81 rfl rfl ?_
            refine v_bipush (nI 103) dX6_carries_82 (by decide +kernel) ?_
            refine v_icmp_neN 95 (by omega) (by omega) dX6_carries_84 rfl (fun h84 => ?_) (fun h84 => ?_)
            · skip
              refine v_iload_n 2 dX6_carries_95 rfl rfl ?_
              refine v_bipush (nI 120) dX6_carries_96 (by decide +kernel) ?_
              refine v_icmp_neN 110 (by omega) (by omega) dX6_carries_98 rfl (fun h98 => ?_) (fun h98 => ?_)
              · skip
                omega
              · skip
                refine v_aload_n 1 dX6_carries_101 rfl rfl ?_
                refine v_iload_n 3 dX6_carries_102 rfl rfl ?_
                refine v_iload_n 4 dX6_carries_103 rfl rfl ?_
                refine u_callVv [.int (nI p), .int (nI q)] [] 2 (c_X6_exchanges lu Dg E N G shp σ hM f0 f1 f2 f3 f4 f5 f6 hI hk.1 hk.2.1 hk.2.2) (ci := 6) (C := RX6) (T := TX6) (NF := 13) hM.n hM.s rfl gX6_carries_X6_exchanges rfl rfl rfl (by decide +kernel) rfl ⟨Nat.le_of_ble_eq_true rfl, Nat.le_of_ble_eq_true rfl⟩ ⟨Nat.le_of_ble_eq_true rfl, Nat.le_of_ble_eq_true rfl⟩ (Nat.le_of_ble_eq_true rfl) rfl dX6_carries_104 ?_
                refine v_goto 129 dX6_carries_107 rfl ?_
                refine v_istore [(5, .int (nI (plc f1 p - plc f1 q) * f1 8)), (4, .int (nI (exchFl f1 (nI p) (nI q)))), (0, .ref (G b)), (1, .int (nI 120)), (2, .int (nI p)), (3, .int (nI q))] dX6_carries_129 (by decide) rfl ?_
                refine v_iload 1 dX6_carries_131 rfl ?_
                refine v_if_neN 140 (by have := exchFl_le f1 (nI p) (nI q); omega) dX6_carries_133 rfl (fun h133 => ?_) (fun h133 => ?_)
                · skip
                  omega
                · skip
                  refine v_iconst (nI 1) dX6_carries_136 (by decide +kernel) ?_
                  refine v_goto 141 dX6_carries_137 rfl ?_
                  refine v_zret rfl (by decide +kernel) dX6_carries_141 ⟨congrArg (fun z => some (Value.int z)) ?_, congrArg (φ shp) ?_⟩
                  · exact bi_nt h63
                  · rw [ic_t h63]; rfl
            · skip
              omega
          · skip
            omega
    · skip
      omega
  · skip
    omega

set_option maxHeartbeats 4000000 in
set_option maxRecDepth 100000 in
/-- carries j -/
theorem c_X6_carries_j (lu : Launch) (Dg : va_G) (E : Nat → ClassId) (N : Nat) (G : Nat → Nat) (shp : Nat → (Nat → Int32) → va_E) (σ : Nat → Nat → Int32) {b : Nat} (hM : ModS E G shp N b) (f0 f1 f2 f3 f4 f5 f6 : Nat → Int32) {T : Nat} (hI : Inv T f1) {p q : Nat} (hp : p < 2 ^ 31)  : CS lu yX6_carries wsX6_carries { frames := 5, cells := 0, slots := 0, locals := 109 } Dg E N G shp (mk7 σ b f0 f1 f2 f3 f4 f5 f6) [.ref (G b), .int (nI 106), .int (nI p), .int (nI q)] (some (.int (bi (jumpFl f1 (nI p) = 0)))) (mk7 σ b f0 (ic (jumpFl f1 (nI p) = 0) (jumpsS f1 p) f1) f2 f3 f4 f5 f6) := by
  refine CS.of (cc := cX6_carries) (maxL := 6) (ret := (some .boolean)) (by decide) rfl (Nat.le_of_ble_eq_true rfl) ?_
  intro p_ e_ s_ m_ args_ below_ meth_ c_
  refine v_eq (pc' := 0) (st' := []) rfl rfl ?_
  refine v_loc [0, 1, 2, 3] [(0, .ref (G b)), (1, .int (nI 106)), (2, .int (nI p)), (3, .int (nI q))] rfl ?_
  refine v_iload_n 1 dX6_carries_0 rfl rfl ?_
  refine v_bipush (nI 99) dX6_carries_1 (by decide +kernel) ?_
  refine v_icmp_neN 15 (by omega) (by omega) dX6_carries_3 rfl (fun h3 => ?_) (fun h3 => ?_)
  · skip
    refine v_iload_n 1 dX6_carries_15 rfl rfl ?_
    refine v_bipush (nI 103) dX6_carries_16 (by decide +kernel) ?_
    refine v_icmp_neN 29 (by omega) (by omega) dX6_carries_18 rfl (fun h18 => ?_) (fun h18 => ?_)
    · skip
      refine v_iload_n 1 dX6_carries_29 rfl rfl ?_
      refine v_bipush (nI 120) dX6_carries_30 (by decide +kernel) ?_
      refine v_icmp_neN 44 (by omega) (by omega) dX6_carries_32 rfl (fun h32 => ?_) (fun h32 => ?_)
      · skip
        refine v_iload_n 1 dX6_carries_44 rfl rfl ?_
        refine v_bipush (nI 106) dX6_carries_45 (by decide +kernel) ?_
        refine v_icmp_neN 58 (by omega) (by omega) dX6_carries_47 rfl (fun h47 => ?_) (fun h47 => ?_)
        · skip
          omega
        · skip
          refine v_aload_n 0 dX6_carries_50 rfl rfl ?_
          refine v_iload_n 2 dX6_carries_51 rfl rfl ?_
          refine u_callVv [.int (nI p)] [] 1 (c_X6_jumpFault lu Dg E N G shp σ hM f0 f1 f2 f3 f4 f5 f6 hI (nI p)) (ci := 6) (C := RX6) (T := TX6) (NF := 13) hM.n hM.s rfl gX6_carries_X6_jumpFault rfl rfl rfl (by decide +kernel) rfl ⟨Nat.le_of_ble_eq_true rfl, Nat.le_of_ble_eq_true rfl⟩ ⟨Nat.le_of_ble_eq_true rfl, Nat.le_of_ble_eq_true rfl⟩ (Nat.le_of_ble_eq_true rfl) rfl dX6_carries_52 ?_
          refine v_goto 59 dX6_carries_55 rfl ?_
          refine v_istore [(4, .int (nI (jumpFl f1 (nI p)))), (0, .ref (G b)), (1, .int (nI 106)), (2, .int (nI p)), (3, .int (nI q))] dX6_carries_59 (by decide) rfl ?_
          refine v_iload 0 dX6_carries_61 rfl ?_
          refine v_if_neN 131 (by have := jumpFl_le f1 (nI p); omega) dX6_carries_63 rfl (fun h63 => ?_) (fun h63 => ?_)
          · skip
            refine v_iload 0 dX6_carries_131 rfl ?_
            refine v_if_neN 140 (by have := jumpFl_le f1 (nI p); omega) dX6_carries_133 rfl (fun h133 => ?_) (fun h133 => ?_)
            · skip
              refine v_iconst (nI 0) dX6_carries_140 (by decide +kernel) ?_
              refine v_zret rfl (by decide +kernel) dX6_carries_141 ⟨congrArg (fun z => some (Value.int z)) ?_, congrArg (φ shp) ?_⟩
              · exact bi_nf (by omega)
              · rw [ic_f (by omega)]
            · skip
              omega
          · skip
            have hk := jump_ok hI hp h63
            refine v_iload_n 2 dX6_carries_66 rfl rfl ?_
            refine v_bipush (nI 99) dX6_carries_67 (by decide +kernel) ?_
            refine v_icmp_neN 81 (by omega) (by omega) dX6_carries_69 rfl (fun h69 => ?_) (fun h69 => ?_)
            · skip
              refine v_iload_n 2 dX6_carries_81 rfl rfl ?_
              refine v_bipush (nI 103) dX6_carries_82 (by decide +kernel) ?_
              refine v_icmp_neN 95 (by omega) (by omega) dX6_carries_84 rfl (fun h84 => ?_) (fun h84 => ?_)
              · skip
                refine v_iload_n 2 dX6_carries_95 rfl rfl ?_
                refine v_bipush (nI 120) dX6_carries_96 (by decide +kernel) ?_
                refine v_icmp_neN 110 (by omega) (by omega) dX6_carries_98 rfl (fun h98 => ?_) (fun h98 => ?_)
                · skip
                  refine v_iload_n 2 dX6_carries_110 rfl rfl ?_
                  refine v_bipush (nI 106) dX6_carries_111 (by decide +kernel) ?_
                  refine v_icmp_neN 124 (by omega) (by omega) dX6_carries_113 rfl (fun h113 => ?_) (fun h113 => ?_)
                  · skip
                    omega
                  · skip
                    refine v_aload_n 1 dX6_carries_116 rfl rfl ?_
                    refine v_iload_n 3 dX6_carries_117 rfl rfl ?_
                    refine u_callVv [.int (nI p)] [] 1 (c_X6_jumps lu Dg E N G shp σ hM f0 f1 f2 f3 f4 f5 f6 hI hk.1 hk.2) (ci := 6) (C := RX6) (T := TX6) (NF := 13) hM.n hM.s rfl gX6_carries_X6_jumps rfl rfl rfl (by decide +kernel) rfl ⟨Nat.le_of_ble_eq_true rfl, Nat.le_of_ble_eq_true rfl⟩ ⟨Nat.le_of_ble_eq_true rfl, Nat.le_of_ble_eq_true rfl⟩ (Nat.le_of_ble_eq_true rfl) rfl dX6_carries_118 ?_
                    refine v_goto 129 dX6_carries_121 rfl ?_
                    refine v_istore [(5, .int (nI (jsteps f1 p))), (4, .int (nI (jumpFl f1 (nI p)))), (0, .ref (G b)), (1, .int (nI 106)), (2, .int (nI p)), (3, .int (nI q))] dX6_carries_129 (by decide) rfl ?_
                    refine v_iload 1 dX6_carries_131 rfl ?_
                    refine v_if_neN 140 (by have := jumpFl_le f1 (nI p); omega) dX6_carries_133 rfl (fun h133 => ?_) (fun h133 => ?_)
                    · skip
                      omega
                    · skip
                      refine v_iconst (nI 1) dX6_carries_136 (by decide +kernel) ?_
                      refine v_goto 141 dX6_carries_137 rfl ?_
                      refine v_zret rfl (by decide +kernel) dX6_carries_141 ⟨congrArg (fun z => some (Value.int z)) ?_, congrArg (φ shp) ?_⟩
                      · exact bi_nt h63
                      · rw [ic_t h63]; rfl
                · skip
                  omega
              · skip
                omega
            · skip
              omega
      · skip
        omega
    · skip
      omega
  · skip
    omega

set_option maxHeartbeats 4000000 in
set_option maxRecDepth 100000 in
/-- carries t -/
theorem c_X6_carries_t (lu : Launch) (Dg : va_G) (E : Nat → ClassId) (N : Nat) (G : Nat → Nat) (shp : Nat → (Nat → Int32) → va_E) (σ : Nat → Nat → Int32) {b : Nat} (hM : ModS E G shp N b) (f0 f1 f2 f3 f4 f5 f6 : Nat → Int32) {n0 q : Nat} (hn0 : n0 < 2 ^ 31) (hJ : ∀ k, k < n0 → ∃ T, Inv T (goByS f1 k))  : CS lu yX6_carries wsX6_carries { frames := 5, cells := 0, slots := 0, locals := 109 } Dg E N G shp (mk7 σ b f0 f1 f2 f3 f4 f5 f6) [.ref (G b), .int (nI 116), .int (nI n0), .int (nI q)] (some (.int (nI 1))) (mk7 σ b f0 (goByS f1 n0) f2 f3 f4 f5 f6) := by
  refine CS.of (cc := cX6_carries) (maxL := 6) (ret := (some .boolean)) (by decide) rfl (Nat.le_of_ble_eq_true rfl) ?_
  intro p_ e_ s_ m_ args_ below_ meth_ c_
  refine v_eq (pc' := 0) (st' := []) rfl rfl ?_
  refine v_loc [0, 1, 2, 3] [(0, .ref (G b)), (1, .int (nI 116)), (2, .int (nI n0)), (3, .int (nI q))] rfl ?_
  refine v_iload_n 1 dX6_carries_0 rfl rfl ?_
  refine v_bipush (nI 99) dX6_carries_1 (by decide +kernel) ?_
  refine v_icmp_neN 15 (by omega) (by omega) dX6_carries_3 rfl (fun h3 => ?_) (fun h3 => ?_)
  · skip
    refine v_iload_n 1 dX6_carries_15 rfl rfl ?_
    refine v_bipush (nI 103) dX6_carries_16 (by decide +kernel) ?_
    refine v_icmp_neN 29 (by omega) (by omega) dX6_carries_18 rfl (fun h18 => ?_) (fun h18 => ?_)
    · skip
      refine v_iload_n 1 dX6_carries_29 rfl rfl ?_
      refine v_bipush (nI 120) dX6_carries_30 (by decide +kernel) ?_
      refine v_icmp_neN 44 (by omega) (by omega) dX6_carries_32 rfl (fun h32 => ?_) (fun h32 => ?_)
      · skip
        refine v_iload_n 1 dX6_carries_44 rfl rfl ?_
        refine v_bipush (nI 106) dX6_carries_45 (by decide +kernel) ?_
        refine v_icmp_neN 58 (by omega) (by omega) dX6_carries_47 rfl (fun h47 => ?_) (fun h47 => ?_)
        · skip
          refine v_iconst (nI 0) dX6_carries_58 (by decide +kernel) ?_
          refine v_istore [(4, .int (nI 0)), (0, .ref (G b)), (1, .int (nI 116)), (2, .int (nI n0)), (3, .int (nI q))] dX6_carries_59 (by decide) rfl ?_
          refine v_iload 0 dX6_carries_61 rfl ?_
          refine v_if_neN 131 (by omega) dX6_carries_63 rfl (fun h63 => ?_) (fun h63 => ?_)
          · skip
            omega
          · skip
            refine v_iload_n 2 dX6_carries_66 rfl rfl ?_
            refine v_bipush (nI 99) dX6_carries_67 (by decide +kernel) ?_
            refine v_icmp_neN 81 (by omega) (by omega) dX6_carries_69 rfl (fun h69 => ?_) (fun h69 => ?_)
            · skip
              refine v_iload_n 2 dX6_carries_81 rfl rfl ?_
              refine v_bipush (nI 103) dX6_carries_82 (by decide +kernel) ?_
              refine v_icmp_neN 95 (by omega) (by omega) dX6_carries_84 rfl (fun h84 => ?_) (fun h84 => ?_)
              · skip
                refine v_iload_n 2 dX6_carries_95 rfl rfl ?_
                refine v_bipush (nI 120) dX6_carries_96 (by decide +kernel) ?_
                refine v_icmp_neN 110 (by omega) (by omega) dX6_carries_98 rfl (fun h98 => ?_) (fun h98 => ?_)
                · skip
                  refine v_iload_n 2 dX6_carries_110 rfl rfl ?_
                  refine v_bipush (nI 106) dX6_carries_111 (by decide +kernel) ?_
                  refine v_icmp_neN 124 (by omega) (by omega) dX6_carries_113 rfl (fun h113 => ?_) (fun h113 => ?_)
                  · skip
                    refine v_aload_n 1 dX6_carries_124 rfl rfl ?_
                    refine v_iload_n 3 dX6_carries_125 rfl rfl ?_
                    refine u_callVv [.int (nI n0)] [] 1 (c_X6_goBy lu Dg E N G shp σ hM f0 f1 f2 f3 f4 f5 f6 n0 hn0 hJ) (ci := 6) (C := RX6) (T := TX6) (NF := 13) hM.n hM.s rfl gX6_carries_X6_goBy rfl rfl rfl (by decide +kernel) rfl ⟨Nat.le_of_ble_eq_true rfl, Nat.le_of_ble_eq_true rfl⟩ ⟨Nat.le_of_ble_eq_true rfl, Nat.le_of_ble_eq_true rfl⟩ (Nat.le_of_ble_eq_true rfl) rfl dX6_carries_126 ?_
                    refine v_istore [(5, .int (nI (goByN f1 n0))), (4, .int (nI 0)), (0, .ref (G b)), (1, .int (nI 116)), (2, .int (nI n0)), (3, .int (nI q))] dX6_carries_129 (by decide) rfl ?_
                    refine v_iload 1 dX6_carries_131 rfl ?_
                    refine v_if_neN 140 (by omega) dX6_carries_133 rfl (fun h133 => ?_) (fun h133 => ?_)
                    · skip
                      omega
                    · skip
                      refine v_iconst (nI 1) dX6_carries_136 (by decide +kernel) ?_
                      refine v_goto 141 dX6_carries_137 rfl ?_
                      refine v_zret rfl (by decide +kernel) dX6_carries_141 ⟨congrArg (fun z => some (Value.int z)) ?_, congrArg (φ shp) ?_⟩
                      · rfl
                      · rfl
                  · skip
                    omega
                · skip
                  omega
              · skip
                omega
            · skip
              omega
        · skip
          omega
      · skip
        omega
    · skip
      omega
  · skip
    omega

/-- after w minutes, and not before, one who stood stands no more -/
def Turns (s : Nat → Int32) (p w : Nat) : Prop := (∀ k, k < w → goByS s k (58 + 10 * p + 5) = 0) ∧ ¬ goByS s w (58 + 10 * p + 5) = 0 ∧ ∀ k, k < w → ∃ T, Inv T (goByS s k)
set_option maxHeartbeats 4000000 in
set_option maxRecDepth 100000 in
/-- turnOf -/
theorem c_X6_turnOf (lu : Launch) (Dg : va_G) (E : Nat → ClassId) (N : Nat) (G : Nat → Nat) (shp : Nat → (Nat → Int32) → va_E) (σ : Nat → Nat → Int32) {b : Nat} (hM : ModS E G shp N b) (f0 f1 f2 f3 f4 f5 f6 : Nat → Int32) {pd w0 p : Nat} (hpd : f0 3 = nI pd) (hp2 : pd ≤ 2) (hp : p < 30) (hT : Turns f1 p w0)  : CX lu yX6_turnOf wsX6_turnOf { frames := 4, cells := 0, slots := 0, locals := 86 } Dg E N G shp (mk7 σ b f0 f1 f2 f3 f4 f5 f6) [.ref (G b), .int (nI p)] (fun v' τ => v' = some (.int (nI w0)) ∧ ∃ g2, (∀ i, i < 358 * pd → g2 i = f2 i) ∧ τ = mk7 σ b f0 f1 g2 f3 f4 f5 f6) := by
  refine CX.of (cc := cX6_turnOf) (maxL := 4) (ret := (some .int)) (by decide) rfl (Nat.le_of_ble_eq_true rfl) ?_
  intro p_ e_ s_ m_ args_ below_ meth_ c_
  refine v_eq (pc' := 0) (st' := []) rfl rfl ?_
  refine v_loc [0, 1] [(0, .ref (G b)), (1, .int (nI p))] rfl ?_
  have hst := hT.1
  have hend := hT.2.1
  have hJ := hT.2.2
  have hu : upd (upd f0 3 (nI (pd + 1))) 3 (nI pd) = f0 := upd_self hpd
  refine v_aload_n 0 dX6_turnOf_0 rfl rfl ?_
  refine u_callVn [] [] 0 (c_X6_push lu Dg E N G shp σ hM f0 f1 f2 f3 f4 f5 f6 hpd hp2) (ci := 6) (C := RX6) (T := TX6) (NF := 13) hM.n hM.s rfl gX6_turnOf_X6_push rfl rfl rfl (by decide +kernel) rfl ⟨Nat.le_of_ble_eq_true rfl, Nat.le_of_ble_eq_true rfl⟩ ⟨Nat.le_of_ble_eq_true rfl, Nat.le_of_ble_eq_true rfl⟩ (Nat.le_of_ble_eq_true rfl) rfl dX6_turnOf_1 ?_
  refine v_σ (mk7 σ b (upd f0 3 (nI (pd + 1))) (goByS f1 0) (cpF f1 f2 0 (358 * pd) 358) f3 f4 f5 f6) (congrArg (fun z9 => mk7 σ b (upd f0 3 (nI (pd + 1))) z9 (cpF f1 f2 0 (358 * pd) 358) f3 f4 f5 f6) (rfl)) ?_
  refine v_iconst (nI 0) dX6_turnOf_4 (by decide +kernel) ?_
  refine v_istore_n [(2, .int (nI 0)), (0, .ref (G b)), (1, .int (nI p))] dX6_turnOf_5 rfl (by decide) rfl ?_
  refine v_loc [0, 2, 1] [(2, .int (nI 0)), (1, .int (nI p)), (0, .ref (G b))] rfl ?_
  refine u_loop1 (fun n (k : Nat) => k + n = w0) (fun (k : Nat) => mk7 σ b (upd f0 3 (nI (pd + 1))) (goByS f1 k) (cpF f1 f2 0 (358 * pd) 358) f3 f4 f5 f6) (fun (k : Nat) => [(2, .int (nI k)), (1, .int (nI p)), (0, .ref (G b))]) (w0) 0 ((by omega)) ?_
  intro n k hL ih
  refine v_aload_n 2 dX6_turnOf_6 rfl rfl ?_
  refine v_iload_n 1 dX6_turnOf_7 rfl rfl ?_
  refine u_callVv [.int (nI p)] [] 1 (c_X6_isStanding lu Dg E N G shp σ hM (upd f0 3 (nI (pd + 1))) (goByS f1 k) (cpF f1 f2 0 (358 * pd) 358) f3 f4 f5 f6 p (by omega)) (ci := 6) (C := RX6) (T := TX6) (NF := 13) hM.n hM.s rfl gX6_turnOf_X6_isStanding rfl rfl rfl (by decide +kernel) rfl ⟨Nat.le_of_ble_eq_true rfl, Nat.le_of_ble_eq_true rfl⟩ ⟨Nat.le_of_ble_eq_true rfl, Nat.le_of_ble_eq_true rfl⟩ (Nat.le_of_ble_eq_true rfl) rfl dX6_turnOf_8 ?_
  refine v_if_eqB 25 dX6_turnOf_11 rfl (fun h11 => ?_) (fun h11 => ?_)
  · skip
    have hkw : k = w0 := by rcases Nat.lt_or_eq_of_le (Nat.le.intro hL) with h9 | h9; exact absurd (hst k h9) h11; exact h9
    refine v_aload_n 2 dX6_turnOf_25 rfl rfl ?_
    refine u_callVn [] [] 0 ((c_X6_pop lu Dg E N G shp σ hM (upd f0 3 (nI (pd + 1))) (goByS f1 k) (cpF f1 f2 0 (358 * pd) 358) f3 f4 f5 f6 (pd := pd) (by rw [upd_ap, if_pos rfl]) hp2 f1 (fun i hi => by rw [cpF_in _ _ (by omega) (by omega)]; congr 1; omega)).to rfl (congrArg (fun z9 => mk7 σ b z9 f1 (cpF f1 f2 0 (358 * pd) 358) f3 f4 f5 f6) hu)) (ci := 6) (C := RX6) (T := TX6) (NF := 13) hM.n hM.s rfl gX6_turnOf_X6_pop rfl rfl rfl (by decide +kernel) rfl ⟨Nat.le_of_ble_eq_true rfl, Nat.le_of_ble_eq_true rfl⟩ ⟨Nat.le_of_ble_eq_true rfl, Nat.le_of_ble_eq_true rfl⟩ (Nat.le_of_ble_eq_true rfl) rfl dX6_turnOf_26 ?_
    refine v_iload_n 0 dX6_turnOf_29 rfl rfl ?_
    refine v_iret rfl dX6_turnOf_30 ⟨mk7 σ b f0 f1 (cpF f1 f2 0 (358 * pd) 358) f3 f4 f5 f6, rfl, ⟨by rw [hkw], cpF f1 f2 0 (358 * pd) 358, fun i hi => cpF_out _ _ (Or.inl hi), rfl⟩⟩
  · skip
    have hkw : k < w0 := by rcases Nat.lt_or_eq_of_le (Nat.le.intro hL) with h9 | h9; exact h9; exact absurd h11 (h9 ▸ hend)
    obtain ⟨T9, hI9⟩ := hJ k hkw
    refine v_aload_n 2 dX6_turnOf_14 rfl rfl ?_
    refine u_callVv [] [] 0 (c_X6_minute lu Dg E N G shp σ hM (upd f0 3 (nI (pd + 1))) (goByS f1 k) (cpF f1 f2 0 (358 * pd) 358) f3 f4 f5 f6 (T := T9) hI9) (ci := 6) (C := RX6) (T := TX6) (NF := 13) hM.n hM.s rfl gX6_turnOf_X6_minute rfl rfl rfl (by decide +kernel) rfl ⟨Nat.le_of_ble_eq_true rfl, Nat.le_of_ble_eq_true rfl⟩ ⟨Nat.le_of_ble_eq_true rfl, Nat.le_of_ble_eq_true rfl⟩ (Nat.le_of_ble_eq_true rfl) rfl dX6_turnOf_15 ?_
    refine v_istore_n [(3, .int (nI (minuteN (goByS f1 k)))), (2, .int (nI k)), (1, .int (nI p)), (0, .ref (G b))] dX6_turnOf_18 rfl (by decide) rfl ?_
    refine v_iincN 1 [(2, .int (nI (k + 1))), (3, .int (nI (minuteN (goByS f1 k)))), (1, .int (nI p)), (0, .ref (G b))] dX6_turnOf_19 rfl (by decide) rfl ?_
    refine v_goto 6 dX6_turnOf_22 rfl ?_
    refine v_loc [0, 2, 3] [(2, .int (nI (k + 1))), (1, .int (nI p)), (0, .ref (G b))] rfl ?_
    exact ih _ (k + 1) (show n - 1 < n by omega) (by omega)
