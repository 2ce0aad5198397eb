theorem tkB_self {t : Nat → Int32} {lz p : Nat} {v : Int32} (q : chrT t lz p = v) : tkB t lz v v p := by
  subst q; exact ⟨Int32.le_refl _, Int32.le_refl _⟩
theorem tkN_le (t : Nat → Int32) (lz : Nat) (lo hi : Int32) (p : Nat) : tkN t lz lo hi p ≤ p + 1 := by
  unfold tkN
  by_cases h : tkB t lz lo hi p
  · rw [ic_t h]; omega
  · rw [ic_f h]; omega
theorem persN_le (t : Nat → Int32) (lz p : Nat) : persN t lz p ≤ p + 2 := by
  have h1 := tkN_le t lz (nI 48) (nI 57) (p + 1)
  unfold persN
  by_cases h : tkB t lz (nI 48) (nI 50) p
  · rw [ic_t h]; omega
  · rw [ic_f h]; omega
set_option maxRecDepth 100000 in
theorem inX0_takeCommand_X0 : ∀ w ∈ wsX00, w ∈ wsX0_takeCommand := by decide +kernel
set_option maxHeartbeats 4000000 in
set_option maxRecDepth 100000 in
/-- Day.takeCommand_c -/
theorem c_X0_takeCommand_c (lu : Launch) (Dg : va_G) (E : Nat → ClassId) (N : Nat) (G : Nat → Nat) (shp : Nat → (Nat → Int32) → va_E) (σ : Nat → Nat → Int32) {x : Nat} (hX : DayS E G shp N x)  {lz : Nat} (hl : σ x 1 = nI lz) (h100 : lz ≤ 100) {p : Nat} (hp : p < 2 ^ 18) (q9 : chrT (σ (x + 1)) lz p = nI 99)  : CS lu yX0_takeCommand wsX0_takeCommand { frames := 3, cells := 0, slots := 0, locals := 64 } Dg E N G shp (st2 σ x 2 (nI p)) [.ref (G x)] (some (.int (bi (tkB (σ (x + 1)) lz (nI 48) (nI 50) (p + 1) ∧ tkB (σ (x + 1)) lz (nI 48) (nI 50) (p + 1 + 1))))) (st2 σ x 2 (nI (ic (tkB (σ (x + 1)) lz (nI 48) (nI 50) (p + 1)) (tkN (σ (x + 1)) lz (nI 48) (nI 50) (p + 1 + 1)) (p + 1)))) := by
  refine CS.of (cc := cX0_takeCommand) (maxL := 1) (ret := (some .boolean)) (by decide) rfl (Nat.le_of_ble_eq_true rfl) ?_
  intro p_ e_ s_ m_ args_ below_ meth_ c_
  refine v_eq (pc' := 0) (st' := []) rfl rfl ?_
  refine v_loc [0] [(0, .ref (G x))] rfl ?_
  refine v_aload_n 0 dX0_takeCommand_0 rfl rfl ?_
  refine v_aload_n 0 dX0_takeCommand_1 rfl rfl ?_
  refine u_geti (k := 2) (C := RX0) (T := TX0) (NF := 3) hX.n hX.2.1 rfl rfl inX0_takeCommand_X0 (by decide) (by decide +kernel) rfl dX0_takeCommand_2 ?_
  refine v_topi (nI p) (st2_same _ _ _ _) ?_
  refine u_callVv [.int (nI p)] [] 1 (c_X0_charAt lu Dg E N G shp (st2 σ x 2 (nI p)) hX (lz := lz) (by rw [st2_eq, if_neg (by omega)]; exact hl) h100 (p := p) (by omega)) (ci := 0) (C := RX0) (T := TX0) (NF := 3) hX.n hX.2.1 rfl gX0_takeCommand_X0_charAt rfl rfl rfl (by decide +kernel) rfl ⟨Nat.le_of_ble_eq_true rfl, Nat.le_of_ble_eq_true rfl⟩ ⟨Nat.le_of_ble_eq_true rfl, Nat.le_of_ble_eq_true rfl⟩ (Nat.le_of_ble_eq_true rfl) rfl dX0_takeCommand_5 ?_
  refine v_topi (chrT (σ (x + 1)) lz p) (by rw [st2_row σ (by omega)]) ?_
  refine v_topi (nI 99) (q9) ?_
  refine v_lookup (off := 52) 60 dX0_takeCommand_8 (by decide +kernel) (by decide +kernel) (by decide +kernel) ?_
  refine v_aload_n 0 dX0_takeCommand_60 rfl rfl ?_
  refine v_bipush (nI 99) dX0_takeCommand_61 (by decide +kernel) ?_
  refine v_bipush (nI 99) dX0_takeCommand_63 (by decide +kernel) ?_
  refine u_callVv [.int (nI 99), .int (nI 99)] [] 2 (c_X0_take lu Dg E N G shp σ hX (lz := lz) hl h100 (p := p) (by omega) (nI 99) (nI 99)) (ci := 0) (C := RX0) (T := TX0) (NF := 3) hX.n hX.2.1 rfl gX0_takeCommand_X0_take rfl rfl rfl (by decide +kernel) rfl ⟨Nat.le_of_ble_eq_true rfl, Nat.le_of_ble_eq_true rfl⟩ ⟨Nat.le_of_ble_eq_true rfl, Nat.le_of_ble_eq_true rfl⟩ (Nat.le_of_ble_eq_true rfl) rfl dX0_takeCommand_65 ?_
  refine v_if_eqB 97 dX0_takeCommand_68 rfl (fun h68 => ?_) (fun h68 => ?_)
  · skip
    exact absurd (tkB_self q9) h68
  · skip
    refine v_σ (st2 σ x 2 (nI (p + 1))) (by unfold tkN; rw [ic_t h68]) ?_
    refine v_aload_n 0 dX0_takeCommand_71 rfl rfl ?_
    refine v_bipush (nI 48) dX0_takeCommand_72 (by decide +kernel) ?_
    refine v_bipush (nI 50) dX0_takeCommand_74 (by decide +kernel) ?_
    refine u_callVv [.int (nI 48), .int (nI 50)] [] 2 (c_X0_take lu Dg E N G shp σ hX (lz := lz) hl h100 (p := p + 1) (by omega) (nI 48) (nI 50)) (ci := 0) (C := RX0) (T := TX0) (NF := 3) hX.n hX.2.1 rfl gX0_takeCommand_X0_take rfl rfl rfl (by decide +kernel) rfl ⟨Nat.le_of_ble_eq_true rfl, Nat.le_of_ble_eq_true rfl⟩ ⟨Nat.le_of_ble_eq_true rfl, Nat.le_of_ble_eq_true rfl⟩ (Nat.le_of_ble_eq_true rfl) rfl dX0_takeCommand_76 ?_
    refine v_if_eqB 97 dX0_takeCommand_79 rfl (fun h79 => ?_) (fun h79 => ?_)
    · skip
      refine v_σ (st2 σ x 2 (nI (p + 1))) (by unfold tkN; rw [ic_f h79]) ?_
      refine v_iconst (nI 0) dX0_takeCommand_97 (by decide +kernel) ?_
      refine v_zret rfl (by decide +kernel) dX0_takeCommand_98 ⟨congrArg (fun z => some (Value.int z)) ?_, congrArg (φ shp) ?_⟩
      · first | exact bi_nf (fun z9 => h79 z9.1) | exact bi_nf (fun z9 => h90 z9.2)
      · first | rw [ic_f h79] | rw [ic_t h79]
    · skip
      refine v_σ (st2 σ x 2 (nI (p + 1 + 1))) (by unfold tkN; rw [ic_t h79]) ?_
      refine v_aload_n 0 dX0_takeCommand_82 rfl rfl ?_
      refine v_bipush (nI 48) dX0_takeCommand_83 (by decide +kernel) ?_
      refine v_bipush (nI 50) dX0_takeCommand_85 (by decide +kernel) ?_
      refine u_callVv [.int (nI 48), .int (nI 50)] [] 2 (c_X0_take lu Dg E N G shp σ hX (lz := lz) hl h100 (p := p + 1 + 1) (by omega) (nI 48) (nI 50)) (ci := 0) (C := RX0) (T := TX0) (NF := 3) hX.n hX.2.1 rfl gX0_takeCommand_X0_take rfl rfl rfl (by decide +kernel) rfl ⟨Nat.le_of_ble_eq_true rfl, Nat.le_of_ble_eq_true rfl⟩ ⟨Nat.le_of_ble_eq_true rfl, Nat.le_of_ble_eq_true rfl⟩ (Nat.le_of_ble_eq_true rfl) rfl dX0_takeCommand_87 ?_
      refine v_if_eqB 97 dX0_takeCommand_90 rfl (fun h90 => ?_) (fun h90 => ?_)
      · skip
        refine v_iconst (nI 0) dX0_takeCommand_97 (by decide +kernel) ?_
        refine v_zret rfl (by decide +kernel) dX0_takeCommand_98 ⟨congrArg (fun z => some (Value.int z)) ?_, congrArg (φ shp) ?_⟩
        · first | exact bi_nf (fun z9 => h79 z9.1) | exact bi_nf (fun z9 => h90 z9.2)
        · first | rw [ic_f h79] | rw [ic_t h79]
      · skip
        refine v_iconst (nI 1) dX0_takeCommand_93 (by decide +kernel) ?_
        refine v_goto 98 dX0_takeCommand_94 rfl ?_
        refine v_zret rfl (by decide +kernel) dX0_takeCommand_98 ⟨congrArg (fun z => some (Value.int z)) ?_, congrArg (φ shp) ?_⟩
        · exact bi_nt ⟨h79, h90⟩
        · rw [ic_t h79]

set_option maxHeartbeats 4000000 in
set_option maxRecDepth 100000 in
/-- Day.takeCommand_g -/
theorem c_X0_takeCommand_g (lu : Launch) (Dg : va_G) (E : Nat → ClassId) (N : Nat) (G : Nat → Nat) (shp : Nat → (Nat → Int32) → va_E) (σ : Nat → Nat → Int32) {x : Nat} (hX : DayS E G shp N x)  {lz : Nat} (hl : σ x 1 = nI lz) (h100 : lz ≤ 100) {p : Nat} (hp : p < 2 ^ 18) (q9 : chrT (σ (x + 1)) lz p = nI 103)  : CS lu yX0_takeCommand wsX0_takeCommand { frames := 3, cells := 0, slots := 0, locals := 64 } Dg E N G shp (st2 σ x 2 (nI p)) [.ref (G x)] (some (.int (bi (persB (σ (x + 1)) lz (p + 1))))) (st2 σ x 2 (nI (persN (σ (x + 1)) lz (p + 1)))) := by
  refine CS.of (cc := cX0_takeCommand) (maxL := 1) (ret := (some .boolean)) (by decide) rfl (Nat.le_of_ble_eq_true rfl) ?_
  intro p_ e_ s_ m_ args_ below_ meth_ c_
  refine v_eq (pc' := 0) (st' := []) rfl rfl ?_
  refine v_loc [0] [(0, .ref (G x))] rfl ?_
  refine v_aload_n 0 dX0_takeCommand_0 rfl rfl ?_
  refine v_aload_n 0 dX0_takeCommand_1 rfl rfl ?_
  refine u_geti (k := 2) (C := RX0) (T := TX0) (NF := 3) hX.n hX.2.1 rfl rfl inX0_takeCommand_X0 (by decide) (by decide +kernel) rfl dX0_takeCommand_2 ?_
  refine v_topi (nI p) (st2_same _ _ _ _) ?_
  refine u_callVv [.int (nI p)] [] 1 (c_X0_charAt lu Dg E N G shp (st2 σ x 2 (nI p)) hX (lz := lz) (by rw [st2_eq, if_neg (by omega)]; exact hl) h100 (p := p) (by omega)) (ci := 0) (C := RX0) (T := TX0) (NF := 3) hX.n hX.2.1 rfl gX0_takeCommand_X0_charAt rfl rfl rfl (by decide +kernel) rfl ⟨Nat.le_of_ble_eq_true rfl, Nat.le_of_ble_eq_true rfl⟩ ⟨Nat.le_of_ble_eq_true rfl, Nat.le_of_ble_eq_true rfl⟩ (Nat.le_of_ble_eq_true rfl) rfl dX0_takeCommand_5 ?_
  refine v_topi (chrT (σ (x + 1)) lz p) (by rw [st2_row σ (by omega)]) ?_
  refine v_topi (nI 103) (q9) ?_
  refine v_lookup (off := 91) 99 dX0_takeCommand_8 (by decide +kernel) (by decide +kernel) (by decide +kernel) ?_
  refine v_aload_n 0 dX0_takeCommand_99 rfl rfl ?_
  refine v_bipush (nI 103) dX0_takeCommand_100 (by decide +kernel) ?_
  refine v_bipush (nI 103) dX0_takeCommand_102 (by decide +kernel) ?_
  refine u_callVv [.int (nI 103), .int (nI 103)] [] 2 (c_X0_take lu Dg E N G shp σ hX (lz := lz) hl h100 (p := p) (by omega) (nI 103) (nI 103)) (ci := 0) (C := RX0) (T := TX0) (NF := 3) hX.n hX.2.1 rfl gX0_takeCommand_X0_take rfl rfl rfl (by decide +kernel) rfl ⟨Nat.le_of_ble_eq_true rfl, Nat.le_of_ble_eq_true rfl⟩ ⟨Nat.le_of_ble_eq_true rfl, Nat.le_of_ble_eq_true rfl⟩ (Nat.le_of_ble_eq_true rfl) rfl dX0_takeCommand_104 ?_
  refine v_if_eqB 121 dX0_takeCommand_107 rfl (fun h107 => ?_) (fun h107 => ?_)
  · skip
    exact absurd (tkB_self q9) h107
  · skip
    refine v_σ (st2 σ x 2 (nI (p + 1))) (by unfold tkN; rw [ic_t h107]) ?_
    refine v_aload_n 0 dX0_takeCommand_110 rfl rfl ?_
    refine u_callVv [] [] 0 (c_X0_takePerson lu Dg E N G shp σ hX (lz := lz) hl h100 (p := p + 1) (by omega)) (ci := 0) (C := RX0) (T := TX0) (NF := 3) hX.n hX.2.1 rfl gX0_takeCommand_X0_takePerson rfl rfl rfl (by decide +kernel) rfl ⟨Nat.le_of_ble_eq_true rfl, Nat.le_of_ble_eq_true rfl⟩ ⟨Nat.le_of_ble_eq_true rfl, Nat.le_of_ble_eq_true rfl⟩ (Nat.le_of_ble_eq_true rfl) rfl dX0_takeCommand_111 ?_
    refine v_if_eqB 121 dX0_takeCommand_114 rfl (fun h114 => ?_) (fun h114 => ?_)
    · skip
      refine v_iconst (nI 0) dX0_takeCommand_121 (by decide +kernel) ?_
      refine v_zret rfl (by decide +kernel) dX0_takeCommand_122 ⟨congrArg (fun z => some (Value.int z)) ?_, congrArg (φ shp) ?_⟩
      · exact bi_nf h114
      · rfl
    · skip
      refine v_iconst (nI 1) dX0_takeCommand_117 (by decide +kernel) ?_
      refine v_goto 122 dX0_takeCommand_118 rfl ?_
      refine v_zret rfl (by decide +kernel) dX0_takeCommand_122 ⟨congrArg (fun z => some (Value.int z)) ?_, congrArg (φ shp) ?_⟩
      · exact bi_nt h114
      · rfl

set_option maxHeartbeats 4000000 in
set_option maxRecDepth 100000 in
/-- Day.takeCommand_j -/
theorem c_X0_takeCommand_j (lu : Launch) (Dg : va_G) (E : Nat → ClassId) (N : Nat) (G : Nat → Nat) (shp : Nat → (Nat → Int32) → va_E) (σ : Nat → Nat → Int32) {x : Nat} (hX : DayS E G shp N x)  {lz : Nat} (hl : σ x 1 = nI lz) (h100 : lz ≤ 100) {p : Nat} (hp : p < 2 ^ 18) (q9 : chrT (σ (x + 1)) lz p = nI 106)  : CS lu yX0_takeCommand wsX0_takeCommand { frames := 3, cells := 0, slots := 0, locals := 64 } Dg E N G shp (st2 σ x 2 (nI p)) [.ref (G x)] (some (.int (bi (persB (σ (x + 1)) lz (p + 1))))) (st2 σ x 2 (nI (persN (σ (x + 1)) lz (p + 1)))) := by
  refine CS.of (cc := cX0_takeCommand) (maxL := 1) (ret := (some .boolean)) (by decide) rfl (Nat.le_of_ble_eq_true rfl) ?_
  intro p_ e_ s_ m_ args_ below_ meth_ c_
  refine v_eq (pc' := 0) (st' := []) rfl rfl ?_
  refine v_loc [0] [(0, .ref (G x))] rfl ?_
  refine v_aload_n 0 dX0_takeCommand_0 rfl rfl ?_
  refine v_aload_n 0 dX0_takeCommand_1 rfl rfl ?_
  refine u_geti (k := 2) (C := RX0) (T := TX0) (NF := 3) hX.n hX.2.1 rfl rfl inX0_takeCommand_X0 (by decide) (by decide +kernel) rfl dX0_takeCommand_2 ?_
  refine v_topi (nI p) (st2_same _ _ _ _) ?_
  refine u_callVv [.int (nI p)] [] 1 (c_X0_charAt lu Dg E N G shp (st2 σ x 2 (nI p)) hX (lz := lz) (by rw [st2_eq, if_neg (by omega)]; exact hl) h100 (p := p) (by omega)) (ci := 0) (C := RX0) (T := TX0) (NF := 3) hX.n hX.2.1 rfl gX0_takeCommand_X0_charAt rfl rfl rfl (by decide +kernel) rfl ⟨Nat.le_of_ble_eq_true rfl, Nat.le_of_ble_eq_true rfl⟩ ⟨Nat.le_of_ble_eq_true rfl, Nat.le_of_ble_eq_true rfl⟩ (Nat.le_of_ble_eq_true rfl) rfl dX0_takeCommand_5 ?_
  refine v_topi (chrT (σ (x + 1)) lz p) (by rw [st2_row σ (by omega)]) ?_
  refine v_topi (nI 106) (q9) ?_
  refine v_lookup (off := 146) 154 dX0_takeCommand_8 (by decide +kernel) (by decide +kernel) (by decide +kernel) ?_
  refine v_aload_n 0 dX0_takeCommand_154 rfl rfl ?_
  refine v_bipush (nI 106) dX0_takeCommand_155 (by decide +kernel) ?_
  refine v_bipush (nI 106) dX0_takeCommand_157 (by decide +kernel) ?_
  refine u_callVv [.int (nI 106), .int (nI 106)] [] 2 (c_X0_take lu Dg E N G shp σ hX (lz := lz) hl h100 (p := p) (by omega) (nI 106) (nI 106)) (ci := 0) (C := RX0) (T := TX0) (NF := 3) hX.n hX.2.1 rfl gX0_takeCommand_X0_take rfl rfl rfl (by decide +kernel) rfl ⟨Nat.le_of_ble_eq_true rfl, Nat.le_of_ble_eq_true rfl⟩ ⟨Nat.le_of_ble_eq_true rfl, Nat.le_of_ble_eq_true rfl⟩ (Nat.le_of_ble_eq_true rfl) rfl dX0_takeCommand_159 ?_
  refine v_if_eqB 176 dX0_takeCommand_162 rfl (fun h162 => ?_) (fun h162 => ?_)
  · skip
    exact absurd (tkB_self q9) h162
  · skip
    refine v_σ (st2 σ x 2 (nI (p + 1))) (by unfold tkN; rw [ic_t h162]) ?_
    refine v_aload_n 0 dX0_takeCommand_165 rfl rfl ?_
    refine u_callVv [] [] 0 (c_X0_takePerson lu Dg E N G shp σ hX (lz := lz) hl h100 (p := p + 1) (by omega)) (ci := 0) (C := RX0) (T := TX0) (NF := 3) hX.n hX.2.1 rfl gX0_takeCommand_X0_takePerson rfl rfl rfl (by decide +kernel) rfl ⟨Nat.le_of_ble_eq_true rfl, Nat.le_of_ble_eq_true rfl⟩ ⟨Nat.le_of_ble_eq_true rfl, Nat.le_of_ble_eq_true rfl⟩ (Nat.le_of_ble_eq_true rfl) rfl dX0_takeCommand_166 ?_
    refine v_if_eqB 176 dX0_takeCommand_169 rfl (fun h169 => ?_) (fun h169 => ?_)
    · skip
      refine v_iconst (nI 0) dX0_takeCommand_176 (by decide +kernel) ?_
      refine v_zret rfl (by decide +kernel) dX0_takeCommand_177 ⟨congrArg (fun z => some (Value.int z)) ?_, congrArg (φ shp) ?_⟩
      · exact bi_nf h169
      · rfl
    · skip
      refine v_iconst (nI 1) dX0_takeCommand_172 (by decide +kernel) ?_
      refine v_goto 177 dX0_takeCommand_173 rfl ?_
      refine v_zret rfl (by decide +kernel) dX0_takeCommand_177 ⟨congrArg (fun z => some (Value.int z)) ?_, congrArg (φ shp) ?_⟩
      · exact bi_nt h169
      · rfl

set_option maxHeartbeats 4000000 in
set_option maxRecDepth 100000 in
/-- Day.takeCommand_t -/
theorem c_X0_takeCommand_t (lu : Launch) (Dg : va_G) (E : Nat → ClassId) (N : Nat) (G : Nat → Nat) (shp : Nat → (Nat → Int32) → va_E) (σ : Nat → Nat → Int32) {x : Nat} (hX : DayS E G shp N x)  {lz : Nat} (hl : σ x 1 = nI lz) (h100 : lz ≤ 100) {p : Nat} (hp : p < 2 ^ 18) (q9 : chrT (σ (x + 1)) lz p = nI 116)  : CS lu yX0_takeCommand wsX0_takeCommand { frames := 3, cells := 0, slots := 0, locals := 64 } Dg E N G shp (st2 σ x 2 (nI p)) [.ref (G x)] (some (.int (bi (tkB (σ (x + 1)) lz (nI 49) (nI 57) (p + 1))))) (st2 σ x 2 (nI (tkN (σ (x + 1)) lz (nI 49) (nI 57) (p + 1)))) := by
  refine CS.of (cc := cX0_takeCommand) (maxL := 1) (ret := (some .boolean)) (by decide) rfl (Nat.le_of_ble_eq_true rfl) ?_
  intro p_ e_ s_ m_ args_ below_ meth_ c_
  refine v_eq (pc' := 0) (st' := []) rfl rfl ?_
  refine v_loc [0] [(0, .ref (G x))] rfl ?_
  refine v_aload_n 0 dX0_takeCommand_0 rfl rfl ?_
  refine v_aload_n 0 dX0_takeCommand_1 rfl rfl ?_
  refine u_geti (k := 2) (C := RX0) (T := TX0) (NF := 3) hX.n hX.2.1 rfl rfl inX0_takeCommand_X0 (by decide) (by decide +kernel) rfl dX0_takeCommand_2 ?_
  refine v_topi (nI p) (st2_same _ _ _ _) ?_
  refine u_callVv [.int (nI p)] [] 1 (c_X0_charAt lu Dg E N G shp (st2 σ x 2 (nI p)) hX (lz := lz) (by rw [st2_eq, if_neg (by omega)]; exact hl) h100 (p := p) (by omega)) (ci := 0) (C := RX0) (T := TX0) (NF := 3) hX.n hX.2.1 rfl gX0_takeCommand_X0_charAt rfl rfl rfl (by decide +kernel) rfl ⟨Nat.le_of_ble_eq_true rfl, Nat.le_of_ble_eq_true rfl⟩ ⟨Nat.le_of_ble_eq_true rfl, Nat.le_of_ble_eq_true rfl⟩ (Nat.le_of_ble_eq_true rfl) rfl dX0_takeCommand_5 ?_
  refine v_topi (chrT (σ (x + 1)) lz p) (by rw [st2_row σ (by omega)]) ?_
  refine v_topi (nI 116) (q9) ?_
  refine v_lookup (off := 170) 178 dX0_takeCommand_8 (by decide +kernel) (by decide +kernel) (by decide +kernel) ?_
  refine v_aload_n 0 dX0_takeCommand_178 rfl rfl ?_
  refine v_bipush (nI 116) dX0_takeCommand_179 (by decide +kernel) ?_
  refine v_bipush (nI 116) dX0_takeCommand_181 (by decide +kernel) ?_
  refine u_callVv [.int (nI 116), .int (nI 116)] [] 2 (c_X0_take lu Dg E N G shp σ hX (lz := lz) hl h100 (p := p) (by omega) (nI 116) (nI 116)) (ci := 0) (C := RX0) (T := TX0) (NF := 3) hX.n hX.2.1 rfl gX0_takeCommand_X0_take rfl rfl rfl (by decide +kernel) rfl ⟨Nat.le_of_ble_eq_true rfl, Nat.le_of_ble_eq_true rfl⟩ ⟨Nat.le_of_ble_eq_true rfl, Nat.le_of_ble_eq_true rfl⟩ (Nat.le_of_ble_eq_true rfl) rfl dX0_takeCommand_183 ?_
  refine v_if_eqB 204 dX0_takeCommand_186 rfl (fun h186 => ?_) (fun h186 => ?_)
  · skip
    exact absurd (tkB_self q9) h186
  · skip
    refine v_σ (st2 σ x 2 (nI (p + 1))) (by unfold tkN; rw [ic_t h186]) ?_
    refine v_aload_n 0 dX0_takeCommand_189 rfl rfl ?_
    refine v_bipush (nI 49) dX0_takeCommand_190 (by decide +kernel) ?_
    refine v_bipush (nI 57) dX0_takeCommand_192 (by decide +kernel) ?_
    refine u_callVv [.int (nI 49), .int (nI 57)] [] 2 (c_X0_take lu Dg E N G shp σ hX (lz := lz) hl h100 (p := p + 1) (by omega) (nI 49) (nI 57)) (ci := 0) (C := RX0) (T := TX0) (NF := 3) hX.n hX.2.1 rfl gX0_takeCommand_X0_take rfl rfl rfl (by decide +kernel) rfl ⟨Nat.le_of_ble_eq_true rfl, Nat.le_of_ble_eq_true rfl⟩ ⟨Nat.le_of_ble_eq_true rfl, Nat.le_of_ble_eq_true rfl⟩ (Nat.le_of_ble_eq_true rfl) rfl dX0_takeCommand_194 ?_
    refine v_if_eqB 204 dX0_takeCommand_197 rfl (fun h197 => ?_) (fun h197 => ?_)
    · skip
      refine v_iconst (nI 0) dX0_takeCommand_204 (by decide +kernel) ?_
      refine v_zret rfl (by decide +kernel) dX0_takeCommand_205 ⟨congrArg (fun z => some (Value.int z)) ?_, congrArg (φ shp) ?_⟩
      · exact bi_nf h197
      · rfl
    · skip
      refine v_iconst (nI 1) dX0_takeCommand_200 (by decide +kernel) ?_
      refine v_goto 205 dX0_takeCommand_201 rfl ?_
      refine v_zret rfl (by decide +kernel) dX0_takeCommand_205 ⟨congrArg (fun z => some (Value.int z)) ?_, congrArg (φ shp) ?_⟩
      · exact bi_nt h197
      · rfl

set_option maxHeartbeats 4000000 in
set_option maxRecDepth 100000 in
/-- Day.takeCommand_x -/
theorem c_X0_takeCommand_x (lu : Launch) (Dg : va_G) (E : Nat → ClassId) (N : Nat) (G : Nat → Nat) (shp : Nat → (Nat → Int32) → va_E) (σ : Nat → Nat → Int32) {x : Nat} (hX : DayS E G shp N x)  {lz : Nat} (hl : σ x 1 = nI lz) (h100 : lz ≤ 100) {p : Nat} (hp : p < 2 ^ 18) (q9 : chrT (σ (x + 1)) lz p = nI 120)  : CS lu yX0_takeCommand wsX0_takeCommand { frames := 3, cells := 0, slots := 0, locals := 64 } Dg E N G shp (st2 σ x 2 (nI p)) [.ref (G x)] (some (.int (bi (persB (σ (x + 1)) lz (p + 1) ∧ persB (σ (x + 1)) lz (persN (σ (x + 1)) lz (p + 1)))))) (st2 σ x 2 (nI (ic (persB (σ (x + 1)) lz (p + 1)) (persN (σ (x + 1)) lz (persN (σ (x + 1)) lz (p + 1))) (persN (σ (x + 1)) lz (p + 1))))) := by
  refine CS.of (cc := cX0_takeCommand) (maxL := 1) (ret := (some .boolean)) (by decide) rfl (Nat.le_of_ble_eq_true rfl) ?_
  intro p_ e_ s_ m_ args_ below_ meth_ c_
  refine v_eq (pc' := 0) (st' := []) rfl rfl ?_
  refine v_loc [0] [(0, .ref (G x))] rfl ?_
  have hpn := persN_le (σ (x + 1)) lz (p + 1)
  refine v_aload_n 0 dX0_takeCommand_0 rfl rfl ?_
  refine v_aload_n 0 dX0_takeCommand_1 rfl rfl ?_
  refine u_geti (k := 2) (C := RX0) (T := TX0) (NF := 3) hX.n hX.2.1 rfl rfl inX0_takeCommand_X0 (by decide) (by decide +kernel) rfl dX0_takeCommand_2 ?_
  refine v_topi (nI p) (st2_same _ _ _ _) ?_
  refine u_callVv [.int (nI p)] [] 1 (c_X0_charAt lu Dg E N G shp (st2 σ x 2 (nI p)) hX (lz := lz) (by rw [st2_eq, if_neg (by omega)]; exact hl) h100 (p := p) (by omega)) (ci := 0) (C := RX0) (T := TX0) (NF := 3) hX.n hX.2.1 rfl gX0_takeCommand_X0_charAt rfl rfl rfl (by decide +kernel) rfl ⟨Nat.le_of_ble_eq_true rfl, Nat.le_of_ble_eq_true rfl⟩ ⟨Nat.le_of_ble_eq_true rfl, Nat.le_of_ble_eq_true rfl⟩ (Nat.le_of_ble_eq_true rfl) rfl dX0_takeCommand_5 ?_
  refine v_topi (chrT (σ (x + 1)) lz p) (by rw [st2_row σ (by omega)]) ?_
  refine v_topi (nI 120) (q9) ?_
  refine v_lookup (off := 115) 123 dX0_takeCommand_8 (by decide +kernel) (by decide +kernel) (by decide +kernel) ?_
  refine v_aload_n 0 dX0_takeCommand_123 rfl rfl ?_
  refine v_bipush (nI 120) dX0_takeCommand_124 (by decide +kernel) ?_
  refine v_bipush (nI 120) dX0_takeCommand_126 (by decide +kernel) ?_
  refine u_callVv [.int (nI 120), .int (nI 120)] [] 2 (c_X0_take lu Dg E N G shp σ hX (lz := lz) hl h100 (p := p) (by omega) (nI 120) (nI 120)) (ci := 0) (C := RX0) (T := TX0) (NF := 3) hX.n hX.2.1 rfl gX0_takeCommand_X0_take rfl rfl rfl (by decide +kernel) rfl ⟨Nat.le_of_ble_eq_true rfl, Nat.le_of_ble_eq_true rfl⟩ ⟨Nat.le_of_ble_eq_true rfl, Nat.le_of_ble_eq_true rfl⟩ (Nat.le_of_ble_eq_true rfl) rfl dX0_takeCommand_128 ?_
  refine v_if_eqB 152 dX0_takeCommand_131 rfl (fun h131 => ?_) (fun h131 => ?_)
  · skip
    exact absurd (tkB_self q9) h131
  · skip
    refine v_σ (st2 σ x 2 (nI (p + 1))) (by unfold tkN; rw [ic_t h131]) ?_
    refine v_aload_n 0 dX0_takeCommand_134 rfl rfl ?_
    refine u_callVv [] [] 0 (c_X0_takePerson lu Dg E N G shp σ hX (lz := lz) hl h100 (p := p + 1) (by omega)) (ci := 0) (C := RX0) (T := TX0) (NF := 3) hX.n hX.2.1 rfl gX0_takeCommand_X0_takePerson rfl rfl rfl (by decide +kernel) rfl ⟨Nat.le_of_ble_eq_true rfl, Nat.le_of_ble_eq_true rfl⟩ ⟨Nat.le_of_ble_eq_true rfl, Nat.le_of_ble_eq_true rfl⟩ (Nat.le_of_ble_eq_true rfl) rfl dX0_takeCommand_135 ?_
    refine v_if_eqB 152 dX0_takeCommand_138 rfl (fun h138 => ?_) (fun h138 => ?_)
    · skip
      refine v_iconst (nI 0) dX0_takeCommand_152 (by decide +kernel) ?_
      refine v_zret rfl (by decide +kernel) dX0_takeCommand_153 ⟨congrArg (fun z => some (Value.int z)) ?_, congrArg (φ shp) ?_⟩
      · first | exact bi_nf (fun z9 => h138 z9.1) | exact bi_nf (fun z9 => h145 z9.2)
      · first | rw [ic_f h138] | rw [ic_t h138]
    · skip
      refine v_aload_n 0 dX0_takeCommand_141 rfl rfl ?_
      refine u_callVv [] [] 0 (c_X0_takePerson lu Dg E N G shp σ hX (lz := lz) hl h100 (p := persN (σ (x + 1)) lz (p + 1)) (by omega)) (ci := 0) (C := RX0) (T := TX0) (NF := 3) hX.n hX.2.1 rfl gX0_takeCommand_X0_takePerson rfl rfl rfl (by decide +kernel) rfl ⟨Nat.le_of_ble_eq_true rfl, Nat.le_of_ble_eq_true rfl⟩ ⟨Nat.le_of_ble_eq_true rfl, Nat.le_of_ble_eq_true rfl⟩ (Nat.le_of_ble_eq_true rfl) rfl dX0_takeCommand_142 ?_
      refine v_if_eqB 152 dX0_takeCommand_145 rfl (fun h145 => ?_) (fun h145 => ?_)
      · skip
        refine v_iconst (nI 0) dX0_takeCommand_152 (by decide +kernel) ?_
        refine v_zret rfl (by decide +kernel) dX0_takeCommand_153 ⟨congrArg (fun z => some (Value.int z)) ?_, congrArg (φ shp) ?_⟩
        · first | exact bi_nf (fun z9 => h138 z9.1) | exact bi_nf (fun z9 => h145 z9.2)
        · first | rw [ic_f h138] | rw [ic_t h138]
      · skip
        refine v_iconst (nI 1) dX0_takeCommand_148 (by decide +kernel) ?_
        refine v_goto 153 dX0_takeCommand_149 rfl ?_
        refine v_zret rfl (by decide +kernel) dX0_takeCommand_153 ⟨congrArg (fun z => some (Value.int z)) ?_, congrArg (φ shp) ?_⟩
        · exact bi_nt ⟨h138, h145⟩
        · rw [ic_t h138]
