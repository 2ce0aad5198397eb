/-! THE LAW'S OWN METHODS: what they read and call -/
theorem Inv.mono {T U : Nat} {s : Nat → Int32} (h : Inv T s) (hTU : T ≤ U) (hU : U ≤ 1000000) : Inv U s := by
  obtain ⟨a, b, c, d, e⟩ := h
  exact ⟨hU, b, c, d.mono hTU, e⟩
theorem hs_idem {σ : Nat → Nat → Int32} {b : Nat} {c c' : Nat → Int32} : hs (hs σ b c) b c' = hs σ b c' := by
  funext n
  by_cases h2 : n < b ∨ (b + 2 ≤ n ∧ n < b + 7) ∨ b + 43 ≤ n
  · rw [hs_out h2, hs_out h2, hs_out h2]
  · exact hs_cell h2
theorem v_ishr {p : Program} {l : Launch} {e : Env} {R : Room} {s : State} {m : MethodId} {args : Array Value} {below : List Frame} {meth : Method} {c : Code} {Q : State → Prop} {D : va_G} {E : Nat → ClassId} {A : Nat → Prop} {cc : ByteArray} {nL : Nat} {own : String} {ret : Option FieldType} {Ts : List Cond} {N : Nat} {G : Nat → Nat} {cells slots : Nat} {Φ : Nat → va_E} {pc : Nat} {loc : List (Nat × Value)} {st : List Value} {x y : Int32} (hdg : decode cc pc = .ok (.ishr, 1)) (k : V p l e R s m args below meth c Q D E A cc nL own ret Ts N G cells slots Φ (pc + 1) loc (.int (x >>> (y &&& 31)) :: st)) : V p l e R s m args below meth c Q D E A cc nL own ret Ts N G cells slots Φ pc loc (.int y :: .int x :: st) := fun o H locs ls hP hD hS hl => lv_ishr o.1.1 o.1.2.1 hdg (k o H locs ls hP hD hS hl)
/-! the script's array, which lies outside the world -/
theorem v_sld {p : Program} {l : Launch} {e : Env} {R : Room} {s : State} {m : MethodId} {args : Array Value} {below : List Frame} {meth : Method} {c : Code} {Q : State → Prop} {D : va_G} {E : Nat → ClassId} {A : Nat → Prop} {cc : ByteArray} {nL : Nat} {own : String} {ret : Option FieldType} {Ts : List Cond} {N : Nat} {G : Nat → Nat} {cells slots : Nat} {Φ : Nat → va_E} {pc : Nat} {loc : List (Nat × Value)} {st : List Value} {b L : Nat} {xs : Nat → Int32} {i : Int32} (hX : va_X b L xs s s.heap) (hbl : b < s.heap.size) (hbA : ¬ A b) (hin : vp_in i L) (hdg : decode cc pc = .ok (.iaload, 1))
    (k : V p l e R s m args below meth c Q D E A cc nL own ret Ts N G cells slots Φ (pc + 1) loc (.int (xs i.toNatClampNeg) :: st)) : V p l e R s m args below meth c Q D E A cc nL own ret Ts N G cells slots Φ pc loc (.int i :: .ref b :: st) :=
  fun o H locs ls hP hD hS hl => va_sld o.1.1 o.1.2.1 hX hbl hbA hS hin hdg (k o H locs ls hP hD hS hl)
theorem v_slen {p : Program} {l : Launch} {e : Env} {R : Room} {s : State} {m : MethodId} {args : Array Value} {below : List Frame} {meth : Method} {c : Code} {Q : State → Prop} {D : va_G} {E : Nat → ClassId} {A : Nat → Prop} {cc : ByteArray} {nL : Nat} {own : String} {ret : Option FieldType} {Ts : List Cond} {N : Nat} {G : Nat → Nat} {cells slots : Nat} {Φ : Nat → va_E} {pc : Nat} {loc : List (Nat × Value)} {st : List Value} {b L : Nat} {xs : Nat → Int32} (hX : va_X b L xs s s.heap) (hbl : b < s.heap.size) (hbA : ¬ A b) (hdg : decode cc pc = .ok (.arraylength, 1))
    (k : V p l e R s m args below meth c Q D E A cc nL own ret Ts N G cells slots Φ (pc + 1) loc (.int (nI L) :: st)) : V p l e R s m args below meth c Q D E A cc nL own ret Ts N G cells slots Φ pc loc (.ref b :: st) :=
  fun o H locs ls hP hD hS hl => va_slen o.1.1 o.1.2.1 hX hbl hbA hS hdg (k o H locs ls hP hD hS hl)
def ScrB (b : Nat) (A : Nat → Prop) (s : State) : Prop := ∃ (L : Nat) (xs : Nat → Int32), L < 2 ^ 31 ∧ va_X b L xs s s.heap ∧ b < s.heap.size ∧ ¬ A b
theorem ScrB.warm {b : Nat} {A B : Nat → Prop} {s U : State} {locs : List Loc} (h : ScrB b A s) (hS : va_S A s.heap U.heap locs) (hW : s.WarmedH U.vm) (hAB : ∀ q, B q → A q) : ScrB b B U := by
  obtain ⟨L, xs, h1, h2, h3, h4⟩ := h
  exact ⟨L, xs, h1, (h2.kept (hS.2.1 b h3 h4)).moved hW.alike, Nat.lt_of_lt_of_le h3 hS.1, fun z => h4 (hAB _ z)⟩
theorem ScrB.same {b : Nat} {A : Nat → Prop} {s U : State} (h : ScrB b A s) (hh : U.heap = s.heap) (hv : s.vm = U.vm) : ScrB b A U := by
  obtain ⟨L, xs, h1, h2, h3, h4⟩ := h
  exact ⟨L, xs, h1, (h2.kept (by rw [hh])).moved (hv ▸ Vm.Alike.refl s.vm), by rw [hh]; exact h3, h4⟩
def PcB (b : Nat) (D : va_G) (E : Nat → ClassId) (N : Nat) (G : Nat → Nat) (Φ : Nat → va_E) (vargs : List Value) (sz : Nat) : Array Value → State → Prop := fun a U => PcV D E N G Φ vargs sz a U ∧ ScrB b (AG N G sz) U
theorem b_blind {b : Nat} {D : va_G} {E : Nat → ClassId} {N : Nat} {G : Nat → Nat} {Φ : Nat → va_E} {vargs : List Value} {sz : Nat} : FrameBlind (PcB b D E N G Φ vargs sz) := by
  intro a U g mk q
  exact ⟨v_blind a U g mk q.1, q.2.same rfl rfl⟩
def ConB (b : Nat) (l : Launch) (y : MethodName) (ws : List Cond) (rm : Room) (D : va_G) (E : Nat → ClassId) (N : Nat) (G : Nat → Nat) (Φ : Nat → va_E) (vargs : List Value) (post : Option Value → (Nat → va_E) → Prop) : Prop :=
  ∀ sz : Nat, Met l y ws rm (PcB b D E N G Φ vargs sz) (QcV D N G post sz) 0 0 (AG N G sz)
theorem conB_of {b : Nat} {l : Launch} {y : MethodName} {ws ws' : List Cond} {rm : Room} {D : va_G} {E : Nat → ClassId} {N : Nat} {G : Nat → Nat} {Φ : Nat → va_E} {vargs : List Value} {post : Option Value → (Nat → va_E) → Prop} {cc : ByteArray} {maxL : Nat} {ret : Option FieldType} (hy : plainName y.cls = true) (hw : ws = Cond.code y cc maxL ret :: ws') (hlen : (lg_sl vargs).length ≤ maxL)
    (body : ∀ (p : Program) (e : Env) (s : State) (m : MethodId) (args : Array Value) (below : List Frame) (meth : Method) (c : Code), ScrB b (AG N G s.heap.size) s → V p l e rm s m args below meth c (QV below D N G post args s 0 0) D E (AG N G s.heap.size) cc maxL y.cls ret ws N G 0 0 Φ 0 (lv_args 0 vargs) []) : ConB b l y ws rm D E N G Φ vargs post := by
  intro sz
  refine Met.ofW (cc := cc) (maxL := maxL) (ret := ret) hy hw ?_
  intro p e s m args below meth c s₁ B hml hv
  obtain ⟨⟨rfl, hsz, hP, hK, hD0, hZ⟩, hX⟩ := hv
  subst hsz
  have hts := atoms_spec (ws := ws) B.pre
  have hown : s.vm.findClass y.cls = some m.cls := findClass_of_methodNamed B.named
  have hl := lv_entry vargs (n := maxL) hlen
  rw [lg_entry_eq]
  exact body p e s m vargs.toArray below meth c hX ⟨⟨B.exec, B.bytes, hml, hown, hts⟩, hK, fun q h => Or.inr h, B.notSynchronized, B.returns, hZ⟩ s.heap [] _ hP (wl_D hD0 (fun n hn => Or.inl ⟨n, hn, rfl⟩)) va_S.rf hl
section RCB
variable {p : Program} {l : Launch} {e : Env} {R : Room} {s : State} {m : MethodId} {args : Array Value} {below : List Frame} {meth : Method} {c : Code} {Q : State → Prop} {D : va_G} {E : Nat → ClassId} {A : Nat → Prop} {cc : ByteArray} {nL : Nat} {own : String} {ret : Option FieldType} {Ts : List Cond} {N : Nat} {G : Nat → Nat} {cells slots : Nat} {Φ : Nat → va_E} {pc : Nat} {loc : List (Nat × Value)} {st : List Value}
variable {post : Option Value → (Nat → va_E) → Prop} {rest st0 : List Value} {a : Array Value}
theorem v_callSB {b : Nat} (hX : ScrB b A s) {y : MethodName} {bytes : ByteArray} {maxL : Nat} {retY : Option FieldType} {ws ws' : List Cond} {rm : Room} {index : Nat} {As : List Value} (hM : ConB b l y ws rm D E N G Φ As post) (hG : GoodIn Ts (va_wsS own index y ws)) (hw : ws = Cond.code y bytes maxL retY :: ws') (hrc : rm.cells = 0) (hrs : rm.slots = 0) (hd : y.cls ≠ "java/lang/invoke/MethodHandle" ∧ y.cls ≠ "java/lang/invoke/VarHandle" ∧ (parseMethodDescriptor y.desc).map (fun d => d.parameters.length) = some As.length) (hR : rm.frames + 1 ≤ R.frames ∧ 8 + (maxL + 11) + rm.locals ≤ R.locals) (hcs : cells ≤ R.cells ∧ slots ≤ R.slots) (hcat : (rest.map fun v => v.category).sum ≤ 8) (hst : st0 = As.reverse ++ rest) (hdg : decode cc pc = .ok (.invokestatic index, 3)) (kk : ∀ (v : Option Value) (Φ' : Nat → va_E), post v Φ' → V p l e R s m args below meth c Q D E A cc nL own ret Ts N G cells slots Φ' (pc + 3) loc (v.toList ++ rest)) : V p l e R s m args below meth c Q D E A cc nL own ret Ts N G cells slots Φ pc loc st0 :=
  v_callRun (fun o H locs ls hP hD hS hl => va_runS (As := As) (rest := rest) o.1 (hM H.size) (va_cwS As.length o.1.2.2.2.2 hG hw hrc hrs hd hR) ⟨b_blind, fun U hU hW => ⟨v_pre o hP hD hS U hU hW, hX.warm (by rw [hU]; exact hS) hW (v_AG o.2.2.1 hD hS)⟩⟩ rfl rfl hl.1 hst (lv_room hcat) hdg hcs) kk
end RCB
/-- a cell of the script, or a number in its place: some number -/
theorem c_L_cell (lu : Launch) (Dg : va_G) (E : Nat → ClassId) (N : Nat) (G : Nat → Nat) (Φ : Nat → va_E) (b : Nat) {k : Nat} (hk : k < 2 ^ 31) : ConB b lu yL_cell wsL_cell { frames := 0, cells := 0, slots := 0, locals := 0 } Dg E N G Φ [.ref b, .int (nI k)] (fun v' Φ' => (∃ x : Int32, v' = some (.int x)) ∧ Φ' = Φ) := by
  refine conB_of (cc := cL_cell) (maxL := 2) (ret := some .int) (by decide) rfl (Nat.le_of_ble_eq_true rfl) ?_
  intro p_ e_ s_ m_ args_ below_ meth_ c_ hB
  obtain ⟨L, xs, hL, hX, hb, hA⟩ := hB
  refine v_eq (pc' := 0) (st' := []) rfl rfl ?_
  refine v_loc [0, 1] [(0, .ref b), (1, .int (nI k))] rfl ?_
  refine v_iload_n 1 dL_cell_0 rfl rfl ?_
  refine v_aload_n 0 dL_cell_1 rfl rfl ?_
  refine v_slen hX hb hA dL_cell_2 ?_
  refine v_icmp_geN 12 hk hL dL_cell_3 rfl (fun h3 => ?_) (fun h3 => ?_)
  · refine v_sipush (nI 7919) dL_cell_12 (by decide +kernel) ?_
    refine v_iload_n 1 dL_cell_15 rfl rfl ?_
    refine v_iconst (nI 3) dL_cell_16 (by decide +kernel) ?_
    refine v_iaddN dL_cell_17 ?_
    refine v_imulN dL_cell_18 ?_
    refine v_iload_n 1 dL_cell_19 rfl rfl ?_
    refine v_bipush (nI 11) dL_cell_20 (by decide +kernel) ?_
    refine v_iaddN dL_cell_22 ?_
    refine v_imulN dL_cell_23 ?_
    exact v_iret rfl dL_cell_24 ⟨⟨_, rfl⟩, rfl⟩
  · refine v_aload_n 0 dL_cell_6 rfl rfl ?_
    refine v_iload_n 1 dL_cell_7 rfl rfl ?_
    refine v_sld hX hb hA (vp_in_nI (by omega) hL) dL_cell_8 ?_
    refine v_goto 24 dL_cell_9 rfl ?_
    exact v_iret rfl dL_cell_24 ⟨⟨_, rfl⟩, rfl⟩
/-- a number below m out of any number -/
def lowN (x : Int32) (m : Nat) : Nat := x.toBitVec.toNat % 2 ^ 31 % m
theorem lowN_lt {x : Int32} {m : Nat} (h : 1 ≤ m) : lowN x m < m := Nat.mod_lt _ (by omega)
theorem low_eq (x : Int32) : x &&& nI 2147483647 = nI (x.toBitVec.toNat % 2 ^ 31) := pk_and x 31 (by decide +kernel)
theorem low_b (x : Int32) : x.toBitVec.toNat % 2 ^ 31 < 2 ^ 31 := Nat.mod_lt _ (by decide)
/-! the numbers that the law asks for, by their place -/
noncomputable def abW (c : Nat → Int32) (k : Nat) : Int32 := if k = 0 then c 0 else if k = 1 then c 1 else if k = 2 then c 2 else if k = 3 then nI (standN c (nI 0) (tn (c 2))) else if k = 4 then nI (standN c (nI 1) (tn (c 2))) else if k = 5 then nI (standN c (nI 2) (tn (c 2))) else if k = 6 then c 3 else if k = 7 then c 4 else if k = 8 then c 5 else accN c (tn (c 2))
noncomputable def peW (c : Nat → Int32) (p k : Nat) : Int32 := if k = 0 then c (58 + 10 * p) else if k = 1 then c (58 + 10 * p + 1) else if k = 2 then ic (c (58 + 10 * p + 5) = 0) (nI (plc c p)) (-1) else c (58 + 10 * p + (if k = 3 then 2 else if k = 4 then 3 else if k = 5 then 4 else if k = 6 then 5 else if k = 7 then 6 else 7))
section WW
variable (lu : Launch) (Dg : va_G) (E : Nat → ClassId) (N : Nat) (G : Nat → Nat) (shp : Nat → (Nat → Int32) → va_E) (σ : Nat → Nat → Int32)
theorem c_ab (hS : StoodS E G shp N) (c : Nat → Int32) {T : Nat} (hI : Inv T c) {k : Nat} (hk : k < 10) : CS lu yX5_about wsX5_about { frames := 5, cells := 0, slots := 0, locals := 120 } Dg E N G shp (hs σ 1 c) [.ref (G 0), .int (nI k)] (some (.int (abW c k))) (hs σ 1 c) := by
  rcases (show k = 0 ∨ k = 1 ∨ k = 2 ∨ k = 3 ∨ k = 4 ∨ k = 5 ∨ k = 6 ∨ k = 7 ∨ k = 8 ∨ k = 9 by omega) with rfl | rfl | rfl | rfl | rfl | rfl | rfl | rfl | rfl | rfl
  · exact c_X5_about_0_0 lu Dg E N G shp σ hS c hI
  · exact c_X5_about_0_1 lu Dg E N G shp σ hS c hI
  · exact c_X5_about_0_2 lu Dg E N G shp σ hS c hI
  · exact c_X5_about_0_3 lu Dg E N G shp σ hS c hI
  · exact c_X5_about_0_4 lu Dg E N G shp σ hS c hI
  · exact c_X5_about_0_5 lu Dg E N G shp σ hS c hI
  · exact c_X5_about_0_6 lu Dg E N G shp σ hS c hI
  · exact c_X5_about_0_7 lu Dg E N G shp σ hS c hI
  · exact c_X5_about_0_8 lu Dg E N G shp σ hS c hI
  · exact c_X5_about_0_9 lu Dg E N G shp σ hS c hI
theorem c_pl (hS : StoodS E G shp N) (c : Nat → Int32) {T : Nat} (hI : Inv T c) (hnl : σ 5 3 = nI 0) {pz : Nat} (hz : pz < tn (c 2)) : CS lu yX5_person wsX5_person { frames := 6, cells := 0, slots := 0, locals := 141 } Dg E N G shp (hs σ 1 c) [.ref (G 0), .int (nI pz), .int (nI 2)] (some (.int (peW c pz 2))) (hs σ 1 c) := by
  by_cases q : c (58 + 10 * pz + 5) = 0
  · have e : peW c pz 2 = nI (plc c pz) := ic_t q
    rw [e]; exact c_X5_person_0_2s lu Dg E N G shp σ hS c hI hz q
  · have e : peW c pz 2 = -1 := ic_f q
    rw [e]; exact c_X5_person_0_2n lu Dg E N G shp σ hS c hI hz q hnl
theorem c_pe (hS : StoodS E G shp N) (c : Nat → Int32) {T : Nat} (hI : Inv T c) (hnl : σ 5 3 = nI 0) {pz : Nat} (hz : pz < tn (c 2)) {k : Nat} (hk : k < 9) : CS lu yX5_person wsX5_person { frames := 6, cells := 0, slots := 0, locals := 141 } Dg E N G shp (hs σ 1 c) [.ref (G 0), .int (nI pz), .int (nI k)] (some (.int (peW c pz k))) (hs σ 1 c) := by
  rcases (show k = 0 ∨ k = 1 ∨ k = 2 ∨ k = 3 ∨ k = 4 ∨ k = 5 ∨ k = 6 ∨ k = 7 ∨ k = 8 by omega) with rfl | rfl | rfl | rfl | rfl | rfl | rfl | rfl | rfl
  · exact c_X5_person_0_0 lu Dg E N G shp σ hS c hI hz
  · exact c_X5_person_0_1 lu Dg E N G shp σ hS c hI hz
  · exact c_pl lu Dg E N G shp σ hS c hI hnl hz
  · exact c_X5_person_0_3 lu Dg E N G shp σ hS c hI hz
  · exact c_X5_person_0_4 lu Dg E N G shp σ hS c hI hz
  · exact c_X5_person_0_5 lu Dg E N G shp σ hS c hI hz
  · exact c_X5_person_0_6 lu Dg E N G shp σ hS c hI hz
  · exact c_X5_person_0_7 lu Dg E N G shp σ hS c hI hz
  · exact c_X5_person_0_8 lu Dg E N G shp σ hS c hI hz
end WW
/-! what is remembered -/
section HIS
variable {σ τ : Nat → Nat → Int32} {b og rg : Nat} {c d : Nat → Int32}
theorem st2_row (σ : Nat → Nat → Int32) {n m : Nat} (h : m ≠ n) (k : Nat) (a : Int32) : st2 σ n k a m = σ m := by
  unfold st2; exact va_up_ne _ _ h
theorem HoldsAt.cong (h : HoldsAt σ b d) (e : ∀ n, b ≤ n → n < b + 43 → τ n = σ n) : HoldsAt τ b d := by
  funext n
  by_cases ho : n < b ∨ (b + 2 ≤ n ∧ n < b + 7) ∨ b + 43 ≤ n
  · exact hs_out ho
  · rw [hs_cell ho (τ := σ)]
    exact (congrFun h n).trans (e n (by omega) (by omega)).symm
theorem HoldsAt.self : HoldsAt (hs σ b c) b c := hs_idem
theorem puH_out {r n : Nat} (h1 : n ≠ 87) (h2 : ¬ (87 + 2 + 43 * ((og + r) % 14) ≤ n ∧ n < 87 + 2 + 43 * ((og + r) % 14) + 43)) : puH σ c og r n = σ n := by
  unfold puH
  by_cases q : r < 14
  · rw [if_pos q, st2_row _ h1, hs_out (by omega)]
  · rw [if_neg q, st2_row _ h1, hs_out (by omega)]
theorem puH_at {r : Nat} : HoldsAt (puH σ c og r) (87 + 2 + 43 * ((og + r) % 14)) c := by
  have key : HoldsAt (hs σ (87 + 2 + 43 * ((og + r) % 14)) c) (87 + 2 + 43 * ((og + r) % 14)) c := HoldsAt.self
  refine key.cong (fun n g1 g2 => ?_)
  unfold puH
  by_cases q : r < 14
  · rw [if_pos q, st2_row _ (by omega)]
  · rw [if_neg q, st2_row _ (by omega)]
theorem puH_far {n : Nat} (h : n < 87 ∨ 691 ≤ n) : puH σ c og rg n = σ n := puH_out (by omega) (by omega)
theorem HistOk.cong (h : HistOk σ og rg) (e : ∀ n, 87 ≤ n → n < 691 → τ n = σ n) : HistOk τ og rg := by
  refine ⟨⟨by rw [e 87 (by omega) (by omega)]; exact h.1.1, h.1.2⟩, ⟨by rw [e 87 (by omega) (by omega)]; exact h.2.1.1, h.2.1.2⟩, fun i hi => ?_⟩
  obtain ⟨d9, h9⟩ := h.2.2 i hi
  exact ⟨d9, h9.cong (fun n g1 g2 => e n (by omega) (by omega))⟩
/-- behind an action the state before it is the last that is remembered -/
theorem puH_ok (h : HistOk σ og rg) (c : Nat → Int32) : ∃ o2 r2, r2 < 14 ∧ HistOk (puH σ c og rg) o2 (r2 + 1) ∧ HoldsAt (puH σ c og rg) (87 + 2 + 43 * ((o2 + r2) % 14)) c := by
  obtain ⟨⟨a1, a2⟩, ⟨b1, b2⟩, d1⟩ := h
  have hall : ∀ i, i < 14 → ∃ d, HoldsAt (puH σ c og rg) (87 + 2 + 43 * i) d := fun i hi => by
    by_cases e : i = (og + rg) % 14
    · rw [e]; exact ⟨c, puH_at⟩
    · obtain ⟨d, h1⟩ := d1 i hi
      exact ⟨d, h1.cong (fun n g1 g2 => puH_out (by omega) (by omega))⟩
  by_cases q : rg < 14
  · refine ⟨og, rg, q, ⟨⟨?_, a2⟩, ⟨?_, by omega⟩, hall⟩, puH_at⟩
    · unfold puH; rw [if_pos q, st2_eq, if_neg (by omega), hs_out (by omega)]; exact a1
    · unfold puH; rw [if_pos q, st2_eq, if_pos ⟨rfl, rfl⟩]
  · have e14 : rg = 14 := by omega
    rw [e14] at b1 hall ⊢
    have em : (og + 14) % 14 = ((og + 1) % 14 + 13) % 14 := by omega
    refine ⟨(og + 1) % 14, 13, by omega, ⟨⟨?_, by omega⟩, ⟨?_, by omega⟩, hall⟩, ?_⟩
    · unfold puH; rw [if_neg (by omega), st2_eq, if_pos ⟨rfl, rfl⟩]
    · unfold puH; rw [if_neg (by omega), st2_eq, if_neg (by omega), hs_out (by omega)]; exact b1
    · rw [← em]; exact puH_at
theorem undo_ok {o2 r2 : Nat} (h : HistOk σ o2 (r2 + 1)) : HistOk (st2 σ 87 2 (nI r2)) o2 r2 := by
  obtain ⟨⟨a1, a2⟩, ⟨b1, b2⟩, d1⟩ := h
  refine ⟨⟨?_, a2⟩, ⟨?_, by omega⟩, fun i hi => ?_⟩
  · rw [st2_eq, if_neg (by omega)]; exact a1
  · rw [st2_eq, if_pos ⟨rfl, rfl⟩]
  · obtain ⟨d9, h9⟩ := d1 i hi
    exact ⟨d9, h9.cong (fun n g1 g2 => st2_row _ (by omega) _ _)⟩
end HIS
/-! the state at the head of the law's loop; what an action leaves -/
def Wb (T : Nat) (B : Int) (σ : Nat → Nat → Int32) (c : Nat → Int32) (og rg : Nat) : Prop := HistOk σ og rg ∧ σ 5 3 = nI 0 ∧ Inv T c ∧ Ex B 0 c ∧ Jl c (σ 781) ∧ T ≤ 900000 ∧ 0 ≤ B ∧ B ≤ 50000000
def Dn (T : Nat) (B : Int) (σ : Nat → Nat → Int32) (c : Nat → Int32) (v : Option Value) (τ : Nat → Nat → Int32) : Prop := ∃ (σ' : Nat → Nat → Int32) (c' : Nat → Int32) (og rg k : Nat), v = some (.int (nI k)) ∧ k < 2 ^ 31 ∧ τ = hs σ' 1 c' ∧ rg < 14 ∧ HistOk σ' og (rg + 1) ∧ HoldsAt σ' (87 + 2 + 43 * ((og + rg) % 14)) c ∧ σ' 5 3 = nI 0 ∧ σ' 782 = σ 782 ∧ Inv (T + 9) c' ∧ Ex (B + 13500) 0 c' ∧ Jl c' (σ' 781)
section DN9
variable {T : Nat} {B : Int} {σ : Nat → Nat → Int32} {c : Nat → Int32} {og rg : Nat}
theorem Dn.mk9 {ρ : Nat → Nat → Int32} {c' : Nat → Int32} {k : Nat} {x : Int32} (hO : HistOk ρ og rg) (h5 : ρ 5 3 = nI 0) (h782 : ρ 782 = σ 782) (hx : x = nI k) (hk : k < 2 ^ 31) (hI : Inv (T + 9) c') (hE : Ex (B + 13500) 0 c') (hJ : Jl c' (ρ 781)) : Dn T B σ c (some (.int x)) (hs (puH ρ c og rg) 1 c') := by
  obtain ⟨o2, r2, h1, h2, h3⟩ := puH_ok hO c
  exact ⟨puH ρ c og rg, c', o2, r2, k, by rw [hx], hk, rfl, h1, h2, h3, by rw [puH_far (by omega)]; exact h5, (puH_far (by omega)).trans h782, hI, hE, by rw [puH_far (by omega)]; exact hJ⟩
theorem Dn.comes {l k0 : Nat} (hW : Wb T B σ c og rg) (hl : l < tn (c 1)) (hp2 : tn (c 2) < 30) (hlen : tn (c (13 + l)) < 12) : Dn T B σ c (some (.int (nI (tn (c 2))))) (hs (puH σ c og rg) 1 (comesC c l k0)) := by
  obtain ⟨hO, h5, hI, hE, hJ, hT, hB, hB2⟩ := hW
  exact Dn.mk9 hO h5 rfl rfl (by omega) ((hI.comesI hl hp2 hlen).mono (by omega) (by omega)) ((hE.comes hI hB hl hp2 hlen).mono (by omega)) (hJ.comes hI hl hp2 hlen)
theorem Dn.exch {p q : Nat} (hW : Wb T B σ c og rg) (hp : p < tn (c 2)) (hq : q < tn (c 2)) (hm : MayX c p q) : Dn T B σ c (some (.int (nI (plc c p - plc c q) * c 8))) (hs (puH σ c og rg) 1 (exchS c p q)) := by
  obtain ⟨hO, h5, hI, hE, hJ, hT, hB, hB2⟩ := hW
  obtain ⟨hne, hl, hl3, hi12, hji, -, -⟩ := hI.exL hp hq hm
  have h9 := hI.price9
  have hb : (plc c p - plc c q) * tn (c 8) ≤ 11 * 9 := Nat.mul_le_mul (by omega) h9
  have f : ∀ x, x < 10 → x ≠ 3 → exchS c p q x = c x := fun x hx h3 => by unfold exchS; rw [exchF_row _ (by omega) h3, if_neg (by omega), if_neg (by omega)]
  have k8 : ∀ r, exchS c p q (58 + 10 * r + 8) = c (58 + 10 * r + 8) := fun r => exchF_p (by omega) (by omega) (by omega) (by omega) (by omega)
  refine Dn.mk9 (k := (plc c p - plc c q) * tn (c 8)) hO h5 rfl ?_ (by omega) ((hI.exch hp hq hm).mono (by omega) (by omega)) ((hE.exch hI hp hq hm).mono (by omega)) (hJ.same (f 2 (by omega) (by omega)) (by rw [f 0 (by omega) (by omega)]; exact Nat.le_refl _) k8)
  have e8 := hI.price
  generalize tn (c 8) = w at e8 ⊢
  rw [e8, pk_mul]
theorem Dn.goes {p : Nat} (hW : Wb T B σ c og rg) (hp : p < tn (c 2)) (hs9 : c (58 + 10 * p + 5) = 0) : Dn T B σ c (some (.int (c (58 + 10 * p + 2)))) (hs (puH σ c og rg) 1 (goesS c p)) := by
  obtain ⟨hO, h5, hI, hE, hJ, hT, hB, hB2⟩ := hW
  obtain ⟨a1, -, a3, -, -⟩ := hI.plcs hp hs9
  have hl3 := Nat.lt_of_lt_of_le a1 hI.nl3
  have h12 := hI.len12 a1
  have hst := hI.stoodT hp
  have hno := hI.nowT
  exact Dn.mk9 hO h5 rfl (hI.stood hp) (by omega) ((hI.goes hp hs9).mono (by omega) (by omega)) ((hE.goes hI hp hs9).mono (by omega)) (hJ.same (by unfold goesS; exact lvF_h (by omega)) (by unfold goesS; rw [lvF_h (by omega)]; exact Nat.le_refl _) (fun r => by unfold goesS; exact lvF_pj hl3 h12 (by omega) (by omega) (by omega)))
theorem Dn.jumps {p : Nat} (hW : Wb T B σ c og rg) (hp : p < tn (c 2)) (hs9 : c (58 + 10 * p + 5) = 0) : Dn T B σ c (some (.int (nI (jsteps c p)))) (hs (puH (st2 σ 781 p (c 0 + nI 1)) c og rg) 1 (jumpsS c p)) := by
  obtain ⟨hO, h5, hI, hE, hJ, hT, hB, hB2⟩ := hW
  have hs5 : jsteps c p ≤ 5 := Nat.le_trans (Nat.min_le_right _ _) hI.jump5
  obtain ⟨g1, g2, g3, g4⟩ := hE.jumps hI hp hs9
  have e781 : st2 σ 781 p (c 0 + nI 1) 781 = upd (σ 781) p (c 0 + nI 1) := by unfold st2; exact va_up_self _ _ _
  refine Dn.mk9 (hO.cong (fun n h1 h2 => st2_row _ (by omega) _ _)) ((congrFun (st2_row _ (by omega) _ _) 3).trans h5) (st2_row _ (by omega) _ _) rfl (by omega) ((hI.jumps hp hs9).mono (by omega) (by omega)) (g1.mono (by omega)) ?_
  rw [e781]
  exact hJ.jumps hI g2 g3 g4 hp
theorem Dn.merges {l o : Nat} (hW : Wb T B σ c og rg) (hl : l < tn (c 1)) (ho : o < tn (c 1)) (hlo : l ≠ o) (hab : tn (c (13 + l)) + tn (c (13 + o)) ≤ 12) : Dn T B σ c (some (.int (nI (tn (c (13 + l)) + tn (c (13 + o)))))) (hs (puH σ c og rg) 1 (mergesF c l o)) := by
  obtain ⟨hO, h5, hI, hE, hJ, hT, hB, hB2⟩ := hW
  obtain ⟨g1, g2, g3, g4⟩ := hE.merges hI hl ho hlo hab
  exact Dn.mk9 hO h5 rfl rfl (by omega) ((hI.merges hl ho hlo hab).mono (by omega) (by omega)) (g1.mono (by omega)) (hJ.same g3 (by rw [g2]; exact Nat.le_refl _) g4)
theorem Dn.opens {k : Nat} (hW : Wb T B σ c og rg) (hl3 : tn (c 1) < 3) (h1 : 1 ≤ k) (h20 : k ≤ 20) : Dn T B σ c (some (.int (nI (tn (c 1))))) (hs (puH σ c og rg) 1 (addLS c (nI k))) := by
  obtain ⟨hO, h5, hI, hE, hJ, hT, hB, hB2⟩ := hW
  have f : ∀ i, i ≠ 1 → i < 10 ∨ 22 ≤ i → addLS c (nI k) i = c i := fun i h1 h2 => by rw [addLS_e, if_neg h1, if_neg (by omega), if_neg (by omega), if_neg (by omega), if_neg (by omega)]
  exact Dn.mk9 hO h5 rfl rfl (by omega) ((hI.addL hl3 h1 h20).mono (by omega) (by omega)) ((hE.addL hl3 (nI k)).mono (by omega)) (hJ.same (f 2 (by omega) (by omega)) (by rw [f 0 (by omega) (by omega)]; exact Nat.le_refl _) (fun r => f _ (by omega) (by omega)))
theorem Dn.mins {n : Nat} (hW : Wb T B σ c og rg) (hn : n ≤ 9) (hg : goByN c n < 2 ^ 31) : Dn T B σ c (some (.int (nI (goByN c n)))) (hs (puH σ c og rg) 1 (goByS c n)) := by
  obtain ⟨hO, h5, hI, hE, hJ, hT, hB, hB2⟩ := hW
  obtain ⟨g1, g2, g3, g4⟩ := hE.goBy hI (n := n) (by omega)
  have hno := hI.nowT
  exact Dn.mk9 hO h5 rfl rfl hg ((hI.goBy (n := n) (by omega)).mono (by omega) (by omega)) (g1.mono (by omega)) (hJ.same g2 (by rw [g3, tn_nI (by omega)]; omega) g4)
theorem Dn.sets {k : Nat} {y : Int32} (hW : Wb T B σ c og rg) (hk : k < 4) (hS9 : InvS (upd c (6 + k) y)) : Dn T B σ c (some (.int (c (6 + k)))) (hs (puH σ c og rg) 1 (upd c (6 + k) y)) := by
  obtain ⟨hO, h5, hI, hE, hJ, hT, hB, hB2⟩ := hW
  have e : ∀ i, i ≠ 6 + k → upd c (6 + k) y i = c i := fun i hi => by rw [upd_ap, if_neg hi]
  have hval : ∃ j, c (6 + k) = nI j ∧ j < 2 ^ 31 := by
    have a1 := hI.limit99
    have a2 := hI.fee50
    have a3 := hI.price9
    have a4 := hI.jump5
    rcases (show k = 0 ∨ k = 1 ∨ k = 2 ∨ k = 3 by omega) with rfl | rfl | rfl | rfl
    · exact ⟨_, hI.limit, by omega⟩
    · exact ⟨_, hI.fee, by omega⟩
    · exact ⟨_, hI.price, by omega⟩
    · exact ⟨_, hI.jump, by omega⟩
  obtain ⟨j, hj, hj2⟩ := hval
  exact Dn.mk9 hO h5 rfl hj hj2 ((hI.setP (by omega) (by omega) y hS9).mono (by omega) (by omega)) ((hE.set (by omega) (by omega) y).mono (by omega)) (hJ.same (e 2 (by omega)) (by rw [e 0 (by omega)]; exact Nat.le_refl _) (fun r => e _ (by omega)))
/-- the settings' ranges -/
theorem Inv.set0 (hI : Inv T c) {j : Nat} (h1 : 10 ≤ j) (h2 : j ≤ 99) : InvS (upd c (6 + 0) (nI j)) := by
  have e : ∀ i, i ≠ 6 → upd c (6 + 0) (nI j) i = c i := fun i hi => by rw [upd_ap, if_neg (by omega)]
  have e6 : upd c (6 + 0) (nI j) 6 = nI j := by rw [upd_ap, if_pos rfl]
  unfold InvS; rw [e6, e 7 (by omega), e 8 (by omega), e 9 (by omega), tn_nI (by omega)]
  exact ⟨⟨isN_nI h2, h1⟩, hI.S.2⟩
theorem Inv.set1 (hI : Inv T c) {j : Nat} (h2 : j ≤ 50) : InvS (upd c (6 + 1) (nI j)) := by
  have e : ∀ i, i ≠ 7 → upd c (6 + 1) (nI j) i = c i := fun i hi => by rw [upd_ap, if_neg (by omega)]
  have e7 : upd c (6 + 1) (nI j) 7 = nI j := by rw [upd_ap, if_pos rfl]
  unfold InvS; rw [e7, e 6 (by omega), e 8 (by omega), e 9 (by omega)]
  exact ⟨hI.S.1, isN_nI h2, hI.S.2.2⟩
theorem Inv.set2 (hI : Inv T c) {j : Nat} (h1 : 1 ≤ j) (h2 : j ≤ 9) : InvS (upd c (6 + 2) (nI j)) := by
  have e : ∀ i, i ≠ 8 → upd c (6 + 2) (nI j) i = c i := fun i hi => by rw [upd_ap, if_neg (by omega)]
  have e8 : upd c (6 + 2) (nI j) 8 = nI j := by rw [upd_ap, if_pos rfl]
  unfold InvS; rw [e8, e 6 (by omega), e 7 (by omega), e 9 (by omega), tn_nI (by omega)]
  exact ⟨hI.S.1, hI.S.2.1, ⟨isN_nI h2, h1⟩, hI.S.2.2.2⟩
theorem Inv.set3 (hI : Inv T c) {j : Nat} (h1 : 1 ≤ j) (h2 : j ≤ 5) : InvS (upd c (6 + 3) (nI j)) := by
  have e : ∀ i, i ≠ 9 → upd c (6 + 3) (nI j) i = c i := fun i hi => by rw [upd_ap, if_neg (by omega)]
  have e9 : upd c (6 + 3) (nI j) 9 = nI j := by rw [upd_ap, if_pos rfl]
  unfold InvS; rw [e9, e 6 (by omega), e 7 (by omega), e 8 (by omega), tn_nI (by omega)]
  exact ⟨hI.S.1, hI.S.2.1, hI.S.2.2.1, isN_nI h2, h1⟩
theorem stLM {k : Nat} {j : Nat} (h : (k = 0 ∧ 10 ≤ j ∧ j ≤ 99) ∨ (k = 1 ∧ j ≤ 50) ∨ (k = 2 ∧ 1 ≤ j ∧ j ≤ 9) ∨ (k = 3 ∧ 1 ≤ j ∧ j ≤ 5)) : stLeast k ≤ nI j ∧ nI j ≤ stMost k := by
  rcases h with ⟨rfl, a, b⟩ | ⟨rfl, b⟩ | ⟨rfl, a, b⟩ | ⟨rfl, a, b⟩
  · exact ⟨(nI_leI (a := 10) (by omega) (by omega)).mpr a, (nI_leI (b := 99) (by omega) (by omega)).mpr b⟩
  · exact ⟨(nI_leI (a := 0) (by omega) (by omega)).mpr (Nat.zero_le _), (nI_leI (b := 50) (by omega) (by omega)).mpr b⟩
  · exact ⟨(nI_leI (a := 1) (by omega) (by omega)).mpr a, (nI_leI (b := 9) (by omega) (by omega)).mpr b⟩
  · exact ⟨(nI_leI (a := 1) (by omega) (by omega)).mpr a, (nI_leI (b := 5) (by omega) (by omega)).mpr b⟩
end DN9
