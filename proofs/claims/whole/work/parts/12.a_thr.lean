/-! METHODS THAT THROW: the world stays; what the machine's own throwing reads -/
def xcW : List Cond := [.fieldLinkNest RX1 56 "StoodMinutes" "SETTING_AT_FIRST" "[I" "StoodMinutes"]
def xcC : List (String × String) := [("java/lang/IllegalArgumentException", "java/lang/IllegalArgumentException"), ("java/lang/IllegalStateException", "java/lang/IllegalStateException"), ("java/lang/IndexOutOfBoundsException", "java/lang/IndexOutOfBoundsException")]
def xcD : List Cond := [.declares (Bundle.initS "java/lang/RuntimeException"), .declares (Bundle.initS "java/lang/Exception"), .declares (Bundle.initS "java/lang/Throwable")]
def strT : List (Nat × String) := [(50, "the character is not 0 to 255"), (61, "the text has 100 characters"), (74, "the text is not a day"), (83, "there is no such number"), (92, "a line has no such number"), (98, "the place is below 0"), (112, "a person has no such number"), (123, "the pace is not 1 to 20"), (128, "there are 3 lines"), (138, "the kind is not 0 to 2"), (144, "30 came, or 12 stand in the line"), (165, "the person can not jump now"), (176, "the minutes are not 1 to 60"), (188, "the value is out of the setting's range"), (196, "no state is remembered"), (204, "the minutes are not 1 to 999"), (224, "the commands are not 1 to 3"), (230, "the script is below 0, or too long for its commands"), (240, "the turns are not 1 to 99"), (264, "nothing is saved in the slot"), (271, "there is no such line"), (277, "there is no such person"), (282, "the person does not stand"), (284, "there is no such setting"), (286, "there is no such save slot"), (291, "the two can not exchange their places"), (293, "both lines are the same"), (298, "more than 12 would stand in the line")]
def StX (A : Nat → Prop) (s : State) : Prop := (vx_Zq Bundle.tN "UNASSIGNED_STACK" Bundle.steD A s s.heap ∧ vx_Zq Bundle.tN "SUPPRESSED_SENTINEL" Bundle.listD A s s.heap) ∧ ((∀ w ∈ xcW, va_Nw w s) ∧ (∀ q ∈ xcC, va_Nw (.castable q.1 q.2) s) ∧ ∀ w ∈ xcD, va_Nw w s) ∧ ∀ q ∈ strT, ∃ a : Nat, vk_R RX5 q.1 q.2 a s
theorem StX.go {A B : Nat → Prop} {s U : State} {locs : List Loc} (h : StX A s) (hS : va_S A s.heap U.heap locs) (hvm : s.vm.Alike U.vm) (hN : ∀ w ∈ xcW, va_Nw w s → va_Nw w U) (hC : ∀ a b : String, va_Nw (.castable a b) s → va_Nw (.castable a b) U) (hB : ∀ w ∈ xcD, va_Nw w s → va_Nw w U) (hR : ∀ (k : Nat) (tx : String) (a : Nat), vk_R RX5 k tx a s → vk_R RX5 k tx a U) (hAB : ∀ q, B q → A q) : StX B U :=
  ⟨⟨((h.1.1.kept hS.2.1).moved hvm).narrow hAB, ((h.1.2.kept hS.2.1).moved hvm).narrow hAB⟩, ⟨fun w hw => hN w hw (h.2.1.1 w hw), fun q hq => hC _ _ (h.2.1.2.1 q hq), fun w hw => hB w hw (h.2.1.2.2 w hw)⟩, fun q hq => by
    obtain ⟨a, ha⟩ := h.2.2 q hq
    exact ⟨a, hR _ _ _ ha⟩⟩
theorem StX.warm {A B : Nat → Prop} {s U : State} {locs : List Loc} (h : StX A s) (hS : va_S A s.heap U.heap locs) (hW : s.WarmedH U.vm) (hAB : ∀ q, B q → A q) : StX B U :=
  h.go hS hW.alike (fun w hw q => by
    simp only [xcW, List.mem_cons, List.not_mem_nil, or_false] at hw
    subst hw
    exact va_Nw.warmF hW q) (fun a b q => va_Nw.warmC hW q) (fun w hw q => by
    simp only [xcD, List.mem_cons, List.not_mem_nil, or_false] at hw
    rcases hw with rfl | rfl | rfl <;> exact va_Nw.warmD hW q) (fun k tx a q => vk_R.warm hW q) hAB
theorem StX.same {A : Nat → Prop} {s U : State} (h : StX A s) (hh : U.heap = s.heap) (hv : s.vm = U.vm) : StX A U :=
  h.go (locs := []) (by rw [hh]; exact va_S.rf) (hv ▸ Vm.Alike.refl s.vm) (fun w hw q => by
    simp only [xcW, List.mem_cons, List.not_mem_nil, or_false] at hw
    subst hw
    exact va_Nw.same rfl hv q) (fun a b q => va_Nw.same rfl hv q) (fun w hw q => by
    simp only [xcD, List.mem_cons, List.not_mem_nil, or_false] at hw
    rcases hw with rfl | rfl | rfl <;> exact va_Nw.same rfl hv q) (fun k tx a q => vk_R.same hv.symm q) (fun _ q => q)
def PcX (D : va_G) (E : Nat → ClassId) (N : Nat) (G : Nat → Nat) (Φ : Nat → va_E) (vargs : List Value) (sz : Nat) : Array Value → State → Prop := fun a U => PcV D E N G Φ vargs sz a U ∧ StX (AG N G sz) U
def XcV (D : va_G) (N : Nat) (G : Nat → Nat) (Φ : Nat → va_E) (X : String) (sz : Nat) : String → State → State → Prop := vx_X (fun _ : Unit => True) (fun E9 _ t => E9 = X ∧ va_P D vwCl (wl N G Φ) t.heap) (AG N G sz)
/-- a call that throws an X, and changes nothing -/
def Thr (l : Launch) (y : MethodName) (ws : List Cond) (rm : Room) (D : va_G) (E : Nat → ClassId) (N : Nat) (G : Nat → Nat) (Φ : Nat → va_E) (vargs : List Value) (X : String) : Prop :=
  ∀ sz : Nat, vx_Met l y ws rm (PcX D E N G Φ vargs sz) (fun _ _ _ _ => False) (XcV D N G Φ X sz) 1 6 (AG N G sz)
abbrev QX (below : List Frame) (D : va_G) (N : Nat) (G : Nat → Nat) (Φ : Nat → va_E) (X : String) (args : Array Value) (s : State) : State → Prop := vx_MQ below (fun _ _ _ _ => False) (XcV D N G Φ X s.heap.size) args s 1 6 (AG N G s.heap.size)
theorem x_blind {D : va_G} {E : Nat → ClassId} {N : Nat} {G : Nat → Nat} {Φ : Nat → va_E} {vargs : List Value} {sz : Nat} : FrameBlind (PcX D E N G Φ vargs sz) := by
  intro a U g mk q
  exact ⟨v_blind a U g mk q.1, q.2.same rfl rfl⟩
theorem Thr.of {l : Launch} {y : MethodName} {ws ws' : List Cond} {rm : Room} {D : va_G} {E : Nat → ClassId} {N : Nat} {G : Nat → Nat} {Φ : Nat → va_E} {vargs : List Value} {X : String} {cc : ByteArray} {maxL : Nat} {ret : Option FieldType} (hy : plainName y.cls = true) (hw : ws = Cond.code y cc maxL ret :: ws') (hlen : (lg_sl vargs).length ≤ maxL)
    (body : ∀ (p : Program) (e : Env) (s : State) (m : MethodId) (args : Array Value) (below : List Frame) (meth : Method) (c : Code), StX (AG N G s.heap.size) s → (∀ x ∈ c.exceptionTable.toList, False) → V p l e rm s m args below meth c (QX below D N G Φ X args s) D E (AG N G s.heap.size) cc maxL y.cls ret ws N G 0 0 Φ 0 (lv_args 0 vargs) []) : Thr l y ws rm D E N G Φ vargs X := by
  intro sz
  refine vx_ofW (cc := cc) (maxL := maxL) (ret := ret) hy hw ?_
  intro p e s m args below meth c s₁ B hml hex hv
  obtain ⟨⟨rfl, hsz, hP, hK, hD0, hZ⟩, hX⟩ := hv
  subst hsz
  have hts := atoms_spec (ws := ws) B.pre
  have hown : s.vm.findClass y.cls = some m.cls := findClass_of_methodNamed B.named
  have hl := lv_entry vargs (n := maxL) hlen
  rw [lg_entry_eq]
  exact body p e s m vargs.toArray below meth c hX hex ⟨⟨B.exec, B.bytes, hml, hown, hts⟩, hK, fun q h => Or.inr h, B.notSynchronized, B.returns, hZ⟩ s.heap [] _ hP (wl_D hD0 (fun n hn => Or.inl ⟨n, hn, rfl⟩)) va_S.rf hl
theorem xcD_ot : ∀ w ∈ xcD, w.onTables = true := by
  intro w hw
  simp only [xcD, List.mem_cons, List.not_mem_nil, or_false] at hw
  rcases hw with rfl | rfl | rfl <;> rfl
section XR
variable {p : Program} {l : Launch} {e : Env} {R : Room} {s : State} {m : MethodId} {args : Array Value} {below : List Frame} {meth : Method} {c : Code} {Q : State → Prop} {D : va_G} {E : Nat → ClassId} {A : Nat → Prop} {cc : ByteArray} {nL : Nat} {own : String} {ret : Option FieldType} {Ts : List Cond} {N : Nat} {G : Nat → Nat} {cells slots : Nat} {Φ : Nat → va_E} {pc : Nat} {loc : List (Nat × Value)} {st : List Value}
theorem x_XC {H : Heap} {locs : List Loc} {X : String} (hP : va_P D vwCl (wl N G Φ) H) (hS : va_S (AG N G s.heap.size) s.heap H locs) {t : State} (h1 : H.size ≤ t.heap.size) (h2 : ∀ q : Nat, q < H.size → t.heap[q]? = H[q]?) : XcV D N G Φ X s.heap.size X s t := by
  refine ⟨(), trivial, ⟨rfl, hP.kept (fun k q hk => h2 _ (hP k q hk).lt)⟩, Nat.le_trans hS.1 h1, fun q g1 g2 => ?_⟩
  rw [h2 q (Nat.lt_of_lt_of_le g1 hS.1)]
  exact hS.2.1 q g1 g2
theorem v_throwS {X text : String} {names : List String} {ik is ic : Nat} (hX : StX (AG N G s.heap.size) s) (hex : ∀ x ∈ c.exceptionTable.toList, False) (hl : l.stackTraces = false) (hown : own = RX5) (hcls : Bundle.fit X = true) (hnames : ∀ n ∈ names, Bundle.fit n = true) (hk : Cond.classLink own ik X ∈ Ts) (hini : Cond.initialized X ∈ Ts) (hstr : (is, text) ∈ strT) (hat1 : ∀ w ∈ (vx_atS own ic X names).filter goodWord, w ∈ Ts) (hat2 : ∀ w ∈ (vx_atS own ic X names).filter (fun w => !goodWord w), w ∈ Cond.castable X X :: xcD) (hcast : (X, X) ∈ xcC)
    (hgood : ∀ w ∈ Cond.classLink own ik X :: Cond.initialized X :: vx_atS own ic X names, vx_ot w = true) (d0 : decode cc pc = .ok (.new ik, 3)) (d3 : decode cc (pc + 3) = .ok (.dup, 1)) (d4 : decode cc (pc + 4) = .ok (.ldc is, 2)) (d6 : decode cc (pc + 6) = .ok (.invokespecial ic, 3)) (d9 : decode cc (pc + 9) = .ok (.athrow, 1))
    (hRf : names.length + 3 < R.frames) (hRl : (st.map fun v => v.category).sum + (13 * (names.length + 1) + 43) ≤ R.locals) (hRc : 1 ≤ R.cells) (hRs : 6 ≤ R.slots) : V p l e R s m args below meth c (QX below D N G Φ X args s) D E (AG N G s.heap.size) cc nL own ret Ts N G 0 0 Φ pc loc st := by
  intro o H locs ls hP hD hS h9
  subst hown
  obtain ⟨sa, hsa⟩ := hX.2.2 _ hstr
  exact vx_throwS (A := AG N G s.heap.size) (names := names) (text := text) (sa := sa) o.1.1 o.1.2.1 hl o.1.2.2.2.1 hcls hnames (o.1.2.2.2.2 _ hk) (o.1.2.2.2.2 _ hini) hsa (vx_hat (B := Cond.castable X X :: xcD) (fun w hw => o.1.2.2.2.2 _ (hat1 w hw)) hat2 (fun w hw => by
    rcases List.mem_cons.mp hw with rfl | h8
    · exact va_Nw.use rfl (hX.2.1.2.1 _ hcast)
    · exact va_Nw.use (xcD_ot w h8) (hX.2.1.2.2 w h8))) hgood hX.1.1 hX.1.2 hS (h9.1.trans o.1.2.2.1.symm) d0 d3 d4 d6 d9 (fun x hx => (hex x hx).elim) hRf hRl (by omega) (by omega) o.2.2.2.1 (fun t _ h1 h2 => x_XC hP hS h1 h2) (fun z hz => hS.2.2 z hz) (by omega) (by omega)
theorem v_throwSW {X text : String} {names : List String} {ik is ic : Nat} (hX : StX (AG N G s.heap.size) s) (hex : ∀ x ∈ c.exceptionTable.toList, False) (hl : l.stackTraces = false) (hown : own = RX5) (hcls : Bundle.fit X = true) (hnames : ∀ n ∈ names, Bundle.fit n = true) (hk : Cond.classLink own ik X ∈ Ts) (hini : Cond.initialized X ∈ Ts) (hstr : (is, text) ∈ strT) (hat1 : ∀ w ∈ (vx_atS own ic X names).filter goodWord, w ∈ Ts) (hat2 : ∀ w ∈ (vx_atS own ic X names).filter (fun w => !goodWord w), w ∈ Cond.castable X X :: xcD) (hcast : (X, X) ∈ xcC)
    (hgood : ∀ w ∈ Cond.classLink own ik X :: Cond.initialized X :: vx_atS own ic X names, vx_ot w = true) (d0 : decode cc pc = .ok (.new ik, 3)) (d3 : decode cc (pc + 3) = .ok (.dup, 1)) (d4 : decode cc (pc + 4) = .ok (.ldc_w is, 3)) (d6 : decode cc (pc + 7) = .ok (.invokespecial ic, 3)) (d9 : decode cc (pc + 10) = .ok (.athrow, 1))
    (hRf : names.length + 3 < R.frames) (hRl : (st.map fun v => v.category).sum + (13 * (names.length + 1) + 43) ≤ R.locals) (hRc : 1 ≤ R.cells) (hRs : 6 ≤ R.slots) : V p l e R s m args below meth c (QX below D N G Φ X args s) D E (AG N G s.heap.size) cc nL own ret Ts N G 0 0 Φ pc loc st := by
  intro o H locs ls hP hD hS h9
  subst hown
  obtain ⟨sa, hsa⟩ := hX.2.2 _ hstr
  exact vx_throwSW (A := AG N G s.heap.size) (names := names) (text := text) (sa := sa) o.1.1 o.1.2.1 hl o.1.2.2.2.1 hcls hnames (o.1.2.2.2.2 _ hk) (o.1.2.2.2.2 _ hini) hsa (vx_hat (B := Cond.castable X X :: xcD) (fun w hw => o.1.2.2.2.2 _ (hat1 w hw)) hat2 (fun w hw => by
    rcases List.mem_cons.mp hw with rfl | h8
    · exact va_Nw.use rfl (hX.2.1.2.1 _ hcast)
    · exact va_Nw.use (xcD_ot w h8) (hX.2.1.2.2 w h8))) hgood hX.1.1 hX.1.2 hS (h9.1.trans o.1.2.2.1.symm) d0 d3 d4 d6 d9 (fun x hx => (hex x hx).elim) hRf hRl (by omega) (by omega) o.2.2.2.1 (fun t _ h1 h2 => x_XC hP hS h1 h2) (fun z hz => hS.2.2 z hz) (by omega) (by omega)
/-- a call that throws, in a method without handlers -/
theorem v_thrV {y : MethodName} {C : String} {T : u_T} {NF ci : Nat} {bytes : ByteArray} {maxL : Nat} {retY : Option FieldType} {ws ws' : List Cond} {rm : Room} {index n : Nat} {fs As rest : List Value} {X : String} (hX : StX (AG N G s.heap.size) s) (hex : ∀ x ∈ c.exceptionTable.toList, False) (hM : Thr l y ws rm D E N G Φ (.ref (G n) :: As) X) (hn : n < N) (hΦ : Φ n = .inr (ci, fs)) (hc : vwCl[ci]? = some (C, T, NF)) (hG : GoodIn Ts (wsV own index C y ws)) (hw : ws = Cond.code y bytes maxL retY :: ws') (hrc : rm.cells = 1) (hrs : rm.slots = 6)
    (hd : y.cls = C ∧ y.cls ≠ "java/lang/invoke/MethodHandle" ∧ y.cls ≠ "java/lang/invoke/VarHandle" ∧ (parseMethodDescriptor y.desc).map (fun d => d.parameters.length) = some As.length) (hR : rm.frames + 1 ≤ R.frames ∧ 8 + (maxL + 11) + rm.locals ≤ R.locals) (hcs : 1 ≤ R.cells ∧ 6 ≤ R.slots) (hcat : (rest.map fun v => v.category).sum ≤ 8) (hst : st = As.reverse ++ .ref (G n) :: rest) (hdg : decode cc pc = .ok (.invokevirtual index, 3)) : V p l e R s m args below meth c (QX below D N G Φ X args s) D E (AG N G s.heap.size) cc nL own ret Ts N G 0 0 Φ pc loc st := by
  intro o H locs ls hP hD hS h9
  have hAA := v_AG o.2.2.1 hD hS
  have hr := vx_runV (As := As) (rest := rest) (e := e) (R := R) (below := below) (meth := meth) (locs := locs) (cells := 0) (slots := 0) (g := F0 m pc ls st) o.1 (hM H.size) (cwV As.length o.1.2.2.2.2 hG hw hrc hrs hd hR) ⟨x_blind, va_recv o.2.1 hP hc (show (wl N G Φ)[n]? = some (G n, .inr (ci, fs)) by rw [wl_at hn, hΦ]), fun U hU hW => ⟨v_pre o hP hD hS U hU hW, hX.warm (by rw [hU]; exact hS) hW hAA⟩⟩ rfl rfl h9.1 hst (lv_room hcat) hdg (by omega)
  intro T hT X9
  rcases hr T hT X9 with ⟨v, st₀, t, T', L, h0, X', hL, e1, e2, hq, st⟩ | ⟨q, st₀, t, T', L, E9, ce, h0, X', hL, e1, e2, ⟨u, -, ⟨hE, hb⟩, hz, hk⟩, hce, hcv, hcl, st⟩
  · exact hq.elim
  · subst hE
    rw [h0] at hz hk
    have hS' : va_S (AG N G s.heap.size) s.heap T'.heap (locs ++ L) := ⟨Nat.le_trans hS.1 (by rw [e1]; exact hz), fun q h1 h2 => by rw [e1, hk q (Nat.lt_of_lt_of_le h1 hS.1) (fun z => h2 (hAA q z))]; exact hS.2.1 q h1 h2, fun q hq => by
      rcases List.mem_append.mp hq with h | h
      · exact hS.2.2 q h
      · exact hAA _ (hL q h)⟩
    have hgo := vx_out (p := p) (l := l) (e := e) (R := R) (m := m) (s := s) (args := args) (below := below) (Qc := fun _ _ _ _ => False) (XC := XcV D N G Φ E9 s.heap.size) (free := AG N G s.heap.size) (locs := locs ++ L) (cells := 0 + 1) (slots := 0 + 6) (mc := 1) (ms := 6) (H := T'.heap) (ls := ls) (rest := rest) (pc := pc) (E := E9) (ce := ce) (q := q) (fun x hx => (hex x hx).elim) o.2.2.2.1 (by rw [e1]; exact hce) hcv hcl (fun t9 ht9 _ => x_XC (by rw [e1]; exact hb) hS' (by rw [ht9]; exact Nat.le_refl _) (fun q _ => by rw [ht9])) (fun z hz => hS'.2.2 z hz) (by omega) (by omega)
    obtain ⟨t2, a1, b1⟩ := hgo T' rfl X'
    exact ⟨t2, st.trans a1, b1⟩
/-- the same, of a static method -/
theorem v_thrS {y : MethodName} {bytes : ByteArray} {maxL : Nat} {retY : Option FieldType} {ws ws' : List Cond} {rm : Room} {index : Nat} {As rest : List Value} {X : String} (hX : StX (AG N G s.heap.size) s) (hex : ∀ x ∈ c.exceptionTable.toList, False) (hM : Thr l y ws rm D E N G Φ As X) (hG : GoodIn Ts (va_wsS own index y ws)) (hw : ws = Cond.code y bytes maxL retY :: ws') (hrc : rm.cells = 1) (hrs : rm.slots = 6)
    (hd : y.cls ≠ "java/lang/invoke/MethodHandle" ∧ y.cls ≠ "java/lang/invoke/VarHandle" ∧ (parseMethodDescriptor y.desc).map (fun d => d.parameters.length) = some As.length) (hR : rm.frames + 1 ≤ R.frames ∧ 8 + (maxL + 11) + rm.locals ≤ R.locals) (hcs : 1 ≤ R.cells ∧ 6 ≤ R.slots) (hcat : (rest.map fun v => v.category).sum ≤ 8) (hst : st = As.reverse ++ rest) (hdg : decode cc pc = .ok (.invokestatic index, 3)) : V p l e R s m args below meth c (QX below D N G Φ X args s) D E (AG N G s.heap.size) cc nL own ret Ts N G 0 0 Φ pc loc st := by
  intro o H locs ls hP hD hS h9
  have hAA := v_AG o.2.2.1 hD hS
  have hr := vx_runS (As := As) (rest := rest) (e := e) (R := R) (below := below) (meth := meth) (locs := locs) (cells := 0) (slots := 0) (g := F0 m pc ls st) o.1 (hM H.size) (va_cwS As.length o.1.2.2.2.2 hG hw hrc hrs hd hR) ⟨x_blind, fun U hU hW => ⟨v_pre o hP hD hS U hU hW, hX.warm (by rw [hU]; exact hS) hW hAA⟩⟩ rfl rfl h9.1 hst (lv_room hcat) hdg (by omega)
  intro T hT X9
  rcases hr T hT X9 with ⟨v, st₀, t, T', L, h0, X', hL, e1, e2, hq, st⟩ | ⟨q, st₀, t, T', L, E9, ce, h0, X', hL, e1, e2, ⟨u, -, ⟨hE, hb⟩, hz, hk⟩, hce, hcv, hcl, st⟩
  · exact hq.elim
  · subst hE
    rw [h0] at hz hk
    have hS' : va_S (AG N G s.heap.size) s.heap T'.heap (locs ++ L) := ⟨Nat.le_trans hS.1 (by rw [e1]; exact hz), fun q h1 h2 => by rw [e1, hk q (Nat.lt_of_lt_of_le h1 hS.1) (fun z => h2 (hAA q z))]; exact hS.2.1 q h1 h2, fun q hq => by
      rcases List.mem_append.mp hq with h | h
      · exact hS.2.2 q h
      · exact hAA _ (hL q h)⟩
    have hgo := vx_out (p := p) (l := l) (e := e) (R := R) (m := m) (s := s) (args := args) (below := below) (Qc := fun _ _ _ _ => False) (XC := XcV D N G Φ E9 s.heap.size) (free := AG N G s.heap.size) (locs := locs ++ L) (cells := 0 + 1) (slots := 0 + 6) (mc := 1) (ms := 6) (H := T'.heap) (ls := ls) (rest := rest) (pc := pc) (E := E9) (ce := ce) (q := q) (fun x hx => (hex x hx).elim) o.2.2.2.1 (by rw [e1]; exact hce) hcv hcl (fun t9 ht9 _ => x_XC (by rw [e1]; exact hb) hS' (by rw [ht9]; exact Nat.le_refl _) (fun q _ => by rw [ht9])) (fun z hz => hS'.2.2 z hz) (by omega) (by omega)
    obtain ⟨t2, a1, b1⟩ := hgo T' rfl X'
    exact ⟨t2, st.trans a1, b1⟩
end XR
