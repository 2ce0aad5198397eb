/-! THE LAW'S WRAPPERS: they catch what the class throws, and answer its place -/
def StC (s : State) : Prop := va_Nc "java/lang/IllegalArgumentException" "java/lang/IndexOutOfBoundsException" s ∧ va_Nc "java/lang/IllegalStateException" "java/lang/IndexOutOfBoundsException" s ∧ va_Nc "java/lang/IllegalStateException" "java/lang/IllegalArgumentException" s
theorem StC.moved {u U : State} (hvm : u.vm.Alike U.vm) (h : StC u) : StC U := ⟨h.1.moved hvm, h.2.1.moved hvm, h.2.2.moved hvm⟩
def PcW (D : va_G) (E : Nat → ClassId) (N : Nat) (G : Nat → Nat) (Φ : Nat → va_E) (vargs : List Value) (sz : Nat) : Array Value → State → Prop := fun a U => PcX D E N G Φ vargs sz a U ∧ StC U
theorem w_blind {D : va_G} {E : Nat → ClassId} {N : Nat} {G : Nat → Nat} {Φ : Nat → va_E} {vargs : List Value} {sz : Nat} : FrameBlind (PcW D E N G Φ vargs sz) := by
  intro a U g mk q
  exact ⟨x_blind a U g mk q.1, q.2.moved (Vm.Alike.refl U.vm)⟩
def ConW (l : Launch) (y : MethodName) (ws : List Cond) (rm : Room) (D : va_G) (E : Nat → ClassId) (N : Nat) (G : Nat → Nat) (Φ : Nat → va_E) (vargs : List Value) (post : Option Value → (Nat → va_E) → Prop) : Prop :=
  ∀ sz : Nat, Met l y ws rm (PcW D E N G Φ vargs sz) (QcV D N G post sz) 1 6 (AG N G sz)
abbrev QW (below : List Frame) (D : va_G) (N : Nat) (G : Nat → Nat) (post : Option Value → (Nat → va_E) → Prop) (args : Array Value) (s : State) : State → Prop := QV below D N G post args s 1 6
theorem conW_of {l : Launch} {y : MethodName} {ws ws' : List Cond} {rm : Room} {D : va_G} {E : Nat → ClassId} {N : Nat} {G : Nat → Nat} {Φ : Nat → va_E} {vargs : List Value} {post : Option Value → (Nat → va_E) → Prop} {cc : ByteArray} {maxL : Nat} {ret : Option FieldType} {hh : List (Nat × Nat × Nat × Nat)} (hy : plainName y.cls = true) (hw : ws = Cond.codeWith y cc maxL ret hh :: ws') (hlen : (lg_sl vargs).length ≤ maxL)
    (body : ∀ (p : Program) (e : Env) (s : State) (m : MethodId) (args : Array Value) (below : List Frame) (meth : Method) (c : Code), StX (AG N G s.heap.size) s → StC s → c.exceptionTable.toList = tableOf hh → V p l e rm s m args below meth c (QW below D N G post args s) D E (AG N G s.heap.size) cc maxL y.cls ret ws N G 0 0 Φ 0 (lv_args 0 vargs) []) : ConW l y ws rm D E N G Φ vargs post := by
  intro sz
  refine va_MetW (cc := cc) (maxL := maxL) (ret := ret) hy hw ?_
  intro p e s m args below meth c s₁ B hml hv
  obtain ⟨⟨⟨rfl, hsz, hP, hK, hD0, hZ⟩, hX⟩, hC⟩ := hv
  subst hsz
  have hts := atoms_spec (ws := ws) B.pre
  have hown : s.vm.findClass y.cls = some m.cls := findClass_of_methodNamed B.named
  have htab := vx_table (x := y) B (hts _ (by rw [hw]; exact List.mem_cons_self))
  have hl := lv_entry vargs (n := maxL) hlen
  rw [lg_entry_eq]
  exact body p e s m vargs.toArray below meth c hX hC htab ⟨⟨B.exec, B.bytes, hml, hown, hts⟩, hK, fun q h => Or.inr h, B.notSynchronized, B.returns, hZ⟩ s.heap [] _ hP (wl_D hD0 (fun n hn => Or.inl ⟨n, hn, rfl⟩)) va_S.rf hl
theorem conW_post {l : Launch} {y : MethodName} {ws : List Cond} {rm : Room} {D : va_G} {E : Nat → ClassId} {N : Nat} {G : Nat → Nat} {Φ : Nat → va_E} {vargs : List Value} {post post' : Option Value → (Nat → va_E) → Prop} (h : ConW l y ws rm D E N G Φ vargs post) (hp : ∀ v Φ', post v Φ' → post' v Φ') : ConW l y ws rm D E N G Φ vargs post' := by
  intro sz p e ha hc hk s m args below hf happ hP hK
  obtain ⟨k, o, h1, h2, h3, ⟨⟨⟨v, Φ', q1, q2, q3⟩, q4⟩, q5⟩⟩ := h sz p e ha hc hk s m args below hf happ hP hK
  exact ⟨k, o, h1, h2, h3, ⟨⟨v, Φ', q1, hp _ _ q2, q3⟩, q4⟩, q5⟩
def CW (l : Launch) (y : MethodName) (ws : List Cond) (rm : Room) (D : va_G) (E : Nat → ClassId) (N : Nat) (G : Nat → Nat) (shp : Nat → (Nat → Int32) → va_E) (σ : Nat → Nat → Int32) (vargs : List Value) (post : Option Value → (Nat → Nat → Int32) → Prop) : Prop := ConW l y ws rm D E N G (φ shp σ) vargs (fun v' Φ' => ∃ σ', Φ' = φ shp σ' ∧ post v' σ')
theorem CW.of {l : Launch} {y : MethodName} {ws ws' : List Cond} {rm : Room} {D : va_G} {E : Nat → ClassId} {N : Nat} {G : Nat → Nat} {shp : Nat → (Nat → Int32) → va_E} {σ : Nat → Nat → Int32} {vargs : List Value} {cc : ByteArray} {maxL : Nat} {ret : Option FieldType} {hh : List (Nat × Nat × Nat × Nat)} {post : Option Value → (Nat → Nat → Int32) → Prop} (hy : plainName y.cls = true) (hw : ws = Cond.codeWith y cc maxL ret hh :: ws') (hlen : (lg_sl vargs).length ≤ maxL)
    (body : ∀ (p : Program) (e : Env) (s : State) (m : MethodId) (args : Array Value) (below : List Frame) (meth : Method) (c : Code), StX (AG N G s.heap.size) s → StC s → c.exceptionTable.toList = tableOf hh → V p l e rm s m args below meth c (QW below D N G (fun v' Φ' => ∃ σ', Φ' = φ shp σ' ∧ post v' σ') args s) D E (AG N G s.heap.size) cc maxL y.cls ret ws N G 0 0 (φ shp σ) 0 (lv_args 0 vargs) []) : CW l y ws rm D E N G shp σ vargs post := conW_of hy hw hlen body
theorem CW.to {l : Launch} {y : MethodName} {ws : List Cond} {rm : Room} {D : va_G} {E : Nat → ClassId} {N : Nat} {G : Nat → Nat} {shp : Nat → (Nat → Int32) → va_E} {σ : Nat → Nat → Int32} {vargs : List Value} {post post' : Option Value → (Nat → Nat → Int32) → Prop} (h : CW l y ws rm D E N G shp σ vargs post) (hp : ∀ v τ, post v τ → post' v τ) : CW l y ws rm D E N G shp σ vargs post' := conW_post h (fun v' Φ' ⟨τ, h1, h2⟩ => ⟨τ, h1, hp _ _ h2⟩)
theorem CX.pre {l : Launch} {y : MethodName} {ws : List Cond} {rm : Room} {D : va_G} {E : Nat → ClassId} {N : Nat} {G : Nat → Nat} {shp : Nat → (Nat → Int32) → va_E} {σ τ : Nat → Nat → Int32} {vargs : List Value} {post : Option Value → (Nat → Nat → Int32) → Prop} (h : CX l y ws rm D E N G shp τ vargs post) (e : τ = σ) : CX l y ws rm D E N G shp σ vargs post := e ▸ h
theorem CXX.pre {l : Launch} {y : MethodName} {ws : List Cond} {rm : Room} {D : va_G} {E : Nat → ClassId} {N : Nat} {G : Nat → Nat} {shp : Nat → (Nat → Int32) → va_E} {σ τ : Nat → Nat → Int32} {vargs : List Value} {post : Option Value → (Nat → Nat → Int32) → Prop} (h : CXX l y ws rm D E N G shp τ vargs post) (e : τ = σ) : CXX l y ws rm D E N G shp σ vargs post := e ▸ h
section RW9
variable {p : Program} {l : Launch} {e : Env} {R : Room} {s : State} {m : MethodId} {args : Array Value} {below : List Frame} {meth : Method} {c : Code} {Q : State → Prop} {D : va_G} {E : Nat → ClassId} {A : Nat → Prop} {cc : ByteArray} {nL : Nat} {own : String} {ret : Option FieldType} {Ts : List Cond} {N : Nat} {G : Nat → Nat} {cells slots : Nat} {Φ Φ' : Nat → va_E} {pc : Nat} {loc : List (Nat × Value)} {st : List Value}
/-- a call that throws, caught here by a row that names the very class -/
theorem v_catchV {y : MethodName} {C X : String} {T : u_T} {NF ci : Nat} {bytes : ByteArray} {maxL : Nat} {retY : Option FieldType} {ws ws' : List Cond} {rm : Room} {index n : Nat} {fs As rest : List Value} (hX : StX A s) (hM : Thr2 l y ws rm D E N G Φ Φ' (.ref (G n) :: As) X) (hn : n < N) (hΦ : Φ n = .inr (ci, fs)) (hc : vwCl[ci]? = some (C, T, NF)) (hG : GoodIn Ts (wsV own index C y ws)) (hw : ws = Cond.code y bytes maxL retY :: ws') (hrc : rm.cells = 1) (hrs : rm.slots = 6)
    (hd : y.cls = C ∧ y.cls ≠ "java/lang/invoke/MethodHandle" ∧ y.cls ≠ "java/lang/invoke/VarHandle" ∧ (parseMethodDescriptor y.desc).map (fun d => d.parameters.length) = some As.length) (hR : rm.frames + 1 ≤ R.frames ∧ 8 + (maxL + 11) + rm.locals ≤ R.locals) (hcs : cells + 1 ≤ R.cells ∧ slots + 6 ≤ R.slots) (hcat : (rest.map fun v => v.category).sum ≤ 8) (hst : st = As.reverse ++ .ref (G n) :: rest) (hdg : decode cc pc = .ok (.invokevirtual index, 3))
    (pre : List ExceptionTableEntry) (x : ExceptionTableEntry) (suf : List ExceptionTableEntry) (hsplit : c.exceptionTable.toList = pre ++ x :: suf) (hpass : ∀ z ∈ pre, covers z pc = false ∨ (z.catchType ≠ 0 ∧ ∃ nm : String, Cond.classLink own z.catchType nm ∈ Ts ∧ va_Nc X nm s)) (hx : covers x pc = true) (h0 : x.catchType ≠ 0) (hlink : Cond.classLink own x.catchType X ∈ Ts) (hcast : (X, X) ∈ xcC)
    (kk : ∀ q : Nat, V p l e R s m args below meth c Q D E A cc nL own ret Ts N G (cells + 1) (slots + 6) Φ' x.handlerPc loc [.ref q]) : V p l e R s m args below meth c Q D E A cc nL own ret Ts N G cells slots Φ pc loc st := by
  intro o H locs ls hP hD hS h9
  have hAA := v_AG o.2.2.1 hD hS
  have hr := vx_runV (As := As) (rest := rest) (e := e) (R := R) (below := below) (meth := meth) (locs := locs) (cells := cells) (slots := slots) (g := F0 m pc ls st) o.1 (hM H.size) (cwV As.length o.1.2.2.2.2 hG hw hrc hrs hd hR) ⟨x_blind, va_recv o.2.1 hP hc (show (wl N G Φ)[n]? = some (G n, .inr (ci, fs)) by rw [wl_at hn, hΦ]), fun U hU hW => ⟨v_pre o hP hD hS U hU hW, hX.warm (by rw [hU]; exact hS) hW hAA⟩⟩ rfl rfl h9.1 hst (lv_room hcat) hdg hcs
  intro T hT X9
  rcases hr T hT X9 with ⟨v, st₀, t, T', L, h0, X', hL, e1, e2, hq, st⟩ | ⟨q, st₀, t, T', L, E9, ce, h00, X', hL, e1, e2, ⟨u, -, ⟨hE, hb⟩, hz, hk⟩, hce, hcv, hcl, st⟩
  · exact hq.elim
  · subst hE
    rw [h00] at hz hk
    have hS' : va_S A s.heap T'.heap (locs ++ L) := ⟨Nat.le_trans hS.1 (by rw [e1]; exact hz), fun q h1 h2 => by rw [e1, hk q (Nat.lt_of_lt_of_le h1 hS.1) (fun z => h2 (hAA q z))]; exact hS.2.1 q h1 h2, fun q hq => by
      rcases List.mem_append.mp hq with h | h
      · exact hS.2.2 q h
      · exact hAA _ (hL q h)⟩
    have hgo := vx_catch (Q := Q) (H := T'.heap) (ls := ls) (rest := rest) (pc := pc) (q := q) (ce := ce) (locs := locs ++ L) (cells := cells + 1) (slots := slots + 6) o.1.2.2.2.1 pre x suf hsplit (fun z hz => by
      rcases hpass z hz with h | ⟨h1, nm, h2, h3⟩
      · exact Or.inl h
      · exact Or.inr ⟨h1, nm, o.1.2.2.2.2 _ h2, h3⟩) hx h0 (o.1.2.2.2.2 _ hlink) (va_Nw.use rfl (hX.2.1.2.1 _ hcast)) (by rw [e1]; exact hce) hcv hcl (kk q o T'.heap (locs ++ L) ls (by rw [e1]; exact hb) (wl_D hD (fun n hn => hD.2 n _ (wl_at hn))) hS' h9)
    obtain ⟨t2, a1, b1⟩ := hgo T' rfl X'
    exact ⟨t2, st.trans a1, b1⟩
theorem v_callRunW {post : Option Value → (Nat → va_E) → Prop} {rest st0 : List Value} {a : Array Value} (hr : OkV p s m args meth c D E A cc nL own ret Ts → ∀ (H : Heap) (locs : List Loc) (ls : Array Slot), va_P D vwCl (wl N G Φ) H → va_D A (wl N G Φ) → va_S A s.heap H locs → lv_has ls nL loc → va_Run p l e R s m args below meth c H locs cells slots 1 6 (F0 m pc ls st0) rest (QcV D N G post H.size a) (AG N G H.size)) (kk : ∀ (v : Option Value) (Φ' : Nat → va_E), post v Φ' → V p l e R s m args below meth c Q D E A cc nL own ret Ts N G (cells + 1) (slots + 6) Φ' (pc + 3) loc (v.toList ++ rest)) : V p l e R s m args below meth c Q D E A cc nL own ret Ts N G cells slots Φ pc loc st0 := by
  intro o H locs ls hP hD hS hl T hT X
  obtain ⟨v, st₀, t, T', L, h0, X', hL, e1, e2, ⟨⟨v', Φ', hv, hp, hb⟩, hz, hk⟩, st⟩ := hr o H locs ls hP hD hS hl T hT X
  cases hv
  rw [h0] at hz hk
  have hAA := v_AG o.2.2.1 hD hS
  obtain ⟨t2, a1, b1⟩ := kk v Φ' hp o T'.heap (locs ++ L) ls (by rw [e1]; exact hb) (wl_D hD (fun n hn => hD.2 n _ (wl_at hn)))
    ⟨Nat.le_trans hS.1 (by rw [e1]; exact hz), fun q h1 h2 => by rw [e1, hk q (Nat.lt_of_lt_of_le h1 hS.1) (fun z => h2 (hAA q z))]; exact hS.2.1 q h1 h2, fun q hq => by
      rcases List.mem_append.mp hq with h | h
      · exact hS.2.2 q h
      · exact hAA _ (hL q h)⟩ hl T' rfl X'
  exact ⟨t2, st t2 a1, b1⟩
/-- the law's call of a wrapper -/
theorem u_callSW {y : MethodName} {bytes : ByteArray} {maxL : Nat} {retY : Option FieldType} {hh : List (Nat × Nat × Nat × Nat)} {ws ws' : List Cond} {rm : Room} {index : Nat} {shp : Nat → (Nat → Int32) → va_E} {σ : Nat → Nat → Int32} {post : Option Value → (Nat → Nat → Int32) → Prop} {st0 : List Value} (As : List Value) (rest : List Value) (hX : StX A s) (hC : StC s) (hM : CW l y ws rm D E N G shp σ As post) (hG : GoodIn Ts (va_wsS own index y ws)) (hw : ws = Cond.codeWith y bytes maxL retY hh :: ws') (hrc : rm.cells = 1) (hrs : rm.slots = 6) (hd : y.cls ≠ "java/lang/invoke/MethodHandle" ∧ y.cls ≠ "java/lang/invoke/VarHandle" ∧ (parseMethodDescriptor y.desc).map (fun d => d.parameters.length) = some As.length) (hR : rm.frames + 1 ≤ R.frames ∧ 8 + (maxL + 11) + rm.locals ≤ R.locals) (hcs : cells + 1 ≤ R.cells ∧ slots + 6 ≤ R.slots) (hcat : (rest.map fun v => v.category).sum ≤ 8) (hst : st0 = As.reverse ++ rest) (hdg : decode cc pc = .ok (.invokestatic index, 3))
    (kk : ∀ (v : Option Value) (τ : Nat → Nat → Int32), post v τ → V p l e R s m args below meth c Q D E A cc nL own ret Ts N G (cells + 1) (slots + 6) (φ shp τ) (pc + 3) loc (v.toList ++ rest)) : V p l e R s m args below meth c Q D E A cc nL own ret Ts N G cells slots (φ shp σ) pc loc st0 :=
  v_callRunW (fun o H locs ls hP hD hS hl => vx_runSW (As := As) (rest := rest) o.1 (hM H.size) (vx_cwSW As.length o.1.2.2.2.2 hG hw hrc hrs hd hR) ⟨w_blind, fun U hU hW => ⟨⟨v_pre o hP hD hS U hU hW, hX.warm (by rw [hU]; exact hS) hW (v_AG o.2.2.1 hD hS)⟩, hC.moved hW.alike⟩⟩ rfl rfl hl.1 hst (lv_room hcat) hdg hcs) (fun v' Φ' h => by obtain ⟨τ, h1, h2⟩ := h; subst h1; exact kk v' τ h2)
end RW9
