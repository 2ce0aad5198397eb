/-! CONTRACTS over the world of indexed cells; calls; ends -/
def PcV (D : va_G) (E : Nat → ClassId) (N : Nat) (G : Nat → Nat) (Φ : Nat → va_E) (vargs : List Value) (sz : Nat) : Array Value → State → Prop := va_Pc vargs (fun U => U.heap.size = sz ∧ va_P D vwCl (wl N G Φ) U.heap ∧ va_K D vwCl (tysE E) U ∧ va_D (fun _ => True) (wl N G Φ) ∧ StZ (AG N G sz) U)
def QcV (D : va_G) (N : Nat) (G : Nat → Nat) (post : Option Value → (Nat → va_E) → Prop) (sz : Nat) : Array Value → State → Outcome → State → Prop := fun _ st oc t => (∃ (v : Option Value) (Φ' : Nat → va_E), oc = .returned v ∧ post v Φ' ∧ va_P D vwCl (wl N G Φ') t.heap) ∧ va_F (AG N G sz) st t
/-- method y, on these arguments over this world, returns; its answer and the new world meet 'post' -/
def Con (l : Launch) (y : MethodName) (ws : List Cond) (rm : Room) (D : va_G) (E : Nat → ClassId) (N : Nat) (G : Nat → Nat) (Φ : Nat → va_E) (vargs : List Value) (post : Option Value → (Nat → va_E) → Prop) : Prop :=
  ∀ sz : Nat, Met l y ws rm (PcV D E N G Φ vargs sz) (QcV D N G post sz) 0 0 (AG N G sz)
abbrev QV (below : List Frame) (D : va_G) (N : Nat) (G : Nat → Nat) (post : Option Value → (Nat → va_E) → Prop) (args : Array Value) (s : State) (cells slots : Nat) : State → Prop := MQ below (QcV D N G post s.heap.size) args s cells slots (AG N G s.heap.size)
theorem con_of {l : Launch} {y : MethodName} {ws ws' : List Cond} {rm : Room} {D : va_G} {E : Nat → ClassId} {N : Nat} {G : Nat → Nat} {Φ : Nat → va_E} {vargs : List Value} {post : Option Value → (Nat → va_E) → Prop} {cc : ByteArray} {maxL : Nat} {ret : Option FieldType} (hy : plainName y.cls = true) (hw : ws = Cond.code y cc maxL ret :: ws') (hlen : (lg_sl vargs).length ≤ maxL)
    (body : ∀ (p : Program) (e : Env) (s : State) (m : MethodId) (args : Array Value) (below : List Frame) (meth : Method) (c : Code), V p l e rm s m args below meth c (QV below D N G post args s 0 0) D E (AG N G s.heap.size) cc maxL y.cls ret ws N G 0 0 Φ 0 (lv_args 0 vargs) []) : Con l y ws rm D E N G Φ vargs post := by
  intro sz
  refine Met.ofW (cc := cc) (maxL := maxL) (ret := ret) hy hw ?_
  intro p e s m args below meth c s₁ B hml hv
  obtain ⟨rfl, hsz, hP, hK, hD0, hZ⟩ := hv
  subst hsz
  have hts := atoms_spec (ws := ws) B.pre
  have hown : s.vm.findClass y.cls = some m.cls := findClass_of_methodNamed B.named
  have hl := lv_entry vargs (n := maxL) hlen
  rw [lg_entry_eq]
  exact body p e s m vargs.toArray below meth c ⟨⟨B.exec, B.bytes, hml, hown, hts⟩, hK, fun q h => Or.inr h, B.notSynchronized, B.returns, hZ⟩ s.heap [] _ hP (wl_D hD0 (fun n hn => Or.inl ⟨n, hn, rfl⟩)) va_S.rf hl
theorem con_post {l : Launch} {y : MethodName} {ws : List Cond} {rm : Room} {D : va_G} {E : Nat → ClassId} {N : Nat} {G : Nat → Nat} {Φ : Nat → va_E} {vargs : List Value} {post post' : Option Value → (Nat → va_E) → Prop} (h : Con l y ws rm D E N G Φ vargs post) (hp : ∀ v Φ', post v Φ' → post' v Φ') : Con l y ws rm D E N G Φ vargs post' := by
  intro sz p e ha hc hk s m args below hf happ hP hK
  obtain ⟨k, o, h1, h2, h3, ⟨⟨⟨v, Φ', q1, q2, q3⟩, q4⟩, q5⟩⟩ := h sz p e ha hc hk s m args below hf happ hP hK
  exact ⟨k, o, h1, h2, h3, ⟨⟨v, Φ', q1, hp _ _ q2, q3⟩, q4⟩, q5⟩
section RC
variable {p : Program} {l : Launch} {e : Env} {R : Room} {s : State} {m : MethodId} {args : Array Value} {below : List Frame} {meth : Method} {c : Code} {Q : State → Prop} {D : va_G} {E : Nat → ClassId} {A : Nat → Prop} {cc : ByteArray} {nL : Nat} {own : String} {ret : Option FieldType} {Ts : List Cond} {N : Nat} {G : Nat → Nat} {cells slots : Nat} {Φ : Nat → va_E} {pc : Nat} {loc : List (Nat × Value)} {st : List Value}
variable {post : Option Value → (Nat → va_E) → Prop} {rest st0 : List Value} {a : Array Value}
theorem v_AG {H : Heap} {locs : List Loc} (hA : ∀ q : Nat, s.heap.size ≤ q → A q) (hD : va_D A (wl N G Φ)) (hS : va_S A s.heap H locs) : ∀ q, AG N G H.size q → A q := by
  intro q h
  rcases h with ⟨n, hn, rfl⟩ | h
  · exact hD.2 n _ (wl_at hn)
  · exact hA q (Nat.le_trans hS.1 h)
theorem v_callRun (hr : OkV p s m args meth c D E A cc nL own ret Ts → ∀ (H : Heap) (locs : List Loc) (ls : Array Slot), va_P D vwCl (wl N G Φ) H → va_D A (wl N G Φ) → va_S A s.heap H locs → lv_has ls nL loc → va_Run p l e R s m args below meth c H locs cells slots 0 0 (F0 m pc ls st0) rest (QcV D N G post H.size a) (AG N G H.size)) (kk : ∀ (v : Option Value) (Φ' : Nat → va_E), post v Φ' → V p l e R s m args below meth c Q D E A cc nL own ret Ts N G cells slots Φ' (pc + 3) loc (v.toList ++ rest)) : V p l e R s m args below meth c Q D E A cc nL own ret Ts N G cells slots Φ pc loc st0 := by
  intro o H locs ls hP hD hS hl T hT X
  obtain ⟨v, st₀, t, T', L, h0, X', hL, e1, e2, ⟨⟨v', Φ', hv, hp, hb⟩, hz, hk⟩, st⟩ := hr o H locs ls hP hD hS hl T hT X
  cases hv
  rw [h0] at hz hk
  have hAA := v_AG o.2.2.1 hD hS
  obtain ⟨t2, a1, b1⟩ := kk v Φ' hp o T'.heap (locs ++ L) ls (by rw [e1]; exact hb) (wl_D hD (fun n hn => hD.2 n _ (wl_at hn)))
    ⟨Nat.le_trans hS.1 (by rw [e1]; exact hz), fun q h1 h2 => by rw [e1, hk q (Nat.lt_of_lt_of_le h1 hS.1) (fun z => h2 (hAA q z))]; exact hS.2.1 q h1 h2, fun q hq => by
      rcases List.mem_append.mp hq with h | h
      · exact hS.2.2 q h
      · exact hAA _ (hL q h)⟩ hl T' rfl X'
  exact ⟨t2, st t2 a1, b1⟩
theorem v_blind {vargs : List Value} {sz : Nat} : FrameBlind (PcV D E N G Φ vargs sz) := by
  intro a U g mk q
  obtain ⟨q0, q1, qP, qK, qD, qZ⟩ := q
  exact ⟨q0, q1, qP, va_K.moved (u := U) (U := U.calling g mk a) (Vm.Alike.refl U.vm) qK, qD, StZ.go (U := U.calling g mk a) (locs := []) qZ va_S.rf (Vm.Alike.refl U.vm) (nestW_same rfl) (fun _ h => h)⟩
theorem v_pre {vargs : List Value} (o : OkV p s m args meth c D E A cc nL own ret Ts) {H : Heap} {locs : List Loc} (hP : va_P D vwCl (wl N G Φ) H) (hD : va_D A (wl N G Φ)) (hS : va_S A s.heap H locs) : ∀ U : State, U.heap = H → s.WarmedH U.vm → PcV D E N G Φ vargs H.size vargs.toArray U := by
  intro U hU hW
  have hAA := v_AG o.2.2.1 hD hS
  subst hU
  exact ⟨rfl, rfl, hP, va_K.moved hW.alike o.2.1, wl_D hD (fun _ _ => trivial), o.2.2.2.2.2.go hS hW.alike (nestW_warm hW) hAA⟩
theorem v_callV {y : MethodName} {C : String} {T : u_T} {NF ci : Nat} {bytes : ByteArray} {maxL : Nat} {retY : Option FieldType} {ws ws' : List Cond} {rm : Room} {index n : Nat} {fs As : List Value} (hM : Con l y ws rm D E N G Φ (.ref (G n) :: As) post) (hn : n < N) (hΦ : Φ n = .inr (ci, fs)) (hc : vwCl[ci]? = some (C, T, NF)) (hG : GoodIn Ts (wsV own index C y ws)) (hw : ws = Cond.code y bytes maxL retY :: ws') (hrc : rm.cells = 0) (hrs : rm.slots = 0) (hd : y.cls = C ∧ y.cls ≠ "java/lang/invoke/MethodHandle" ∧ y.cls ≠ "java/lang/invoke/VarHandle" ∧ (parseMethodDescriptor y.desc).map (fun d => d.parameters.length) = some As.length) (hR : rm.frames + 1 ≤ R.frames ∧ 8 + (maxL + 11) + rm.locals ≤ R.locals) (hcs : cells ≤ R.cells ∧ slots ≤ R.slots) (hcat : (rest.map fun v => v.category).sum ≤ 8) (hst : st0 = As.reverse ++ .ref (G n) :: rest) (hdg : decode cc pc = .ok (.invokevirtual index, 3)) (kk : ∀ (v : Option Value) (Φ' : Nat → va_E), post v Φ' → V p l e R s m args below meth c Q D E A cc nL own ret Ts N G cells slots Φ' (pc + 3) loc (v.toList ++ rest)) : V p l e R s m args below meth c Q D E A cc nL own ret Ts N G cells slots Φ pc loc st0 :=
  v_callRun (fun o H locs ls hP hD hS hl => va_runV (As := As) (rest := rest) o.1 (hM H.size) (cwV As.length o.1.2.2.2.2 hG hw hrc hrs hd hR) ⟨v_blind, va_recv o.2.1 hP hc (show (wl N G Φ)[n]? = some (G n, .inr (ci, fs)) by rw [wl_at hn, hΦ]), v_pre o hP hD hS⟩ rfl rfl hl.1 hst (lv_room hcat) hdg hcs) kk
theorem v_callS {y : MethodName} {bytes : ByteArray} {maxL : Nat} {retY : Option FieldType} {ws ws' : List Cond} {rm : Room} {index : Nat} {As : List Value} (hM : Con l y ws rm D E N G Φ As post) (hG : GoodIn Ts (va_wsS own index y ws)) (hw : ws = Cond.code y bytes maxL retY :: ws') (hrc : rm.cells = 0) (hrs : rm.slots = 0) (hd : y.cls ≠ "java/lang/invoke/MethodHandle" ∧ y.cls ≠ "java/lang/invoke/VarHandle" ∧ (parseMethodDescriptor y.desc).map (fun d => d.parameters.length) = some As.length) (hR : rm.frames + 1 ≤ R.frames ∧ 8 + (maxL + 11) + rm.locals ≤ R.locals) (hcs : cells ≤ R.cells ∧ slots ≤ R.slots) (hcat : (rest.map fun v => v.category).sum ≤ 8) (hst : st0 = As.reverse ++ rest) (hdg : decode cc pc = .ok (.invokestatic index, 3)) (kk : ∀ (v : Option Value) (Φ' : Nat → va_E), post v Φ' → V p l e R s m args below meth c Q D E A cc nL own ret Ts N G cells slots Φ' (pc + 3) loc (v.toList ++ rest)) : V p l e R s m args below meth c Q D E A cc nL own ret Ts N G cells slots Φ pc loc st0 :=
  v_callRun (fun o H locs ls hP hD hS hl => va_runS (As := As) (rest := rest) o.1 (hM H.size) (va_cwS As.length o.1.2.2.2.2 hG hw hrc hrs hd hR) ⟨v_blind, v_pre o hP hD hS⟩ rfl rfl hl.1 hst (lv_room hcat) hdg hcs) kk
theorem v_callSN {y : MethodName} {host : String} {bytes : ByteArray} {maxL : Nat} {retY : Option FieldType} {ws ws' : List Cond} {rm : Room} {index : Nat} {As : List Value} (hM : Con l y ws rm D E N G Φ As post) (hnw : Cond.methodLinkNest own index y host ∈ nestW) (hini : Cond.initialized y.cls ∈ Ts) (hstc : Cond.static y ∈ Ts) (hG : GoodIn Ts ws) (hw : ws = Cond.code y bytes maxL retY :: ws') (hrc : rm.cells = 0) (hrs : rm.slots = 0) (hd : y.cls ≠ "java/lang/invoke/MethodHandle" ∧ y.cls ≠ "java/lang/invoke/VarHandle" ∧ (parseMethodDescriptor y.desc).map (fun d => d.parameters.length) = some As.length) (hR : rm.frames + 1 ≤ R.frames ∧ 8 + (maxL + 11) + rm.locals ≤ R.locals) (hcs : cells ≤ R.cells ∧ slots ≤ R.slots) (hcat : (rest.map fun v => v.category).sum ≤ 8) (hst : st0 = As.reverse ++ rest) (hdg : decode cc pc = .ok (.invokestatic index, 3)) (kk : ∀ (v : Option Value) (Φ' : Nat → va_E), post v Φ' → V p l e R s m args below meth c Q D E A cc nL own ret Ts N G cells slots Φ' (pc + 3) loc (v.toList ++ rest)) : V p l e R s m args below meth c Q D E A cc nL own ret Ts N G cells slots Φ pc loc st0 :=
  v_callRun (fun o H locs ls hP hD hS hl => va_runSN (As := As) (rest := rest) o.1 (hM H.size) ⟨va_cnB As.length o.1.2.2.2.2 hG hw hrc hrs (o.2.2.2.2.2.2 _ hnw) (o.1.2.2.2.2 _ hini) hd hR, o.1.2.2.2.2 _ hstc, trivial⟩ ⟨v_blind, v_pre o hP hD hS⟩ rfl rfl hl.1 hst (lv_room hcat) hdg hcs) kk
end RC
section RE
variable {p : Program} {l : Launch} {e : Env} {R : Room} {s : State} {m : MethodId} {args : Array Value} {below : List Frame} {meth : Method} {c : Code} {D : va_G} {E : Nat → ClassId} {cc : ByteArray} {nL : Nat} {own : String} {ret : Option FieldType} {Ts : List Cond} {N : Nat} {G : Nat → Nat} {cells slots : Nat} {Φ : Nat → va_E} {pc : Nat} {loc : List (Nat × Value)} {post : Option Value → (Nat → va_E) → Prop}
theorem v_iret {v : Int32} (hr : ret = some .int) (hdg : decode cc pc = .ok (.ireturn, 1)) (hq : post (some (.int v)) Φ) : V p l e R s m args below meth c (QV below D N G post args s cells slots) D E (AG N G s.heap.size) cc nL own ret Ts N G cells slots Φ pc loc [.int v] := fun o H locs ls hP hD hS hl => W.iret o.1.1 o.1.2.1 (by rw [o.2.2.2.2.1, hr]) (fun t ht hW => ⟨⟨_, Φ, rfl, hq, by rw [ht]; exact hP⟩, hS.F ht⟩) hS.2.2 hdg o.2.2.2.1
theorem v_zret {v : Int32} (hr : ret = some .boolean) (hn : v = 0 ∨ v = 1) (hdg : decode cc pc = .ok (.ireturn, 1)) (hq : post (some (.int v)) Φ) : V p l e R s m args below meth c (QV below D N G post args s cells slots) D E (AG N G s.heap.size) cc nL own ret Ts N G cells slots Φ pc loc [.int v] := fun o H locs ls hP hD hS hl => W.zret o.1.1 o.1.2.1 (by rw [o.2.2.2.2.1, hr]) (by rcases hn with rfl | rfl <;> decide +kernel) (fun t ht hW => ⟨⟨_, Φ, rfl, hq, by rw [ht]; exact hP⟩, hS.F ht⟩) hS.2.2 hdg o.2.2.2.1
theorem v_vret (hr : ret = none) (hdg : decode cc pc = .ok (.return_, 1)) (hq : post none Φ) : V p l e R s m args below meth c (QV below D N G post args s cells slots) D E (AG N G s.heap.size) cc nL own ret Ts N G cells slots Φ pc loc [] := fun o H locs ls hP hD hS hl => W.vret o.1.1 o.1.2.1 (by rw [o.2.2.2.2.1, hr]) (fun t ht hW => ⟨⟨_, Φ, rfl, hq, by rw [ht]; exact hP⟩, hS.F ht⟩) hS.2.2 hdg o.2.2.2.1
theorem v_lret {v : Int64} (hr : ret = some .long) (hdg : decode cc pc = .ok (.lreturn, 1)) (hq : post (some (.long v)) Φ) : V p l e R s m args below meth c (QV below D N G post args s cells slots) D E (AG N G s.heap.size) cc nL own ret Ts N G cells slots Φ pc loc [.long v] := fun o H locs ls hP hD hS hl => W.lret o.1.1 o.1.2.1 (by rw [o.2.2.2.2.1, hr]) (fun t ht hW => ⟨⟨_, Φ, rfl, hq, by rw [ht]; exact hP⟩, hS.F ht⟩) hS.2.2 hdg o.2.2.2.1
theorem v_aret {a : Nat} {C : String} (hr : ret = some (.object C)) (hdg : decode cc pc = .ok (.areturn, 1)) (hq : post (some (.ref a)) Φ) : V p l e R s m args below meth c (QV below D N G post args s cells slots) D E (AG N G s.heap.size) cc nL own ret Ts N G cells slots Φ pc loc [.ref a] := fun o H locs ls hP hD hS hl => W.aret o.1.1 o.1.2.1 (by rw [o.2.2.2.2.1, hr]) (Or.inl ⟨C, rfl⟩) (Or.inr ⟨a, rfl⟩) (fun t ht hW => ⟨⟨_, Φ, rfl, hq, by rw [ht]; exact hP⟩, hS.F ht⟩) hS.2.2 hdg o.2.2.2.1
end RE
/-! THE FLAT STATE: the references of the world never change once it is made ('shp n': what cell n is, out of its ints); σ n k: the int at the place k of cell n -/
def φ (shp : Nat → (Nat → Int32) → va_E) (σ : Nat → Nat → Int32) : Nat → va_E := fun n => shp n (σ n)
def st2 (σ : Nat → Nat → Int32) (n k : Nat) (v : Int32) : Nat → Nat → Int32 := va_up σ n (upd (σ n) k v)
theorem st2_same (σ : Nat → Nat → Int32) (n k : Nat) (v : Int32) : st2 σ n k v n k = v := by simp [st2, va_up, upd]
theorem st2_eq (σ : Nat → Nat → Int32) (n k n' k' : Nat) (v : Int32) : st2 σ n k v n' k' = if n' = n ∧ k' = k then v else σ n' k' := by
  unfold st2 va_up upd
  by_cases h1 : n' = n
  · subst h1
    by_cases h2 : k' = k <;> simp [h2]
  · simp [h1]
theorem φ_up (shp : Nat → (Nat → Int32) → va_E) (σ : Nat → Nat → Int32) (n k : Nat) (v : Int32) : va_up (φ shp σ) n (shp n (upd (σ n) k v)) = φ shp (st2 σ n k v) := by
  funext j
  unfold va_up φ st2 va_up
  by_cases h : j = n
  · subst h; simp
  · simp [h]
def obV (G : Nat → Nat) (f : Nat → Int32) : List (Option Nat) → Nat → List Value
  | [], _ => []
  | none :: t, k => .int (f k) :: obV G f t (k + 1)
  | some a :: t, k => .ref (G a) :: obV G f t (k + 1)
/-- an object of the class number ci: an int at each 'none', the cell a at each 'some a' -/
def ObS (G : Nat → Nat) (ci : Nat) (ks : List (Option Nat)) : (Nat → Int32) → va_E := fun f => .inr (ci, obV G f ks 0)
theorem obV_int {G : Nat → Nat} {f : Nat → Int32} : ∀ {ks : List (Option Nat)} {i k : Nat}, ks[k]? = some none → (obV G f ks i)[k]? = some (.int (f (i + k)))
  | [], _, _, h => by simp at h
  | none :: t, i, 0, _ => by simp [obV]
  | some a :: t, i, 0, h => by simp at h
  | none :: t, i, k + 1, h => by
    have h' : t[k]? = some none := by simpa using h
    have := obV_int (G := G) (f := f) (i := i + 1) h'
    simp only [obV, List.getElem?_cons_succ]
    rw [this]; congr 3; omega
  | some a :: t, i, k + 1, h => by
    have h' : t[k]? = some none := by simpa using h
    have := obV_int (G := G) (f := f) (i := i + 1) h'
    simp only [obV, List.getElem?_cons_succ]
    rw [this]; congr 3; omega
theorem obV_ref {G : Nat → Nat} {f : Nat → Int32} {a : Nat} : ∀ {ks : List (Option Nat)} {i k : Nat}, ks[k]? = some (some a) → (obV G f ks i)[k]? = some (.ref (G a))
  | [], _, _, h => by simp at h
  | none :: t, i, 0, h => by simp at h
  | some b :: t, i, 0, h => by
    have : b = a := by simpa using h
    simp [obV, this]
  | none :: t, i, k + 1, h => by
    have h' : t[k]? = some (some a) := by simpa using h
    simp only [obV, List.getElem?_cons_succ]
    exact obV_ref h'
  | some b :: t, i, k + 1, h => by
    have h' : t[k]? = some (some a) := by simpa using h
    simp only [obV, List.getElem?_cons_succ]
    exact obV_ref h'
theorem obV_len {G : Nat → Nat} {f : Nat → Int32} : ∀ {ks : List (Option Nat)} {i : Nat}, (obV G f ks i).length = ks.length
  | [], _ => rfl
  | none :: t, i => by simp [obV, obV_len (ks := t)]
  | some a :: t, i => by simp [obV, obV_len (ks := t)]
theorem obV_off {G : Nat → Nat} {f g : Nat → Int32} : ∀ {ks : List (Option Nat)} {i : Nat}, (∀ k, i ≤ k → f k = g k) → obV G f ks i = obV G g ks i
  | [], _, _ => rfl
  | none :: t, i, h => by
    simp only [obV]
    rw [h i (Nat.le_refl _), obV_off (ks := t) (fun k hk => h k (by omega))]
  | some a :: t, i, h => by
    simp only [obV]
    rw [obV_off (ks := t) (fun k hk => h k (by omega))]
theorem obV_set {G : Nat → Nat} {f : Nat → Int32} {v : Int32} : ∀ {ks : List (Option Nat)} {i k : Nat}, ks[k]? = some none → (obV G f ks i).set k (.int v) = obV G (upd f (i + k) v) ks i
  | [], _, _, h => by simp at h
  | none :: t, i, 0, _ => by
    simp only [obV, List.set_cons_zero, Nat.add_zero]
    rw [obV_off (f := f) (g := upd f i v) (ks := t) (i := i + 1) (fun k hk => by simp [upd]; intro e; omega)]
    simp [upd]
  | some a :: t, i, 0, h => by simp at h
  | none :: t, i, k + 1, h => by
    have h' : t[k]? = some none := by simpa using h
    have := obV_set (G := G) (f := f) (v := v) (i := i + 1) h'
    simp only [obV, List.set_cons_succ]
    rw [this]
    have e : i + 1 + k = i + (k + 1) := by omega
    rw [e]
    have e2 : upd f (i + (k + 1)) v i = f i := by
      unfold upd
      rw [if_neg (by omega)]
    rw [e2]
  | some a :: t, i, k + 1, h => by
    have h' : t[k]? = some none := by simpa using h
    have := obV_set (G := G) (f := f) (v := v) (i := i + 1) h'
    simp only [obV, List.set_cons_succ]
    rw [this]
    have e : i + 1 + k = i + (k + 1) := by omega
    rw [e]
/-- an array of ints (j = 0), booleans (1), bytes (2) -/
def ArS (E : Nat → ClassId) (j len : Nat) : (Nat → Int32) → va_E := fun f => .inl (E j, len, .inl f)
/-- an array of cells -/
def ReS (E : Nat → ClassId) (G : Nat → Nat) (j len : Nat) (g : Nat → Nat) : (Nat → Int32) → va_E := fun _ => .inl (E j, len, .inr (.inr (.inr (.inr (fun i => if i < len then some (G (g i)) else none)))))
section RU
variable {p : Program} {l : Launch} {e : Env} {R : Room} {s : State} {m : MethodId} {args : Array Value} {below : List Frame} {meth : Method} {c : Code} {Q : State → Prop} {D : va_G} {E : Nat → ClassId} {A : Nat → Prop} {cc : ByteArray} {nL : Nat} {own : String} {ret : Option FieldType} {Ts : List Cond} {N : Nat} {G : Nat → Nat} {cells slots : Nat} {pc : Nat} {loc : List (Nat × Value)} {st : List Value} {shp : Nat → (Nat → Int32) → va_E} {σ : Nat → Nat → Int32}
theorem u_geti {n ci NF k index : Nat} {ks : List (Option Nat)} {C ref : String} {T : u_T} (hn : n < N) (hs : shp n = ObS G ci ks) (hk0 : ks[k]? = some none) (hc : vwCl[ci]? = some (C, T, NF)) (hin : ∀ w ∈ u_ws C T NF, w ∈ Ts) (hk : k < NF) (hlink : Cond.fieldLink own index ref (T k).2.1 (T k).2.2.1 ∈ Ts) (href : (T k).1 = ref) (hdg : decode cc pc = .ok (.getfield index, 3)) (kk : V p l e R s m args below meth c Q D E A cc nL own ret Ts N G cells slots (φ shp σ) (pc + 3) loc (.int (σ n k) :: st)) : V p l e R s m args below meth c Q D E A cc nL own ret Ts N G cells slots (φ shp σ) pc loc (.ref (G n) :: st) :=
  v_get (fs := obV G (σ n) ks 0) hn (by show shp n (σ n) = _; rw [hs]; rfl) hc hin hk hlink href (by rw [obV_int hk0, Nat.zero_add]) hdg kk
theorem u_getr {n ci NF k index a : Nat} {ks : List (Option Nat)} {C ref : String} {T : u_T} (hn : n < N) (hs : shp n = ObS G ci ks) (hk0 : ks[k]? = some (some a)) (hc : vwCl[ci]? = some (C, T, NF)) (hin : ∀ w ∈ u_ws C T NF, w ∈ Ts) (hk : k < NF) (hlink : Cond.fieldLink own index ref (T k).2.1 (T k).2.2.1 ∈ Ts) (href : (T k).1 = ref) (hdg : decode cc pc = .ok (.getfield index, 3)) (kk : V p l e R s m args below meth c Q D E A cc nL own ret Ts N G cells slots (φ shp σ) (pc + 3) loc (.ref (G a) :: st)) : V p l e R s m args below meth c Q D E A cc nL own ret Ts N G cells slots (φ shp σ) pc loc (.ref (G n) :: st) :=
  v_get (fs := obV G (σ n) ks 0) hn (by show shp n (σ n) = _; rw [hs]; rfl) hc hin hk hlink href (obV_ref hk0) hdg kk
theorem u_puti {n ci NF k index : Nat} {ks : List (Option Nat)} {C ref : String} {T : u_T} {x : Int32} {ty : FieldType} (hn : n < N) (hs : shp n = ObS G ci ks) (hk0 : ks[k]? = some none) (hc : vwCl[ci]? = some (C, T, NF)) (hin : ∀ w ∈ u_ws C T NF, w ∈ Ts) (ty0 : Nat → FieldType) (hty : ∀ k, k < NF → parseFieldDescriptor (T k).2.2.1 = some (ty0 k)) (hnm : ∀ a, a < NF → ∀ b, b < NF → a ≠ b → (T a).2.1 ≠ (T b).2.1) (hk : k < NF) (hlink : Cond.fieldLink own index ref (T k).2.1 (T k).2.2.1 ∈ Ts) (href : (T k).1 = ref) (hfin : (T k).2.2.2 = false) (hd : parseFieldDescriptor (T k).2.2.1 = some ty) (hnr : narrow ty (.int x) = .int x) (hfit : fits ty (.int x) = true) (hdg : decode cc pc = .ok (.putfield index, 3)) (kk : V p l e R s m args below meth c Q D E A cc nL own ret Ts N G cells slots (φ shp (st2 σ n k x)) (pc + 3) loc st) : V p l e R s m args below meth c Q D E A cc nL own ret Ts N G cells slots (φ shp σ) pc loc (.int x :: .ref (G n) :: st) := by
  refine v_put (fs := obV G (σ n) ks 0) hn (by show shp n (σ n) = _; rw [hs]; rfl) hc hin ty0 hty hnm hk hlink href hfin hd hnr hfit (by rw [obV_len]; exact (List.getElem?_eq_some_iff.mp hk0).1) hdg ?_
  have e : (Sum.inr (ci, (obV G (σ n) ks 0).set k (.int x)) : va_E) = shp n (upd (σ n) k x) := by rw [hs, obV_set hk0, Nat.zero_add]; rfl
  rw [e, φ_up]
  exact kk
theorem u_iald {n len : Nat} (i : Nat) {x : Int32} (hn : n < N) (hs : shp n = ArS E 0 len) (hx : x = nI i) (hi : i < len) (hb : len < 2 ^ 31) (hdg : decode cc pc = .ok (.iaload, 1)) (kk : V p l e R s m args below meth c Q D E A cc nL own ret Ts N G cells slots (φ shp σ) (pc + 1) loc (.int (σ n i) :: st)) : V p l e R s m args below meth c Q D E A cc nL own ret Ts N G cells slots (φ shp σ) pc loc (.int x :: .ref (G n) :: st) := by
  subst hx
  refine v_iald (f := σ n) hn (by show shp n (σ n) = _; rw [hs]; rfl) (vp_in_nI hi hb) hdg ?_
  rw [nI_clamp (Nat.lt_trans hi hb)]
  exact kk
theorem u_zald {n len : Nat} (i : Nat) {x : Int32} (hn : n < N) (hs : shp n = ArS E 1 len) (hx : x = nI i) (hi : i < len) (hb : len < 2 ^ 31) (hdg : decode cc pc = .ok (.baload, 1)) (kk : V p l e R s m args below meth c Q D E A cc nL own ret Ts N G cells slots (φ shp σ) (pc + 1) loc (.int (σ n i) :: st)) : V p l e R s m args below meth c Q D E A cc nL own ret Ts N G cells slots (φ shp σ) pc loc (.int x :: .ref (G n) :: st) := by
  subst hx
  refine v_zald (f := σ n) hn (by show shp n (σ n) = _; rw [hs]; rfl) (vp_in_nI hi hb) hdg ?_
  rw [nI_clamp (Nat.lt_trans hi hb)]
  exact kk
theorem u_iast {n len : Nat} (i : Nat) {x v : Int32} (hn : n < N) (hs : shp n = ArS E 0 len) (hx : x = nI i) (hi : i < len) (hb : len < 2 ^ 31) (hdg : decode cc pc = .ok (.iastore, 1)) (kk : V p l e R s m args below meth c Q D E A cc nL own ret Ts N G cells slots (φ shp (st2 σ n i v)) (pc + 1) loc st) : V p l e R s m args below meth c Q D E A cc nL own ret Ts N G cells slots (φ shp σ) pc loc (.int v :: .int x :: .ref (G n) :: st) := by
  subst hx
  refine v_iast (f := σ n) hn (by show shp n (σ n) = _; rw [hs]; rfl) (vp_in_nI hi hb) hdg ?_
  rw [nI_clamp (Nat.lt_trans hi hb)]
  have e : (Sum.inl (E 0, len, .inl (upd (σ n) i v)) : va_E) = shp n (upd (σ n) i v) := by rw [hs]; rfl
  rw [e, φ_up]
  exact kk
theorem u_zast {n len : Nat} (i : Nat) {x v : Int32} (hn : n < N) (hs : shp n = ArS E 1 len) (hx : x = nI i) (hi : i < len) (hb : len < 2 ^ 31) (hv : vp_nar .boolean v = v) (hdg : decode cc pc = .ok (.bastore, 1)) (kk : V p l e R s m args below meth c Q D E A cc nL own ret Ts N G cells slots (φ shp (st2 σ n i v)) (pc + 1) loc st) : V p l e R s m args below meth c Q D E A cc nL own ret Ts N G cells slots (φ shp σ) pc loc (.int v :: .int x :: .ref (G n) :: st) := by
  subst hx
  refine v_zast (f := σ n) hn (by show shp n (σ n) = _; rw [hs]; rfl) (vp_in_nI hi hb) hdg ?_
  rw [nI_clamp (Nat.lt_trans hi hb), hv]
  have e : (Sum.inl (E 1, len, .inl (upd (σ n) i v)) : va_E) = shp n (upd (σ n) i v) := by rw [hs]; rfl
  rw [e, φ_up]
  exact kk
theorem u_aald (j : Nat) {n len : Nat} {C : String} {g : Nat → Nat} (i : Nat) {x : Int32} (hn : n < N) (hs : shp n = ReS E G j len g) (ht : (tysE E)[j]? = some (E j, .object C)) (hx : x = nI i) (hi : i < len) (hb : len < 2 ^ 31) (hdg : decode cc pc = .ok (.aaload, 1)) (kk : V p l e R s m args below meth c Q D E A cc nL own ret Ts N G cells slots (φ shp σ) (pc + 1) loc (.ref (G (g i)) :: st)) : V p l e R s m args below meth c Q D E A cc nL own ret Ts N G cells slots (φ shp σ) pc loc (.int x :: .ref (G n) :: st) := by
  subst hx
  exact v_aald j hn (by show shp n (σ n) = _; rw [hs]; rfl) ht (vp_in_nI hi hb) (by rw [nI_clamp (Nat.lt_trans hi hb), if_pos hi]) hdg kk
theorem u_alenI (j : Nat) {n len : Nat} {ty : FieldType} (hn : n < N) (hs : shp n = ArS E j len) (ht : (tysE E)[j]? = some (E j, ty)) (hdg : decode cc pc = .ok (.arraylength, 1)) (kk : V p l e R s m args below meth c Q D E A cc nL own ret Ts N G cells slots (φ shp σ) (pc + 1) loc (.int (nI len) :: st)) : V p l e R s m args below meth c Q D E A cc nL own ret Ts N G cells slots (φ shp σ) pc loc (.ref (G n) :: st) :=
  v_alen j (nI len) hn (by show shp n (σ n) = _; rw [hs]; rfl) ht rfl hdg kk
theorem u_alenR (j : Nat) {n len : Nat} {ty : FieldType} {g : Nat → Nat} (hn : n < N) (hs : shp n = ReS E G j len g) (ht : (tysE E)[j]? = some (E j, ty)) (hdg : decode cc pc = .ok (.arraylength, 1)) (kk : V p l e R s m args below meth c Q D E A cc nL own ret Ts N G cells slots (φ shp σ) (pc + 1) loc (.int (nI len) :: st)) : V p l e R s m args below meth c Q D E A cc nL own ret Ts N G cells slots (φ shp σ) pc loc (.ref (G n) :: st) :=
  v_alen j (nI len) hn (by show shp n (σ n) = _; rw [hs]; rfl) ht rfl hdg kk
end RU
