/-! CONTRACTS THAT READ WHAT THE MACHINE'S OWN THROWING READS (the static table by its nest link among it) -/
def ConX (l : Launch) (y : MethodName) (ws : List Cond) (rm : Room) (D : va_G) (E : Nat → ClassId) (N : Nat) (G : Nat → Nat) (Φ : Nat → va_E) (vargs : List Value) (post : Option Value → (Nat → va_E) → Prop) : Prop :=
  ∀ sz : Nat, Met l y ws rm (PcX D E N G Φ vargs sz) (QcV D N G post sz) 0 0 (AG N G sz)
theorem conX_of {l : Launch} {y : MethodName} {ws ws' : List Cond} {rm : Room} {D : va_G} {E : Nat → ClassId} {N : Nat} {G : Nat → Nat} {Φ : Nat → va_E} {vargs : List Value} {post : Option Value → (Nat → va_E) → Prop} {cc : ByteArray} {maxL : Nat} {ret : Option FieldType} (hy : plainName y.cls = true) (hw : ws = Cond.code y cc maxL ret :: ws') (hlen : (lg_sl vargs).length ≤ maxL)
    (body : ∀ (p : Program) (e : Env) (s : State) (m : MethodId) (args : Array Value) (below : List Frame) (meth : Method) (c : Code), StX (AG N G s.heap.size) s → V p l e rm s m args below meth c (QV below D N G post args s 0 0) D E (AG N G s.heap.size) cc maxL y.cls ret ws N G 0 0 Φ 0 (lv_args 0 vargs) []) : ConX l y ws rm D E N G Φ vargs post := by
  intro sz
  refine Met.ofW (cc := cc) (maxL := maxL) (ret := ret) hy hw ?_
  intro p e s m args below meth c s₁ B hml hv
  obtain ⟨⟨rfl, hsz, hP, hK, hD0, hZ⟩, hX⟩ := hv
  subst hsz
  have hts := atoms_spec (ws := ws) B.pre
  have hown : s.vm.findClass y.cls = some m.cls := findClass_of_methodNamed B.named
  have hl := lv_entry vargs (n := maxL) hlen
  rw [lg_entry_eq]
  exact body p e s m vargs.toArray below meth c hX ⟨⟨B.exec, B.bytes, hml, hown, hts⟩, hK, fun q h => Or.inr h, B.notSynchronized, B.returns, hZ⟩ s.heap [] _ hP (wl_D hD0 (fun n hn => Or.inl ⟨n, hn, rfl⟩)) va_S.rf hl
theorem conX_post {l : Launch} {y : MethodName} {ws : List Cond} {rm : Room} {D : va_G} {E : Nat → ClassId} {N : Nat} {G : Nat → Nat} {Φ : Nat → va_E} {vargs : List Value} {post post' : Option Value → (Nat → va_E) → Prop} (h : ConX l y ws rm D E N G Φ vargs post) (hp : ∀ v Φ', post v Φ' → post' v Φ') : ConX l y ws rm D E N G Φ vargs post' := by
  intro sz p e ha hc hk s m args below hf happ hP hK
  obtain ⟨k, o, h1, h2, h3, ⟨⟨⟨v, Φ', q1, q2, q3⟩, q4⟩, q5⟩⟩ := h sz p e ha hc hk s m args below hf happ hP hK
  exact ⟨k, o, h1, h2, h3, ⟨⟨v, Φ', q1, hp _ _ q2, q3⟩, q4⟩, q5⟩
def CXX (l : Launch) (y : MethodName) (ws : List Cond) (rm : Room) (D : va_G) (E : Nat → ClassId) (N : Nat) (G : Nat → Nat) (shp : Nat → (Nat → Int32) → va_E) (σ : Nat → Nat → Int32) (vargs : List Value) (post : Option Value → (Nat → Nat → Int32) → Prop) : Prop := ConX l y ws rm D E N G (φ shp σ) vargs (fun v' Φ' => ∃ σ', Φ' = φ shp σ' ∧ post v' σ')
theorem CXX.of {l : Launch} {y : MethodName} {ws ws' : List Cond} {rm : Room} {D : va_G} {E : Nat → ClassId} {N : Nat} {G : Nat → Nat} {shp : Nat → (Nat → Int32) → va_E} {σ : Nat → Nat → Int32} {vargs : List Value} {cc : ByteArray} {maxL : Nat} {ret : Option FieldType} {post : Option Value → (Nat → Nat → Int32) → Prop} (hy : plainName y.cls = true) (hw : ws = Cond.code y cc maxL ret :: ws') (hlen : (lg_sl vargs).length ≤ maxL)
    (body : ∀ (p : Program) (e : Env) (s : State) (m : MethodId) (args : Array Value) (below : List Frame) (meth : Method) (c : Code), StX (AG N G s.heap.size) s → V p l e rm s m args below meth c (QV below D N G (fun v' Φ' => ∃ σ', Φ' = φ shp σ' ∧ post v' σ') args s 0 0) D E (AG N G s.heap.size) cc maxL y.cls ret ws N G 0 0 (φ shp σ) 0 (lv_args 0 vargs) []) : CXX l y ws rm D E N G shp σ vargs post := conX_of hy hw hlen body
theorem CXX.to {l : Launch} {y : MethodName} {ws : List Cond} {rm : Room} {D : va_G} {E : Nat → ClassId} {N : Nat} {G : Nat → Nat} {shp : Nat → (Nat → Int32) → va_E} {σ : Nat → Nat → Int32} {vargs : List Value} {post post' : Option Value → (Nat → Nat → Int32) → Prop} (h : CXX l y ws rm D E N G shp σ vargs post) (hp : ∀ v τ, post v τ → post' v τ) : CXX l y ws rm D E N G shp σ vargs post' := conX_post h (fun v' Φ' ⟨τ, h1, h2⟩ => ⟨τ, h1, hp _ _ h2⟩)
section RCX
variable {p : Program} {l : Launch} {e : Env} {R : Room} {s : State} {m : MethodId} {args : Array Value} {below : List Frame} {meth : Method} {c : Code} {Q : State → Prop} {D : va_G} {E : Nat → ClassId} {A : Nat → Prop} {cc : ByteArray} {nL : Nat} {own : String} {ret : Option FieldType} {Ts : List Cond} {N : Nat} {G : Nat → Nat} {cells slots : Nat} {Φ : Nat → va_E} {pc : Nat} {loc : List (Nat × Value)} {st : List Value}
variable {post : Option Value → (Nat → va_E) → Prop} {rest st0 : List Value} {a : Array Value}
theorem v_callVX (hX : StX A s) {y : MethodName} {C : String} {T : u_T} {NF ci : Nat} {bytes : ByteArray} {maxL : Nat} {retY : Option FieldType} {ws ws' : List Cond} {rm : Room} {index n : Nat} {fs As : List Value} (hM : ConX l y ws rm D E N G Φ (.ref (G n) :: As) post) (hn : n < N) (hΦ : Φ n = .inr (ci, fs)) (hc : vwCl[ci]? = some (C, T, NF)) (hG : GoodIn Ts (wsV own index C y ws)) (hw : ws = Cond.code y bytes maxL retY :: ws') (hrc : rm.cells = 0) (hrs : rm.slots = 0) (hd : y.cls = C ∧ y.cls ≠ "java/lang/invoke/MethodHandle" ∧ y.cls ≠ "java/lang/invoke/VarHandle" ∧ (parseMethodDescriptor y.desc).map (fun d => d.parameters.length) = some As.length) (hR : rm.frames + 1 ≤ R.frames ∧ 8 + (maxL + 11) + rm.locals ≤ R.locals) (hcs : cells ≤ R.cells ∧ slots ≤ R.slots) (hcat : (rest.map fun v => v.category).sum ≤ 8) (hst : st0 = As.reverse ++ .ref (G n) :: rest) (hdg : decode cc pc = .ok (.invokevirtual index, 3)) (kk : ∀ (v : Option Value) (Φ' : Nat → va_E), post v Φ' → V p l e R s m args below meth c Q D E A cc nL own ret Ts N G cells slots Φ' (pc + 3) loc (v.toList ++ rest)) : V p l e R s m args below meth c Q D E A cc nL own ret Ts N G cells slots Φ pc loc st0 :=
  v_callRun (fun o H locs ls hP hD hS hl => va_runV (As := As) (rest := rest) o.1 (hM H.size) (cwV As.length o.1.2.2.2.2 hG hw hrc hrs hd hR) ⟨x_blind, va_recv o.2.1 hP hc (show (wl N G Φ)[n]? = some (G n, .inr (ci, fs)) by rw [wl_at hn, hΦ]), fun U hU hW => ⟨v_pre o hP hD hS U hU hW, hX.warm (by rw [hU]; exact hS) hW (v_AG o.2.2.1 hD hS)⟩⟩ rfl rfl hl.1 hst (lv_room hcat) hdg hcs) kk
end RCX
section RUX
variable {p : Program} {l : Launch} {e : Env} {R : Room} {s : State} {m : MethodId} {args : Array Value} {below : List Frame} {meth : Method} {c : Code} {Q : State → Prop} {D : va_G} {E : Nat → ClassId} {A : Nat → Prop} {cc : ByteArray} {nL : Nat} {own : String} {ret : Option FieldType} {Ts : List Cond} {N : Nat} {G : Nat → Nat} {cells slots : Nat} {Φ : Nat → va_E} {pc : Nat} {loc : List (Nat × Value)} {st : List Value} {shp : Nat → (Nat → Int32) → va_E} {σ : Nat → Nat → Int32}
variable {post : Option Value → (Nat → Nat → Int32) → Prop} {st0 : List Value}
theorem u_callVXx (hX : StX A s) {y : MethodName} {C : String} {T : u_T} {NF ci : Nat} {bytes : ByteArray} {maxL : Nat} {retY : Option FieldType} {ws ws' : List Cond} {rm : Room} {index n : Nat} {ks : List (Option Nat)} (As : List Value) (rest : List Value) (na : Nat) (hM : CXX l y ws rm D E N G shp σ (.ref (G n) :: As) post) (hn : n < N) (hs : shp n = ObS G ci ks) (hc : vwCl[ci]? = some (C, T, NF)) (hG : GoodIn Ts (wsV own index C y ws)) (hw : ws = Cond.code y bytes maxL retY :: ws') (hrc : rm.cells = 0) (hrs : rm.slots = 0) (hd : y.cls = C ∧ y.cls ≠ "java/lang/invoke/MethodHandle" ∧ y.cls ≠ "java/lang/invoke/VarHandle" ∧ (parseMethodDescriptor y.desc).map (fun d => d.parameters.length) = some na) (hna : As.length = na) (hR : rm.frames + 1 ≤ R.frames ∧ 8 + (maxL + 11) + rm.locals ≤ R.locals) (hcs : cells ≤ R.cells ∧ slots ≤ R.slots) (hcat : (rest.map fun v => v.category).sum ≤ 8) (hst : st0 = As.reverse ++ .ref (G n) :: rest) (hdg : decode cc pc = .ok (.invokevirtual index, 3)) (kk : ∀ (v : Option Value) (τ : Nat → Nat → Int32), post v τ → V p l e R s m args below meth c Q D E A cc nL own ret Ts N G cells slots (φ shp τ) (pc + 3) loc (v.toList ++ rest)) : V p l e R s m args below meth c Q D E A cc nL own ret Ts N G cells slots (φ shp σ) pc loc st0 :=
  v_callVX hX (fs := obV G (σ n) ks 0) (rest := rest) (As := As) hM hn (by show shp n (σ n) = _; rw [hs]; rfl) hc hG hw hrc hrs (by rw [hna]; exact hd) hR hcs hcat hst hdg (fun v' Φ' h => by obtain ⟨τ, h1, h2⟩ := h; subst h1; exact kk v' τ h2)
end RUX
/-- a hall as at first -/
def begC (c : Nat → Int32) : Nat → Int32 := fun i => if i < 6 then nI 0 else if i < 10 then stFirst (i - 6) else c i
theorem cpy4 (τ : Nat → Nat → Int32) (n : Nat) (f : Nat → Int32) : va_up τ n (va_cpy f (τ n) 0 0 4) = st2 (st2 (st2 (st2 τ n 0 (f 0)) n 1 (f 1)) n 2 (f 2)) n 3 (f 3) := by
  funext j k
  by_cases e : j = n
  · subst e
    rw [va_up_self]
    simp only [st2_eq, true_and]
    unfold va_cpy
    by_cases h : k < 4
    · rw [if_pos ⟨Nat.zero_le _, by omega⟩]
      rcases (show k = 0 ∨ k = 1 ∨ k = 2 ∨ k = 3 by omega) with rfl | rfl | rfl | rfl <;> rfl
    · rw [if_neg (by omega), if_neg (by omega), if_neg (by omega), if_neg (by omega), if_neg (by omega)]
  · rw [va_up_ne _ _ e]
    simp only [st2_eq, e, false_and, if_false]
theorem begC_eq (c : Nat → Int32) : upd (upd (upd (upd (upd (upd (upd (upd (upd (upd c 1 (nI 0)) 2 (nI 0)) 0 (nI 0)) 3 (nI 0)) 4 (nI 0)) 5 (nI 0)) (6 + 0) (stFirst 0)) (6 + 1) (stFirst 1)) (6 + 2) (stFirst 2)) (6 + 3) (stFirst 3) = begC c := by
  funext i
  by_cases h : i < 10
  · rcases (show i = 0 ∨ i = 1 ∨ i = 2 ∨ i = 3 ∨ i = 4 ∨ i = 5 ∨ i = 6 ∨ i = 7 ∨ i = 8 ∨ i = 9 by omega) with rfl | rfl | rfl | rfl | rfl | rfl | rfl | rfl | rfl | rfl <;> rfl
  · simp only [upd_ap, begC]
    rw [if_neg (by omega), if_neg (by omega), if_neg (by omega), if_neg (by omega), if_neg (by omega), if_neg (by omega), if_neg (by omega), if_neg (by omega), if_neg (by omega), if_neg (by omega), if_neg (by omega), if_neg (by omega)]
set_option maxRecDepth 100000 in
theorem inX1_beginAnew_X1 : ∀ w ∈ wsX10, w ∈ wsX1_beginAnew := by decide +kernel
set_option maxHeartbeats 4000000 in
set_option maxRecDepth 100000 in
/-- Hall.beginAnew -/
theorem c_X1_beginAnew (lu : Launch) (Dg : va_G) (E : Nat → ClassId) (N : Nat) (G : Nat → Nat) (shp : Nat → (Nat → Int32) → va_E) (σ : Nat → Nat → Int32) {b : Nat} (hH : HallS E G shp N b) (c : Nat → Int32)   : CXX lu yX1_beginAnew wsX1_beginAnew { frames := 1, cells := 0, slots := 0, locals := 40 } Dg E N G shp (hs σ b c) [.ref (G b)] (fun v' τ => v' = none ∧ τ = hs σ b (begC c)) := by
  refine CXX.of (cc := cX1_beginAnew) (maxL := 1) (ret := none) (by decide) rfl (Nat.le_of_ble_eq_true rfl) ?_
  intro p_ e_ s_ m_ args_ below_ meth_ c_ hX9
  refine v_eq (pc' := 0) (st' := []) rfl rfl ?_
  refine v_loc [0] [(0, .ref (G b))] rfl ?_
  refine v_aload_n 0 dX1_beginAnew_0 rfl rfl ?_
  refine v_iconst (nI 0) dX1_beginAnew_1 (by decide +kernel) ?_
  refine h_puti (k := 0) hH rfl (hst_h0 _) inX1_beginAnew_X1 (by decide) (by decide +kernel) rfl rfl (by decide +kernel) dX1_beginAnew_2 ?_
  generalize hg1 : upd c 1 (nI 0) = g1
  refine v_aload_n 0 dX1_beginAnew_5 rfl rfl ?_
  refine v_iconst (nI 0) dX1_beginAnew_6 (by decide +kernel) ?_
  refine h_puti (k := 1) hH rfl (hst_h1 _) inX1_beginAnew_X1 (by decide) (by decide +kernel) rfl rfl (by decide +kernel) dX1_beginAnew_7 ?_
  generalize hg2 : upd g1 2 (nI 0) = g2
  refine v_aload_n 0 dX1_beginAnew_10 rfl rfl ?_
  refine v_iconst (nI 0) dX1_beginAnew_11 (by decide +kernel) ?_
  refine h_puti (k := 2) hH rfl (hst_h2 _) inX1_beginAnew_X1 (by decide) (by decide +kernel) rfl rfl (by decide +kernel) dX1_beginAnew_12 ?_
  generalize hg3 : upd g2 0 (nI 0) = g3
  refine v_aload_n 0 dX1_beginAnew_15 rfl rfl ?_
  refine v_iconst (nI 0) dX1_beginAnew_16 (by decide +kernel) ?_
  refine h_puti (k := 3) hH rfl (hst_h3 _) inX1_beginAnew_X1 (by decide) (by decide +kernel) rfl rfl (by decide +kernel) dX1_beginAnew_17 ?_
  generalize hg4 : upd g3 3 (nI 0) = g4
  refine v_aload_n 0 dX1_beginAnew_20 rfl rfl ?_
  refine v_iconst (nI 0) dX1_beginAnew_21 (by decide +kernel) ?_
  refine h_puti (k := 4) hH rfl (hst_h4 _) inX1_beginAnew_X1 (by decide) (by decide +kernel) rfl rfl (by decide +kernel) dX1_beginAnew_22 ?_
  generalize hg5 : upd g4 4 (nI 0) = g5
  refine v_aload_n 0 dX1_beginAnew_25 rfl rfl ?_
  refine v_iconst (nI 0) dX1_beginAnew_26 (by decide +kernel) ?_
  refine h_puti (k := 5) hH rfl (hst_h5 _) inX1_beginAnew_X1 (by decide) (by decide +kernel) rfl rfl (by decide +kernel) dX1_beginAnew_27 ?_
  generalize hg6 : upd g5 5 (nI 0) = g6
  refine v_gets1 (hX9 _ List.mem_cons_self) dX1_beginAnew_30 (fun t1 ht1 => ?_)
  refine v_iconst (nI 0) dX1_beginAnew_33 (by decide +kernel) ?_
  refine v_aload_n 0 dX1_beginAnew_34 rfl rfl ?_
  refine u_getr (k := 6) (C := RX1) (T := TX1) (NF := 11) hH.n hH.s rfl rfl inX1_beginAnew_X1 (by decide) (by decide +kernel) rfl dX1_beginAnew_35 ?_
  refine v_iconst (nI 0) dX1_beginAnew_38 (by decide +kernel) ?_
  refine v_aload_n 0 dX1_beginAnew_39 rfl rfl ?_
  refine u_getr (k := 6) (C := RX1) (T := TX1) (NF := 11) hH.n hH.s rfl rfl inX1_beginAnew_X1 (by decide) (by decide +kernel) rfl dX1_beginAnew_40 ?_
  refine u_alenI 0 hH.n1 hH.s1 rfl dX1_beginAnew_43 ?_
  refine u_copyT (L1 := 4) ht1 hH.n1 hH.s1 (by omega) (by omega) (by omega) (by decide +kernel) (by decide +kernel) (by decide +kernel) (by decide +kernel) (Nat.le_of_ble_eq_true rfl) (Nat.le_of_ble_eq_true rfl) dX1_beginAnew_44 ?_
  refine v_σ (hs σ b (begC c)) (by subst hg1; subst hg2; subst hg3; subst hg4; subst hg5; subst hg6; rw [cpy4, hst_s (by omega), hst_s (by omega), hst_s (by omega), hst_s (by omega)]; exact congrArg (hs σ b) (begC_eq c)) ?_
  refine v_vret rfl dX1_beginAnew_47 ⟨hs σ b (begC c), rfl, ⟨rfl, rfl⟩⟩
