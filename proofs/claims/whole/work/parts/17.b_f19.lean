/-! CONTRACTS THAT READ WHAT THE MACHINE'S OWN THROWING READS (the static table by its nest link among it) -/
def ConX (l : Launch) (y : MethodName) (ws : List Cond) (rm : Room) (D : va_G) (E : Nat → ClassId) (N : Nat) (G : Nat → Nat) (Φ : Nat → va_E) (vargs : List Value) (post : Option Value → (Nat → va_E) → Prop) : Prop :=
  ∀ sz : Nat, Met l y ws rm (PcX D E N G Φ vargs sz) (QcV D N G post sz) 0 0 (AG N G sz)
theorem conX_of {l : Launch} {y : MethodName} {ws ws' : List Cond} {rm : Room} {D : va_G} {E : Nat → ClassId} {N : Nat} {G : Nat → Nat} {Φ : Nat → va_E} {vargs : List Value} {post : Option Value → (Nat → va_E) → Prop} {cc : ByteArray} {maxL : Nat} {ret : Option FieldType} (hy : plainName y.cls = true) (hw : ws = Cond.code y cc maxL ret :: ws') (hlen : (lg_sl vargs).length ≤ maxL)
    (body : ∀ (p : Program) (e : Env) (s : State) (m : MethodId) (args : Array Value) (below : List Frame) (meth : Method) (c : Code), StX (AG N G s.heap.size) s → V p l e rm s m args below meth c (QV below D N G post args s 0 0) D E (AG N G s.heap.size) cc maxL y.cls ret ws N G 0 0 Φ 0 (lv_args 0 vargs) []) : ConX l y ws rm D E N G Φ vargs post := by
  intro sz
  refine Met.ofW (cc := cc) (maxL := maxL) (ret := ret) hy hw ?_
  intro p e s m args below meth c s₁ B hml hv
  obtain ⟨⟨rfl, hsz, hP, hK, hD0, hZ⟩, hX⟩ := hv
  subst hsz
  have hts := atoms_spec (ws := ws) B.pre
  have hown : s.vm.findClass y.cls = some m.cls := findClass_of_methodNamed B.named
  have hl := lv_entry vargs (n := maxL) hlen
  rw [lg_entry_eq]
  exact body p e s m vargs.toArray below meth c hX ⟨⟨B.exec, B.bytes, hml, hown, hts⟩, hK, fun q h => Or.inr h, B.notSynchronized, B.returns, hZ⟩ s.heap [] _ hP (wl_D hD0 (fun n hn => Or.inl ⟨n, hn, rfl⟩)) va_S.rf hl
theorem conX_post {l : Launch} {y : MethodName} {ws : List Cond} {rm : Room} {D : va_G} {E : Nat → ClassId} {N : Nat} {G : Nat → Nat} {Φ : Nat → va_E} {vargs : List Value} {post post' : Option Value → (Nat → va_E) → Prop} (h : ConX l y ws rm D E N G Φ vargs post) (hp : ∀ v Φ', post v Φ' → post' v Φ') : ConX l y ws rm D E N G Φ vargs post' := by
  intro sz p e ha hc hk s m args below hf happ hP hK
  obtain ⟨k, o, h1, h2, h3, ⟨⟨⟨v, Φ', q1, q2, q3⟩, q4⟩, q5⟩⟩ := h sz p e ha hc hk s m args below hf happ hP hK
  exact ⟨k, o, h1, h2, h3, ⟨⟨v, Φ', q1, hp _ _ q2, q3⟩, q4⟩, q5⟩
def CXX (l : Launch) (y : MethodName) (ws : List Cond) (rm : Room) (D : va_G) (E : Nat → ClassId) (N : Nat) (G : Nat → Nat) (shp : Nat → (Nat → Int32) → va_E) (σ : Nat → Nat → Int32) (vargs : List Value) (post : Option Value → (Nat → Nat → Int32) → Prop) : Prop := ConX l y ws rm D E N G (φ shp σ) vargs (fun v' Φ' => ∃ σ', Φ' = φ shp σ' ∧ post v' σ')
theorem CXX.of {l : Launch} {y : MethodName} {ws ws' : List Cond} {rm : Room} {D : va_G} {E : Nat → ClassId} {N : Nat} {G : Nat → Nat} {shp : Nat → (Nat → Int32) → va_E} {σ : Nat → Nat → Int32} {vargs : List Value} {cc : ByteArray} {maxL : Nat} {ret : Option FieldType} {post : Option Value → (Nat → Nat → Int32) → Prop} (hy : plainName y.cls = true) (hw : ws = Cond.code y cc maxL ret :: ws') (hlen : (lg_sl vargs).length ≤ maxL)
    (body : ∀ (p : Program) (e : Env) (s : State) (m : MethodId) (args : Array Value) (below : List Frame) (meth : Method) (c : Code), StX (AG N G s.heap.size) s → V p l e rm s m args below meth c (QV below D N G (fun v' Φ' => ∃ σ', Φ' = φ shp σ' ∧ post v' σ') args s 0 0) D E (AG N G s.heap.size) cc maxL y.cls ret ws N G 0 0 (φ shp σ) 0 (lv_args 0 vargs) []) : CXX l y ws rm D E N G shp σ vargs post := conX_of hy hw hlen body
theorem CXX.to {l : Launch} {y : MethodName} {ws : List Cond} {rm : Room} {D : va_G} {E : Nat → ClassId} {N : Nat} {G : Nat → Nat} {shp : Nat → (Nat → Int32) → va_E} {σ : Nat → Nat → Int32} {vargs : List Value} {post post' : Option Value → (Nat → Nat → Int32) → Prop} (h : CXX l y ws rm D E N G shp σ vargs post) (hp : ∀ v τ, post v τ → post' v τ) : CXX l y ws rm D E N G shp σ vargs post' := conX_post h (fun v' Φ' ⟨τ, h1, h2⟩ => ⟨τ, h1, hp _ _ h2⟩)
section RCX
variable {p : Program} {l : Launch} {e : Env} {R : Room} {s : State} {m : MethodId} {args : Array Value} {below : List Frame} {meth : Method} {c : Code} {Q : State → Prop} {D : va_G} {E : Nat → ClassId} {A : Nat → Prop} {cc : ByteArray} {nL : Nat} {own : String} {ret : Option FieldType} {Ts : List Cond} {N : Nat} {G : Nat → Nat} {cells slots : Nat} {Φ : Nat → va_E} {pc : Nat} {loc : List (Nat × Value)} {st : List Value}
variable {post : Option Value → (Nat → va_E) → Prop} {rest st0 : List Value} {a : Array Value}
theorem v_callVX (hX : StX A s) {y : MethodName} {C : String} {T : u_T} {NF ci : Nat} {bytes : ByteArray} {maxL : Nat} {retY : Option FieldType} {ws ws' : List Cond} {rm : Room} {index n : Nat} {fs As : List Value} (hM : ConX l y ws rm D E N G Φ (.ref (G n) :: As) post) (hn : n < N) (hΦ : Φ n = .inr (ci, fs)) (hc : vwCl[ci]? = some (C, T, NF)) (hG : GoodIn Ts (wsV own index C y ws)) (hw : ws = Cond.code y bytes maxL retY :: ws') (hrc : rm.cells = 0) (hrs : rm.slots = 0) (hd : y.cls = C ∧ y.cls ≠ "java/lang/invoke/MethodHandle" ∧ y.cls ≠ "java/lang/invoke/VarHandle" ∧ (parseMethodDescriptor y.desc).map (fun d => d.parameters.length) = some As.length) (hR : rm.frames + 1 ≤ R.frames ∧ 8 + (maxL + 11) + rm.locals ≤ R.locals) (hcs : cells ≤ R.cells ∧ slots ≤ R.slots) (hcat : (rest.map fun v => v.category).sum ≤ 8) (hst : st0 = As.reverse ++ .ref (G n) :: rest) (hdg : decode cc pc = .ok (.invokevirtual index, 3)) (kk : ∀ (v : Option Value) (Φ' : Nat → va_E), post v Φ' → V p l e R s m args below meth c Q D E A cc nL own ret Ts N G cells slots Φ' (pc + 3) loc (v.toList ++ rest)) : V p l e R s m args below meth c Q D E A cc nL own ret Ts N G cells slots Φ pc loc st0 :=
  v_callRun (fun o H locs ls hP hD hS hl => va_runV (As := As) (rest := rest) o.1 (hM H.size) (cwV As.length o.1.2.2.2.2 hG hw hrc hrs hd hR) ⟨x_blind, va_recv o.2.1 hP hc (show (wl N G Φ)[n]? = some (G n, .inr (ci, fs)) by rw [wl_at hn, hΦ]), fun U hU hW => ⟨v_pre o hP hD hS U hU hW, hX.warm (by rw [hU]; exact hS) hW (v_AG o.2.2.1 hD hS)⟩⟩ rfl rfl hl.1 hst (lv_room hcat) hdg hcs) kk
end RCX
section RUX
variable {p : Program} {l : Launch} {e : Env} {R : Room} {s : State} {m : MethodId} {args : Array Value} {below : List Frame} {meth : Method} {c : Code} {Q : State → Prop} {D : va_G} {E : Nat → ClassId} {A : Nat → Prop} {cc : ByteArray} {nL : Nat} {own : String} {ret : Option FieldType} {Ts : List Cond} {N : Nat} {G : Nat → Nat} {cells slots : Nat} {Φ : Nat → va_E} {pc : Nat} {loc : List (Nat × Value)} {st : List Value} {shp : Nat → (Nat → Int32) → va_E} {σ : Nat → Nat → Int32}
variable {post : Option Value → (Nat → Nat → Int32) → Prop} {st0 : List Value}
theorem u_callVXx (hX : StX A s) {y : MethodName} {C : String} {T : u_T} {NF ci : Nat} {bytes : ByteArray} {maxL : Nat} {retY : Option FieldType} {ws ws' : List Cond} {rm : Room} {index n : Nat} {ks : List (Option Nat)} (As : List Value) (rest : List Value) (na : Nat) (hM : CXX l y ws rm D E N G shp σ (.ref (G n) :: As) post) (hn : n < N) (hs : shp n = ObS G ci ks) (hc : vwCl[ci]? = some (C, T, NF)) (hG : GoodIn Ts (wsV own index C y ws)) (hw : ws = Cond.code y bytes maxL retY :: ws') (hrc : rm.cells = 0) (hrs : rm.slots = 0) (hd : y.cls = C ∧ y.cls ≠ "java/lang/invoke/MethodHandle" ∧ y.cls ≠ "java/lang/invoke/VarHandle" ∧ (parseMethodDescriptor y.desc).map (fun d => d.parameters.length) = some na) (hna : As.length = na) (hR : rm.frames + 1 ≤ R.frames ∧ 8 + (maxL + 11) + rm.locals ≤ R.locals) (hcs : cells ≤ R.cells ∧ slots ≤ R.slots) (hcat : (rest.map fun v => v.category).sum ≤ 8) (hst : st0 = As.reverse ++ .ref (G n) :: rest) (hdg : decode cc pc = .ok (.invokevirtual index, 3)) (kk : ∀ (v : Option Value) (τ : Nat → Nat → Int32), post v τ → V p l e R s m args below meth c Q D E A cc nL own ret Ts N G cells slots (φ shp τ) (pc + 3) loc (v.toList ++ rest)) : V p l e R s m args below meth c Q D E A cc nL own ret Ts N G cells slots (φ shp σ) pc loc st0 :=
  v_callVX hX (fs := obV G (σ n) ks 0) (rest := rest) (As := As) hM hn (by show shp n (σ n) = _; rw [hs]; rfl) hc hG hw hrc hrs (by rw [hna]; exact hd) hR hcs hcat hst hdg (fun v' Φ' h => by obtain ⟨τ, h1, h2⟩ := h; subst h1; exact kk v' τ h2)
end RUX
/-- a hall as at first -/
def begC (c : Nat → Int32) : Nat → Int32 := fun i => if i < 6 then nI 0 else if i < 10 then stFirst (i - 6) else c i
theorem begC_rel (c : Nat → Int32) : Rel (begC c) beginF := by
  have e1 : tn (beginF 1) = 0 := by decide +kernel
  have e2 : tn (beginF 2) = 0 := by decide +kernel
  refine ⟨fun i hi => ?_, fun y hy => by rw [e1] at hy; omega, fun y k hy => by rw [e1] at hy; omega, fun p hp => by rw [e2] at hp; omega⟩
  rcases (show i = 0 ∨ i = 1 ∨ i = 2 ∨ i = 3 ∨ i = 4 ∨ i = 5 ∨ i = 6 ∨ i = 7 ∨ i = 8 ∨ i = 9 by omega) with rfl | rfl | rfl | rfl | rfl | rfl | rfl | rfl | rfl | rfl
  · show nI 0 = beginF 0; decide +kernel
  · show nI 0 = beginF 1; decide +kernel
  · show nI 0 = beginF 2; decide +kernel
  · show nI 0 = beginF 3; decide +kernel
  · show nI 0 = beginF 4; decide +kernel
  · show nI 0 = beginF 5; decide +kernel
  · show stFirst 0 = beginF 6; decide +kernel
  · show stFirst 1 = beginF 7; decide +kernel
  · show stFirst 2 = beginF 8; decide +kernel
  · show stFirst 3 = beginF 9; decide +kernel
theorem cpy4 (τ : Nat → Nat → Int32) (n : Nat) (f : Nat → Int32) : va_up τ n (va_cpy f (τ n) 0 0 4) = st2 (st2 (st2 (st2 τ n 0 (f 0)) n 1 (f 1)) n 2 (f 2)) n 3 (f 3) := by
  funext j k
  by_cases e : j = n
  · subst e
    rw [va_up_self]
    simp only [st2_eq, true_and]
    unfold va_cpy
    by_cases h : k < 4
    · rw [if_pos ⟨Nat.zero_le _, by omega⟩]
      rcases (show k = 0 ∨ k = 1 ∨ k = 2 ∨ k = 3 by omega) with rfl | rfl | rfl | rfl <;> rfl
    · rw [if_neg (by omega), if_neg (by omega), if_neg (by omega), if_neg (by omega), if_neg (by omega)]
  · rw [va_up_ne _ _ e]
    simp only [st2_eq, e, false_and, if_false]
theorem begC_eq (c : Nat → Int32) : upd (upd (upd (upd (upd (upd (upd (upd (upd (upd c 1 (nI 0)) 2 (nI 0)) 0 (nI 0)) 3 (nI 0)) 4 (nI 0)) 5 (nI 0)) (6 + 0) (stFirst 0)) (6 + 1) (stFirst 1)) (6 + 2) (stFirst 2)) (6 + 3) (stFirst 3) = begC c := by
  funext i
  by_cases h : i < 10
  · rcases (show i = 0 ∨ i = 1 ∨ i = 2 ∨ i = 3 ∨ i = 4 ∨ i = 5 ∨ i = 6 ∨ i = 7 ∨ i = 8 ∨ i = 9 by omega) with rfl | rfl | rfl | rfl | rfl | rfl | rfl | rfl | rfl | rfl <;> rfl
  · simp only [upd_ap, begC]
    rw [if_neg (by omega), if_neg (by omega), if_neg (by omega), if_neg (by omega), if_neg (by omega), if_neg (by omega), if_neg (by omega), if_neg (by omega), if_neg (by omega), if_neg (by omega), if_neg (by omega), if_neg (by omega)]
set_option maxRecDepth 100000 in
theorem inX1_beginAnew_X1 : ∀ w ∈ wsX10, w ∈ wsX1_beginAnew := by decide +kernel
set_option maxHeartbeats 4000000 in
set_option maxRecDepth 100000 in
/-- Hall.beginAnew -/
theorem c_X1_beginAnew (lu : Launch) (Dg : va_G) (E : Nat → ClassId) (N : Nat) (G : Nat → Nat) (shp : Nat → (Nat → Int32) → va_E) (σ : Nat → Nat → Int32) {b : Nat} (hH : HallS E G shp N b) (c : Nat → Int32)   : CXX lu yX1_beginAnew wsX1_beginAnew { frames := 1, cells := 0, slots := 0, locals := 40 } Dg E N G shp (hs σ b c) [.ref (G b)] (fun v' τ => v' = none ∧ τ = hs σ b (begC c)) := by
  refine CXX.of (cc := cX1_beginAnew) (maxL := 1) (ret := none) (by decide) rfl (Nat.le_of_ble_eq_true rfl) ?_
  intro p_ e_ s_ m_ args_ below_ meth_ c_ hX9
  refine v_eq (pc' := 0) (st' := []) rfl rfl ?_
  refine v_loc [0] [(0, .ref (G b))] rfl ?_
  refine v_aload_n 0 dX1_beginAnew_0 rfl rfl ?_
  refine v_iconst (nI 0) dX1_beginAnew_1 (by decide +kernel) ?_
  refine h_puti (k := 0) hH rfl (hst_h0 _) inX1_beginAnew_X1 (by decide) (by decide +kernel) rfl rfl (by decide +kernel) dX1_beginAnew_2 ?_
  generalize hg1 : upd c 1 (nI 0) = g1
  refine v_aload_n 0 dX1_beginAnew_5 rfl rfl ?_
  refine v_iconst (nI 0) dX1_beginAnew_6 (by decide +kernel) ?_
  refine h_puti (k := 1) hH rfl (hst_h1 _) inX1_beginAnew_X1 (by decide) (by decide +kernel) rfl rfl (by decide +kernel) dX1_beginAnew_7 ?_
  generalize hg2 : upd g1 2 (nI 0) = g2
  refine v_aload_n 0 dX1_beginAnew_10 rfl rfl ?_
  refine v_iconst (nI 0) dX1_beginAnew_11 (by decide +kernel) ?_
  refine h_puti (k := 2) hH rfl (hst_h2 _) inX1_beginAnew_X1 (by decide) (by decide +kernel) rfl rfl (by decide +kernel) dX1_beginAnew_12 ?_
  generalize hg3 : upd g2 0 (nI 0) = g3
  refine v_aload_n 0 dX1_beginAnew_15 rfl rfl ?_
  refine v_iconst (nI 0) dX1_beginAnew_16 (by decide +kernel) ?_
  refine h_puti (k := 3) hH rfl (hst_h3 _) inX1_beginAnew_X1 (by decide) (by decide +kernel) rfl rfl (by decide +kernel) dX1_beginAnew_17 ?_
  generalize hg4 : upd g3 3 (nI 0) = g4
  refine v_aload_n 0 dX1_beginAnew_20 rfl rfl ?_
  refine v_iconst (nI 0) dX1_beginAnew_21 (by decide +kernel) ?_
  refine h_puti (k := 4) hH rfl (hst_h4 _) inX1_beginAnew_X1 (by decide) (by decide +kernel) rfl rfl (by decide +kernel) dX1_beginAnew_22 ?_
  generalize hg5 : upd g4 4 (nI 0) = g5
  refine v_aload_n 0 dX1_beginAnew_25 rfl rfl ?_
  refine v_iconst (nI 0) dX1_beginAnew_26 (by decide +kernel) ?_
  refine h_puti (k := 5) hH rfl (hst_h5 _) inX1_beginAnew_X1 (by decide) (by decide +kernel) rfl rfl (by decide +kernel) dX1_beginAnew_27 ?_
  generalize hg6 : upd g5 5 (nI 0) = g6
  refine v_gets1 (hX9.2.1.1 _ List.mem_cons_self) dX1_beginAnew_30 (fun t1 ht1 => ?_)
  refine v_iconst (nI 0) dX1_beginAnew_33 (by decide +kernel) ?_
  refine v_aload_n 0 dX1_beginAnew_34 rfl rfl ?_
  refine u_getr (k := 6) (C := RX1) (T := TX1) (NF := 11) hH.n hH.s rfl rfl inX1_beginAnew_X1 (by decide) (by decide +kernel) rfl dX1_beginAnew_35 ?_
  refine v_iconst (nI 0) dX1_beginAnew_38 (by decide +kernel) ?_
  refine v_aload_n 0 dX1_beginAnew_39 rfl rfl ?_
  refine u_getr (k := 6) (C := RX1) (T := TX1) (NF := 11) hH.n hH.s rfl rfl inX1_beginAnew_X1 (by decide) (by decide +kernel) rfl dX1_beginAnew_40 ?_
  refine u_alenI 0 hH.n1 hH.s1 rfl dX1_beginAnew_43 ?_
  refine u_copyT (L1 := 4) ht1 hH.n1 hH.s1 (by omega) (by omega) (by omega) (by decide +kernel) (by decide +kernel) (by decide +kernel) (by decide +kernel) (Nat.le_of_ble_eq_true rfl) (Nat.le_of_ble_eq_true rfl) dX1_beginAnew_44 ?_
  refine v_σ (hs σ b (begC c)) (by subst hg1; subst hg2; subst hg3; subst hg4; subst hg5; subst hg6; rw [cpy4, hst_s (by omega), hst_s (by omega), hst_s (by omega), hst_s (by omega)]; exact congrArg (hs σ b) (begC_eq c)) ?_
  refine v_vret rfl dX1_beginAnew_47 ⟨hs σ b (begC c), rfl, ⟨rfl, rfl⟩⟩

theorem lnS_zl (t : Nat → Int32) : ∀ {j : Nat}, j ≤ 3 → Zl (lnS t j)
  | 0, _ => fun y _ _ => by
    have e : ∀ i, 10 ≤ i → beginF i = 0 := fun i hi => by
      unfold beginF; simp only [upd_ap]
      rw [if_neg (by omega), if_neg (by omega), if_neg (by omega), if_neg (by omega)]
    exact ⟨e _ (by omega), e _ (by omega), e _ (by omega)⟩
  | j + 1, h => by
    have ih := lnS_zl t (j := j) (by omega)
    have e1 : tn (lnS t j 1) = j := by rw [lnS_1]; exact nI_clamp (by omega)
    have z := ih.addLine (by rw [e1]; omega) (nI (nmN t (2 + 2 * j)))
    rw [e1] at z
    exact z
theorem lnS_rel {t c : Nat → Int32} {j : Nat} (r : Rel c (lnS t j)) (hj : j < 3) : Rel (upd (upd (upd (upd (upd c (10 + j) (nI (nmN t (2 + 2 * j)))) (16 + j) (nI 0)) (19 + j) (nI 0)) (13 + j) (nI 0)) 1 (nI (j + 1))) (lnS t (j + 1)) := by
  have e1 : tn (lnS t j 1) = j := by rw [lnS_1]; exact nI_clamp (by omega)
  have e2 : tn (c 1) = j := by rw [r.h (by omega), e1]
  have z := r.addLine (lnS_zl t (by omega)) (by rw [e1]; exact hj) (nI (nmN t (2 + 2 * j)))
  unfold addLS at z
  rw [e1, e2] at z
  exact z
/-- at the place x of a day: k commands are done, up to the next one there are digits alone -/
def LI (t : Nat → Int32) (lz q : Nat) (s0 : Nat → Int32) (x : Nat) (c : Nat → Int32) (lo : Nat) : Prop := ∃ k, k ≤ 100 ∧ k ≤ (comR t lz q k).1 ∧ x ≤ (comR t lz q k).1 ∧ (comR t lz q k).1 ≤ lz ∧ (∀ y, x ≤ y → y < (comR t lz q k).1 → ¬ nI 57 < t y) ∧ Rel c (mR t lz q s0 k).1 ∧ lo = (mR t lz q s0 k).2
theorem LI_0 {t : Nat → Int32} {lz q : Nat} {s0 c : Nat → Int32} (hq : q ≤ lz) (r : Rel c s0) : LI t lz q s0 q c 0 := ⟨0, Nat.zero_le _, Nat.zero_le _, Nat.le_refl _, hq, fun y h1 h2 => absurd h2 (Nat.not_lt.mpr h1), r, rfl⟩
theorem LI_end {t : Nat → Int32} {lz q x lo : Nat} {s0 c : Nat → Int32} (h : LI t lz q s0 x c lo) (hx : lz ≤ x) : Rel c (mR t lz q s0 100).1 ∧ lo = (mR t lz q s0 100).2 := by
  obtain ⟨k, a1, a2, a3, a4, a5, a6, a7⟩ := h
  rw [mR_stay (t := t) (lz := lz) (q := q) (s := s0) a1 (by omega)]
  exact ⟨a6, a7⟩
theorem gt57 {t : Nat → Int32} {lz p : Nat} (hB : cmdB t lz p) : nI 57 < t p := by
  have e9 := chrT_of (t := t) (cmdN_ok hB).2.2
  rcases cmdB_cases hB with q | q | q | q | q <;> (rw [← e9, q]; exact (nI_ltI (by omega) (by omega)).mpr (by omega))
theorem ng57 {t : Nat → Int32} {lz p a u : Nat} (h : tkB t lz (nI a) (nI u) p) (ha : a < 2 ^ 31) (hu : u ≤ 57) : ¬ nI 57 < t p := by
  have e := chrT_of (t := t) (tk_lt ha h)
  have h2 := h.2
  rw [e] at h2
  exact Int32.not_lt.mpr (Int32.le_trans h2 ((nI_leI (by omega) (by omega)).mpr hu))
theorem pers_dg {t : Nat → Int32} {lz p y : Nat} (h : persB t lz p) (h1 : p ≤ y) (h2 : y < p + 2) : ¬ nI 57 < t y := by
  rcases (show y = p ∨ y = p + 1 by omega) with rfl | rfl
  · exact ng57 h.1 (by omega) (by omega)
  · exact ng57 h.2 (by omega) (by omega)
theorem cmd_dg {t : Nat → Int32} {lz p y : Nat} (hB : cmdB t lz p) (h1 : p < y) (h2 : y < cmdN t lz p) : ¬ nI 57 < t y := by
  rcases cmdB_cases hB with q | q | q | q | q
  · rw [cmdB_c q] at hB
    rw [cmdN_c q, ic_t hB.1] at h2
    unfold tkN at h2
    rw [ic_t hB.2] at h2
    rcases (show y = p + 1 ∨ y = p + 1 + 1 by omega) with rfl | rfl
    · exact ng57 hB.1 (by omega) (by omega)
    · exact ng57 hB.2 (by omega) (by omega)
  · rw [cmdB_g q] at hB
    rw [cmdN_g q, (pers_of hB).2.2.1] at h2
    exact pers_dg hB (by omega) (by omega)
  · rw [cmdB_j q] at hB
    rw [cmdN_j q, (pers_of hB).2.2.1] at h2
    exact pers_dg hB (by omega) (by omega)
  · rw [cmdB_t q] at hB
    rw [cmdN_t q] at h2
    unfold tkN at h2
    rw [ic_t hB] at h2
    have e : y = p + 1 := by omega
    rw [e]
    exact ng57 hB (by omega) (by omega)
  · rw [cmdB_x q] at hB
    have e3 := (pers_of hB.1).2.2.1
    have hB2 := hB.2
    rw [cmdN_x q, ic_t hB.1, e3] at h2
    rw [e3] at hB2
    rw [(pers_of hB2).2.2.1] at h2
    by_cases z : y < p + 1 + 2
    · exact pers_dg hB.1 (by omega) z
    · exact pers_dg hB2 (by omega) (by omega)
theorem LI_at {t : Nat → Int32} {lz q x lo : Nat} {s0 c : Nat → Int32} (h : LI t lz q s0 x c lo) (hx : x < lz) (h100 : lz ≤ 100) (hK : (comR t lz q 100).2) : (¬ nI 57 < t x ∧ LI t lz q s0 (x + 1) c lo) ∨ (nI 57 < t x ∧ ∃ k, k < 100 ∧ k ≤ (comR t lz q k).1 ∧ x = (comR t lz q k).1 ∧ cmdB t lz x ∧ Rel c (mR t lz q s0 k).1 ∧ lo = (mR t lz q s0 k).2) := by
  obtain ⟨k, a1, a2, a3, a4, a5, a6, a7⟩ := h
  by_cases e : x = (comR t lz q k).1
  · have hk : k < 100 := by
      refine Classical.byContradiction (fun z => ?_)
      omega
    have h1 := comR_b (show k ≤ 100 by omega) hK
    have h2 := comR_b (show k + 1 ≤ 100 by omega) hK
    rw [comR_s h1 (by omega)] at h2
    have hB : cmdB t lz x := by rw [e]; exact h2
    exact Or.inr ⟨gt57 hB, k, hk, a2, e, hB, a6, a7⟩
  · exact Or.inl ⟨a5 x (Nat.le_refl _) (by omega), k, a1, a2, by omega, a4, fun y g1 g2 => a5 y (by omega) g2, a6, a7⟩
theorem LI_cmd {t : Nat → Int32} {lz q x lo k : Nat} {s0 c : Nat → Int32} (hK : (comR t lz q 100).2) (hx : x < lz) (hk : k < 100) (a2 : k ≤ (comR t lz q k).1) (e : x = (comR t lz q k).1) (hB : cmdB t lz x) (a7 : lo = (mR t lz q s0 k).2) (r : Rel c (docS t x (mR t lz q s0 k).1)) : LI t lz q s0 (x + 1) c (lo + ic (docP t x (mR t lz q s0 k).1) 0 1) := by
  have h1 := comR_b (show k ≤ 100 by omega) hK
  have es := comR_s h1 (show (comR t lz q k).1 < lz by omega)
  rw [← e] at es
  have em := mR_s (s := s0) (show (comR t lz q k).1 < lz by omega)
  rw [← e] at em
  obtain ⟨g1, g2, -⟩ := cmdN_ok hB
  refine ⟨k + 1, by omega, ?_, ?_, ?_, ?_, ?_, ?_⟩
  · rw [es]; show k + 1 ≤ cmdN t lz x; omega
  · rw [es]; show x + 1 ≤ cmdN t lz x; omega
  · rw [es]; exact g2
  · rw [es]; exact fun y z1 z2 => cmd_dg hB (by omega) z2
  · rw [em]; exact r
  · rw [em, a7]
set_option maxRecDepth 100000 in
theorem inX0_happenIn_X0 : ∀ w ∈ wsX00, w ∈ wsX0_happenIn := by decide +kernel
set_option maxHeartbeats 4000000 in
set_option maxRecDepth 100000 in
/-- Day.happenIn -/
theorem c_X0_happenIn (lu : Launch) (Dg : va_G) (E : Nat → ClassId) (N : Nat) (G : Nat → Nat) (shp : Nat → (Nat → Int32) → va_E) (σ : Nat → Nat → Int32) (hS : StoodS E G shp N) (c : Nat → Int32)  {lz : Nat} (hl : σ 779 1 = nI lz) (h100 : lz ≤ 100) (hok : (prs (σ 780) lz).2) (hI : Inv 0 (lnS (σ 780) (dgN (σ 780) 1))) (r : Rel c beginF)  : CX lu yX0_happenIn wsX0_happenIn { frames := 5, cells := 0, slots := 0, locals := 113 } Dg E N G shp (hs σ 1 c) [.ref (G 779), .ref (G 1)] (fun v τ => ∃ c', τ = hs σ 1 c' ∧ Rel c' (ldS (σ 780) lz).1 ∧ v = some (.int (nI (ldS (σ 780) lz).2))) := by
  refine CX.of (cc := cX0_happenIn) (maxL := 5) (ret := (some .int)) (by decide) rfl (Nat.le_of_ble_eq_true rfl) ?_
  intro p_ e_ s_ m_ args_ below_ meth_ c_
  refine v_eq (pc' := 0) (st' := []) rfl rfl ?_
  refine v_loc [0, 1] [(0, .ref (G 779)), (1, .ref (G 1))] rfl ?_
  obtain ⟨hw, hd, hp2, hK⟩ := prs_ok hok
  obtain ⟨d1, d2, d3⟩ := dg_lines hd
  unfold ldS
  obtain ⟨m, hm⟩ : ∃ m, dgN (σ 780) 1 = m := ⟨_, rfl⟩
  rw [hm] at hp2 d1 d2 d3 hK hI
  rw [hm]
  obtain ⟨hp9, hp8⟩ := pacR_ok hp2
  have hp7 := hp8 (by omega)
  have e9 : ∀ c9, hs σ 1 c9 (779 + 1) = σ 780 := fun c9 => hs_out (by omega)
  refine v_aload_n 0 dX0_happenIn_0 rfl rfl ?_
  refine v_iconst (nI 1) dX0_happenIn_1 (by decide +kernel) ?_
  refine u_callVv [.int (nI 1)] [] 1 (c_X0_digitAt lu Dg E N G shp (hs σ 1 c) hS.d (lz := lz) (by rw [hs_out (by omega)]; exact hl) h100 (p := 1) (by omega)) (ci := 0) (C := RX0) (T := TX0) (NF := 3) hS.d.n hS.d.2.1 rfl gX0_happenIn_X0_digitAt rfl rfl rfl (by decide +kernel) rfl ⟨Nat.le_of_ble_eq_true rfl, Nat.le_of_ble_eq_true rfl⟩ ⟨Nat.le_of_ble_eq_true rfl, Nat.le_of_ble_eq_true rfl⟩ (Nat.le_of_ble_eq_true rfl) rfl dX0_happenIn_2 ?_
  refine v_topi (nI m) (by rw [e9]; exact d1) ?_
  refine v_istore_n [(2, .int (nI m)), (0, .ref (G 779)), (1, .ref (G 1))] dX0_happenIn_5 rfl (by decide) rfl ?_
  refine v_iconst (nI 0) dX0_happenIn_6 (by decide +kernel) ?_
  refine v_istore_n [(3, .int (nI 0)), (2, .int (nI m)), (0, .ref (G 779)), (1, .ref (G 1))] dX0_happenIn_7 rfl (by decide) rfl ?_
  refine v_loc [0, 1, 3, 2] [(3, .int (nI 0)), (2, .int (nI m)), (1, .ref (G 1)), (0, .ref (G 779))] rfl ?_
  refine u_loop2 (fun n (j : Nat) (c1 : Nat → Int32) => j + n = m ∧ Rel c1 (lnS (σ 780) j)) (fun (j : Nat) (c1 : Nat → Int32) => hs σ 1 c1) (fun (j : Nat) (c1 : Nat → Int32) => [(3, .int (nI j)), (2, .int (nI m)), (1, .ref (G 1)), (0, .ref (G 779))]) (m) 0 c (⟨by omega, r⟩) ?_
  intro n j c1 hL ih
  obtain ⟨hL1, hL2⟩ := hL
  refine v_iload_n 0 dX0_happenIn_8 rfl rfl ?_
  refine v_iload_n 1 dX0_happenIn_9 rfl rfl ?_
  refine v_icmp_geN 33 (by omega) (by omega) dX0_happenIn_10 rfl (fun h10 => ?_) (fun h10 => ?_)
  · skip
    have hjm : j = m := by omega
    have r1 : Rel c1 (lnS (σ 780) m) := by rw [← hjm]; exact hL2
    refine v_iconst (nI 0) dX0_happenIn_33 (by decide +kernel) ?_
    refine v_istore_n [(3, .int (nI 0)), (2, .int (nI m)), (1, .ref (G 1)), (0, .ref (G 779))] dX0_happenIn_34 rfl (by decide) rfl ?_
    refine v_iconst (nI 2) dX0_happenIn_35 (by decide +kernel) ?_
    refine v_iconst (nI 2) dX0_happenIn_36 (by decide +kernel) ?_
    refine v_iload_n 1 dX0_happenIn_37 rfl rfl ?_
    refine v_imulN dX0_happenIn_38 ?_
    refine v_iaddN dX0_happenIn_39 ?_
    refine v_istore [(4, .int (nI (2 + (2 * m)))), (3, .int (nI 0)), (2, .int (nI m)), (1, .ref (G 1)), (0, .ref (G 779))] dX0_happenIn_40 (by decide) rfl ?_
    refine v_loc [0, 1, 3, 4] [(4, .int (nI (2 + (2 * m)))), (3, .int (nI 0)), (1, .ref (G 1)), (0, .ref (G 779))] rfl ?_
    refine u_loop3 (fun n (x : Nat) (c2 : Nat → Int32) (lo : Nat) => n + x = lz ∧ LI (σ 780) lz (2 + 2 * m) (lnS (σ 780) m) x c2 lo) (fun (x : Nat) (c2 : Nat → Int32) (lo : Nat) => hs σ 1 c2) (fun (x : Nat) (c2 : Nat → Int32) (lo : Nat) => [(4, .int (nI x)), (3, .int (nI lo)), (1, .ref (G 1)), (0, .ref (G 779))]) (lz - (2 + 2 * m)) ((2 + 2 * m)) c1 0 (⟨by omega, LI_0 (by omega) r1⟩) ?_
    intro n x c2 lo hN ih2
    obtain ⟨hN1, hN2⟩ := hN
    refine v_iload 0 dX0_happenIn_42 rfl ?_
    refine v_aload_n 3 dX0_happenIn_44 rfl rfl ?_
    refine u_geti (k := 1) (C := RX0) (T := TX0) (NF := 3) hS.d.n hS.d.2.1 rfl rfl inX0_happenIn_X0 (by decide) (by decide +kernel) rfl dX0_happenIn_45 ?_
    refine v_topi (nI lz) ((by rw [hs_out (by omega)]; exact hl)) ?_
    refine v_icmp_geN 80 (by omega) (by omega) dX0_happenIn_48 rfl (fun h48 => ?_) (fun h48 => ?_)
    · skip
      obtain ⟨z1, z2⟩ := LI_end hN2 (by omega)
      refine v_iload_n 1 dX0_happenIn_80 rfl rfl ?_
      refine v_iret rfl dX0_happenIn_81 ⟨hs σ 1 c2, rfl, ⟨c2, rfl, z1, congrArg (fun z9 => some (Value.int (nI z9))) z2⟩⟩
    · skip
      have hxl : x < lz := by omega
      refine v_aload_n 3 dX0_happenIn_51 rfl rfl ?_
      refine v_iload 0 dX0_happenIn_52 rfl ?_
      refine u_callVv [.int (nI x)] [] 1 (c_X0_isCommand lu Dg E N G shp (hs σ 1 c2) hS.d (lz := lz) (by rw [hs_out (by omega)]; exact hl) h100 (p := x) (by omega)) (ci := 0) (C := RX0) (T := TX0) (NF := 3) hS.d.n hS.d.2.1 rfl gX0_happenIn_X0_isCommand rfl rfl rfl (by decide +kernel) rfl ⟨Nat.le_of_ble_eq_true rfl, Nat.le_of_ble_eq_true rfl⟩ ⟨Nat.le_of_ble_eq_true rfl, Nat.le_of_ble_eq_true rfl⟩ (Nat.le_of_ble_eq_true rfl) rfl dX0_happenIn_54 ?_
      refine v_topi (bi (nI 57 < σ 780 x)) (by rw [e9, chrT_of hxl]) ?_
      refine v_if_eqB 74 dX0_happenIn_57 rfl (fun h57 => ?_) (fun h57 => ?_)
      · skip
        have hli : LI (σ 780) lz (2 + 2 * m) (lnS (σ 780) m) (x + 1) c2 lo := by
          rcases LI_at hN2 hxl h100 hK with z9 | z9
          · exact z9.2
          · exact absurd z9.1 h57
        refine v_iincN 0 [(4, .int (nI (x + 1))), (3, .int (nI lo)), (1, .ref (G 1)), (0, .ref (G 779))] dX0_happenIn_74 rfl (by decide) rfl ?_
        refine v_goto 42 dX0_happenIn_77 rfl ?_
        refine v_loc [0, 1, 2, 3] [(4, .int (nI (x + 1))), (3, .int (nI lo)), (1, .ref (G 1)), (0, .ref (G 779))] rfl ?_
        exact ih2 _ (x + 1) c2 lo (show n - 1 < n by omega) (⟨by omega, hli⟩)
      · skip
        obtain ⟨k, g1, g2, g3, g4, g5, g6⟩ : ∃ k, k < 100 ∧ k ≤ (comR (σ 780) lz (2 + 2 * m) k).1 ∧ x = (comR (σ 780) lz (2 + 2 * m) k).1 ∧ cmdB (σ 780) lz x ∧ Rel c2 (mR (σ 780) lz (2 + 2 * m) (lnS (σ 780) m) k).1 ∧ lo = (mR (σ 780) lz (2 + 2 * m) (lnS (σ 780) m) k).2 := by
          rcases LI_at hN2 hxl h100 hK with z9 | z9
          · exact absurd h57 z9.1
          · exact z9.2
        have iv := mR_inv (T := 0) hI hK (k := k) (by omega) (by omega)
        refine v_aload_n 3 dX0_happenIn_60 rfl rfl ?_
        refine v_aload_n 2 dX0_happenIn_61 rfl rfl ?_
        refine v_iload 0 dX0_happenIn_62 rfl ?_
        refine u_callVx [.ref (G 1), .int (nI x)] [] 2 (c_X0_doCommand_r lu Dg E N G shp σ hS c2 (lz := lz) hl h100 (p := x) (by omega) g4 g5 iv (by omega)) (ci := 0) (C := RX0) (T := TX0) (NF := 3) hS.d.n hS.d.2.1 rfl gX0_happenIn_X0_doCommand rfl rfl rfl (by decide +kernel) rfl ⟨Nat.le_of_ble_eq_true rfl, Nat.le_of_ble_eq_true rfl⟩ ⟨Nat.le_of_ble_eq_true rfl, Nat.le_of_ble_eq_true rfl⟩ (Nat.le_of_ble_eq_true rfl) rfl dX0_happenIn_64 (fun v9 τ9 hp9 => ?_)
        obtain ⟨c3, x3, rfl, rfl, r3, hx3⟩ := hp9
        refine v_st (st' := [.int x3]) rfl ?_
        have hl3 := LI_cmd hK hxl g1 g2 g3 g4 g6 r3
        refine v_iconst ((-1)) dX0_happenIn_67 (by decide +kernel) ?_
        refine v_icmp_ne 74 dX0_happenIn_68 rfl (fun h68 => ?_) (fun h68 => ?_)
        · skip
          have hli : LI (σ 780) lz (2 + 2 * m) (lnS (σ 780) m) (x + 1) c3 lo := by
            have hd9 := Classical.not_not.mp (fun z => h68 (hx3.mpr z))
            rw [ic_t hd9] at hl3
            exact hl3
          refine v_iincN 0 [(4, .int (nI (x + 1))), (3, .int (nI lo)), (1, .ref (G 1)), (0, .ref (G 779))] dX0_happenIn_74 rfl (by decide) rfl ?_
          refine v_goto 42 dX0_happenIn_77 rfl ?_
          refine v_loc [0, 1, 2, 3] [(4, .int (nI (x + 1))), (3, .int (nI lo)), (1, .ref (G 1)), (0, .ref (G 779))] rfl ?_
          exact ih2 _ (x + 1) c3 lo (show n - 1 < n by omega) (⟨by omega, hli⟩)
        · skip
          have hli : LI (σ 780) lz (2 + 2 * m) (lnS (σ 780) m) (x + 1) c3 (lo + 1) := by
            rw [ic_f (hx3.mp h68)] at hl3
            exact hl3
          refine v_iincN 1 [(3, .int (nI (lo + 1))), (4, .int (nI x)), (1, .ref (G 1)), (0, .ref (G 779))] dX0_happenIn_71 rfl (by decide) rfl ?_
          refine v_iincN 1 [(4, .int (nI (x + 1))), (3, .int (nI (lo + 1))), (1, .ref (G 1)), (0, .ref (G 779))] dX0_happenIn_74 rfl (by decide) rfl ?_
          refine v_goto 42 dX0_happenIn_77 rfl ?_
          refine v_loc [0, 1, 2, 3] [(4, .int (nI (x + 1))), (3, .int (nI (lo + 1))), (1, .ref (G 1)), (0, .ref (G 779))] rfl ?_
          exact ih2 _ (x + 1) c3 (lo + 1) (show n - 1 < n by omega) (⟨by omega, hli⟩)
  · skip
    have hj1 := pacR_b (show j + 1 ≤ m by omega) hp2
    have hj0 := pacR_b (show j ≤ m by omega) hp2
    obtain ⟨e0, -⟩ := pacR_ok hj0
    have hb : paceB (σ 780) lz (2 + 2 * j) := by rw [pacR_s hj0] at hj1; rw [← e0]; exact hj1
    obtain ⟨a1, a2, a3, a4, a5, a6⟩ := pace_of hb
    refine v_aload_n 2 dX0_happenIn_13 rfl rfl ?_
    refine v_aload_n 3 dX0_happenIn_14 rfl rfl ?_
    refine v_iconst (nI 2) dX0_happenIn_15 (by decide +kernel) ?_
    refine v_iconst (nI 2) dX0_happenIn_16 (by decide +kernel) ?_
    refine v_iload_n 0 dX0_happenIn_17 rfl rfl ?_
    refine v_imulN dX0_happenIn_18 ?_
    refine v_iaddN dX0_happenIn_19 ?_
    refine u_callVv [.int (nI (2 + (2 * j)))] [.ref (G 1)] 1 (c_X0_numberAt lu Dg E N G shp (hs σ 1 c1) hS.d (lz := lz) (by rw [hs_out (by omega)]; exact hl) h100 (p := 2 + (2 * j)) (by omega)) (ci := 0) (C := RX0) (T := TX0) (NF := 3) hS.d.n hS.d.2.1 rfl gX0_happenIn_X0_numberAt rfl rfl rfl (by decide +kernel) rfl ⟨Nat.le_of_ble_eq_true rfl, Nat.le_of_ble_eq_true rfl⟩ ⟨Nat.le_of_ble_eq_true rfl, Nat.le_of_ble_eq_true rfl⟩ (Nat.le_of_ble_eq_true rfl) rfl dX0_happenIn_20 ?_
    refine v_topi (nI (nmN (σ 780) (2 + 2 * j))) (by rw [e9]; exact a6) ?_
    refine u_callVv [.int (nI (nmN (σ 780) (2 + 2 * j)))] [] 1 (c_X1_addLine lu Dg E N G shp σ hS.h c1 (m := j) ((hL2.h (by omega)).trans (lnS_1 (σ 780) j)) (by omega) (nI (nmN (σ 780) (2 + 2 * j)))) (ci := 1) (C := RX1) (T := TX1) (NF := 11) hS.h.n hS.h.s rfl gX0_happenIn_X1_addLine rfl rfl rfl (by decide +kernel) rfl ⟨Nat.le_of_ble_eq_true rfl, Nat.le_of_ble_eq_true rfl⟩ ⟨Nat.le_of_ble_eq_true rfl, Nat.le_of_ble_eq_true rfl⟩ (Nat.le_of_ble_eq_true rfl) rfl dX0_happenIn_23 ?_
    refine v_pop dX0_happenIn_26 rfl ?_
    refine v_iincN 0 [(3, .int (nI (j + 1))), (2, .int (nI m)), (1, .ref (G 1)), (0, .ref (G 779))] dX0_happenIn_27 rfl (by decide) rfl ?_
    refine v_goto 8 dX0_happenIn_30 rfl ?_
    refine v_loc [0, 1, 2, 3] [(3, .int (nI (j + 1))), (2, .int (nI m)), (1, .ref (G 1)), (0, .ref (G 779))] rfl ?_
    exact ih _ (j + 1) (upd (upd (upd (upd (upd c1 (10 + j) (nI (nmN (σ 780) (2 + 2 * j)))) (16 + j) (nI 0)) (19 + j) (nI 0)) (13 + j) (nI 0)) 1 (nI (j + 1))) (show n - 1 < n by omega) (⟨by omega, lnS_rel hL2 (by omega)⟩)
