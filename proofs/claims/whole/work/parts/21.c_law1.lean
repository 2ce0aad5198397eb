/-! THE LAW'S BODY -/
def lw_loc (G : Nat → Nat) (b i : Nat) : List (Nat × Value) := [(4, .int (nI i)), (0, .ref b), (1, .ref (G 0)), (2, .ref (G 781)), (3, .ref (G 788))]
theorem lw_mask : Cond.constantLong RL 186 (4294967295) ∈ wsL_law := by decide +kernel
theorem v_sld {p : Program} {l : Launch} {e : Env} {R : Room} {s : State} {m : MethodId} {args : Array Value} {below : List Frame} {meth : Method} {c : Code} {Q : State → Prop} {D : va_G} {E : Nat → ClassId} {A : Nat → Prop} {cc : ByteArray} {nL : Nat} {own : String} {ret : Option FieldType} {Ts : List Cond} {N : Nat} {G : Nat → Nat} {cells slots : Nat} {Φ : Nat → va_E} {pc : Nat} {loc : List (Nat × Value)} {st : List Value} {b L : Nat} {xs : Nat → Int32} {i : Int32} (hX : va_X b L xs s s.heap) (hbl : b < s.heap.size) (hbA : ¬ A b) (hin : vp_in i L) (hdg : decode cc pc = .ok (.iaload, 1))
    (k : V p l e R s m args below meth c Q D E A cc nL own ret Ts N G cells slots Φ (pc + 1) loc (.int (xs i.toNatClampNeg) :: st)) : V p l e R s m args below meth c Q D E A cc nL own ret Ts N G cells slots Φ pc loc (.int i :: .ref b :: st) :=
  fun o H locs ls hP hD hS hl => va_sld o.1.1 o.1.2.1 hX hbl hbA hS hin hdg (k o H locs ls hP hD hS hl)
theorem v_slen {p : Program} {l : Launch} {e : Env} {R : Room} {s : State} {m : MethodId} {args : Array Value} {below : List Frame} {meth : Method} {c : Code} {Q : State → Prop} {D : va_G} {E : Nat → ClassId} {A : Nat → Prop} {cc : ByteArray} {nL : Nat} {own : String} {ret : Option FieldType} {Ts : List Cond} {N : Nat} {G : Nat → Nat} {cells slots : Nat} {Φ : Nat → va_E} {pc : Nat} {loc : List (Nat × Value)} {st : List Value} {b L : Nat} {xs : Nat → Int32} (hX : va_X b L xs s s.heap) (hbl : b < s.heap.size) (hbA : ¬ A b) (hdg : decode cc pc = .ok (.arraylength, 1))
    (k : V p l e R s m args below meth c Q D E A cc nL own ret Ts N G cells slots Φ (pc + 1) loc (.int (nI L) :: st)) : V p l e R s m args below meth c Q D E A cc nL own ret Ts N G cells slots Φ pc loc (.ref b :: st) :=
  fun o H locs ls hP hD hS hl => va_slen o.1.1 o.1.2.1 hX hbl hbA hS hdg (k o H locs ls hP hD hS hl)
theorem lw_thrown (lu : Launch) (Dg : va_G) (E : Nat → ClassId) (N : Nat) (G : Nat → Nat) (shp : Nat → (Nat → Int32) → va_E) (σ : Nat → Nat → Int32) (hM : ModS E G shp N 781) {k : Nat} (h : σ 781 0 = nI k) : CX lu yX6_thrown wsX6_thrown { frames := 0, cells := 0, slots := 0, locals := 0 } Dg E N G shp σ [.ref (G 781)] (fun v τ => v = some (.int (nI k)) ∧ τ = σ) := by
  have h9 := (c_X6_thrown lu Dg E N G shp σ hM (σ 781) (σ 782) (σ 783) (σ 784) (σ 785) (σ 786) (σ 787)).x
  have e : mk7 σ 781 (σ 781) (σ 782) (σ 783) (σ 784) (σ 785) (σ 786) (σ 787) = σ := mk7_id
  rw [e, h] at h9
  exact h9
section LAW9
variable {p : Program} {l : Launch} {e : Env} {s : State} {m : MethodId} {args : Array Value} {below : List Frame} {meth : Method} {c : Code} {Q : State → Prop} {D : va_G} {E : Nat → ClassId} {A : Nat → Prop} {ret : Option FieldType} {G : Nat → Nat} {shp : Nat → (Nat → Int32) → va_E} {b L : Nat} {xs : Nat → Int32}
set_option maxHeartbeats 4000000 in
set_option maxRecDepth 100000 in
theorem law_append (hl9 : l.stackTraces = false) (hX : StX A s) (hC : StC s) (hS : StoodS E G shp 789) (hO : shp 788 = LoS E 1) (hM : ModS E G shp 789 781) (hb : va_X b L xs s s.heap) (hbl : b < s.heap.size) (hbA : ¬ A b) (hL : L ≤ 2048) {σ : Nat → Nat → Int32} {a : AB} {T i cells slots : Nat} (hCk : Ck σ a) (hMo : Mo σ a) (hG : Go T a) (hT : T ≤ 990000) (hi : i + 4 ≤ L) (hc : cells + 1 ≤ 601024) (hs : slots + 6 ≤ 7293034)
    (hk : ∀ σ' a' cells' slots', Ck σ' a' → Mo σ' a' → Go (T + 1000) a' → cells' ≤ cells + 1 → slots' ≤ slots + 6 → V p l e room_1 s m args below meth c Q D E A cL_law 7 RL ret wsL_law 789 G cells' slots' (φ shp σ') 1792 (lw_loc G b i) []) : V p l e room_1 s m args below meth c Q D E A cL_law 7 RL ret wsL_law 789 G cells slots (φ shp σ) 168 (lw_loc G b i) [] := by
  obtain ⟨k, v', a', hk3, hG', hW, h6⟩ := op_append l hl9 D E 789 G shp σ hS (by decide) hO hM hCk hG hT (xs (nI (i + 1)).toNatClampNeg)
  refine v_aload_n 2 dL_law_168 rfl rfl ?_
  refine v_aload_n 1 dL_law_169 rfl rfl ?_
  refine v_iload 0 dL_law_170 rfl ?_
  refine v_iconst (nI 1) dL_law_172 (by decide +kernel) ?_
  refine v_iaddN dL_law_173 ?_
  refine v_sld hb hbl hbA (vp_in_nI (by omega) (by omega)) dL_law_174 ?_
  refine v_aload_n 4 dL_law_175 rfl rfl ?_
  refine u_callSW [.ref (G 0), .int (xs (nI (i + 1)).toNatClampNeg), .ref (G 788)] [] hX hC hW gL_law_L_append rfl rfl rfl ⟨by decide +kernel, by decide +kernel, Eq.trans (b := some 3) (by decide +kernel) rfl⟩ ⟨Nat.le_of_ble_eq_true rfl, Nat.le_of_ble_eq_true rfl⟩ ⟨hc, hs⟩ (Nat.le_of_ble_eq_true rfl) rfl dL_law_176 (fun v9 τ9 hp9 => ?_)
  obtain ⟨hv9, hck9, hout9, hfr9⟩ := hp9
  subst hv9
  refine v_st (st' := [.int (nI k)]) rfl ?_
  refine v_istore ((5, .int (nI k)) :: lw_loc G b i) dL_law_179 (by decide) rfl ?_
  refine v_aload_n 4 dL_law_181 rfl rfl ?_
  refine v_aload_n 2 dL_law_182 rfl rfl ?_
  refine v_iload 1 dL_law_183 rfl ?_
  refine v_iconst (nI 1) dL_law_185 (by decide +kernel) ?_
  refine v_iaddN dL_law_186 ?_
  refine v_sld hb hbl hbA (vp_in_nI (by omega) (by omega)) dL_law_187 ?_
  refine u_callVx [.int (xs (nI (i + 1)).toNatClampNeg)] [] 1 (h6 τ9 (hMo.cong hfr9)) (ci := 6) (C := RX6) (T := TX6) (NF := 13) hM.n hM.s rfl gL_law_X6_append rfl rfl rfl (by decide +kernel) rfl ⟨Nat.le_of_ble_eq_true rfl, Nat.le_of_ble_eq_true rfl⟩ ⟨hc, hs⟩ (Nat.le_of_ble_eq_true rfl) rfl dL_law_188 (fun v8 τ8 hp8 => ?_)
  obtain ⟨⟨w8, hv8, hw8⟩, hth8, hmo8, hfr8⟩ := hp8
  subst hv8
  refine v_st (st' := [.int w8]) rfl ?_
  refine v_istore ((6, .int w8) :: (5, .int (nI k)) :: lw_loc G b i) dL_law_191 (by decide) rfl ?_
  refine v_aload_n 5 dL_law_193 rfl rfl ?_
  refine u_callVx [] [] 0 (lw_thrown l D E 789 G shp τ8 hM hth8) (ci := 6) (C := RX6) (T := TX6) (NF := 13) hM.n hM.s rfl gL_law_X6_thrown rfl rfl rfl (by decide +kernel) rfl ⟨Nat.le_of_ble_eq_true rfl, Nat.le_of_ble_eq_true rfl⟩ ⟨hc, hs⟩ (Nat.le_of_ble_eq_true rfl) rfl dL_law_194 (fun v7 τ7 hp7 => ?_)
  obtain ⟨hv7, h7⟩ := hp7
  subst hv7
  subst h7
  refine v_st (st' := [.int (nI k)]) rfl ?_
  refine v_iload 1 dL_law_197 rfl ?_
  refine v_icmp_eqN 204 (by omega) (by omega) dL_law_199 rfl (fun _ => ?_) (fun z => absurd rfl z)
  refine v_iload 1 dL_law_204 rfl ?_
  refine v_if_neN 221 (by omega) dL_law_206 rfl (fun _ => ?_) (fun hk0 => ?_)
  · refine v_goto 1792 dL_law_221 rfl ?_
    refine v_loc [2, 3, 4, 5, 6] (lw_loc G b i) rfl ?_
    exact hk τ7 a' (cells + 1) (slots + 6) (hck9.far (fun n hn => hfr8 n (Or.inl hn))) hmo8 hG' (Nat.le_refl _) (Nat.le_refl _)
  · refine v_aload_n 6 dL_law_209 rfl rfl ?_
    refine v_iconst (nI 0) dL_law_210 (by decide +kernel) ?_
    refine u_lald 0 (by decide) hO rfl (by decide) (by decide) dL_law_211 ?_
    refine v_iload 0 dL_law_212 rfl ?_
    refine v_i2l dL_law_214 ?_
    refine v_lcmp dL_law_215 ?_
    refine v_if_eq 221 dL_law_216 rfl (fun _ => ?_) (fun z => absurd ((lg_cmp_eq _ _).mpr (by rw [hfr8 788 (Or.inr rfl), hout9 hk0, hw8 hk0])) z)
    refine v_goto 1792 dL_law_221 rfl ?_
    refine v_loc [2, 3, 4, 5, 6] (lw_loc G b i) rfl ?_
    exact hk τ7 a' (cells + 1) (slots + 6) (hck9.far (fun n hn => hfr8 n (Or.inl hn))) hmo8 hG' (Nat.le_refl _) (Nat.le_refl _)
set_option maxHeartbeats 4000000 in
set_option maxRecDepth 100000 in
theorem law_clearText (hl9 : l.stackTraces = false) (hX : StX A s) (hC : StC s) (hS : StoodS E G shp 789) (hO : shp 788 = LoS E 1) (hM : ModS E G shp 789 781) (hb : va_X b L xs s s.heap) (hbl : b < s.heap.size) (hbA : ¬ A b) (hL : L ≤ 2048) {σ : Nat → Nat → Int32} {a : AB} {T i cells slots : Nat} (hCk : Ck σ a) (hMo : Mo σ a) (hG : Go T a) (hT : T ≤ 990000) (hi : i + 4 ≤ L) (hc : cells + 1 ≤ 601024) (hs : slots + 6 ≤ 7293034)
    (hk : ∀ σ' a' cells' slots', Ck σ' a' → Mo σ' a' → Go (T + 1000) a' → cells' ≤ cells + 1 → slots' ≤ slots + 6 → V p l e room_1 s m args below meth c Q D E A cL_law 7 RL ret wsL_law 789 G cells' slots' (φ shp σ') 1792 (lw_loc G b i) []) : V p l e room_1 s m args below meth c Q D E A cL_law 7 RL ret wsL_law 789 G cells slots (φ shp σ) 224 (lw_loc G b i) [] := by
  obtain ⟨v', a', hG', hW, h6⟩ := op_clearText l hl9 D E 789 G shp σ hS (by decide) hO hM hCk hG hT
  refine v_aload_n 2 dL_law_224 rfl rfl ?_
  refine u_callVx [] [] 0 hW (ci := 5) (C := RX5) (T := TX5) (NF := 6) hS.o.1 hS.o.2 rfl gL_law_X5_clearText rfl rfl rfl (by decide +kernel) rfl ⟨Nat.le_of_ble_eq_true rfl, Nat.le_of_ble_eq_true rfl⟩ ⟨by show _ ≤ 601024; omega, by show _ ≤ 7293034; omega⟩ (Nat.le_of_ble_eq_true rfl) rfl dL_law_225 (fun v9 τ9 hp9 => ?_)
  obtain ⟨hv9, hck9, hfr9⟩ := hp9
  subst hv9
  refine v_st (st' := [.int v']) rfl ?_
  refine v_aload_n 3 dL_law_228 rfl rfl ?_
  refine u_callVx [] [.int v'] 0 (h6 τ9 (hMo.cong (fun n g1 g2 => hfr9 n g1 (by omega)))) (ci := 6) (C := RX6) (T := TX6) (NF := 13) hM.n hM.s rfl gL_law_X6_clearText rfl rfl rfl (by decide +kernel) rfl ⟨Nat.le_of_ble_eq_true rfl, Nat.le_of_ble_eq_true rfl⟩ ⟨by show _ ≤ 601024; omega, by show _ ≤ 7293034; omega⟩ (Nat.le_of_ble_eq_true rfl) rfl dL_law_229 (fun v8 τ8 hp8 => ?_)
  obtain ⟨⟨w8, hv8, hw8⟩, hth8, hmo8, hfr8⟩ := hp8
  subst hv8
  refine v_st (st' := [.int w8, .int v']) rfl ?_
  refine v_icmp_eq 1792 dL_law_232 rfl (fun _ => ?_) (fun z => absurd (hw8 rfl).symm z)
  exact hk τ8 a' cells slots (hck9.far (fun n hn => hfr8 n (Or.inl hn))) hmo8 hG' (by omega) (by omega)
set_option maxHeartbeats 4000000 in
set_option maxRecDepth 100000 in
theorem law_about (hl9 : l.stackTraces = false) (hX : StX A s) (hC : StC s) (hS : StoodS E G shp 789) (hO : shp 788 = LoS E 1) (hM : ModS E G shp 789 781) (hb : va_X b L xs s s.heap) (hbl : b < s.heap.size) (hbA : ¬ A b) (hL : L ≤ 2048) {σ : Nat → Nat → Int32} {a : AB} {T i cells slots : Nat} (hCk : Ck σ a) (hMo : Mo σ a) (hG : Go T a) (hT : T ≤ 990000) (hi : i + 4 ≤ L) (hc : cells + 1 ≤ 601024) (hs : slots + 6 ≤ 7293034)
    (hk : ∀ σ' a' cells' slots', Ck σ' a' → Mo σ' a' → Go (T + 1000) a' → cells' ≤ cells + 1 → slots' ≤ slots + 6 → V p l e room_1 s m args below meth c Q D E A cL_law 7 RL ret wsL_law 789 G cells' slots' (φ shp σ') 1792 (lw_loc G b i) []) : V p l e room_1 s m args below meth c Q D E A cL_law 7 RL ret wsL_law 789 G cells slots (φ shp σ) 294 (lw_loc G b i) [] := by
  obtain ⟨k, v', a', hk3, hG', hW, h6⟩ := op_about l hl9 D E 789 G shp σ hS (by decide) hO hM hCk hG hT (xs (nI (i + 1)).toNatClampNeg)
  refine v_aload_n 2 dL_law_294 rfl rfl ?_
  refine v_aload_n 1 dL_law_295 rfl rfl ?_
  refine v_iload 0 dL_law_296 rfl ?_
  refine v_iconst (nI 1) dL_law_298 (by decide +kernel) ?_
  refine v_iaddN dL_law_299 ?_
  refine v_sld hb hbl hbA (vp_in_nI (by omega) (by omega)) dL_law_300 ?_
  refine v_aload_n 4 dL_law_301 rfl rfl ?_
  refine u_callSW [.ref (G 0), .int (xs (nI (i + 1)).toNatClampNeg), .ref (G 788)] [] hX hC hW gL_law_L_about rfl rfl rfl ⟨by decide +kernel, by decide +kernel, Eq.trans (b := some 3) (by decide +kernel) rfl⟩ ⟨Nat.le_of_ble_eq_true rfl, Nat.le_of_ble_eq_true rfl⟩ ⟨hc, hs⟩ (Nat.le_of_ble_eq_true rfl) rfl dL_law_302 (fun v9 τ9 hp9 => ?_)
  obtain ⟨hv9, hck9, hout9, hfr9⟩ := hp9
  subst hv9
  refine v_st (st' := [.int (nI k)]) rfl ?_
  refine v_istore ((5, .int (nI k)) :: lw_loc G b i) dL_law_305 (by decide) rfl ?_
  refine v_aload_n 4 dL_law_307 rfl rfl ?_
  refine v_aload_n 2 dL_law_308 rfl rfl ?_
  refine v_iload 1 dL_law_309 rfl ?_
  refine v_iconst (nI 1) dL_law_311 (by decide +kernel) ?_
  refine v_iaddN dL_law_312 ?_
  refine v_sld hb hbl hbA (vp_in_nI (by omega) (by omega)) dL_law_313 ?_
  refine u_callVx [.int (xs (nI (i + 1)).toNatClampNeg)] [] 1 (h6 τ9 (hMo.cong hfr9)) (ci := 6) (C := RX6) (T := TX6) (NF := 13) hM.n hM.s rfl gL_law_X6_about rfl rfl rfl (by decide +kernel) rfl ⟨Nat.le_of_ble_eq_true rfl, Nat.le_of_ble_eq_true rfl⟩ ⟨hc, hs⟩ (Nat.le_of_ble_eq_true rfl) rfl dL_law_314 (fun v8 τ8 hp8 => ?_)
  obtain ⟨⟨w8, hv8, hw8⟩, hth8, hmo8, hfr8⟩ := hp8
  subst hv8
  refine v_st (st' := [.int w8]) rfl ?_
  refine v_istore ((6, .int w8) :: (5, .int (nI k)) :: lw_loc G b i) dL_law_317 (by decide) rfl ?_
  refine v_aload_n 5 dL_law_319 rfl rfl ?_
  refine u_callVx [] [] 0 (lw_thrown l D E 789 G shp τ8 hM hth8) (ci := 6) (C := RX6) (T := TX6) (NF := 13) hM.n hM.s rfl gL_law_X6_thrown rfl rfl rfl (by decide +kernel) rfl ⟨Nat.le_of_ble_eq_true rfl, Nat.le_of_ble_eq_true rfl⟩ ⟨hc, hs⟩ (Nat.le_of_ble_eq_true rfl) rfl dL_law_320 (fun v7 τ7 hp7 => ?_)
  obtain ⟨hv7, h7⟩ := hp7
  subst hv7
  subst h7
  refine v_st (st' := [.int (nI k)]) rfl ?_
  refine v_iload 1 dL_law_323 rfl ?_
  refine v_icmp_eqN 330 (by omega) (by omega) dL_law_325 rfl (fun _ => ?_) (fun z => absurd rfl z)
  refine v_iload 1 dL_law_330 rfl ?_
  refine v_if_neN 347 (by omega) dL_law_332 rfl (fun _ => ?_) (fun hk0 => ?_)
  · refine v_goto 1792 dL_law_347 rfl ?_
    refine v_loc [2, 3, 4, 5, 6] (lw_loc G b i) rfl ?_
    exact hk τ7 a' (cells + 1) (slots + 6) (hck9.far (fun n hn => hfr8 n (Or.inl hn))) hmo8 hG' (Nat.le_refl _) (Nat.le_refl _)
  · refine v_aload_n 6 dL_law_335 rfl rfl ?_
    refine v_iconst (nI 0) dL_law_336 (by decide +kernel) ?_
    refine u_lald 0 (by decide) hO rfl (by decide) (by decide) dL_law_337 ?_
    refine v_iload 0 dL_law_338 rfl ?_
    refine v_i2l dL_law_340 ?_
    refine v_lcmp dL_law_341 ?_
    refine v_if_eq 347 dL_law_342 rfl (fun _ => ?_) (fun z => absurd ((lg_cmp_eq _ _).mpr (by rw [hfr8 788 (Or.inr rfl), hout9 hk0, hw8 hk0])) z)
    refine v_goto 1792 dL_law_347 rfl ?_
    refine v_loc [2, 3, 4, 5, 6] (lw_loc G b i) rfl ?_
    exact hk τ7 a' (cells + 1) (slots + 6) (hck9.far (fun n hn => hfr8 n (Or.inl hn))) hmo8 hG' (Nat.le_refl _) (Nat.le_refl _)
end LAW9
