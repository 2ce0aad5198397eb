/-! System.arraycopy over the world; two halls in one world -/
section CPY
variable {p : Program} {l : Launch} {e : Env} {R : Room} {s : State} {m : MethodId} {args : Array Value} {below : List Frame} {meth : Method} {c : Code} {Q : State → Prop} {D : va_G} {E : Nat → ClassId} {A : Nat → Prop} {cc : ByteArray} {nL : Nat} {own : String} {ret : Option FieldType} {Ts : List Cond} {N : Nat} {G : Nat → Nat} {cells slots : Nat} {pc : Nat} {loc : List (Nat × Value)} {st : List Value} {shp : Nat → (Nat → Int32) → va_E} {σ : Nat → Nat → Int32}
theorem u_copy0 {n0 n1 len L0 L1 index : Nat} (h0 : n0 < N) (h1 : n1 < N) (s0 : shp n0 = ArS E 0 L0) (s1 : shp n1 = ArS E 0 L1) (hl0 : len ≤ L0) (hl1 : len ≤ L1) (hb : len < 2 ^ 31) (hlink : Cond.methodLink own index arraycopyName ∈ Ts) (hnat : Cond.native arraycopyName ∈ Ts) (hstat : Cond.static arraycopyName ∈ Ts) (hini : Cond.initialized "java/lang/System" ∈ Ts) (hf : 1 ≤ R.frames) (hlo : (st.map fun v => v.category).sum + (nativeFrameWords "java/lang/System" "arraycopy" 5 + 11) ≤ R.locals) (hdg : decode cc pc = .ok (.invokestatic index, 3)) (kk : V p l e R s m args below meth c Q D E A cc nL own ret Ts N G cells slots (φ shp (va_up σ n1 (va_cpy (σ n0) (σ n1) 0 0 len))) (pc + 3) loc st) : V p l e R s m args below meth c Q D E A cc nL own ret Ts N G cells slots (φ shp σ) pc loc (.int (nI len) :: .int (nI 0) :: .ref (G n1) :: .int (nI 0) :: .ref (G n0) :: st) := by
  intro o H locs ls hP hD hS h9
  have e0 : φ shp σ n0 = .inl (E 0, L0, .inl (σ n0)) := by show shp n0 (σ n0) = _; rw [s0]; rfl
  have e1 : φ shp σ n1 = .inl (E 0, L1, .inl (σ n1)) := by show shp n1 (σ n1) = _; rw [s1]; rfl
  have z0 : (nI 0).toNatClampNeg = 0 := nI_clamp (by decide)
  have zl : (nI len).toNatClampNeg = len := nI_clamp hb
  have e2 : va_up (φ shp σ) n1 (.inl (E 0, L1, .inl (va_cpy (σ n0) (σ n1) 0 0 len))) = φ shp (va_up σ n1 (va_cpy (σ n0) (σ n1) 0 0 len)) := by
    funext j
    show va_up (φ shp σ) n1 _ j = shp j (va_up σ n1 _ j)
    by_cases hj : j = n1
    · subst hj; rw [va_up_self, va_up_self, s1]; rfl
    · rw [va_up_ne _ _ hj, va_up_ne _ _ hj]; rfl
  refine va_copyi o.1.1 o.1.2.1 (o.1.2.2.1.trans h9.1.symm) o.1.2.2.2.1 (o.1.2.2.2.2 _ hlink) (o.1.2.2.2.2 _ hnat) (o.1.2.2.2.2 _ hstat) (o.1.2.2.2.2 _ hini) o.2.1 hP hD hS n0 n1 0 0 (a0 := G n0) (a := G n1) (c0 := E 0) (c1 := E 0) (n0 := L0) (n1 := L1) (f := σ n0) (g := σ n1) (ty := .int) (by rw [wl_at h0, e0]) (by rw [wl_at h1, e1]) rfl rfl rfl (nI_pos (by decide)) (nI_pos (by decide)) (nI_pos hb) (by rw [z0, zl]; omega) (by rw [z0, zl]; omega) (fun _ _ => rfl) hf hlo hdg (fun H1 locs1 hP1 hD1 hS1 => ?_)
  rw [z0, zl, wl_set h1, e2] at hP1 hD1
  exact kk o H1 locs1 ls hP1 hD1 hS1 h9
/-- the same, out of a static table of whole numbers -/
theorem u_copyT {t n0 n1 len L1 index : Nat} {f : Nat → Int32} (hX : va_T .int t n0 (fun j => .int (f j)) A s s.heap) (h1 : n1 < N) (s1 : shp n1 = ArS E 0 L1) (hl0 : len ≤ n0) (hl1 : len ≤ L1) (hb : len < 2 ^ 31) (hlink : Cond.methodLink own index arraycopyName ∈ Ts) (hnat : Cond.native arraycopyName ∈ Ts) (hstat : Cond.static arraycopyName ∈ Ts) (hini : Cond.initialized "java/lang/System" ∈ Ts) (hf : 1 ≤ R.frames) (hlo : (st.map fun v => v.category).sum + (nativeFrameWords "java/lang/System" "arraycopy" 5 + 11) ≤ R.locals) (hdg : decode cc pc = .ok (.invokestatic index, 3)) (kk : V p l e R s m args below meth c Q D E A cc nL own ret Ts N G cells slots (φ shp (va_up σ n1 (va_cpy f (σ n1) 0 0 len))) (pc + 3) loc st) : V p l e R s m args below meth c Q D E A cc nL own ret Ts N G cells slots (φ shp σ) pc loc (.int (nI len) :: .int (nI 0) :: .ref (G n1) :: .int (nI 0) :: .ref t :: st) := by
  intro o H locs ls hP hD hS h9
  have e1 : φ shp σ n1 = .inl (E 0, L1, .inl (σ n1)) := by show shp n1 (σ n1) = _; rw [s1]; rfl
  have z0 : (nI 0).toNatClampNeg = 0 := nI_clamp (by decide)
  have zl : (nI len).toNatClampNeg = len := nI_clamp hb
  have e2 : va_up (φ shp σ) n1 (.inl (E 0, L1, .inl (va_cpy f (σ n1) 0 0 len))) = φ shp (va_up σ n1 (va_cpy f (σ n1) 0 0 len)) := by
    funext j
    show va_up (φ shp σ) n1 _ j = shp j (va_up σ n1 _ j)
    by_cases hj : j = n1
    · subst hj; rw [va_up_self, va_up_self, s1]; rfl
    · rw [va_up_ne _ _ hj, va_up_ne _ _ hj]; rfl
  have t0 : (nI 0).toInt = 0 := nI_toInt (n := 0) (by decide)
  have tl : (nI len).toInt = len := nI_toInt hb
  have ha1 : (wl N G (φ shp σ))[n1]? = some (G n1, .inl (E 0, L1, .inl (σ n1))) := by rw [wl_at h1, e1]
  intro T hT X
  obtain ⟨scr, x1, x2, x3, x4, -, x5, x7⟩ := hX
  have c0 : H[t]? = some scr := by rw [hS.2.1 t (Array.getElem?_eq_some_iff.mp x1).1 x7]; exact x1
  have c1 : H[G n1]? = some (vp_cell (E 0) (L1, .inl (σ n1))) := hP n1 _ ha1
  obtain ⟨x6, k0, hk0, cm0, hkk0⟩ := x2
  obtain ⟨-, k1, hk1, cm1, hkk1⟩ := (o.2.1.2 0 _ rfl).1 L1 (fun j => .int (σ n1 j))
  obtain ⟨vm', X', step⟩ := X.arraycopy o.1.1 o.1.2.2.2.1 (o.1.2.2.2.2 _ hlink) (o.1.2.2.2.2 _ hnat) (o.1.2.2.2.2 _ hstat) (o.1.2.2.2.2 _ hini) (src := t) (dst := G n1) (cs := scr) (cd := vp_cell (E 0) (L1, .inl (σ n1))) (srcPos := nI 0) (destPos := nI 0) (n := nI len) (by rw [hT]; exact c0) (by rw [hT]; exact c1)
    x6 (fun _ q => by cases q) x3 (fun q => by cases q) hk0 hk1 hkk0 hkk1 (by simp [refKind]) (nI_pos (by decide)) (nI_pos (by decide)) (nI_pos hb)
    (by rw [t0, tl]; omega)
    (by rw [t0, tl]; show ¬ _ > ((arrV (E 0) L1 (fun j => .int (σ n1 j))).slots.size : Int); rw [arrV_size]; omega)
    (fun vm₁ _ i hi => by
      have e : scr.slots.getD ((nI 0).toNatClampNeg + i) .null = .int (f ((nI 0).toNatClampNeg + i)) := by
        rw [Array.getD_eq_getD_getElem?, x5 _ (by rw [z0]; rw [zl] at hi; omega)]
        rfl
      rw [e]
      exact ⟨rfl, trivial⟩)
    (g := F0 m pc ls (.int (nI len) :: .int (nI 0) :: .ref (G n1) :: .int (nI 0) :: .ref t :: st)) rfl (by rw [o.1.2.2.1.trans h9.1.symm]) (rest := st) rfl (by rw [o.1.2.1]; exact hdg) hf (by show 2 * 0 + _ + _ ≤ _; omega)
  have q1 : copied scr (vp_cell (E 0) (L1, .inl (σ n1))) (nI 0) (nI 0) (nI len) = vp_cell (E 0) (L1, .inl (va_cpy f (σ n1) (nI 0).toNatClampNeg (nI 0).toNatClampNeg (nI len).toNatClampNeg)) := va_copiedX (fun z => .int z) scr (E 0) f (σ n1) x5 (by rw [z0, zl]; omega)
  rw [z0, zl] at q1
  rw [q1] at X' step
  have hl : G n1 < H.size := (Array.getElem?_eq_some_iff.mp c1).1
  have hheap : ((T.setVm vm').setCell (G n1) (vp_cell (E 0) (L1, .inl (va_cpy f (σ n1) 0 0 len)))).heap = H.setIfInBounds (G n1) (vp_cell (E 0) (L1, .inl (va_cpy f (σ n1) 0 0 len))) := by rw [← hT]; rfl
  have oq : ∀ q : Nat, q ≠ G n1 → (H.setIfInBounds (G n1) (vp_cell (E 0) (L1, .inl (va_cpy f (σ n1) 0 0 len))))[q]? = H[q]? := fun q hq => by simp [Array.getElem?_setIfInBounds, Ne.symm hq]
  have hP1 : va_P D vwCl ((wl N G (φ shp σ)).set n1 (G n1, .inl (E 0, L1, .inl (va_cpy f (σ n1) 0 0 len)))) (H.setIfInBounds (G n1) (vp_cell (E 0) (L1, .inl (va_cpy f (σ n1) 0 0 len)))) := hP.set hD ha1 (show (H.setIfInBounds (G n1) (vp_cell (E 0) (L1, .inl (va_cpy f (σ n1) 0 0 len))))[G n1]? = some _ by simp [Array.getElem?_setIfInBounds, hl]) oq
  have hD1 := hD.set (e := .inl (E 0, L1, .inl (va_cpy f (σ n1) 0 0 len))) ha1
  rw [wl_set h1, e2] at hP1 hD1
  obtain ⟨t9, a1, b1⟩ := kk o _ _ ls hP1 hD1 ⟨by simp; exact hS.1, fun q g1 g2 => by
      rw [oq q (fun e => g2 (by rw [e]; exact hD.2 n1 _ ha1))]
      exact hS.2.1 q g1 g2, fun q hq => by
      rcases List.mem_append.mp hq with h | h
      · exact hS.2.2 q h
      · obtain ⟨z, -, hz⟩ := List.mem_map.mp h
        rw [← hz]
        exact hD.2 n1 _ ha1⟩ h9 _ hheap X'
  exact ⟨t9, step t9 a1, b1⟩
theorem v_gets1 {index : Nat} (hl : va_Nw (.fieldLinkNest own index "StoodMinutes" "SETTING_AT_FIRST" "[I" "StoodMinutes") s) (hdg : decode cc pc = .ok (.getstatic index, 3)) (kk : ∀ t : Nat, va_T .int t 4 (fun j => .int (stFirst j)) A s s.heap → V p l e R s m args below meth c Q D E A cc nL own ret Ts N G cells slots (φ shp σ) (pc + 3) loc (.ref t :: st)) : V p l e R s m args below meth c Q D E A cc nL own ret Ts N G cells slots (φ shp σ) pc loc st := by
  intro o H locs ls hP hD hS h9
  obtain ⟨⟨t1, t2, t3, ⟨a1, b1⟩, -⟩, -⟩ := id o.2.2.2.2.2
  exact va_getsN o.1.1 o.1.2.1 a1 hS o.1.2.2.2.1 (va_Nw.use rfl hl) (fun x h => h) hdg (kk t1 b1 o H locs ls hP hD hS h9)
theorem v_gets2 {index : Nat} (hl : Cond.fieldLink own index "StoodMinutes" "SETTING_LEAST" "[I" ∈ Ts) (hdg : decode cc pc = .ok (.getstatic index, 3)) (kk : ∀ t : Nat, va_T .int t 4 (fun j => .int (stLeast j)) A s s.heap → V p l e R s m args below meth c Q D E A cc nL own ret Ts N G cells slots (φ shp σ) (pc + 3) loc (.ref t :: st)) : V p l e R s m args below meth c Q D E A cc nL own ret Ts N G cells slots (φ shp σ) pc loc st := by
  intro o H locs ls hP hD hS h9
  obtain ⟨⟨t1, t2, t3, -, ⟨a1, b1⟩, -⟩, -⟩ := id o.2.2.2.2.2
  exact va_gets o.1.1 o.1.2.1 a1 hS o.1.2.2.2.1 (o.1.2.2.2.2 _ hl) (fun x h => h) hdg (kk t2 b1 o H locs ls hP hD hS h9)
theorem v_gets3 {index : Nat} (hl : Cond.fieldLink own index "StoodMinutes" "SETTING_MOST" "[I" ∈ Ts) (hdg : decode cc pc = .ok (.getstatic index, 3)) (kk : ∀ t : Nat, va_T .int t 4 (fun j => .int (stMost j)) A s s.heap → V p l e R s m args below meth c Q D E A cc nL own ret Ts N G cells slots (φ shp σ) (pc + 3) loc (.ref t :: st)) : V p l e R s m args below meth c Q D E A cc nL own ret Ts N G cells slots (φ shp σ) pc loc st := by
  intro o H locs ls hP hD hS h9
  obtain ⟨⟨t1, t2, t3, -, -, a1, b1⟩, -⟩ := id o.2.2.2.2.2
  exact va_gets o.1.1 o.1.2.1 a1 hS o.1.2.2.2.1 (o.1.2.2.2.2 _ hl) (fun x h => h) hdg (kk t3 b1 o H locs ls hP hD hS h9)
theorem v_tld {t L i : Nat} {f : Nat → Int32} (hX : va_T .int t L (fun j => .int (f j)) A s s.heap) (hi : i < L) (hb : L < 2 ^ 31) (hdg : decode cc pc = .ok (.iaload, 1)) (kk : V p l e R s m args below meth c Q D E A cc nL own ret Ts N G cells slots (φ shp σ) (pc + 1) loc (.int (f i) :: st)) : V p l e R s m args below meth c Q D E A cc nL own ret Ts N G cells slots (φ shp σ) pc loc (.int (nI i) :: .ref t :: st) := by
  intro o H locs ls hP hD hS h9
  refine va_ti o.1.1 o.1.2.1 hX hS (vp_in_nI hi hb) (v := .int (f i)) (by rw [nI_clamp (by omega)]) hdg ?_
  exact kk o H locs ls hP hD hS h9
end CPY
/-! two halls apart -/
section H2
variable {σ : Nat → Nat → Int32} {b o : Nat} {c d : Nat → Int32}
theorem hs_cell {n : Nat} (h : ¬ (n < b ∨ (b + 2 ≤ n ∧ n < b + 7) ∨ b + 43 ≤ n)) {τ : Nat → Nat → Int32} : hs σ b c n = hs τ b c n := by
  unfold hs
  repeat' split
  all_goals first | rfl | omega
theorem hs_comm (h : b + 43 ≤ o ∨ o + 43 ≤ b) : hs (hs σ b c) o d = hs (hs σ o d) b c := by
  funext n
  by_cases h1 : n < o ∨ (o + 2 ≤ n ∧ n < o + 7) ∨ o + 43 ≤ n
  · rw [hs_out (b := o) h1]
    by_cases h2 : n < b ∨ (b + 2 ≤ n ∧ n < b + 7) ∨ b + 43 ≤ n
    · rw [hs_out h2, hs_out h2, hs_out h1]
    · exact hs_cell h2
  · rw [hs_out (b := b) (by omega)]
    exact hs_cell h1
end H2
