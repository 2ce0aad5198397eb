/-! what an array holds beyond its length is nobody's matter -/
theorem vp_cell_eq {cA : ClassId} {n : Nat} {f g : Nat → Int32} (h : ∀ i, i < n → f i = g i) : vp_cell cA (n, .inl f) = vp_cell cA (n, .inl g) := by
  rw [vp_cell_i, vp_cell_i]
  unfold arrV
  congr 1
  apply congrArg
  funext j
  show Value.int (f j.val) = Value.int (g j.val)
  rw [h j.val j.isLt]
section RJ
variable {p : Program} {l : Launch} {e : Env} {R : Room} {s : State} {m : MethodId} {args : Array Value} {below : List Frame} {meth : Method} {c : Code} {Q : State → Prop} {D : va_G} {E : Nat → ClassId} {A : Nat → Prop} {cc : ByteArray} {nL : Nat} {own : String} {ret : Option FieldType} {Ts : List Cond} {N : Nat} {G : Nat → Nat} {cells slots : Nat} {pc : Nat} {loc : List (Nat × Value)} {st : List Value} {shp : Nat → (Nat → Int32) → va_E} {σ : Nat → Nat → Int32} {b : Nat} {f0 f1 f2 f3 f4 f5 f6 : Nat → Int32}
theorem u_junk {τ : Nat → Nat → Int32} {n j len : Nat} (hs : shp n = ArS E j len) (h : ∀ k, k ≠ n → τ k = σ k) (h1 : ∀ i, i < len → τ n i = σ n i) (k : V p l e R s m args below meth c Q D E A cc nL own ret Ts N G cells slots (φ shp τ) pc loc st) : V p l e R s m args below meth c Q D E A cc nL own ret Ts N G cells slots (φ shp σ) pc loc st := by
  intro o H locs ls hP hD hS hl
  refine k o H locs ls ?_ (wl_D hD (fun k hk => hD.2 k _ (wl_at hk))) hS hl
  intro k q hk
  obtain ⟨hk', rfl⟩ := wl_some hk
  have h2 := hP k _ (wl_at hk')
  by_cases e : k = n
  · subst e
    have e1 : φ shp σ k = .inl (E j, len, .inl (σ k)) := by show shp k (σ k) = _; rw [hs]; rfl
    have e2 : φ shp τ k = .inl (E j, len, .inl (τ k)) := by show shp k (τ k) = _; rw [hs]; rfl
    rw [e1] at h2
    rw [e2]
    show H[G k]? = some (vp_cell (E j) (len, .inl (τ k)))
    rw [vp_cell_eq h1]
    exact h2
  · have e1 : φ shp τ k = φ shp σ k := by show shp k (τ k) = shp k (σ k); rw [h k e]
    rw [e1]; exact h2
theorem mk7_ne1 {g : Nat → Int32} {k : Nat} (hk : k ≠ b + 1) : mk7 σ b f0 g f2 f3 f4 f5 f6 k = mk7 σ b f0 f1 f2 f3 f4 f5 f6 k := by
  unfold mk7
  repeat' split
  all_goals first | rfl | omega
theorem m_junk1 (g : Nat → Int32) (hM : ModS E G shp N b) (h : ∀ i, i < 358 → g i = f1 i) (k : V p l e R s m args below meth c Q D E A cc nL own ret Ts N G cells slots (φ shp (mk7 σ b f0 g f2 f3 f4 f5 f6)) pc loc st) : V p l e R s m args below meth c Q D E A cc nL own ret Ts N G cells slots (φ shp (mk7 σ b f0 f1 f2 f3 f4 f5 f6)) pc loc st :=
  u_junk (n := b + 1) hM.s1 (fun k hk => mk7_ne1 hk) (fun i hi => by rw [mk7_1, mk7_1]; exact h i hi) k
theorem mk7_ne2 {g : Nat → Int32} {k : Nat} (hk : k ≠ b + 2) : mk7 σ b f0 f1 g f3 f4 f5 f6 k = mk7 σ b f0 f1 f2 f3 f4 f5 f6 k := by
  unfold mk7
  repeat' split
  all_goals first | rfl | omega
theorem m_junk2 (g : Nat → Int32) (hM : ModS E G shp N b) (h : ∀ i, i < 1074 → g i = f2 i) (k : V p l e R s m args below meth c Q D E A cc nL own ret Ts N G cells slots (φ shp (mk7 σ b f0 f1 g f3 f4 f5 f6)) pc loc st) : V p l e R s m args below meth c Q D E A cc nL own ret Ts N G cells slots (φ shp (mk7 σ b f0 f1 f2 f3 f4 f5 f6)) pc loc st :=
  u_junk (n := b + 2) hM.s2 (fun k hk => mk7_ne2 hk) (fun i hi => by rw [mk7_2, mk7_2]; exact h i hi) k
theorem mk7_ne3 {g : Nat → Int32} {k : Nat} (hk : k ≠ b + 3) : mk7 σ b f0 f1 f2 g f4 f5 f6 k = mk7 σ b f0 f1 f2 f3 f4 f5 f6 k := by
  unfold mk7
  repeat' split
  all_goals first | rfl | omega
theorem m_junk3 (g : Nat → Int32) (hM : ModS E G shp N b) (h : ∀ i, i < 5012 → g i = f3 i) (k : V p l e R s m args below meth c Q D E A cc nL own ret Ts N G cells slots (φ shp (mk7 σ b f0 f1 f2 g f4 f5 f6)) pc loc st) : V p l e R s m args below meth c Q D E A cc nL own ret Ts N G cells slots (φ shp (mk7 σ b f0 f1 f2 f3 f4 f5 f6)) pc loc st :=
  u_junk (n := b + 3) hM.s3 (fun k hk => mk7_ne3 hk) (fun i hi => by rw [mk7_3, mk7_3]; exact h i hi) k
theorem mk7_ne4 {g : Nat → Int32} {k : Nat} (hk : k ≠ b + 4) : mk7 σ b f0 f1 f2 f3 g f5 f6 k = mk7 σ b f0 f1 f2 f3 f4 f5 f6 k := by
  unfold mk7
  repeat' split
  all_goals first | rfl | omega
theorem m_junk4 (g : Nat → Int32) (hM : ModS E G shp N b) (h : ∀ i, i < 716 → g i = f4 i) (k : V p l e R s m args below meth c Q D E A cc nL own ret Ts N G cells slots (φ shp (mk7 σ b f0 f1 f2 f3 g f5 f6)) pc loc st) : V p l e R s m args below meth c Q D E A cc nL own ret Ts N G cells slots (φ shp (mk7 σ b f0 f1 f2 f3 f4 f5 f6)) pc loc st :=
  u_junk (n := b + 4) hM.s4 (fun k hk => mk7_ne4 hk) (fun i hi => by rw [mk7_4, mk7_4]; exact h i hi) k
theorem mk7_ne5 {g : Nat → Int32} {k : Nat} (hk : k ≠ b + 5) : mk7 σ b f0 f1 f2 f3 f4 g f6 k = mk7 σ b f0 f1 f2 f3 f4 f5 f6 k := by
  unfold mk7
  repeat' split
  all_goals first | rfl | omega
theorem m_junk5 (g : Nat → Int32) (hM : ModS E G shp N b) (h : ∀ i, i < 2 → g i = f5 i) (k : V p l e R s m args below meth c Q D E A cc nL own ret Ts N G cells slots (φ shp (mk7 σ b f0 f1 f2 f3 f4 g f6)) pc loc st) : V p l e R s m args below meth c Q D E A cc nL own ret Ts N G cells slots (φ shp (mk7 σ b f0 f1 f2 f3 f4 f5 f6)) pc loc st :=
  u_junk (n := b + 5) hM.s5 (fun k hk => mk7_ne5 hk) (fun i hi => by rw [mk7_5, mk7_5]; exact h i hi) k
theorem mk7_ne6 {g : Nat → Int32} {k : Nat} (hk : k ≠ b + 6) : mk7 σ b f0 f1 f2 f3 f4 f5 g k = mk7 σ b f0 f1 f2 f3 f4 f5 f6 k := by
  unfold mk7
  repeat' split
  all_goals first | rfl | omega
theorem m_junk6 (g : Nat → Int32) (hM : ModS E G shp N b) (h : ∀ i, i < 100 → g i = f6 i) (k : V p l e R s m args below meth c Q D E A cc nL own ret Ts N G cells slots (φ shp (mk7 σ b f0 f1 f2 f3 f4 f5 g)) pc loc st) : V p l e R s m args below meth c Q D E A cc nL own ret Ts N G cells slots (φ shp (mk7 σ b f0 f1 f2 f3 f4 f5 f6)) pc loc st :=
  u_junk (n := b + 6) hM.s6 (fun k hk => mk7_ne6 hk) (fun i hi => by rw [mk7_6, mk7_6]; exact h i hi) k
end RJ
