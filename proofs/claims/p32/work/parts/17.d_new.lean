/-! NEW OBJECTS: the n-th cell of the world lies at the address z + n -/
def Gz (z : Nat) : Nat → Nat := fun n => z + n
def aoC : List String := ["StoodMinutes$Line", "StoodMinutes$Person", "StoodMinutes$Hall"]
def StA (s : State) : Prop := ∀ C ∈ aoC, va_AO C s
theorem StA.moved {u U : State} (hvm : u.vm.Alike U.vm) (h : StA u) : StA U := fun C hC => va_AO.moved hvm (h C hC)
theorem AG_z {z N q : Nat} : AG N (Gz z) (z + N) q ↔ z ≤ q := by
  constructor
  · rintro (⟨n, hn, rfl⟩ | h)
    · exact Nat.le_add_right z n
    · omega
  · intro h
    by_cases hq : q < z + N
    · exact Or.inl ⟨q - z, by omega, by unfold Gz; omega⟩
    · exact Or.inr (by omega)
theorem gz_D {z N : Nat} {Φ : Nat → va_E} {A : Nat → Prop} (hA : ∀ q, z ≤ q → A q) : va_D A (wl N (Gz z) Φ) := by
  refine ⟨fun i j p q hp hq e => ?_, fun k q hk => ?_⟩
  · obtain ⟨hi, rfl⟩ := wl_some hp
    obtain ⟨hj, rfl⟩ := wl_some hq
    have e2 : z + i = z + j := e
    omega
  · obtain ⟨hi, rfl⟩ := wl_some hk
    exact hA _ (Nat.le_add_right z k)
theorem wl_app {z N : Nat} {Φ : Nat → va_E} {e : va_E} : wl N (Gz z) Φ ++ [(z + N, e)] = wl (N + 1) (Gz z) (va_up Φ N e) := by
  apply List.ext_getElem?
  intro i
  by_cases hi : i < N
  · rw [List.getElem?_append_left (by rw [wl_len]; exact hi), wl_at hi, wl_at (by omega), va_up_ne _ _ (by omega)]
  · by_cases h2 : i = N
    · subst h2
      rw [List.getElem?_append_right (by rw [wl_len]; omega), wl_len, Nat.sub_self, wl_at (by omega), va_up_self]
      rfl
    · rw [List.getElem?_eq_none_iff.mpr (by simp [wl_len]; omega), List.getElem?_eq_none_iff.mpr (by rw [wl_len]; omega)]
theorem gz_lt {D : va_G} {N z : Nat} {Φ : Nat → va_E} {H : Heap} (hP : va_P D vwCl (wl N (Gz z) Φ) H) (h0 : z ≤ H.size) : z + N ≤ H.size := by
  by_cases h : N = 0
  · omega
  · have h1 : z + (N - 1) < H.size := (hP (N - 1) _ (wl_at (by omega))).lt
    omega
theorem new_at {D : va_G} {N z q : Nat} {Φ : Nat → va_E} {e : va_E} {H1 : Heap} {A : Nat → Prop} (hP1 : va_P D vwCl (wl N (Gz z) Φ ++ [(q, e)]) H1) (hD1 : va_D A (wl N (Gz z) Φ ++ [(q, e)])) (hA : ∀ q, A q → z ≤ q) (hsz : H1.size ≤ z + N + 1) : q = z + N := by
  have hN : (wl N (Gz z) Φ ++ [(q, e)])[N]? = some (q, e) := by
    rw [List.getElem?_append_right (by rw [wl_len]; exact Nat.le_refl _), wl_len, Nat.sub_self]; rfl
  have h1 : q < H1.size := (hP1 N _ hN).lt
  have h2 : z ≤ q := hA _ (hD1.2 N _ hN)
  by_cases h : q < z + N
  · have hn : (wl N (Gz z) Φ ++ [(q, e)])[q - z]? = some (Gz z (q - z), Φ (q - z)) := by
      rw [List.getElem?_append_left (by rw [wl_len]; omega), wl_at (by omega)]
    have h3 := hD1.1 (q - z) N _ _ hn hN (by show z + (q - z) = q; omega)
    omega
  · omega
theorem va_RA_eq {s : State} {a b : ClassId} {ty : FieldType} (h1 : va_RA s a ty) (h2 : va_RA s b ty) : a = b := by
  cases ty with
  | object C =>
    obtain ⟨_, _, _, _, _, g1⟩ := h1
    obtain ⟨_, _, _, _, _, g2⟩ := h2
    exact Option.some.inj (g1.symm.trans g2)
  | _ => exact Option.some.inj (h1.symm.trans h2)
def QcG (D : va_G) (z N N' : Nat) (post : (Nat → va_E) → Prop) : Array Value → State → Outcome → State → Prop := fun _ st oc t => (∃ Φ', oc = .returned none ∧ va_P D vwCl (wl N' (Gz z) Φ') t.heap ∧ post Φ') ∧ va_F (AG N (Gz z) (z + N)) st t
def PcN (D : va_G) (E : Nat → ClassId) (z N : Nat) (Φ : Nat → va_E) (vargs : List Value) : Array Value → State → Prop := fun a U => PcX D E N (Gz z) Φ vargs (z + N) a U ∧ StA U
/-- a constructor: from N cells it makes N' -/
def ConG (l : Launch) (y : MethodName) (ws : List Cond) (rm : Room) (D : va_G) (E : Nat → ClassId) (z N N' ms : Nat) (Φ : Nat → va_E) (vargs : List Value) (post : (Nat → va_E) → Prop) : Prop :=
  Met l y ws rm (PcN D E z N Φ vargs) (QcG D z N N' post) (N' - N) ms (AG N (Gz z) (z + N))
abbrev QG (below : List Frame) (D : va_G) (z N N' ms : Nat) (post : (Nat → va_E) → Prop) (args : Array Value) (s : State) : State → Prop := MQ below (QcG D z N N' post) args s (N' - N) ms (AG N (Gz z) (z + N))
theorem n_blind {D : va_G} {E : Nat → ClassId} {z N : Nat} {Φ : Nat → va_E} {vargs : List Value} : FrameBlind (PcN D E z N Φ vargs) := by
  intro a U g mk q
  exact ⟨x_blind a U g mk q.1, StA.moved (Vm.Alike.refl U.vm) q.2⟩
theorem conG_of {l : Launch} {y : MethodName} {ws ws' : List Cond} {rm : Room} {D : va_G} {E : Nat → ClassId} {z N N' ms : Nat} {Φ : Nat → va_E} {vargs : List Value} {post : (Nat → va_E) → Prop} {cc : ByteArray} {maxL : Nat} {ret : Option FieldType} (hy : plainName y.cls = true) (hw : ws = Cond.code y cc maxL ret :: ws') (hlen : (lg_sl vargs).length ≤ maxL)
    (body : ∀ (p : Program) (e : Env) (s : State) (m : MethodId) (args : Array Value) (below : List Frame) (meth : Method) (c : Code), s.heap.size = z + N → meth.name = y.name → StX (AG N (Gz z) (z + N)) s → StA s → V p l e rm s m args below meth c (QG below D z N N' ms post args s) D E (AG N (Gz z) (z + N)) cc maxL y.cls ret ws N (Gz z) 0 0 Φ 0 (lv_args 0 vargs) []) : ConG l y ws rm D E z N N' ms Φ vargs post := by
  refine Met.ofW (cc := cc) (maxL := maxL) (ret := ret) hy hw ?_
  intro p e s m args below meth c s₁ B hml hv
  obtain ⟨⟨⟨rfl, hsz, hP, hK, hD0, hZ⟩, hX⟩, hA⟩ := hv
  have hts := atoms_spec (ws := ws) B.pre
  have hown : s.vm.findClass y.cls = some m.cls := findClass_of_methodNamed B.named
  have hl := lv_entry vargs (n := maxL) hlen
  rw [lg_entry_eq]
  exact body p e s m vargs.toArray below meth c hsz (name_of_methodNamed B.named B.method).1 hX hA ⟨⟨B.exec, B.bytes, hml, hown, hts⟩, hK, fun q h => Or.inr (by omega), B.notSynchronized, B.returns, hZ⟩ s.heap [] _ hP (gz_D (fun q h => AG_z.mpr h)) va_S.rf hl
section RN
variable {p : Program} {l : Launch} {e : Env} {R : Room} {s : State} {m : MethodId} {args : Array Value} {below : List Frame} {meth : Method} {c : Code} {Q : State → Prop} {D : va_G} {E : Nat → ClassId} {A : Nat → Prop} {cc : ByteArray} {nL : Nat} {own : String} {ret : Option FieldType} {Ts : List Cond} {N : Nat} {G : Nat → Nat} {cells slots : Nat} {Φ : Nat → va_E} {pc : Nat} {loc : List (Nat × Value)} {st : List Value}
theorem v_new {C : String} {T : u_T} {NF ci index z : Nat} (fs : List Value) (hz : s.heap.size + cells = z + N) (hA : ∀ q, A q ↔ z ≤ q) (hin : ∀ w ∈ u_ws C T NF, w ∈ Ts) (ty : Nat → FieldType) (hty : ∀ k, k < NF → parseFieldDescriptor (T k).2.2.1 = some (ty k)) (hcl : Cond.classLink own index C ∈ Ts) (hinst : Cond.instantiable C NF ∈ Ts) (hini : Cond.initialized C ∈ Ts) (hc : vwCl[ci]? = some (C, T, NF)) (hfs : ∀ j, j < NF → defaultValue (ty j) = vp_V fs j) (hcells : cells + 1 ≤ R.cells) (hslots : slots + NF ≤ R.slots) (hdg : decode cc pc = .ok (.new index, 3))
    (kk : V p l e R s m args below meth c Q D E A cc nL own ret Ts (N + 1) (Gz z) (cells + 1) (slots + NF) (va_up Φ N (.inr (ci, fs))) (pc + 3) loc (.ref (z + N) :: st)) : V p l e R s m args below meth c Q D E A cc nL own ret Ts N (Gz z) cells slots Φ pc loc st := by
  intro o H locs ls hP hD hS hl
  refine va_new o.1.1 o.1.2.1 o.1.2.2.2.2 hin ty hty o.1.2.2.2.1 (o.1.2.2.2.2 _ hcl) (o.1.2.2.2.2 _ hinst) (o.1.2.2.2.2 _ hini) o.2.1 hP hD hS o.2.2.1 hc hfs hcells hslots hdg (fun q H1 hP1 hD1 hS1 => ?_)
  intro T9 hT9 X9
  have hq := new_at hP1 hD1 (fun q h => (hA q).mp h) (by have := X9.heapSize; rw [hT9] at this; omega)
  subst hq
  rw [wl_app] at hP1 hD1
  exact kk o H1 locs ls hP1 hD1 hS1 hl T9 hT9 X9
theorem v_newarr (j : Nat) (atype : ArrayType) {ty : FieldType} {z : Nat} {n : Int32} (len : Nat) (a0 : vp_A) (hz : s.heap.size + cells = z + N) (hA : ∀ q, A q ↔ z ≤ q) (harr : Cond.arrayClass (newarray.typeOf atype) ∈ Ts) (hty : newarray.typeOf atype = ty) (ht : (tysE E)[j]? = some (E j, ty)) (ha : ∀ cA : ClassId, vp_cell cA a0 = arrV cA len (fun _ => defaultValue ty)) (hn : n = nI len) (hb : len < 2 ^ 20) (hbytes : len * componentBytes ty ≤ 536870912) (hcells : cells + 1 ≤ R.cells) (hslots : slots + len ≤ R.slots) (hdg : decode cc pc = .ok (.newarray atype, 2))
    (kk : V p l e R s m args below meth c Q D E A cc nL own ret Ts (N + 1) (Gz z) (cells + 1) (slots + len) (va_up Φ N (.inl (E j, a0))) (pc + 2) loc (.ref (z + N) :: st)) : V p l e R s m args below meth c Q D E A cc nL own ret Ts N (Gz z) cells slots Φ pc loc (.int n :: st) := by
  intro o H locs ls hP hD hS hl
  subst hn
  refine va_newa o.1.1 o.1.2.1 (o.1.2.2.2.2 _ harr) hty o.2.1 hP hD hS o.2.2.1 (N' := len) (a0 := a0) ha (nI_pos (by omega)) (nI_clamp (by omega)) hbytes hcells hslots hdg (fun q cA H1 hK1 hP1 hD1 hS1 => ?_)
  have hcA : cA = E j := va_RA_eq (hK1.2 7 (cA, ty) rfl).2 (o.2.1.2 j _ ht).2
  subst hcA
  intro T9 hT9 X9
  have hq := new_at hP1 hD1 (fun q h => (hA q).mp h) (by have := X9.heapSize; rw [hT9] at this; omega)
  subst hq
  rw [wl_app] at hP1 hD1
  exact kk o H1 locs ls hP1 hD1 hS1 hl T9 hT9 X9
theorem v_anew (j : Nat) {C : String} {z index : Nat} {n : Int32} (len : Nat) (hz : s.heap.size + cells = z + N) (hA : ∀ q, A q ↔ z ≤ q) (hO : StA s) (hC : C ∈ aoC) (hcl : Cond.classLink own index C ∈ Ts) (ht : (tysE E)[j]? = some (E j, .object C)) (hn : n = nI len) (hb : len < 2 ^ 20) (hcells : cells + 1 ≤ R.cells) (hslots : slots + len ≤ R.slots) (hdg : decode cc pc = .ok (.anewarray index, 3))
    (kk : V p l e R s m args below meth c Q D E A cc nL own ret Ts (N + 1) (Gz z) (cells + 1) (slots + len) (va_up Φ N (.inl (E j, len, .inr (.inr (.inr (.inr (fun _ => none))))))) (pc + 3) loc (.ref (z + N) :: st)) : V p l e R s m args below meth c Q D E A cc nL own ret Ts N (Gz z) cells slots Φ pc loc (.int n :: st) := by
  intro o H locs ls hP hD hS hl
  subst hn
  refine va_newq o.1.1 o.1.2.1 o.1.2.2.2.1 (o.1.2.2.2.2 _ hcl) (hO C hC) o.2.1 hP hD hS o.2.2.1 (N' := len) (nI_pos (by omega)) (nI_clamp (by omega)) (by omega) hcells hslots hdg (fun q cA H1 hK1 hP1 hD1 hS1 => ?_)
  have hcA : cA = E j := va_RA_eq (hK1.2 7 (cA, .object C) rfl).2 (o.2.1.2 j _ ht).2
  subst hcA
  intro T9 hT9 X9
  have hq := new_at hP1 hD1 (fun q h => (hA q).mp h) (by have := X9.heapSize; rw [hT9] at this; omega)
  subst hq
  rw [wl_app] at hP1 hD1
  exact kk o H1 locs ls hP1 hD1 hS1 hl T9 hT9 X9
theorem v_putF {n ci NF k index : Nat} {C ref : String} {T : u_T} {fs : List Value} {v : Value} {ty : FieldType} (hn : n < N) (hΦ : Φ n = .inr (ci, fs)) (hc : vwCl[ci]? = some (C, T, NF)) (hin : ∀ w ∈ u_ws C T NF, w ∈ Ts) (ty0 : Nat → FieldType) (hty : ∀ k, k < NF → parseFieldDescriptor (T k).2.2.1 = some (ty0 k)) (hnm : ∀ a, a < NF → ∀ b, b < NF → a ≠ b → (T a).2.1 ≠ (T b).2.1) (hk : k < NF) (hlink : Cond.fieldLink own index ref (T k).2.1 (T k).2.2.1 ∈ Ts) (href : (T k).1 = ref) (hfin : (T k).2.2.2 = true) (hin2 : meth.name = "<init>") (hdecl : (T k).1 = own) (hd : parseFieldDescriptor (T k).2.2.1 = some ty) (hnr : narrow ty v = v) (hfit : fits ty v = true) (hlen : k < fs.length) (hdg : decode cc pc = .ok (.putfield index, 3))
    (kk : V p l e R s m args below meth c Q D E A cc nL own ret Ts N G cells slots (va_up Φ n (.inr (ci, fs.set k v))) (pc + 3) loc st) : V p l e R s m args below meth c Q D E A cc nL own ret Ts N G cells slots Φ pc loc (v :: .ref (G n) :: st) := fun o H locs ls hP hD hS hl => va_putF o.1.1 o.1.2.1 o.1.2.2.2.2 hin ty0 hty hnm o.1.2.2.2.1 o.2.1 hP hD hS n (by rw [wl_at hn, hΦ]) hc k hk (o.1.2.2.2.2 _ hlink) (fun _ h => href ▸ h) hfin hin2 hdecl hd hnr hfit hlen hdg (fun H1 locs1 hP1 hD1 hS1 => kk o H1 locs1 ls (wl_set (G := G) (Φ := Φ) hn ▸ hP1) (wl_set (G := G) (Φ := Φ) hn ▸ hD1) hS1 hl)
theorem v_aast (j : Nat) {ci NF : Nat} {C : String} {T : u_T} {n k len : Nat} {f : Nat → Option Nat} {fs : List Value} (i : Nat) {x : Int32} (hn : n < N) (hk : k < N) (hΦ : Φ n = .inl (E j, len, .inr (.inr (.inr (.inr f))))) (ht : (tysE E)[j]? = some (E j, .object C)) (hΨ : Φ k = .inr (ci, fs)) (hc : vwCl[ci]? = some (C, T, NF)) (hx : x = nI i) (hi : i < len) (hb : len < 2 ^ 31) (hdg : decode cc pc = .ok (.aastore, 1))
    (kk : V p l e R s m args below meth c Q D E A cc nL own ret Ts N G cells slots (va_up Φ n (.inl (E j, len, .inr (.inr (.inr (.inr (va_up f i (some (G k))))))))) (pc + 1) loc st) : V p l e R s m args below meth c Q D E A cc nL own ret Ts N G cells slots Φ pc loc (.ref (G k) :: .int x :: .ref (G n) :: st) := by
  intro o H locs ls hP hD hS hl
  subst hx
  refine va_astq o.1.1 o.1.2.1 o.2.1 hP hD hS n j k ci (a := G n) (v := G k) (f := f) (n := len) (cA := E j) (r := (C, T, NF)) (by rw [wl_at hn, hΦ]) ht (by rw [wl_at hk, hΨ]) hc (vp_in_nI hi hb) hdg (fun H1 locs1 hP1 hD1 hS1 => ?_)
  rw [nI_clamp (Nat.lt_trans hi hb), wl_set hn] at hP1 hD1
  exact kk o H1 locs1 ls hP1 hD1 hS1 hl
theorem v_objInit {index a : Nat} (hlink : Cond.methodLink own index objectInit ∈ Ts) (hinst : Cond.instanceMethod objectInit ∈ Ts) (hcode : Cond.code objectInit ⟨#[0xb1]⟩ 1 none ∈ Ts) (hdg : decode cc pc = .ok (.invokespecial index, 3)) (hf : 1 ≤ R.frames) (hlo : (st.map fun v => v.category).sum + 12 ≤ R.locals) (kk : V p l e R s m args below meth c Q D E A cc nL own ret Ts N G cells slots Φ (pc + 3) loc st) : V p l e R s m args below meth c Q D E A cc nL own ret Ts N G cells slots Φ pc loc (.ref a :: st) :=
  fun o H locs ls hP hD hS hl => W.objInit o.1.1 o.1.2.1 o.1.2.2.2.1 (o.1.2.2.2.2 _ hlink) (o.1.2.2.2.2 _ hinst) (o.1.2.2.2.2 _ hcode) rfl (hl.1.trans o.1.2.2.1.symm) rfl hdg hf (by show 2 * 0 + _ + 12 ≤ _; omega) (kk o H locs ls hP hD hS hl)
theorem v_gret {z N0 N' ms : Nat} {post : (Nat → va_E) → Prop} (hr : ret = none) (hsz : s.heap.size = z + N0) (hN : N = N') (hce : cells = N' - N0) (hsl : slots = ms) (hdg : decode cc pc = .ok (.return_, 1)) (hq : post Φ) : V p l e R s m args below meth c (QG below D z N0 N' ms post args s) D E (AG N0 (Gz z) (z + N0)) cc nL own ret Ts N (Gz z) cells slots Φ pc loc [] := by
  subst hN; subst hce; subst hsl
  exact fun o H locs ls hP hD hS hl => W.vret o.1.1 o.1.2.1 (by rw [o.2.2.2.2.1, hr]) (fun t ht hW => ⟨⟨Φ, rfl, by rw [ht]; exact hP, hq⟩, hS.F ht⟩) hS.2.2 hdg o.2.2.2.1
end RN
