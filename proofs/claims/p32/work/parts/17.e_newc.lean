/-! CALLS OF CONSTRUCTORS -/
section RG
variable {p : Program} {l : Launch} {e : Env} {R : Room} {s : State} {m : MethodId} {args : Array Value} {below : List Frame} {meth : Method} {c : Code} {Q : State → Prop} {D : va_G} {E : Nat → ClassId} {A : Nat → Prop} {cc : ByteArray} {nL : Nat} {own : String} {ret : Option FieldType} {Ts : List Cond} {N : Nat} {cells slots : Nat} {Φ : Nat → va_E} {pc : Nat} {loc : List (Nat × Value)} {st : List Value} {z N1 ms : Nat} {post : (Nat → va_E) → Prop} {rest st0 : List Value} {a : Array Value}
theorem v_gRun (hz0 : z ≤ s.heap.size) (hz : s.heap.size + cells = z + N) (hA : ∀ q, A q ↔ z ≤ q)
    (hr : OkV p s m args meth c D E A cc nL own ret Ts → ∀ (H : Heap) (locs : List Loc) (ls : Array Slot), H.size = z + N → va_P D vwCl (wl N (Gz z) Φ) H → va_D A (wl N (Gz z) Φ) → va_S A s.heap H locs → lv_has ls nL loc → va_Run p l e R s m args below meth c H locs cells slots (N1 - N) ms (F0 m pc ls st0) rest (QcG D z N N1 post a) (AG N (Gz z) (z + N)))
    (kk : ∀ Φ', post Φ' → V p l e R s m args below meth c Q D E A cc nL own ret Ts N1 (Gz z) (cells + (N1 - N)) (slots + ms) Φ' (pc + 3) loc rest) : V p l e R s m args below meth c Q D E A cc nL own ret Ts N (Gz z) cells slots Φ pc loc st0 := by
  intro o H locs ls hP hD hS hl T hT X
  have hsz : H.size = z + N := by
    have h1 := X.heapSize
    rw [hT] at h1
    have h2 := gz_lt hP (Nat.le_trans hz0 hS.1)
    omega
  obtain ⟨v, st₀, t, T', L, h0, X', hL, e1, e2, ⟨⟨Φ', hv, hb, hp⟩, hzz, hk⟩, st⟩ := hr o H locs ls hsz hP hD hS hl T hT X
  cases hv
  rw [h0] at hzz hk
  have hAA : ∀ q, AG N (Gz z) (z + N) q → A q := fun q h => (hA q).mpr (AG_z.mp h)
  obtain ⟨t2, a1, b1⟩ := kk Φ' hp o T'.heap (locs ++ L) ls (by rw [e1]; exact hb) (gz_D (fun q h => (hA q).mpr h))
    ⟨Nat.le_trans hS.1 (by rw [e1]; exact hzz), fun q h1 h2 => by rw [e1, hk q (Nat.lt_of_lt_of_le h1 hS.1) (fun w => h2 (hAA q w))]; exact hS.2.1 q h1 h2, fun q hq => by
      rcases List.mem_append.mp hq with h | h
      · exact hS.2.2 q h
      · exact hAA _ (hL q h)⟩ hl T' rfl X'
  exact ⟨t2, st t2 a1, b1⟩
theorem n_pre {vargs : List Value} (hX : StX A s) (hO : StA s) (hA : ∀ q, A q ↔ z ≤ q) (o : OkV p s m args meth c D E A cc nL own ret Ts) {H : Heap} {locs : List Loc} (hsz : H.size = z + N) (hP : va_P D vwCl (wl N (Gz z) Φ) H) (hD : va_D A (wl N (Gz z) Φ)) (hS : va_S A s.heap H locs) : ∀ U : State, U.heap = H → s.WarmedH U.vm → PcN D E z N Φ vargs vargs.toArray U := by
  intro U hU hW
  have h1 := v_pre (vargs := vargs) o hP hD hS U hU hW
  rw [hsz] at h1
  exact ⟨⟨h1, hX.warm (by rw [hU]; exact hS) hW (fun q h => (hA q).mpr (AG_z.mp h))⟩, hO.moved hW.alike⟩
/-- a constructor, by its own name -/
theorem v_callGI {y : MethodName} {bytes : ByteArray} {maxL n index : Nat} {ws ws' : List Cond} {rm : Room} (hX : StX A s) (hO : StA s) (hz0 : z ≤ s.heap.size) (hz : s.heap.size + cells = z + N) (hA : ∀ q, A q ↔ z ≤ q) (hM : ConG l y ws rm D E z N N1 ms Φ [.ref (Gz z n)] post) (hG : GoodIn Ts ws) (hlk : Cond.methodLink own index y ∈ Ts) (hini : Cond.initialized y.cls ∈ Ts) (hinst : Cond.instanceMethod y ∈ Ts) (hy1 : y.name = "<init>") (hw : ws = Cond.code y bytes maxL none :: ws') (hrc : rm.cells = N1 - N) (hrs : rm.slots = ms) (hd : y.cls ≠ "java/lang/invoke/MethodHandle" ∧ y.cls ≠ "java/lang/invoke/VarHandle" ∧ (parseMethodDescriptor y.desc).map (fun d => d.parameters.length) = some 0) (hR : rm.frames + 1 ≤ R.frames ∧ 8 + (maxL + 11) + rm.locals ≤ R.locals) (hcs : cells + (N1 - N) ≤ R.cells ∧ slots + ms ≤ R.slots) (hcat : (rest.map fun v => v.category).sum ≤ 8) (hst : st0 = .ref (Gz z n) :: rest) (hdg : decode cc pc = .ok (.invokespecial index, 3))
    (kk : ∀ Φ', post Φ' → V p l e R s m args below meth c Q D E A cc nL own ret Ts N1 (Gz z) (cells + (N1 - N)) (slots + ms) Φ' (pc + 3) loc rest) : V p l e R s m args below meth c Q D E A cc nL own ret Ts N (Gz z) cells slots Φ pc loc st0 :=
  v_gRun hz0 hz hA (fun o H locs ls hsz hP hD hS hl => va_runI (As := []) (rest := rest) o.1 hM (cwI 0 o.1.2.2.2.2 hG hw hrc hrs (o.1.2.2.2.2 _ hini) (o.1.2.2.2.2 _ hlk) (o.1.2.2.2.2 _ hinst) hy1 hd hR) ⟨n_blind, n_pre hX hO hA o hsz hP hD hS⟩ rfl rfl hl.1 hst (lv_room hcat) hdg hcs) kk
/-- a constructor that a nest mate made private -/
theorem v_callGN {y : MethodName} {host : String} {bytes : ByteArray} {maxL n index : Nat} {ws ws' : List Cond} {rm : Room} (hX : StX A s) (hO : StA s) (hz0 : z ≤ s.heap.size) (hz : s.heap.size + cells = z + N) (hA : ∀ q, A q ↔ z ≤ q) (hM : ConG l y ws rm D E z N N1 ms Φ [.ref (Gz z n)] post) (hG : GoodIn Ts ws) (hnw : Cond.methodLinkNest own index y host ∈ nestW) (hini : Cond.initialized y.cls ∈ Ts) (hinst : Cond.instanceMethod y ∈ Ts) (hy1 : y.name = "<init>") (hw : ws = Cond.code y bytes maxL none :: ws') (hrc : rm.cells = N1 - N) (hrs : rm.slots = ms) (hd : y.cls ≠ "java/lang/invoke/MethodHandle" ∧ y.cls ≠ "java/lang/invoke/VarHandle" ∧ (parseMethodDescriptor y.desc).map (fun d => d.parameters.length) = some 0) (hR : rm.frames + 1 ≤ R.frames ∧ 8 + (maxL + 11) + rm.locals ≤ R.locals) (hcs : cells + (N1 - N) ≤ R.cells ∧ slots + ms ≤ R.slots) (hcat : (rest.map fun v => v.category).sum ≤ 8) (hst : st0 = .ref (Gz z n) :: rest) (hdg : decode cc pc = .ok (.invokespecial index, 3))
    (kk : ∀ Φ', post Φ' → V p l e R s m args below meth c Q D E A cc nL own ret Ts N1 (Gz z) (cells + (N1 - N)) (slots + ms) Φ' (pc + 3) loc rest) : V p l e R s m args below meth c Q D E A cc nL own ret Ts N (Gz z) cells slots Φ pc loc st0 :=
  v_gRun hz0 hz hA (fun o H locs ls hsz hP hD hS hl => va_runIN (As := []) (rest := rest) o.1 hM ⟨va_cnB 0 o.1.2.2.2.2 hG hw hrc hrs (o.2.2.2.2.2.2 _ hnw) (o.1.2.2.2.2 _ hini) hd hR, hy1, o.1.2.2.2.2 _ hinst⟩ ⟨n_blind, n_pre hX hO hA o hsz hP hD hS⟩ rfl rfl hl.1 hst (lv_room hcat) hdg hcs) kk
theorem v_eqΦ {Φ' : Nat → va_E} {G : Nat → Nat} (h : Φ = Φ') (k : V p l e R s m args below meth c Q D E A cc nL own ret Ts N G cells slots Φ' pc loc st) : V p l e R s m args below meth c Q D E A cc nL own ret Ts N G cells slots Φ pc loc st := h ▸ k
theorem v_nc {N' cells' slots' : Nat} {G : Nat → Nat} (h1 : N = N') (h2 : cells = cells') (h3 : slots = slots') (k : V p l e R s m args below meth c Q D E A cc nL own ret Ts N' G cells' slots' Φ pc loc st) : V p l e R s m args below meth c Q D E A cc nL own ret Ts N G cells slots Φ pc loc st := by subst h1; subst h2; subst h3; exact k
end RG
theorem dn_ind {P : Nat → Prop} {M : Nat} (hM : P M) (st : ∀ j, j < M → P (j + 1) → P j) : P 0 := by
  have key : ∀ k j, j + k = M → P j := by
    intro k
    induction k with
    | zero => intro j hj; have e : j = M := by omega
              rw [e]; exact hM
    | succ k ih => intro j hj; exact st j (by omega) (ih (j + 1) (by omega))
  exact key M 0 (by omega)
theorem va_up_fix {α : Type} {Ψ : Nat → α} {n : Nat} {e : α} (h : Ψ n = e) : va_up Ψ n e = Ψ := by
  funext i
  by_cases q : i = n
  · rw [q, va_up_self, h]
  · rw [va_up_ne _ _ q]
theorem va_up2 {α : Type} {Ψ : Nat → α} {n : Nat} {x y : α} : va_up (va_up Ψ n x) n y = va_up Ψ n y := by
  funext i
  by_cases q : i = n
  · rw [q, va_up_self, va_up_self]
  · rw [va_up_ne _ _ q, va_up_ne _ _ q, va_up_ne _ _ q]
theorem va_up3 {α : Type} {Ψ : Nat → α} {n k : Nat} {x y r : α} (hk : k ≠ n) (h1 : Ψ k = r) (h2 : Ψ n = y) : va_up (va_up (va_up Ψ n x) k r) n y = Ψ := by
  funext i
  by_cases q : i = n
  · rw [q, va_up_self, h2]
  · rw [va_up_ne _ _ q]
    by_cases q2 : i = k
    · rw [q2, va_up_self, h1]
    · rw [va_up_ne _ _ q2, va_up_ne _ _ q]
