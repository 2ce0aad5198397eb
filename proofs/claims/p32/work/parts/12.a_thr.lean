/-! WHAT A WALK READS OF THE MACHINE BESIDE THE WORLD: the class's own private table, seen from its nest mate -/
def xcW : List Cond := [.fieldLinkNest RX1 56 "StoodMinutes" "SETTING_AT_FIRST" "[I" "StoodMinutes"]
def StX (_A : Nat → Prop) (s : State) : Prop := ∀ w ∈ xcW, va_Nw w s
theorem StX.warm {A B : Nat → Prop} {s U : State} {locs : List Loc} (h : StX A s) (_hS : va_S A s.heap U.heap locs) (hW : s.WarmedH U.vm) (_hAB : ∀ q, B q → A q) : StX B U := fun w hw => by
  have h1 := h w hw
  simp only [xcW, List.mem_cons, List.not_mem_nil, or_false] at hw
  subst hw
  exact va_Nw.warmF hW h1
theorem StX.same {A : Nat → Prop} {s U : State} (h : StX A s) (_hh : U.heap = s.heap) (hv : s.vm = U.vm) : StX A U := fun w hw => by
  have h1 := h w hw
  simp only [xcW, List.mem_cons, List.not_mem_nil, or_false] at hw
  subst hw
  exact va_Nw.same rfl hv h1

/-! METHODS THAT THROW: the world stays; what the machine's own throwing reads -/
def PcX (D : va_G) (E : Nat → ClassId) (N : Nat) (G : Nat → Nat) (Φ : Nat → va_E) (vargs : List Value) (sz : Nat) : Array Value → State → Prop := fun a U => PcV D E N G Φ vargs sz a U ∧ StX (AG N G sz) U
theorem x_blind {D : va_G} {E : Nat → ClassId} {N : Nat} {G : Nat → Nat} {Φ : Nat → va_E} {vargs : List Value} {sz : Nat} : FrameBlind (PcX D E N G Φ vargs sz) := by
  intro a U g mk q
  exact ⟨v_blind a U g mk q.1, q.2.same rfl rfl⟩
section XR
variable {p : Program} {l : Launch} {e : Env} {R : Room} {s : State} {m : MethodId} {args : Array Value} {below : List Frame} {meth : Method} {c : Code} {Q : State → Prop} {D : va_G} {E : Nat → ClassId} {A : Nat → Prop} {cc : ByteArray} {nL : Nat} {own : String} {ret : Option FieldType} {Ts : List Cond} {N : Nat} {G : Nat → Nat} {cells slots : Nat} {Φ : Nat → va_E} {pc : Nat} {loc : List (Nat × Value)} {st : List Value}
end XR
