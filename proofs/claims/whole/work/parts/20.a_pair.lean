/-! ONE CALL ON BOTH OBJECTS -/
def Ck (σ : Nat → Nat → Int32) (a : AB) : Prop := Cl σ a ∧ σ 5 3 = nI 0
def WO (k : Nat) (v' : Int32) (σ : Nat → Nat → Int32) (a' : AB) (v : Option Value) (τ : Nat → Nat → Int32) : Prop := v = some (.int (nI k)) ∧ Ck τ a' ∧ (k = 0 → τ 788 0 = v') ∧ ∀ n, 781 ≤ n → n < 788 → τ n = σ n
def MOu (k : Nat) (v' : Int32) (σ : Nat → Nat → Int32) (a' : AB) (v : Option Value) (τ : Nat → Nat → Int32) : Prop := (∃ w, v = some (.int w) ∧ (k = 0 → w = v')) ∧ τ 781 0 = nI k ∧ Mo τ a' ∧ ∀ n, n < 781 ∨ n = 788 → τ n = σ n
def Pair (lu : Launch) (Dg : va_G) (E : Nat → ClassId) (N : Nat) (G : Nat → Nat) (shp : Nat → (Nat → Int32) → va_E) (σ : Nat → Nat → Int32) (a : AB) (T : Nat) (yw : MethodName) (ww : List Cond) (rw : Room) (aw : List Value) (y6 : MethodName) (w6 : List Cond) (r6 : Room) (a6 : List Value) : Prop :=
  ∃ (k : Nat) (v' : Int32) (a' : AB), k ≤ 3 ∧ Go (T + 1000) a' ∧ CW lu yw ww rw Dg E N G shp σ aw (WO k v' σ a') ∧ ∀ σ2, Mo σ2 a → CX lu y6 w6 r6 Dg E N G shp σ2 a6 (MOu k v' σ2 a')
/-- the same where the class is called by itself -/
def Pair0 (lu : Launch) (Dg : va_G) (E : Nat → ClassId) (N : Nat) (G : Nat → Nat) (shp : Nat → (Nat → Int32) → va_E) (σ : Nat → Nat → Int32) (a : AB) (T : Nat) (yw : MethodName) (ww : List Cond) (rw : Room) (aw : List Value) (y6 : MethodName) (w6 : List Cond) (r6 : Room) (a6 : List Value) : Prop :=
  ∃ (v' : Int32) (a' : AB), Go (T + 1000) a' ∧ CX lu yw ww rw Dg E N G shp σ aw (fun v τ => v = some (.int v') ∧ Ck τ a' ∧ ∀ n, 781 ≤ n → n < 789 → τ n = σ n) ∧ ∀ σ2, Mo σ2 a → CX lu y6 w6 r6 Dg E N G shp σ2 a6 (MOu 0 v' σ2 a')
section PA9
variable {lu : Launch} {Dg : va_G} {E : Nat → ClassId} {N : Nat} {G : Nat → Nat} {shp : Nat → (Nat → Int32) → va_E} {σ σ1 τ : Nat → Nat → Int32} {a a' : AB} {T : Nat} {y yw y6 : MethodName} {ws ww w6 : List Cond} {rm rw r6 : Room} {args aw a6 : List Value} {c : Nat → Int32}
theorem Ck.far (h : Ck σ a) (e : ∀ n, n < 781 → τ n = σ n) : Ck τ a := ⟨h.1.cong e, by rw [e 5 (by omega)]; exact h.2⟩
theorem rd0 {x v' : Int32} (h : CS lu y ws rm Dg E N G shp τ args (some (.int x)) σ1) (e : τ = σ) (ex : x = v') : CX lu y ws rm Dg E N G shp σ args (fun v t => ∃ z, v = some (.int z) ∧ (z = v' ∧ t = σ1)) :=
  (h.x.pre e).to (fun v t hh => ⟨x, hh.1, ex, hh.2⟩)
theorem th0 {X : String} (h : Thr lu y ws rm Dg E N G (φ shp τ) args X) (e : τ = σ) : Thr2 lu y ws rm Dg E N G (φ shp σ) (φ shp σ) args X := e ▸ h.two
/-- refused by both -/
theorem Pair.f {k : Nat} {w : Int32} (hk0 : k ≠ 0) (hk3 : k ≤ 3) (hC : Ck σ a) (hG : Go T a) (hT : T ≤ 990000) (hW : CW lu yw ww rw Dg E N G shp σ aw (fun v t => v = some (.int (nI k)) ∧ t = σ))
    (h6 : ∀ σ2, Mo σ2 a → CS lu y6 w6 r6 Dg E N G shp (mk7 σ2 781 (σ2 781) a.1 (σ2 783) (σ2 784) (σ2 785) (σ2 786) (σ2 787)) a6 (some (.int w)) (mk7 σ2 781 (upd (σ2 781) 0 (nI k)) a.1 (σ2 783) (σ2 784) (σ2 785) (σ2 786) (σ2 787))) : Pair lu Dg E N G shp σ a T yw ww rw aw y6 w6 r6 a6 := by
  refine ⟨k, 0, a, hk3, hG.mono (by omega) (by omega), hW.to (fun v t hh => ⟨hh.1, hh.2 ▸ hC, fun hz => absurd hz hk0, fun n _ _ => by rw [hh.2]⟩), fun σ2 h2 => ((h6 σ2 h2).x.pre h2.form).to (fun v t hh => ⟨⟨w, hh.1, fun hz => absurd hz hk0⟩, ?_, ?_, fun n hn => ?_⟩)⟩
  · rw [hh.2, mk7_0, upd_ap, if_pos rfl]
  · rw [hh.2]; exact h2.q (fun i hi => by rw [upd_ap, if_neg (by omega)])
  · rw [hh.2]; exact mk7_far hn
/-- answered by both, nothing changed but the answer's places -/
theorem Pair.q {v' : Int32} (hC : Ck σ1 a) (hf : ∀ n, 781 ≤ n → n < 788 → σ1 n = σ n) (hG : Go T a) (hT : T ≤ 990000) (hW : CW lu yw ww rw Dg E N G shp σ aw (fun v t => ∃ x τ0, v = some (.int (nI 0)) ∧ t = st2 τ0 788 0 x ∧ (x = v' ∧ τ0 = σ1)))
    (h6 : ∀ σ2, Mo σ2 a → CX lu y6 w6 r6 Dg E N G shp (mk7 σ2 781 (σ2 781) a.1 (σ2 783) (σ2 784) (σ2 785) (σ2 786) (σ2 787)) a6 (fun v t => v = some (.int v') ∧ ∃ g2, (∀ i, i < 358 * 0 → g2 i = σ2 783 i) ∧ t = mk7 σ2 781 (upd (σ2 781) 0 (nI 0)) a.1 g2 (σ2 784) (σ2 785) (σ2 786) (σ2 787))) : Pair lu Dg E N G shp σ a T yw ww rw aw y6 w6 r6 a6 := by
  refine ⟨0, v', a, by omega, hG.mono (by omega) (by omega), hW.to (fun v t hh => ?_), fun σ2 h2 => ((h6 σ2 h2).pre h2.form).to (fun v t hh => ?_)⟩
  · obtain ⟨x, τ0, h1, h2, h3, h4⟩ := hh
    refine ⟨h1, hC.far (fun n hn => by rw [h2, h4, st2_row _ (by omega)]), fun _ => by rw [h2, st2_eq, if_pos ⟨rfl, rfl⟩]; exact h3, fun n g1 g2 => ?_⟩
    rw [h2, h4, st2_row _ (by omega)]; exact hf n g1 g2
  · obtain ⟨h1, g2, -, h3⟩ := hh
    refine ⟨⟨v', h1, fun _ => rfl⟩, ?_, ?_, fun n hn => ?_⟩
    · rw [h3, mk7_0, upd_ap, if_pos rfl]
    · rw [h3]; exact h2.q (fun i hi => by rw [upd_ap, if_neg (by omega)])
    · rw [h3]; exact mk7_far hn
theorem CS.toq {v' w : Int32} {σ2 : Nat → Nat → Int32} {g0 g1 f2 g3 g4 g5 g6 : Nat → Int32} (h : CS lu y6 w6 r6 Dg E N G shp τ a6 (some (.int w)) (mk7 σ2 781 g0 g1 f2 g3 g4 g5 g6)) (e : w = v') : CX lu y6 w6 r6 Dg E N G shp τ a6 (fun v t => v = some (.int v') ∧ ∃ g2, (∀ i, i < 358 * 0 → g2 i = f2 i) ∧ t = mk7 σ2 781 g0 g1 g2 g3 g4 g5 g6) :=
  h.x.to (fun v t hh => ⟨by rw [hh.1, e], f2, fun i _ => rfl, hh.2⟩)
/-- done by both -/
theorem Pair.act {v' : Int32} (hC : Ck σ1 a') (hf : ∀ n, 781 ≤ n → n < 788 → σ1 n = σ n) (hG : Go (T + 1000) a') (hW : CW lu yw ww rw Dg E N G shp σ aw (fun v t => ∃ x τ0, v = some (.int (nI 0)) ∧ t = st2 τ0 788 0 x ∧ (x = v' ∧ τ0 = σ1)))
    (h6 : ∀ σ2, Mo σ2 a → ∃ g0 g1 g2 g3 g4 g5 g6, CS lu y6 w6 r6 Dg E N G shp (mk7 σ2 781 (σ2 781) a.1 (σ2 783) (σ2 784) (σ2 785) (σ2 786) (σ2 787)) a6 (some (.int v')) (mk7 σ2 781 g0 g1 g2 g3 g4 g5 g6) ∧ g0 0 = nI 0 ∧ Mo (mk7 σ2 781 g0 g1 g2 g3 g4 g5 g6) a') : Pair lu Dg E N G shp σ a T yw ww rw aw y6 w6 r6 a6 := by
  refine ⟨0, v', a', by omega, hG, hW.to (fun v t hh => ?_), fun σ2 h2 => ?_⟩
  · obtain ⟨x, τ0, h1, h2, h3, h4⟩ := hh
    refine ⟨h1, hC.far (fun n hn => by rw [h2, h4, st2_row _ (by omega)]), fun _ => by rw [h2, st2_eq, if_pos ⟨rfl, rfl⟩]; exact h3, fun n g1 g2 => ?_⟩
    rw [h2, h4, st2_row _ (by omega)]; exact hf n g1 g2
  · obtain ⟨g0, g1, g2, g3, g4, g5, g6, k1, k2, k3⟩ := h6 σ2 h2
    exact (k1.x.pre h2.form).to (fun v t hh => ⟨⟨v', hh.1, fun _ => rfl⟩, by rw [hh.2, mk7_0]; exact k2, hh.2 ▸ k3, fun n hn => by rw [hh.2]; exact mk7_far hn⟩)
end PA9
/-! the places of refusal -/
theorem comeFl_1 {s : Nat → Int32} {x y : Int32} (h : ¬ Rg (tn (s 1)) x) : comeFl s x y = 1 := by unfold comeFl; rw [ic_t h]
theorem comeFl_2 {s : Nat → Int32} {x y : Int32} (h : Rg (tn (s 1)) x) (h2 : ¬ Rg 3 y) : comeFl s x y = 2 := by unfold comeFl; rw [ic_f (fun z => z h), ic_t h2]
theorem comeFl_3 {s : Nat → Int32} {x y : Int32} (h : Rg (tn (s 1)) x) (h2 : Rg 3 y) (h3 : ¬ comeFl s x y = 0) : comeFl s x y = 3 := by
  unfold comeFl at h3 ⊢
  rw [ic_f (fun z => z h), ic_f (fun z => z h2)] at h3 ⊢
  unfold ic at h3 ⊢
  split
  · rfl
  · rename_i q; rw [if_neg q] at h3; exact absurd rfl h3
theorem goFl_1 {s : Nat → Int32} {x : Int32} (h : ¬ Rg (tn (s 2)) x) : goFl s x = 1 := by unfold goFl; rw [ic_t h]
theorem goFl_2 {s : Nat → Int32} {x : Int32} (h : Rg (tn (s 2)) x) (h2 : ¬ s (58 + 10 * tn x + 5) = 0) : goFl s x = 2 := by unfold goFl; rw [ic_f (fun z => z h), ic_f h2]
theorem exchFl_1 {s : Nat → Int32} {x y : Int32} (h : ¬ Rg (tn (s 2)) x ∨ ¬ Rg (tn (s 2)) y) : exchFl s x y = 1 := by unfold exchFl; rw [ic_t h]
theorem exchFl_2 {s : Nat → Int32} {x y : Int32} (h : Rg (tn (s 2)) x) (h2 : Rg (tn (s 2)) y) (h3 : ¬ MayX s (tn x) (tn y)) : exchFl s x y = 2 := by unfold exchFl; rw [ic_f (fun z => z.elim (fun z => z h) (fun z => z h2)), ic_f h3]
theorem jumpFl_1 {s : Nat → Int32} {x : Int32} (h : ¬ Rg (tn (s 2)) x) : jumpFl s x = 1 := by unfold jumpFl; rw [ic_t h]
theorem jumpFl_2 {s : Nat → Int32} {x : Int32} (h : Rg (tn (s 2)) x) (h2 : ¬ MayJ s (tn x)) : jumpFl s x = 2 := by unfold jumpFl; rw [ic_f (fun z => z h), ic_f h2]
theorem mergeFl_1 {s : Nat → Int32} {x y : Int32} (h : ¬ Rg (tn (s 1)) x ∨ ¬ Rg (tn (s 1)) y) : mergeFl s x y = 1 := by unfold mergeFl; rw [ic_t h]
theorem mergeFl_2 {s : Nat → Int32} {x y : Int32} (h : Rg (tn (s 1)) x) (h2 : Rg (tn (s 1)) y) (h3 : x = y) : mergeFl s x y = 2 := by unfold mergeFl; rw [ic_f (fun z => z.elim (fun z => z h) (fun z => z h2)), ic_t h3]
theorem mergeFl_3 {s : Nat → Int32} {x y : Int32} (h : Rg (tn (s 1)) x) (h2 : Rg (tn (s 1)) y) (h3 : ¬ x = y) (h4 : ¬ mergeFl s x y = 0) : mergeFl s x y = 3 := by
  unfold mergeFl at h4 ⊢
  rw [ic_f (fun z => z.elim (fun z => z h) (fun z => z h2)), ic_f h3] at h4 ⊢
  unfold ic at h4 ⊢
  split
  · rename_i q; rw [if_pos q] at h4; exact absurd rfl h4
  · rfl
