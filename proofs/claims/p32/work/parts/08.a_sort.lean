/-! SORTING: the reference's way and the class's come to the same row -/
def kR (key : Nat → Nat) (x y : Nat) : Prop := key y < key x ∨ key x = key y ∧ x < y
noncomputable def kd (key : Nat → Nat) (x y : Nat) : Bool := decide (key y < key x) || (decide (key x = key y) && decide (x < y))
theorem kd_t {key : Nat → Nat} {x y : Nat} : kd key x y = true ↔ kR key x y := by
  simp [kd, kR]
/-- neighbours k and k + 1 change places -/
def sw (f : Nat → Nat) (k : Nat) : Nat → Nat := fun i => if i = k then f (k + 1) else if i = k + 1 then f k else f i
def SetE (M : Nat) (f g : Nat → Nat) : Prop := ∀ v, (∃ k, k < M ∧ f k = v) ↔ (∃ k, k < M ∧ g k = v)
def InjM (M : Nat) (f : Nat → Nat) : Prop := ∀ i j, i < M → j < M → f i = f j → i = j
def SrtM (key : Nat → Nat) (M : Nat) (f : Nat → Nat) : Prop := ∀ i j, i < j → j < M → kR key (f i) (f j)
theorem kR_tot {key : Nat → Nat} {x y : Nat} (h : x ≠ y) (h2 : ¬ kR key x y) : kR key y x := by
  unfold kR at *; omega
theorem kR_tr {key : Nat → Nat} {x y z : Nat} (h : kR key x y) (h2 : kR key y z) : kR key x z := by
  unfold kR at *; omega
theorem kR_as {key : Nat → Nat} {x y : Nat} (h : kR key x y) : ¬ kR key y x := by
  unfold kR at *; omega
theorem SetE.rf {M : Nat} {f : Nat → Nat} : SetE M f f := fun _ => Iff.rfl
theorem SetE.tr {M : Nat} {f g h : Nat → Nat} (a : SetE M f g) (b : SetE M g h) : SetE M f h := fun v => (a v).trans (b v)
theorem SetE.sm {M : Nat} {f g : Nat → Nat} (a : SetE M f g) : SetE M g f := fun v => (a v).symm
theorem sw_k {f : Nat → Nat} {k : Nat} : sw f k k = f (k + 1) := by simp [sw]
theorem sw_k1 {f : Nat → Nat} {k : Nat} : sw f k (k + 1) = f k := by simp [sw]
theorem sw_o {f : Nat → Nat} {k i : Nat} (h : i ≠ k) (h2 : i ≠ k + 1) : sw f k i = f i := by simp [sw, h, h2]
theorem sw_sw {f : Nat → Nat} {k : Nat} : sw (sw f k) k = f := by
  funext i
  by_cases h : i = k
  · subst h; rw [sw_k, sw_k1]
  · by_cases h2 : i = k + 1
    · subst h2; rw [sw_k1, sw_k]
    · rw [sw_o h h2, sw_o h h2]
theorem sw_in {f : Nat → Nat} {k M : Nat} (hk : k + 1 < M) {v : Nat} (h : ∃ j, j < M ∧ sw f k j = v) : ∃ j, j < M ∧ f j = v := by
  obtain ⟨j, hj, e⟩ := h
  by_cases h : j = k
  · subst h; rw [sw_k] at e; exact ⟨j + 1, hk, e⟩
  · by_cases h2 : j = k + 1
    · subst h2; rw [sw_k1] at e; exact ⟨k, by omega, e⟩
    · rw [sw_o h h2] at e; exact ⟨j, hj, e⟩
theorem sw_set {f : Nat → Nat} {k M : Nat} (hk : k + 1 < M) : SetE M (sw f k) f := fun v => ⟨sw_in hk, fun h => sw_in (f := sw f k) hk (by rw [sw_sw]; exact h)⟩
theorem sw_inj {f : Nat → Nat} {k M : Nat} (hk : k + 1 < M) (h : InjM M f) : InjM M (sw f k) := by
  intro i j hi hj e
  have key : ∀ x, x < M → ∃ y, y < M ∧ sw f k x = f y ∧ (x = k → y = k + 1) ∧ (x = k + 1 → y = k) ∧ (x ≠ k → x ≠ k + 1 → y = x) := by
    intro x hx
    by_cases h1 : x = k
    · subst h1; exact ⟨x + 1, hk, sw_k, fun _ => rfl, fun q => by omega, fun q => absurd rfl q⟩
    · by_cases h2 : x = k + 1
      · subst h2; exact ⟨k, by omega, sw_k1, fun q => by omega, fun _ => rfl, fun _ q => absurd rfl q⟩
      · exact ⟨x, hx, sw_o h1 h2, fun q => absurd q h1, fun q => absurd q h2, fun _ _ => rfl⟩
  obtain ⟨a, ha, ea, a1, a2, a3⟩ := key i hi
  obtain ⟨b, hb, eb, b1, b2, b3⟩ := key j hj
  have hab := h a b ha hb (by rw [← ea, ← eb]; exact e)
  omega
/-- one comparison of neighbours, as the reference does it -/
noncomputable def sst (key : Nat → Nat) (f : Nat → Nat) (k : Nat) : Nat → Nat := if kd key (f k) (f (k + 1)) = true then f else sw f k
noncomputable def spass (key : Nat → Nat) (f : Nat → Nat) : Nat → Nat → Nat | 0 => f | k + 1 => sst key (spass key f k) k
noncomputable def ssort (key : Nat → Nat) : Nat → (Nat → Nat) → Nat → Nat | 0, f => f | 1, f => f | m + 2, f => ssort key (m + 1) (spass key f (m + 1))
theorem sst_or (key : Nat → Nat) (f : Nat → Nat) (k : Nat) : (kR key (f k) (f (k + 1)) ∧ sst key f k = f) ∨ (¬ kR key (f k) (f (k + 1)) ∧ sst key f k = sw f k) := by
  by_cases h : kd key (f k) (f (k + 1)) = true
  · exact Or.inl ⟨kd_t.mp h, by unfold sst; rw [if_pos h]⟩
  · exact Or.inr ⟨fun q => h (kd_t.mpr q), by unfold sst; rw [if_neg h]⟩
theorem spass_ok {key : Nat → Nat} {f : Nat → Nat} : ∀ {m : Nat}, InjM (m + 1) f → (∀ i, i < m → kR key (spass key f m i) (spass key f m m)) ∧ SetE (m + 1) (spass key f m) f ∧ (∀ i, m < i → spass key f m i = f i) ∧ InjM (m + 1) (spass key f m)
  | 0, h => ⟨fun i hi => absurd hi (Nat.not_lt_zero i), SetE.rf, fun _ _ => rfl, h⟩
  | m + 1, h => by
    obtain ⟨i1, i2, i3, i4⟩ := spass_ok (key := key) (f := f) (m := m) (fun i j hi hj e => h i j (by omega) (by omega) e)
    have hinj : InjM (m + 1 + 1) (spass key f m) := by
      intro i j hi hj e
      by_cases hi2 : i = m + 1
      · by_cases hj2 : j = m + 1
        · omega
        · exfalso
          obtain ⟨j', hj', e'⟩ := (i2 (spass key f m j)).mp ⟨j, by omega, rfl⟩
          rw [hi2, i3 (m + 1) (by omega), ← e'] at e
          have := h _ _ (by omega) (by omega) e
          omega
      · by_cases hj2 : j = m + 1
        · exfalso
          obtain ⟨i', hi', e'⟩ := (i2 (spass key f m i)).mp ⟨i, by omega, rfl⟩
          rw [hj2, i3 (m + 1) (by omega), ← e'] at e
          have := h _ _ (by omega) (by omega) e
          omega
        · exact i4 i j (by omega) (by omega) e
    have hset : SetE (m + 1 + 1) (spass key f m) f := by
      intro v
      constructor
      · rintro ⟨k, hk, e⟩
        by_cases hk2 : k = m + 1
        · subst hk2; rw [i3 _ (by omega)] at e; exact ⟨m + 1, hk, e⟩
        · obtain ⟨k', hk', e'⟩ := (i2 v).mp ⟨k, by omega, e⟩
          exact ⟨k', by omega, e'⟩
      · rintro ⟨k, hk, e⟩
        by_cases hk2 : k = m + 1
        · subst hk2; exact ⟨m + 1, hk, by rw [i3 _ (by omega)]; exact e⟩
        · obtain ⟨k', hk', e'⟩ := (i2 v).mpr ⟨k, by omega, e⟩
          exact ⟨k', by omega, e'⟩
    show (∀ i, i < m + 1 → kR key (sst key (spass key f m) m i) (sst key (spass key f m) m (m + 1))) ∧ SetE (m + 1 + 1) (sst key (spass key f m) m) f ∧ (∀ i, m + 1 < i → sst key (spass key f m) m i = f i) ∧ InjM (m + 1 + 1) (sst key (spass key f m) m)
    rcases sst_or key (spass key f m) m with ⟨hr, e⟩ | ⟨hr, e⟩
    · rw [e]
      refine ⟨fun i hi => ?_, hset, fun i hi => i3 i (by omega), hinj⟩
      by_cases him : i = m
      · subst him; exact hr
      · exact kR_tr (i1 i (by omega)) hr
    · rw [e]
      refine ⟨fun i hi => ?_, (sw_set (by omega)).tr hset, fun i hi => by rw [sw_o (by omega) (by omega)]; exact i3 i (by omega), sw_inj (by omega) hinj⟩
      rw [sw_k1]
      by_cases him : i = m
      · subst him; rw [sw_k]
        exact kR_tot (fun q => by have := hinj i (i + 1) (by omega) (by omega) q; omega) hr
      · rw [sw_o him (by omega)]; exact i1 i (by omega)
theorem ssort_ok {key : Nat → Nat} {M : Nat} : ∀ {m : Nat} {f : Nat → Nat}, m ≤ M → InjM M f → (∀ i j, i < j → m ≤ j → j < M → kR key (f i) (f j)) → SrtM key M (ssort key m f) ∧ SetE M (ssort key m f) f ∧ ∀ i, M ≤ i → ssort key m f i = f i
  | 0, f, _, _, ht => ⟨fun i j h1 h2 => ht i j h1 (Nat.zero_le _) h2, SetE.rf, fun _ _ => rfl⟩
  | 1, f, _, _, ht => ⟨fun i j h1 h2 => ht i j h1 (by omega) h2, SetE.rf, fun _ _ => rfl⟩
  | m + 2, f, hm, hi, ht => by
    obtain ⟨i1, i2, i3, i4⟩ := spass_ok (key := key) (f := f) (m := m + 1) (fun i j h1 h2 e => hi i j (by omega) (by omega) e)
    have hset : SetE M (spass key f (m + 1)) f := by
      intro v
      constructor
      · rintro ⟨k, hk, e⟩
        by_cases hk2 : k < m + 1 + 1
        · obtain ⟨k', hk', e'⟩ := (i2 v).mp ⟨k, hk2, e⟩
          exact ⟨k', by omega, e'⟩
        · rw [i3 _ (by omega)] at e; exact ⟨k, hk, e⟩
      · rintro ⟨k, hk, e⟩
        by_cases hk2 : k < m + 1 + 1
        · obtain ⟨k', hk', e'⟩ := (i2 v).mpr ⟨k, hk2, e⟩
          exact ⟨k', by omega, e'⟩
        · exact ⟨k, hk, by rw [i3 _ (by omega)]; exact e⟩
    have hlow : ∀ i, i < m + 1 + 1 → ∃ i', i' < m + 1 + 1 ∧ spass key f (m + 1) i = f i' := by
      intro i h
      obtain ⟨k', hk', e'⟩ := (i2 (spass key f (m + 1) i)).mp ⟨i, h, rfl⟩
      exact ⟨k', hk', e'.symm⟩
    have hinj : InjM M (spass key f (m + 1)) := by
      intro i j h1 h2 e
      by_cases hi2 : i < m + 1 + 1
      · by_cases hj2 : j < m + 1 + 1
        · exact i4 i j hi2 hj2 e
        · exfalso
          obtain ⟨i', hi', e'⟩ := hlow i hi2
          rw [e', i3 j (by omega)] at e
          have := hi _ _ (by omega) h2 e
          omega
      · by_cases hj2 : j < m + 1 + 1
        · exfalso
          obtain ⟨j', hj', e'⟩ := hlow j hj2
          rw [e', i3 i (by omega)] at e
          have := hi _ _ h1 (by omega) e
          omega
        · rw [i3 i (by omega), i3 j (by omega)] at e
          exact hi i j h1 h2 e
    have h := ssort_ok (key := key) (M := M) (m := m + 1) (f := spass key f (m + 1)) (by omega) hinj (fun i j h1 h2 h3 => by
      by_cases hj : j = m + 1
      · subst hj; exact i1 i h1
      · rw [i3 j (by omega)]
        by_cases hi2 : i < m + 1 + 1
        · obtain ⟨i', hi', e'⟩ := hlow i hi2
          rw [e']; exact ht i' j (by omega) (by omega) h3
        · rw [i3 i (by omega)]; exact ht i j h1 (by omega) h3)
    exact ⟨h.1, h.2.1.tr hset, fun i hi => by
      show ssort key (m + 1) (spass key f (m + 1)) i = f i
      rw [h.2.2 i hi, i3 i (by omega)]⟩
/-- one goes forward to its place, as the class does it -/
noncomputable def ins (key : Nat → Nat) : Nat → (Nat → Nat) → Nat → Nat | 0, f => f | k + 1, f => if kd key (f (k + 1)) (f k) = true then ins key k (sw f k) else f
noncomputable def isort (key : Nat → Nat) (f : Nat → Nat) : Nat → Nat → Nat | 0 => f | n + 1 => ins key (n + 1) (isort key f n)
theorem ins_ok {key : Nat → Nat} {n : Nat} : ∀ {k : Nat} {f : Nat → Nat}, k ≤ n → InjM (n + 1) f → (∀ i j, i < j → j ≤ n → j ≠ k → kR key (f i) (f j)) → (∀ i j, i < j → j ≤ n → kR key (ins key k f i) (ins key k f j)) ∧ SetE (n + 1) (ins key k f) f ∧ (∀ i, k < i → ins key k f i = f i)
  | 0, f, _, _, h => ⟨fun i j h1 h2 => h i j h1 h2 (by omega), SetE.rf, fun _ _ => rfl⟩
  | k + 1, f, hk, hi, h => by
    by_cases hd : kd key (f (k + 1)) (f k) = true
    · have e : ins key (k + 1) f = ins key k (sw f k) := by
        show (if kd key (f (k + 1)) (f k) = true then ins key k (sw f k) else f) = _
        rw [if_pos hd]
      rw [e]
      have hr := kd_t.mp hd
      have q := ins_ok (key := key) (n := n) (k := k) (f := sw f k) (by omega) (sw_inj (by omega) hi) (fun i j h1 h2 h3 => by
        by_cases hj : j = k + 1
        · subst hj; rw [sw_k1]
          by_cases hik : i = k
          · subst hik; rw [sw_k]; exact hr
          · rw [sw_o hik (by omega)]; exact h i k (by omega) (by omega) (by omega)
        · rw [sw_o h3 hj]
          by_cases hik : i = k
          · subst hik; rw [sw_k]; exact h _ _ (by omega) h2 hj
          · by_cases hik1 : i = k + 1
            · subst hik1; rw [sw_k1]; exact h _ _ (by omega) h2 hj
            · rw [sw_o hik hik1]; exact h i j h1 h2 hj)
      exact ⟨q.1, q.2.1.tr (sw_set (by omega)), fun i hi2 => by rw [q.2.2 i (by omega), sw_o (by omega) (by omega)]⟩
    · have e : ins key (k + 1) f = f := by
        show (if kd key (f (k + 1)) (f k) = true then ins key k (sw f k) else f) = _
        rw [if_neg hd]
      rw [e]
      have hr : kR key (f k) (f (k + 1)) := kR_tot (fun q => by have := hi _ _ (by omega) (by omega) q; omega) (fun q => hd (kd_t.mpr q))
      refine ⟨fun i j h1 h2 => ?_, SetE.rf, fun _ _ => rfl⟩
      by_cases hj : j = k + 1
      · subst hj
        by_cases hik : i = k
        · subst hik; exact hr
        · exact kR_tr (h i k (by omega) (by omega) (by omega)) hr
      · exact h i j h1 h2 hj
theorem isort_ok {key : Nat → Nat} {f : Nat → Nat} {M : Nat} (hi : InjM M f) : ∀ {n : Nat}, n < M → (∀ i j, i < j → j ≤ n → kR key (isort key f n i) (isort key f n j)) ∧ SetE M (isort key f n) f ∧ (∀ i, n < i → isort key f n i = f i) ∧ InjM M (isort key f n)
  | 0, _ => ⟨fun i j h1 h2 => by omega, SetE.rf, fun _ _ => rfl, hi⟩
  | n + 1, hn => by
    obtain ⟨i1, i2, i3, i4⟩ := isort_ok (key := key) hi (n := n) (by omega)
    obtain ⟨q1, q2, q3⟩ := ins_ok (key := key) (n := n + 1) (k := n + 1) (f := isort key f n) (Nat.le_refl _) (fun i j h1 h2 e => i4 i j (by omega) (by omega) e) (fun i j h1 h2 h3 => i1 i j h1 (by omega))
    have hset : SetE M (ins key (n + 1) (isort key f n)) (isort key f n) := by
      intro v
      constructor
      · rintro ⟨k, hk, e⟩
        by_cases hk2 : k < n + 1 + 1
        · obtain ⟨k', hk', e'⟩ := (q2 v).mp ⟨k, hk2, e⟩
          exact ⟨k', by omega, e'⟩
        · rw [q3 _ (by omega)] at e; exact ⟨k, hk, e⟩
      · rintro ⟨k, hk, e⟩
        by_cases hk2 : k < n + 1 + 1
        · obtain ⟨k', hk', e'⟩ := (q2 v).mpr ⟨k, hk2, e⟩
          exact ⟨k', by omega, e'⟩
        · exact ⟨k, hk, by rw [q3 _ (by omega)]; exact e⟩
    refine ⟨q1, hset.tr i2, fun i hi2 => ?_, fun i j h1 h2 e => ?_⟩
    · show ins key (n + 1) (isort key f n) i = f i
      rw [q3 i hi2, i3 i (by omega)]
    · have e : ins key (n + 1) (isort key f n) i = ins key (n + 1) (isort key f n) j := e
      rcases Nat.lt_trichotomy i j with h | h | h
      · by_cases hj : j ≤ n + 1
        · have := q1 i j h hj; rw [e] at this; exact absurd this (fun z => kR_as z z)
        · rw [q3 j (by omega)] at e
          by_cases hi9 : i < n + 1 + 1
          · obtain ⟨i', hi', e'⟩ := (q2 (ins key (n + 1) (isort key f n) i)).mp ⟨i, hi9, rfl⟩
            have := i4 i' j (by omega) h2 (e'.trans e); omega
          · rw [q3 i (by omega)] at e; exact i4 i j h1 h2 e
      · exact h
      · by_cases hj : i ≤ n + 1
        · have := q1 j i h hj; rw [e] at this; exact absurd this (fun z => kR_as z z)
        · rw [q3 i (by omega)] at e
          by_cases hi9 : j < n + 1 + 1
          · obtain ⟨i', hi', e'⟩ := (q2 (ins key (n + 1) (isort key f n) j)).mp ⟨j, hi9, rfl⟩
            have := i4 i' i (by omega) h1 (e'.trans e.symm); omega
          · rw [q3 j (by omega)] at e; exact i4 i j h1 h2 e
theorem srt_uniq {key : Nat → Nat} {M : Nat} {f g : Nat → Nat} (hf : SrtM key M f) (hg : SrtM key M g) (he : SetE M f g) : ∀ n k, k < n → k < M → f k = g k
  | 0, k, h, _ => absurd h (Nat.not_lt_zero k)
  | n + 1, k, h, hk => by
    have ih : ∀ j, j < k → f j = g j := fun j hj => srt_uniq hf hg he n j (by omega) (by omega)
    obtain ⟨i, hi, ei⟩ := (he (f k)).mp ⟨k, hk, rfl⟩
    obtain ⟨i', hi', ei'⟩ := (he (g k)).mpr ⟨k, hk, rfl⟩
    rcases Nat.lt_trichotomy i k with h1 | h1 | h1
    · have h9 := hf i k h1 hk
      rw [ih i h1, ei] at h9; exact absurd h9 (fun z => kR_as z z)
    · rw [← ei, h1]
    · rcases Nat.lt_trichotomy i' k with h2 | h2 | h2
      · have h9 := hg i' k h2 hk
        rw [← ih i' h2, ei'] at h9; exact absurd h9 (fun z => kR_as z z)
      · rw [← ei', h2]
      · have a := hg k i h1 hi
        have b := hf k i' h2 hi'
        rw [ei] at a; rw [ei'] at b
        exact absurd a (kR_as b)
/-- both ways to sort come to the same -/
theorem sorts_same {key : Nat → Nat} {M : Nat} {f : Nat → Nat} (hi : InjM M f) (h0 : 0 < M) : ssort key M f = isort key f (M - 1) := by
  obtain ⟨a1, a2, a3⟩ := ssort_ok (key := key) (M := M) (m := M) (f := f) (Nat.le_refl _) hi (fun i j h1 h2 h3 => by omega)
  obtain ⟨b1, b2, b3, -⟩ := isort_ok (key := key) hi (n := M - 1) (by omega)
  funext k
  by_cases hk : k < M
  · exact srt_uniq a1 (fun i j h1 h2 => b1 i j h1 (by omega)) (a2.tr b2.sm) (k + 1) k (by omega) hk
  · rw [a3 k (by omega), b3 k (by omega)]
