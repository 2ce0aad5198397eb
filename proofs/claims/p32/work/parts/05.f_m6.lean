theorem iincm {m : Nat} (h : 0 < m) : nI m + Int32.ofInt (-1) = nI (m - 1) := by
  obtain ⟨j, rfl⟩ : ∃ j, m = j + 1 := ⟨m - 1, by omega⟩
  have e : Int32.ofInt (-1) = -1 := by decide +kernel
  rw [e, Nat.add_sub_cancel]; exact pk_m1 j
