/-! SHAPES: what the cells of each object are -/
theorem bn_0 : narrow .boolean (.int (nI 0)) = .int (nI 0) ∧ fits .boolean (.int (nI 0)) = true := by decide +kernel
theorem bn_1 : narrow .boolean (.int (nI 1)) = .int (nI 1) ∧ fits .boolean (.int (nI 1)) = true := by decide +kernel
theorem bn_b (P : Prop) : narrow .boolean (.int (bi P)) = .int (bi P) ∧ fits .boolean (.int (bi P)) = true := by
  rcases bi_01 P with h | h <;> rw [h] <;> decide +kernel
theorem nI_z : nI 0 = (0 : Int32) := nI_0
theorem nI_o : nI 1 = (1 : Int32) := by decide +kernel
theorem bi_nt {P : Prop} (h : P) : nI 1 = bi P := by rw [bi_t h]; exact nI_o
theorem bi_nf {P : Prop} (h : ¬ P) : nI 0 = bi P := by rw [bi_f h]; exact nI_z
theorem bi_pt {P : Prop} (h : P) : bi P = nI 1 := (bi_nt h).symm
theorem bi_pf {P : Prop} (h : ¬ P) : bi P = nI 0 := (bi_nf h).symm
def ksHall (b : Nat) : List (Option Nat) := [none, none, none, none, none, none, some (b + 1), some (b + 2), some (b + 3), some (b + 4), some (b + 6)]
def ksLine (x : Nat) : List (Option Nat) := [none, none, none, none, some (x + 1)]
def ksPers : List (Option Nat) := [none, none, none, none, none, none, none, none, none]
def ksDay (x : Nat) : List (Option Nat) := [some (x + 1), none, none]
def ksHist (x : Nat) : List (Option Nat) := [some (x + 1), none, none]
def LineS (E : Nat → ClassId) (G : Nat → Nat) (shp : Nat → (Nat → Int32) → va_E) (N x : Nat) : Prop := x + 1 < N ∧ shp x = ObS G 3 (ksLine x) ∧ shp (x + 1) = ArS E 0 12
def PersS (G : Nat → Nat) (shp : Nat → (Nat → Int32) → va_E) (N x : Nat) : Prop := x < N ∧ shp x = ObS G 4 ksPers
def HallS (E : Nat → ClassId) (G : Nat → Nat) (shp : Nat → (Nat → Int32) → va_E) (N b : Nat) : Prop := b + 42 < N ∧ shp b = ObS G 1 (ksHall b) ∧ shp (b + 1) = ArS E 0 4 ∧ shp (b + 2) = ReS E G 4 3 (fun l => b + 7 + 2 * l) ∧ shp (b + 3) = ReS E G 5 30 (fun p => b + 13 + p) ∧ LineS E G shp N (b + 4) ∧ PersS G shp N (b + 6) ∧ (∀ l, l < 3 → LineS E G shp N (b + 7 + 2 * l)) ∧ ∀ p, p < 30 → PersS G shp N (b + 13 + p)
def DayS (E : Nat → ClassId) (G : Nat → Nat) (shp : Nat → (Nat → Int32) → va_E) (N x : Nat) : Prop := x + 1 < N ∧ shp x = ObS G 0 (ksDay x) ∧ shp (x + 1) = ArS E 0 100
section SHP
variable {E : Nat → ClassId} {G : Nat → Nat} {shp : Nat → (Nat → Int32) → va_E} {N b x : Nat}
theorem LineS.n (h : LineS E G shp N x) : x < N := Nat.lt_of_succ_lt h.1
theorem HallS.n (h : HallS E G shp N b) : b < N := Nat.lt_of_le_of_lt (Nat.le_add_right b 42) h.1
theorem HallS.n1 (h : HallS E G shp N b) : b + 1 < N := Nat.lt_of_le_of_lt (by omega) h.1
theorem HallS.n2 (h : HallS E G shp N b) : b + 2 < N := Nat.lt_of_le_of_lt (by omega) h.1
theorem HallS.n3 (h : HallS E G shp N b) : b + 3 < N := Nat.lt_of_le_of_lt (by omega) h.1
theorem HallS.s (h : HallS E G shp N b) : shp b = ObS G 1 (ksHall b) := h.2.1
theorem HallS.s1 (h : HallS E G shp N b) : shp (b + 1) = ArS E 0 4 := h.2.2.1
theorem HallS.s2 (h : HallS E G shp N b) : shp (b + 2) = ReS E G 4 3 (fun l => b + 7 + 2 * l) := h.2.2.2.1
theorem HallS.s3 (h : HallS E G shp N b) : shp (b + 3) = ReS E G 5 30 (fun p => b + 13 + p) := h.2.2.2.2.1
theorem HallS.nl (h : HallS E G shp N b) : LineS E G shp N (b + 4) := h.2.2.2.2.2.1
theorem HallS.nb (h : HallS E G shp N b) : PersS G shp N (b + 6) := h.2.2.2.2.2.2.1
theorem HallS.li (h : HallS E G shp N b) {l : Nat} (hl : l < 3) : LineS E G shp N (b + 7 + 2 * l) := h.2.2.2.2.2.2.2.1 l hl
theorem HallS.pe (h : HallS E G shp N b) {p : Nat} (hp : p < 30) : PersS G shp N (b + 13 + p) := h.2.2.2.2.2.2.2.2 p hp
theorem DayS.n (h : DayS E G shp N x) : x < N := Nat.lt_of_succ_lt h.1
end SHP
theorem upd_ap (f : Nat → Int32) (k : Nat) (v : Int32) (j : Nat) : upd f k v j = if j = k then v else f j := rfl
