noncomputable def standN (s : Nat → Int32) (x : Int32) : Nat → Nat | 0 => 0 | n + 1 => standN s x n + ic (s (58 + 10 * n + 5) = x) 1 0
def accN (s : Nat → Int32) : Nat → Int32 | 0 => nI 0 | n + 1 => accN s n + s (58 + 10 * n + 3)
def stoodN (s : Nat → Int32) (l : Nat) : Nat → Int32 | 0 => nI 0 | n + 1 => stoodN s l n + s (58 + 10 * tn (s (22 + 12 * l + n)) + 2)
