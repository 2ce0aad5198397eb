/-- how long one who stands will stand -/
def waitN (s : Nat → Int32) (p : Nat) : Nat := tn (s (10 + liN s p)) * (plc s p + 1) - tn (s (16 + liN s p))
def AllT (s : Nat → Int32) : Prop := ∀ p, p < tn (s 2) → s (58 + 10 * p + 5) = 0 → Turns s p (waitN s p)
def gainI (s : Nat → Int32) (p q : Nat) : Int32 := nI (waitN s p) - nI (waitN (exchS s p q) p) - nI (plc s p - plc s q) * s 8
