section REL2
variable {c s : Nat → Int32} {T : Nat}
theorem n1u {t : Nat → Int32} {i n : Nat} {v : Int32} (hi : i ≠ 1) (h : tn (t 1) ≤ n) : tn (upd t i v 1) ≤ n := by rw [upd_ap, if_neg (fun z => hi z.symm)]; exact h
theorem n2u {t : Nat → Int32} {i n : Nat} {v : Int32} (hi : i ≠ 2) (h : n < tn (t 2)) : n < tn (upd t i v 2) := by rw [upd_ap, if_neg (fun z => hi z.symm)]; exact h
/-- what the price does when p passes q -/
noncomputable def jpay (t : Nat → Int32) (p q : Nat) : Nat → Int32 :=
  let t2 := upd t (58 + 10 * q + 3) (t (58 + 10 * q + 3) + t 8)
  let t3 := upd t2 (58 + 10 * q + 7) (t2 (58 + 10 * q + 7) + nI 1)
  let t4 := upd t3 (58 + 10 * q + 4) (t3 (58 + 10 * q + 4) + t3 8)
  ic (t3 (58 + 10 * p + 0) = nI 1) (upd t4 5 (t4 5 + t4 8)) (upd t3 (58 + 10 * p + 3) (t3 (58 + 10 * p + 3) - t3 8))
theorem jst_pay (t : Nat → Int32) (a m p : Nat) : jst t a m p = jpay (upd t (a + m) (nI (tn (t (a + m - 1))))) p (tn (t (a + m - 1))) := rfl
theorem Rel.jpayE (r : Rel c s) (hnl3 : tn (s 1) ≤ 3) {p q : Nat} (hp : p < tn (s 2)) (hq : q < tn (s 2)) : Rel (jpay c p q) (jpay s p q) ∧ tn (jpay s p q 1) ≤ 3 ∧ jpay s p q 2 = s 2 := by
  unfold jpay
  simp only
  have r2 := r.updw hnl3 (i := 58 + 10 * q + 3) (v := c (58 + 10 * q + 3) + c 8) (w := s (58 + 10 * q + 3) + s 8) (by rw [r.P hq (by omega), r.h (i := 8) (by omega)]) (by omega) (by omega) (by omega) (by omega)
  have m2 := n1u (t := s) (i := 58 + 10 * q + 3) (v := s (58 + 10 * q + 3) + s 8) (by omega) hnl3
  have p2 := n2u (t := s) (i := 58 + 10 * q + 3) (v := s (58 + 10 * q + 3) + s 8) (by omega) hp
  have q2 := n2u (t := s) (i := 58 + 10 * q + 3) (v := s (58 + 10 * q + 3) + s 8) (by omega) hq
  have z2 : upd s (58 + 10 * q + 3) (s (58 + 10 * q + 3) + s 8) 2 = s 2 := by rw [upd_ap, if_neg (by omega)]
  generalize upd c (58 + 10 * q + 3) (c (58 + 10 * q + 3) + c 8) = c2 at r2 ⊢
  generalize upd s (58 + 10 * q + 3) (s (58 + 10 * q + 3) + s 8) = s2 at r2 m2 p2 q2 z2 ⊢
  have r3 := r2.updw m2 (i := 58 + 10 * q + 7) (v := c2 (58 + 10 * q + 7) + nI 1) (w := s2 (58 + 10 * q + 7) + nI 1) (by rw [r2.P q2 (by omega)]) (by omega) (by omega) (by omega) (by omega)
  have m3 := n1u (t := s2) (i := 58 + 10 * q + 7) (v := s2 (58 + 10 * q + 7) + nI 1) (by omega) m2
  have p3 := n2u (t := s2) (i := 58 + 10 * q + 7) (v := s2 (58 + 10 * q + 7) + nI 1) (by omega) p2
  have q3 := n2u (t := s2) (i := 58 + 10 * q + 7) (v := s2 (58 + 10 * q + 7) + nI 1) (by omega) q2
  have z3 : upd s2 (58 + 10 * q + 7) (s2 (58 + 10 * q + 7) + nI 1) 2 = s 2 := by rw [upd_ap, if_neg (by omega)]; exact z2
  generalize upd c2 (58 + 10 * q + 7) (c2 (58 + 10 * q + 7) + nI 1) = c3 at r3 ⊢
  generalize upd s2 (58 + 10 * q + 7) (s2 (58 + 10 * q + 7) + nI 1) = s3 at r3 m3 p3 q3 z3 ⊢
  have ek : c3 (58 + 10 * p + 0) = s3 (58 + 10 * p + 0) := r3.P p3 (by omega)
  have e8 : c3 8 = s3 8 := r3.h (by omega)
  by_cases k : s3 (58 + 10 * p + 0) = nI 1
  · rw [ic_t k, ic_t (ek.trans k)]
    have r4 := r3.updw m3 (i := 58 + 10 * q + 4) (v := c3 (58 + 10 * q + 4) + c3 8) (w := s3 (58 + 10 * q + 4) + s3 8) (by rw [r3.P q3 (by omega), e8]) (by omega) (by omega) (by omega) (by omega)
    have m4 := n1u (t := s3) (i := 58 + 10 * q + 4) (v := s3 (58 + 10 * q + 4) + s3 8) (by omega) m3
    have z4 : upd s3 (58 + 10 * q + 4) (s3 (58 + 10 * q + 4) + s3 8) 2 = s 2 := by rw [upd_ap, if_neg (by omega)]; exact z3
    generalize upd c3 (58 + 10 * q + 4) (c3 (58 + 10 * q + 4) + c3 8) = c4 at r4 ⊢
    generalize upd s3 (58 + 10 * q + 4) (s3 (58 + 10 * q + 4) + s3 8) = s4 at r4 m4 z4 ⊢
    exact ⟨r4.updw m4 (by rw [r4.h (i := 5) (by omega), r4.h (i := 8) (by omega)]) (by omega) (by omega) (by omega) (by omega), n1u (by omega) m4, by rw [upd_ap, if_neg (by omega)]; exact z4⟩
  · rw [ic_f k, ic_f (fun z => k (ek.symm.trans z))]
    exact ⟨r3.updw m3 (by rw [r3.P p3 (by omega), e8]) (by omega) (by omega) (by omega) (by omega), n1u (by omega) m3, by rw [upd_ap, if_neg (by omega)]; exact z3⟩
theorem Rel.jToE (r : Rel c s) (h : Inv T s) {l m p : Nat} (hl : l < tn (s 1)) (hm : m < tn (s (13 + l))) (hp : p < tn (s 2)) : ∀ {k : Nat}, k ≤ m → Rel (jTo c (22 + 12 * l) m p k) (jTo s (22 + 12 * l) m p k) ∧ tn (jTo s (22 + 12 * l) m p k 1) ≤ 3 ∧ jTo s (22 + 12 * l) m p k 2 = s 2
  | 0, _ => ⟨r, h.nl3, rfl⟩
  | k + 1, hk => by
    obtain ⟨i1, i2, i3⟩ := Rel.jToE r h hl hm hp (k := k) (by omega)
    have hnl3 := h.nl3
    have h12 := h.len12 hl
    have es : jTo s (22 + 12 * l) m p k (22 + 12 * l + (m - k) - 1) = s (22 + 12 * l + (m - k - 1)) := by
      rw [jTo_out (by omega) (by omega) (fun j hj => by omega)]; congr 1; omega
    have ec : jTo c (22 + 12 * l) m p k (22 + 12 * l + (m - k) - 1) = s (22 + 12 * l + (m - k - 1)) := by
      rw [jTo_out (by omega) (by omega) (fun j hj => by omega), ← r.R hl (by omega : m - k - 1 < _)]; congr 1; omega
    have hq : tn (s (22 + 12 * l + (m - k - 1))) < tn (s 2) := h.rowP hl (by omega)
    simp only [jTo]
    rw [jst_pay, jst_pay, es, ec]
    have r1 := i1.updw i2 (i := 22 + 12 * l + (m - k)) (v := nI (tn (s (22 + 12 * l + (m - k - 1))))) rfl (by omega) (by omega) (by omega) (by omega)
    have m1 := n1u (t := jTo s (22 + 12 * l) m p k) (i := 22 + 12 * l + (m - k)) (v := nI (tn (s (22 + 12 * l + (m - k - 1))))) (by omega) i2
    have e2 : upd (jTo s (22 + 12 * l) m p k) (22 + 12 * l + (m - k)) (nI (tn (s (22 + 12 * l + (m - k - 1))))) 2 = s 2 := by rw [upd_ap, if_neg (by omega)]; exact i3
    obtain ⟨q1, q2, q3⟩ := r1.jpayE m1 (p := p) (q := tn (s (22 + 12 * l + (m - k - 1)))) (by rw [e2]; exact hp) (by rw [e2]; exact hq)
    exact ⟨q1, q2, q3.trans e2⟩
theorem Rel.jumps (r : Rel c s) (h : Inv T s) {p : Nat} (hp : p < tn (s 2)) (hs : s (58 + 10 * p + 5) = 0) : Rel (jumpsS c p) (jumpsS s p) := by
  obtain ⟨h1, -, h3, -⟩ := h.plcs hp hs
  have h12 := h.len12 h1
  have hnl3 := h.nl3
  have hst : jsteps s p ≤ plc s p := Nat.min_le_left _ _
  have ej : jsteps c p = jsteps s p := by unfold jsteps; rw [r.plcE h hp hs, r.h (i := 9) (by omega)]
  unfold jumpsS
  rw [ej, r.li hp, r.plcE h hp hs]
  unfold jumpsF
  simp only
  obtain ⟨i1, i2, i3⟩ := r.jToE h h1 h3 hp hst
  have i0 : jTo s (22 + 12 * liN s p) (plc s p) p (jsteps s p) 0 = s 0 := jTo_out (by omega) (by omega) (fun j hj => by omega)
  have r1 := i1.updw i2 (i := 22 + 12 * liN s p + plc s p - jsteps s p) (v := nI p) rfl (by omega) (by omega) (by omega) (by omega)
  have m1 := n1u (t := jTo s (22 + 12 * liN s p) (plc s p) p (jsteps s p)) (i := 22 + 12 * liN s p + plc s p - jsteps s p) (v := nI p) (by omega) i2
  have e2 : upd (jTo s (22 + 12 * liN s p) (plc s p) p (jsteps s p)) (22 + 12 * liN s p + plc s p - jsteps s p) (nI p) 2 = s 2 := by rw [upd_ap, if_neg (by omega)]; exact i3
  have e0 : upd (jTo s (22 + 12 * liN s p) (plc s p) p (jsteps s p)) (22 + 12 * liN s p + plc s p - jsteps s p) (nI p) 0 = s 0 := by rw [upd_ap, if_neg (by omega)]; exact i0
  generalize upd (jTo c (22 + 12 * liN s p) (plc s p) p (jsteps s p)) (22 + 12 * liN s p + plc s p - jsteps s p) (nI p) = c1 at r1 ⊢
  generalize upd (jTo s (22 + 12 * liN s p) (plc s p) p (jsteps s p)) (22 + 12 * liN s p + plc s p - jsteps s p) (nI p) = s1 at r1 m1 e2 e0 ⊢
  have r2 := r1.updw m1 (i := 58 + 10 * p + 7) (v := c1 (58 + 10 * p + 7) - nI (jsteps s p)) (w := s1 (58 + 10 * p + 7) - nI (jsteps s p)) (by rw [r1.P (by rw [e2]; exact hp) (by omega)]) (by omega) (by omega) (by omega) (by omega)
  have m2 := n1u (t := s1) (i := 58 + 10 * p + 7) (v := s1 (58 + 10 * p + 7) - nI (jsteps s p)) (by omega) m1
  have f2 : upd s1 (58 + 10 * p + 7) (s1 (58 + 10 * p + 7) - nI (jsteps s p)) 2 = s 2 := by rw [upd_ap, if_neg (by omega)]; exact e2
  have f0 : upd s1 (58 + 10 * p + 7) (s1 (58 + 10 * p + 7) - nI (jsteps s p)) 0 = s 0 := by rw [upd_ap, if_neg (by omega)]; exact e0
  generalize upd c1 (58 + 10 * p + 7) (c1 (58 + 10 * p + 7) - nI (jsteps s p)) = c2 at r2 ⊢
  generalize upd s1 (58 + 10 * p + 7) (s1 (58 + 10 * p + 7) - nI (jsteps s p)) = s2 at r2 m2 f2 f0 ⊢
  -- the mark of the jump
  have r3 : Rel (upd c2 (58 + 10 * p + 8) (c2 0)) (upd s2 (58 + 10 * p + 8) (s2 0)) := by
    have k : ∀ x, x ≠ 58 + 10 * p + 8 → upd c2 (58 + 10 * p + 8) (c2 0) x = c2 x ∧ upd s2 (58 + 10 * p + 8) (s2 0) x = s2 x := fun x hx => ⟨by rw [upd_ap, if_neg hx], by rw [upd_ap, if_neg hx]⟩
    refine ⟨fun x hx => by rw [(k x (by omega)).1, (k x (by omega)).2]; exact r2.h hx, fun y hy => ?_, fun y j hy hj => ?_, fun q hq => ?_⟩
    · rw [(k 1 (by omega)).2] at hy
      rw [(k (10 + y) (by omega)).1, (k (10 + y) (by omega)).2, (k (13 + y) (by omega)).1, (k (13 + y) (by omega)).2, (k (16 + y) (by omega)).1, (k (16 + y) (by omega)).2, (k (19 + y) (by omega)).1, (k (19 + y) (by omega)).2]
      exact r2.L hy
    · rw [(k 1 (by omega)).2] at hy
      rw [(k (13 + y) (by omega)).2] at hj
      by_cases hx : 22 + 12 * y + j = 58 + 10 * p + 8
      · rw [hx, upd_ap, upd_ap, if_pos rfl, if_pos rfl]; exact r2.h (by omega)
      · rw [(k _ hx).1, (k _ hx).2]; exact r2.R hy hj
    · rw [(k 2 (by omega)).2] at hq
      refine ⟨fun j hj => by rw [(k _ (by omega)).1, (k _ (by omega)).2]; exact r2.P hq hj, ?_⟩
      by_cases e : q = p
      · subst e
        right
        rw [upd_ap, if_pos rfl, upd_ap, if_pos rfl]
        refine ⟨r2.h (by omega), ?_⟩
        rw [f0, h.now]
        have hT := h.nowT; have hT6 := h.T6
        intro z
        have h1 := nI_toInt (n := tn (s 0)) (by omega)
        rw [z] at h1
        have e2 : (-9 : Int32).toInt = -9 := by decide +kernel
        omega
      · have := (r2.2.2.2 q hq).2
        unfold JR at this ⊢
        rw [(k _ (by omega)).1, (k _ (by omega)).2, (k (58 + 10 * q + 6) (by omega)).1]
        exact this
  have m3 := n1u (t := s2) (i := 58 + 10 * p + 8) (v := s2 0) (by omega) m2
  exact r3.updw m3 (by rw [r3.h (by omega)]) (by omega) (by omega) (by omega) (by omega)
theorem Rel.keys (r : Rel c s) (h : Inv T s) {l : Nat} (hl : l < tn (s 1)) : ∀ k, k < tn (s (13 + l)) → rowN c l k = rowN s l k ∧ keyN c (rowN s l k) = keyN s (rowN s l k) := by
  intro k hk
  have e : rowN c l k = rowN s l k := by show tn _ = tn _; rw [r.R hl hk]
  refine ⟨e, ?_⟩
  show tn _ = tn _
  have hq : rowN s l k < tn (s 2) := h.rowP hl hk
  rw [r.P hq (by omega)]
theorem Rel.srt (r : Rel c s) (h : Inv T s) {l : Nat} (hl : l < tn (s 1)) : Rel (srtS c l) (srtS s l) := by
  have hnl3 := h.nl3
  have h12 := h.len12 hl
  have hc := r.inv h
  have e13 : c (13 + l) = s (13 + l) := (r.L hl).2.1
  have e1 : c 1 = s 1 := r.h (by omega)
  have hi := h.rowInj hl
  have hci := hc.rowInj (l := l) (by rw [e1]; exact hl)
  rw [e13] at hci
  obtain ⟨a1, a2, -⟩ := ssort_ok (key := keyN s) (M := tn (s (13 + l))) (m := tn (s (13 + l))) (f := rowN s l) (Nat.le_refl _) hi (fun i j h1 h2 h3 => by omega)
  obtain ⟨b1, b2, -⟩ := ssort_ok (key := keyN c) (M := tn (s (13 + l))) (m := tn (s (13 + l))) (f := rowN c l) (Nat.le_refl _) hci (fun i j h1 h2 h3 => by omega)
  have key := r.keys h hl
  have hset : SetE (tn (s (13 + l))) (rowN c l) (rowN s l) := fun v => ⟨fun ⟨k, hk, e⟩ => ⟨k, hk, by rw [← (key k hk).1]; exact e⟩, fun ⟨k, hk, e⟩ => ⟨k, hk, by rw [(key k hk).1]; exact e⟩⟩
  have kc : ∀ k, k < tn (s (13 + l)) → keyN c (ssort (keyN c) (tn (s (13 + l))) (rowN c l) k) = keyN s (ssort (keyN c) (tn (s (13 + l))) (rowN c l) k) := by
    intro k hk
    obtain ⟨i, hi, e⟩ := ((b2.tr hset) _).mp ⟨k, hk, rfl⟩
    rw [← e]; exact (key i hi).2
  have b1' : SrtM (keyN s) (tn (s (13 + l))) (ssort (keyN c) (tn (s (13 + l))) (rowN c l)) := by
    intro i j hij hj
    have := b1 i j hij hj
    unfold kR at this ⊢
    rw [kc i (by omega), kc j hj] at this
    exact this
  have eq : ∀ k, k < tn (s (13 + l)) → ssort (keyN c) (tn (s (13 + l))) (rowN c l) k = ssort (keyN s) (tn (s (13 + l))) (rowN s l) k := fun k hk => srt_uniq b1' a1 ((b2.tr hset).tr a2.sm) (k + 1) k (by omega) hk
  have oc : ∀ x, x < 22 + 12 * l ∨ 22 + 12 * l + 12 ≤ x → srtS c l x = c x := fun x hx => by unfold srtS; rw [rwF_out (by rw [e13]; omega)]
  have os : ∀ x, x < 22 + 12 * l ∨ 22 + 12 * l + 12 ≤ x → srtS s l x = s x := fun x hx => by unfold srtS; rw [rwF_out (by omega)]
  refine ⟨fun x hx => by rw [oc x (by omega), os x (by omega)]; exact r.h hx, fun y hy => ?_, fun y j hy hj => ?_, fun q hq => ?_⟩
  · rw [os 1 (by omega)] at hy
    rw [oc (10 + y) (by omega), os (10 + y) (by omega), oc (13 + y) (by omega), os (13 + y) (by omega), oc (16 + y) (by omega), os (16 + y) (by omega), oc (19 + y) (by omega), os (19 + y) (by omega)]
    exact r.L hy
  · rw [os 1 (by omega)] at hy
    rw [os (13 + y) (by omega)] at hj
    have := h.len12 hy
    by_cases e : y = l
    · subst e
      unfold srtS
      rw [e13, rwF_in hj, rwF_in hj, eq j hj]
    · rw [oc _ (by omega), os _ (by omega)]; exact r.R hy hj
  · rw [os 2 (by omega)] at hq
    refine ⟨fun j hj => by rw [oc _ (by omega), os _ (by omega)]; exact r.P hq hj, ?_⟩
    have := (r.2.2.2 q hq).2
    unfold JR at this ⊢
    rw [oc _ (by omega), os _ (by omega), oc _ (by omega)]
    exact this
theorem Rel.midE (r : Rel c s) (h : Inv T s) {l o : Nat} (hl : l < tn (s 1)) (ho : o < tn (s 1)) (hlo : l ≠ o) (hab : tn (s (13 + l)) + tn (s (13 + o)) ≤ 12) : Rel (mid c l o) (mid s l o) := by
  have hnl3 := h.nl3
  have hc := r.inv h
  have e1 : c 1 = s 1 := r.h (by omega)
  have hl' : l < tn (c 1) := by rw [e1]; exact hl
  have ho' : o < tn (c 1) := by rw [e1]; exact ho
  have el := (r.L hl).2.1
  have eo := (r.L ho).2.1
  have hab' : tn (c (13 + l)) + tn (c (13 + o)) ≤ 12 := by rw [el, eo]; exact hab
  have lo : ∀ i, i < 58 → (i < 22 ∧ c i = s i ∨ (22 ≤ i ∧ (22 + 12 * l + tn (s (13 + l)) ≤ i ∧ i < 22 + 12 * l + tn (s (13 + l)) + tn (s (13 + o)) ∨ c i = s i))) → mid c l o i = mid s l o i := by
    intro i hi hh
    rw [mid_h hc hl' ho' hlo hab' hi, mid_h h hl ho hlo hab hi, el, eo]
    split
    · rfl
    · split
      · rfl
      · split
        · rfl
        · split
          · rename_i q
            exact r.R ho (by omega)
          · rename_i nq
            rcases hh with ⟨_, e⟩ | ⟨_, q | e⟩
            · exact e
            · exact absurd q nq
            · exact e
  have h1 : mid s l o 1 = s 1 := by rw [mid_h h hl ho hlo hab (by omega), if_neg (by omega), if_neg (by omega), if_neg (by omega), if_neg (by omega)]
  have h2 : mid s l o 2 = s 2 := by rw [mid_h h hl ho hlo hab (by omega), if_neg (by omega), if_neg (by omega), if_neg (by omega), if_neg (by omega)]
  refine ⟨fun x hx => lo x (by omega) (Or.inl ⟨by omega, r.h hx⟩), fun y hy => ?_, fun y j hy hj => ?_, fun q hq => ?_⟩
  · rw [h1] at hy
    obtain ⟨a, b, d, e⟩ := r.L hy
    exact ⟨lo _ (by omega) (Or.inl ⟨by omega, a⟩), lo _ (by omega) (Or.inl ⟨by omega, b⟩), lo _ (by omega) (Or.inl ⟨by omega, d⟩), lo _ (by omega) (Or.inl ⟨by omega, e⟩)⟩
  · rw [h1] at hy
    have hy12 := h.len12 hy
    rw [mid_h h hl ho hlo hab (by omega), if_neg (by omega)] at hj
    by_cases yo : y = o
    · subst yo; rw [if_pos rfl, tn_nI (by omega)] at hj; omega
    · rw [if_neg (by omega)] at hj
      by_cases yl : y = l
      · subst yl
        rw [if_pos rfl, tn_nI (by omega)] at hj
        by_cases q : j < tn (s (13 + y))
        · exact lo _ (by omega) (Or.inr ⟨by omega, Or.inr (r.R hy q)⟩)
        · exact lo _ (by omega) (Or.inr ⟨by omega, Or.inl (by omega)⟩)
      · rw [if_neg (by omega), if_neg (by omega)] at hj
        exact lo _ (by omega) (Or.inr ⟨by omega, Or.inr (r.R hy hj)⟩)
  · rw [h2] at hq
    refine ⟨fun j hj => ?_, ?_⟩
    · by_cases j1 : j = 1
      · subst j1
        have ms := mid_p1 h hl ho hlo hab q
        have mc := mid_p1 hc hl' ho' hlo hab' q
        rw [eo] at mc
        by_cases w : ∃ j, j < tn (s (13 + o)) ∧ tn (s (22 + 12 * o + j)) = q
        · rw [ms.1 w, mc.1 (by obtain ⟨j, hj, e⟩ := w; exact ⟨j, hj, by rw [r.R ho hj]; exact e⟩)]
        · rw [ms.2 (fun j hj e => w ⟨j, hj, e⟩), mc.2 (fun j hj e => w ⟨j, hj, by rw [← r.R ho hj]; exact e⟩)]
          exact r.P hq hj
      · rw [mid_pj hc hl' ho' hlo hab' (by omega) j1, mid_pj h hl ho hlo hab (by omega) j1]
        exact r.P hq hj
    · have := (r.2.2.2 q hq).2
      unfold JR at this ⊢
      rw [mid_pj hc hl' ho' hlo hab' (by omega) (by omega), mid_pj h hl ho hlo hab (by omega) (by omega), mid_pj hc hl' ho' hlo hab' (by omega) (by omega)]
      exact this
theorem Rel.merges (r : Rel c s) (h : Inv T s) {l o : Nat} (hl : l < tn (s 1)) (ho : o < tn (s 1)) (hlo : l ≠ o) (hab : tn (s (13 + l)) + tn (s (13 + o)) ≤ 12) : Rel (mergesF c l o) (mergesF s l o) := by
  have hc := r.inv h
  have e1 : c 1 = s 1 := r.h (by omega)
  have hnl3 := h.nl3
  rw [h.merges_eq hl ho hlo hab, hc.merges_eq (by rw [e1]; exact hl) (by rw [e1]; exact ho) hlo (by rw [(r.L hl).2.1, (r.L ho).2.1]; exact hab)]
  refine (r.midE h hl ho hlo hab).srt (h.midK hl ho hlo hab) ?_
  rw [mid_h h hl ho hlo hab (by omega), if_neg (by omega), if_neg (by omega), if_neg (by omega), if_neg (by omega)]
  exact hl
/-- one comes: in the class, in the reference -/
theorem Rel.comeG (r : Rel c s) (h : Inv T s) {l : Nat} {cu su : Nat → Int32} (hl : l < tn (s 1)) (hp : tn (s 2) < 30) (hlen : tn (s (13 + l)) < 12)
    (e : ∀ x, x < 58 → (x = 2 ∨ x = 13 + l ∨ x = 22 + 12 * l + tn (s (13 + l)) ∨ c x = s x) → cu x = su x)
    (h1 : su 1 = s 1) (h2 : su 2 = nI (tn (s 2) + 1)) (h13 : ∀ y, y < 3 → su (13 + y) = if y = l then nI (tn (s (13 + l)) + 1) else s (13 + y))
    (eq : ∀ q j, q < tn (s 2) → j < 10 → cu (58 + 10 * q + j) = c (58 + 10 * q + j) ∧ su (58 + 10 * q + j) = s (58 + 10 * q + j))
    (en : ∀ j, j < 8 → cu (58 + 10 * tn (s 2) + j) = su (58 + 10 * tn (s 2) + j)) (en8 : su (58 + 10 * tn (s 2) + 8) = -9 ∧ cu (58 + 10 * tn (s 2) + 8) = cu (58 + 10 * tn (s 2) + 6) - nI 5) : Rel cu su := by
  have hnl3 := h.nl3
  refine ⟨fun x hx => e x (by omega) (Or.inr (Or.inr (Or.inr (r.h hx)))), fun y hy => ?_, fun y j hy hj => ?_, fun q hq => ?_⟩
  · rw [h1] at hy
    obtain ⟨a, b, d, f⟩ := r.L hy
    exact ⟨e _ (by omega) (Or.inr (Or.inr (Or.inr a))), e _ (by omega) (Or.inr (Or.inr (Or.inr b))), e _ (by omega) (Or.inr (Or.inr (Or.inr d))), e _ (by omega) (Or.inr (Or.inr (Or.inr f)))⟩
  · rw [h1] at hy
    have hy12 := h.len12 hy
    rw [h13 y (by omega)] at hj
    by_cases yl : y = l
    · subst yl
      rw [if_pos rfl, tn_nI (by omega)] at hj
      by_cases q : j = tn (s (13 + y))
      · exact e _ (by omega) (Or.inr (Or.inr (Or.inl (by rw [q]))))
      · exact e _ (by omega) (Or.inr (Or.inr (Or.inr (r.R hy (by omega)))))
    · rw [if_neg yl] at hj
      exact e _ (by omega) (Or.inr (Or.inr (Or.inr (r.R hy hj))))
  · rw [h2, tn_nI (by omega)] at hq
    by_cases qn : q = tn (s 2)
    · subst qn
      exact ⟨en, Or.inl en8⟩
    · have hq' : q < tn (s 2) := by omega
      refine ⟨fun j hj => by rw [(eq q j hq' (by omega)).1, (eq q j hq' (by omega)).2]; exact r.P hq' hj, ?_⟩
      have := (r.2.2.2 q hq').2
      unfold JR at this ⊢
      rw [(eq q 8 hq' (by omega)).1, (eq q 8 hq' (by omega)).2, (eq q 6 hq' (by omega)).1]
      exact this
theorem comesC_lo {c : Nat → Int32} {y k0 x : Nat} (hx : x < 58) : comesC c y k0 x = if x = 13 + y then nI (tn (c (13 + y)) + 1) else if x = 22 + 12 * y + tn (c (13 + y)) then nI (tn (c 2)) else if x = 2 then nI (tn (c 2) + 1) else c x := by
  simp only [comesC, enterP, upd_ap]
  by_cases c2 : x = 13 + y
  · rw [if_pos c2, if_pos c2]
  · rw [if_neg c2, if_neg c2]
    by_cases c3 : x = 22 + 12 * y + tn (c (13 + y))
    · rw [if_pos c3, if_pos c3]
    · rw [if_neg c3, if_neg c3, if_neg (by omega), if_neg (by omega), if_neg (by omega), if_neg (by omega), if_neg (by omega), if_neg (by omega), if_neg (by omega), if_neg (by omega), if_neg (by omega)]
theorem comesC_q {c : Nat → Int32} {y k0 q j : Nat} (hl : 22 + 12 * y + tn (c (13 + y)) < 58) (hj : j < 10) (hq : q ≠ tn (c 2)) : comesC c y k0 (58 + 10 * q + j) = c (58 + 10 * q + j) := by
  simp only [comesC, enterP, upd_ap]
  rw [if_neg (by omega), if_neg (by omega), if_neg (by omega), if_neg (by omega), if_neg (by omega), if_neg (by omega), if_neg (by omega), if_neg (by omega), if_neg (by omega), if_neg (by omega), if_neg (by omega), if_neg (by omega)]
theorem comesC_p {c : Nat → Int32} {y k0 j : Nat} (hl : 22 + 12 * y + tn (c (13 + y)) < 58) (hj : j < 9) : comesC c y k0 (58 + 10 * tn (c 2) + j) = if j = 8 then c 0 - nI 5 else if j = 6 then c 0 else if j = 1 then nI y else if j = 0 then nI k0 else 0 := by
  simp only [comesC, enterP, upd_ap]
  rw [if_neg (by omega), if_neg (by omega)]
  rcases (show j = 0 ∨ j = 1 ∨ j = 2 ∨ j = 3 ∨ j = 4 ∨ j = 5 ∨ j = 6 ∨ j = 7 ∨ j = 8 by omega) with rfl | rfl | rfl | rfl | rfl | rfl | rfl | rfl | rfl
  · rw [if_neg (by omega), if_neg (by omega), if_neg (by omega), if_neg (by omega), if_neg (by omega), if_neg (by omega), if_neg (by omega), if_neg (by omega), if_pos (by omega), if_neg (by omega), if_neg (by omega), if_neg (by omega), if_pos rfl]
  · rw [if_neg (by omega), if_neg (by omega), if_neg (by omega), if_neg (by omega), if_neg (by omega), if_neg (by omega), if_neg (by omega), if_pos rfl, if_neg (by omega), if_neg (by omega), if_pos rfl]
  · rw [if_neg (by omega), if_neg (by omega), if_neg (by omega), if_neg (by omega), if_neg (by omega), if_pos rfl, if_neg (by omega), if_neg (by omega), if_neg (by omega), if_neg (by omega), nI_z]
  · rw [if_neg (by omega), if_neg (by omega), if_neg (by omega), if_neg (by omega), if_pos rfl, if_neg (by omega), if_neg (by omega), if_neg (by omega), if_neg (by omega), nI_z]
  · rw [if_neg (by omega), if_neg (by omega), if_neg (by omega), if_pos rfl, if_neg (by omega), if_neg (by omega), if_neg (by omega), if_neg (by omega), nI_z]
  · rw [if_neg (by omega), if_neg (by omega), if_neg (by omega), if_neg (by omega), if_neg (by omega), if_neg (by omega), if_pos rfl, if_neg (by omega), if_neg (by omega), if_neg (by omega), if_neg (by omega), nI_z]
  · rw [if_neg (by omega), if_neg (by omega), if_pos rfl, if_neg (by omega), if_pos rfl]
  · rw [if_neg (by omega), if_pos rfl, if_neg (by omega), if_neg (by omega), if_neg (by omega), if_neg (by omega), nI_z]
  · rw [if_pos rfl, if_pos rfl]
theorem Rel.comes (r : Rel c s) (h : Inv T s) {l k0 : Nat} (hl : l < tn (s 1)) (hp : tn (s 2) < 30) (hlen : tn (s (13 + l)) < 12) : Rel (comesC c l k0) (comesS s l k0) := by
  have hnl3 := h.nl3
  have e2 : c 2 = s 2 := r.h (by omega)
  have e0 : c 0 = s 0 := r.h (by omega)
  have e13 : c (13 + l) = s (13 + l) := (r.L hl).2.1
  refine r.comeG h hl hp hlen (fun x hx hh => ?_) ?_ ?_ (fun y hy => ?_) (fun q j hq hj => ⟨?_, ?_⟩) (fun j hj => ?_) ⟨?_, ?_⟩
  · unfold comesS
    rw [comesC_lo hx, comesF_lo hx, e2, e13]
    by_cases c1 : x = 13 + l
    · rw [if_pos c1, if_neg (by omega), if_pos c1]
    · rw [if_neg c1]
      by_cases c3 : x = 22 + 12 * l + tn (s (13 + l))
      · rw [if_pos c3, if_neg (by omega), if_neg c1, if_pos c3]
      · rw [if_neg c3]
        by_cases c2 : x = 2
        · rw [if_pos c2, if_pos c2]
        · rw [if_neg c2, if_neg c2, if_neg c1, if_neg c3]
          rcases hh with q | q | q | q
          · exact absurd q c2
          · exact absurd q c1
          · exact absurd q c3
          · exact q
  · unfold comesS; rw [comesF_lo (by omega), if_neg (by omega), if_neg (by omega), if_neg (by omega)]
  · unfold comesS; rw [comesF_lo (by omega), if_pos rfl]
  · unfold comesS
    rw [comesF_lo (by omega), if_neg (by omega)]
    by_cases q : y = l
    · rw [if_pos (by omega), if_pos q]
    · rw [if_neg (by omega), if_neg q, if_neg (by omega)]
  · exact comesC_q (by rw [e13]; omega) hj (by rw [e2]; omega)
  · exact comesF_q (by omega) hj (by omega)
  · unfold comesS
    have hc := comesC_p (c := c) (y := l) (k0 := k0) (j := j) (by rw [e13]; omega) (by omega)
    rw [e2] at hc
    rw [hc, comesF_p (by omega) (by omega), e0, if_neg (show ¬ j = 8 by omega), if_neg (show ¬ j = 8 by omega)]
  · unfold comesS; rw [comesF_p (by omega) (by omega), if_pos rfl]
  · have hc := comesC_p (c := c) (y := l) (k0 := k0) (j := 8) (by rw [e13]; omega) (by omega)
    have hc6 := comesC_p (c := c) (y := l) (k0 := k0) (j := 6) (by rw [e13]; omega) (by omega)
    rw [e2] at hc hc6
    rw [hc, hc6, if_pos rfl, if_neg (by omega), if_pos rfl]
/-- a minute -/
theorem Rel.certE (r : Rel c s) (hnl3 : tn (s 1) ≤ 3) : ∀ {n : Nat}, n ≤ tn (s 2) → Rel (certTo c n) (certTo s n)
  | 0, _ => r
  | n + 1, hn => by
    have i := Rel.certE r hnl3 (n := n) (by omega)
    have e2 : certTo s n 2 = s 2 := certTo_out (fun p _ => by omega)
    have e1 : certTo s n 1 = s 1 := certTo_out (fun p _ => by omega)
    simp only [certTo, certF]
    refine i.updw (by rw [e1]; exact hnl3) ?_ (by omega) (by omega) (by omega) (by omega)
    rw [i.P (by rw [e2]; omega) (by omega), i.P (by rw [e2]; omega) (by omega)]
theorem Rel.min1E (r : Rel c s) (h : Inv T s) : Rel (min1 c) (min1 s) := by
  unfold min1
  rw [r.h (i := 0) (by omega), r.h (i := 2) (by omega)]
  refine Rel.certE (r.updw h.nl3 rfl (by omega) (by omega) (by omega) (by omega)) (n1u (by omega) h.nl3) ?_
  rw [upd_ap, if_neg (by omega)]; exact Nat.le_refl _
theorem Rel.wk (r : Rel c s) (h : Inv T s) {l : Nat} (hl : l < tn (s 1)) : Rel (wkF c l) (wkF s l) ∧ wkN c l = wkN s l := by
  have hnl3 := h.nl3
  have hc := r.inv h
  have e1 : c 1 = s 1 := r.h (by omega)
  obtain ⟨f10, f13, f16, f19⟩ := r.L hl
  have hw := h.wk hl
  have hw' := hc.wk (l := l) (by rw [e1]; exact hl)
  rw [f10, f13, f16] at hw'
  rcases hw with ⟨a1, a2, a3⟩ | ⟨a1, a2, a3, a4⟩ | ⟨a1, a2, a3, a4⟩ <;> rcases hw' with ⟨b1, b2, b3⟩ | ⟨b1, b2, b3, b4⟩ | ⟨b1, b2, b3, b4⟩ <;> try omega
  · rw [a2, b2, a3, b3]; exact ⟨r, rfl⟩
  · rw [a3, b3, a4, b4]; exact ⟨r.updw hnl3 rfl (by omega) (by omega) (by omega) (by omega), rfl⟩
  · rw [a3, b3, a4, b4]
    refine ⟨?_, rfl⟩
    unfold srvF
    rw [f13, f19, r.R hl a1]
    have r1 := r.leaves h (l := l) (k := 0) (p := tn (s (22 + 12 * l + 0))) (st := nI 1) hl
    have m1 : tn (leavesF s l 0 (tn (s (13 + l))) (tn (s (22 + 12 * l + 0))) (nI 1) 1) ≤ 3 := by rw [lvF_h (by omega)]; exact hnl3
    exact (r1.updw m1 rfl (by omega) (by omega) (by omega) (by omega)).updw (n1u (by omega) m1) rfl (by omega) (by omega) (by omega) (by omega)
theorem Rel.workE (r : Rel c s) (h : Inv T s) : ∀ {n : Nat}, n ≤ tn (s 1) → Rel (workTo c n) (workTo s n) ∧ workN c n = workN s n
  | 0, _ => ⟨r, rfl⟩
  | n + 1, hn => by
    obtain ⟨i1, i2⟩ := Rel.workE r h (n := n) (by omega)
    obtain ⟨k1, k2⟩ := h.workK (n := n) (by omega)
    have := i1.wk k1 (l := n) (by rw [k2]; omega)
    simp only [workTo, workN]
    exact ⟨this.1, by rw [i2, this.2]⟩
theorem Rel.payE (r : Rel c s) (hnl3 : tn (s 1) ≤ 3) : ∀ {n : Nat}, n ≤ tn (s 2) → Rel (payTo c n) (payTo s n)
  | 0, _ => r
  | n + 1, hn => by
    have i := Rel.payE r hnl3 (n := n) (by omega)
    have e2 : payTo s n 2 = s 2 := payTo_nf (by unfold FreeC; omega)
    have e1 : payTo s n 1 = s 1 := payTo_nf (by unfold FreeC; omega)
    have m0 : tn (payTo s n 1) ≤ 3 := by rw [e1]; exact hnl3
    have hn2 : n < tn (payTo s n 2) := by rw [e2]; omega
    simp only [payTo, payF]
    have hd : Due (payTo c n) n ↔ Due (payTo s n) n := by
      unfold Due overI
      rw [i.P hn2 (by omega), i.P hn2 (by omega), i.h (i := 6) (by omega)]
    by_cases d : Due (payTo s n) n
    · rw [ic_t d, ic_t (hd.mpr d)]
      unfold payU
      simp only
      generalize payTo c n = c0 at i ⊢
      generalize payTo s n = s0 at i m0 hn2 ⊢
      have e7 := i.h (i := 7) (by omega)
      have r1 := i.updw m0 (i := 58 + 10 * n + 3) (v := c0 (58 + 10 * n + 3) + c0 7) (w := s0 (58 + 10 * n + 3) + s0 7) (by rw [i.P hn2 (by omega), e7]) (by omega) (by omega) (by omega) (by omega)
      have m1 := n1u (t := s0) (i := 58 + 10 * n + 3) (v := s0 (58 + 10 * n + 3) + s0 7) (by omega) m0
      have hn3 := n2u (t := s0) (i := 58 + 10 * n + 3) (v := s0 (58 + 10 * n + 3) + s0 7) (by omega) hn2
      generalize upd c0 (58 + 10 * n + 3) (c0 (58 + 10 * n + 3) + c0 7) = c1 at r1 ⊢
      generalize upd s0 (58 + 10 * n + 3) (s0 (58 + 10 * n + 3) + s0 7) = s1 at r1 m1 hn3 ⊢
      have r2 := r1.updw m1 (i := 58 + 10 * n + 4) (v := c1 (58 + 10 * n + 4) + c1 7) (w := s1 (58 + 10 * n + 4) + s1 7) (by rw [r1.P hn3 (by omega), r1.h (i := 7) (by omega)]) (by omega) (by omega) (by omega) (by omega)
      have m2 := n1u (t := s1) (i := 58 + 10 * n + 4) (v := s1 (58 + 10 * n + 4) + s1 7) (by omega) m1
      exact r2.updw m2 (by rw [r2.h (i := 5) (by omega), r2.h (i := 7) (by omega)]) (by omega) (by omega) (by omega) (by omega)
    · rw [ic_f d, ic_f (fun z => d (hd.mp z))]
      exact i
theorem Rel.minute (r : Rel c s) (h : Inv T s) (hT : T + 1 ≤ 1000000) : Rel (minuteS c) (minuteS s) ∧ minuteN c = minuteN s := by
  have hc := h.cert hT
  have e1 : min1 s 1 = s 1 := min1_nf (by omega) (by omega)
  have r1 := r.min1E h
  have rw1 := r1.workE hc (n := tn (s 1)) (by rw [e1]; exact Nat.le_refl _)
  have f1 : c 1 = s 1 := r.h (by omega)
  have f2 : c 2 = s 2 := r.h (by omega)
  have e2 : workTo (min1 s) (tn (s 1)) 2 = s 2 := by
    rw [hc.work_h (by omega) (by rw [e1]; exact Nat.le_refl _), min1_nf (by omega) (by omega)]
  have e3 : workTo (min1 s) (tn (s 1)) 1 = s 1 := by
    rw [hc.work_h (by omega) (by rw [e1]; exact Nat.le_refl _), e1]
  constructor
  · unfold minuteS min2
    rw [f1, f2]
    exact rw1.1.payE (by rw [e3]; exact h.nl3) (by rw [e2]; exact Nat.le_refl _)
  · unfold minuteN
    rw [f1]; exact rw1.2
theorem Rel.goBy (r : Rel c s) (h : Inv T s) : ∀ {n : Nat}, T + n ≤ 1000000 → Rel (goByS c n) (goByS s n) ∧ goByN c n = goByN s n
  | 0, _ => ⟨r, rfl⟩
  | n + 1, hn => by
    obtain ⟨i1, i2⟩ := Rel.goBy r h (n := n) (by omega)
    have := i1.minute (h.goBy (n := n) (by omega)) (by omega)
    simp only [goByS, goByN]
    exact ⟨this.1, by rw [i2, this.2]⟩
end REL2
