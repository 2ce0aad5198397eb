/-! THE CALLS THAT NEVER THROW -/
theorem Pair0.q {lu : Launch} {Dg : va_G} {E : Nat → ClassId} {N : Nat} {G : Nat → Nat} {shp : Nat → (Nat → Int32) → va_E} {σ τ : Nat → Nat → Int32} {a : AB} {T : Nat} {y y6 : MethodName} {ws w6 : List Cond} {rm r6 : Room} {args a6 : List Value} {x v' : Int32} (hC : Ck σ a) (hG : Go T a) (hT : T ≤ 990000) (hW : CS lu y ws rm Dg E N G shp τ args (some (.int x)) τ) (e : τ = σ) (ex : x = v')
    (h6 : ∀ σ2, Mo σ2 a → CX lu y6 w6 r6 Dg E N G shp (mk7 σ2 781 (σ2 781) a.1 (σ2 783) (σ2 784) (σ2 785) (σ2 786) (σ2 787)) a6 (fun v t => v = some (.int v') ∧ ∃ g2, (∀ i, i < 358 * 0 → g2 i = σ2 783 i) ∧ t = mk7 σ2 781 (upd (σ2 781) 0 (nI 0)) a.1 g2 (σ2 784) (σ2 785) (σ2 786) (σ2 787))) : Pair0 lu Dg E N G shp σ a T y ws rm args y6 w6 r6 a6 := by
  refine ⟨v', a, hG.mono (by omega) (by omega), (hW.x.pre e).to (fun v t hh => ⟨by rw [hh.1, ex], by rw [hh.2, e]; exact hC, fun n _ _ => by rw [hh.2, e]⟩), fun σ2 h2 => ((h6 σ2 h2).pre h2.form).to (fun v t hh => ?_)⟩
  obtain ⟨h1, g2, -, h3⟩ := hh
  refine ⟨⟨v', h1, fun _ => rfl⟩, ?_, ?_, fun n hn => ?_⟩
  · rw [h3, mk7_0, upd_ap, if_pos rfl]
  · rw [h3]; exact h2.q (fun i hi => by rw [upd_ap, if_neg (by omega)])
  · rw [h3]; exact mk7_far hn
theorem op_bestLine (lu : Launch) (hl9 : lu.stackTraces = false) (Dg : va_G) (E : Nat → ClassId) (N : Nat) (G : Nat → Nat) (shp : Nat → (Nat → Int32) → va_E) (σ : Nat → Nat → Int32) (hS : StoodS E G shp N) (hN : 788 < N) (hO : shp 788 = LoS E 1) (hM : ModS E G shp N 781) {a : AB} {T : Nat} (hC : Ck σ a) (hG : Go T a) (hT : T ≤ 990000)  : Pair0 lu Dg E N G shp σ a T yX5_bestLine wsX5_bestLine { frames := 3, cells := 0, slots := 0, locals := 65 } [.ref (G 0)] yX6_bestLine wsX6_bestLine { frames := 5, cells := 0, slots := 0, locals := 109 } [.ref (G 781)] := by
  obtain ⟨s, m, h, sl, fl, t, lz⟩ := a
  have hg : G1 T s := hG.1
  have hI : Inv T s := hg.1
  have h14 : m ≤ 14 := hG.2.2.2.1
  obtain ⟨⟨c, hX⟩, h5⟩ := id hC
  obtain ⟨og, hH⟩ := hX.2.2.2.1
  have h1 := hX.1
  have hr : Rel c s := hX.2.1
  have hIc := hr.inv hI
  have e1 : c 1 = s 1 := hr.h (by omega)
  have e2 : c 2 = s 2 := hr.h (by omega)
  exact Pair0.q hC hG hT (c_X5_bestLine_0 lu Dg E N G shp σ hS c hIc) h1 (by rw [e1, hr.bestE hI (Nat.le_refl _)]) (fun σ2 h2 => c_X6_bestLine lu Dg E N G shp σ2 hM (σ2 781) s (σ2 783) (σ2 784) (σ2 785) (σ2 786) (σ2 787) hI (by omega) h2.1.1)
theorem op_longest (lu : Launch) (hl9 : lu.stackTraces = false) (Dg : va_G) (E : Nat → ClassId) (N : Nat) (G : Nat → Nat) (shp : Nat → (Nat → Int32) → va_E) (σ : Nat → Nat → Int32) (hS : StoodS E G shp N) (hN : 788 < N) (hO : shp 788 = LoS E 1) (hM : ModS E G shp N 781) {a : AB} {T : Nat} (hC : Ck σ a) (hG : Go T a) (hT : T ≤ 990000)  : Pair0 lu Dg E N G shp σ a T yX5_longest wsX5_longest { frames := 5, cells := 0, slots := 0, locals := 107 } [.ref (G 0)] yX6_longest wsX6_longest { frames := 5, cells := 0, slots := 0, locals := 109 } [.ref (G 781)] := by
  obtain ⟨s, m, h, sl, fl, t, lz⟩ := a
  have hg : G1 T s := hG.1
  have hI : Inv T s := hg.1
  have h14 : m ≤ 14 := hG.2.2.2.1
  obtain ⟨⟨c, hX⟩, h5⟩ := id hC
  obtain ⟨og, hH⟩ := hX.2.2.2.1
  have h1 := hX.1
  have hr : Rel c s := hX.2.1
  have hIc := hr.inv hI
  have e1 : c 1 = s 1 := hr.h (by omega)
  have e2 : c 2 = s 2 := hr.h (by omega)
  exact Pair0.q hC hG hT (c_X5_longest_0 lu Dg E N G shp σ hS c hIc) h1 (by rw [e2, hr.longE hI (Nat.le_refl _)]) (fun σ2 h2 => c_X6_longest lu Dg E N G shp σ2 hM (σ2 781) s (σ2 783) (σ2 784) (σ2 785) (σ2 786) (σ2 787) hI (by omega) h2.1.1)
theorem op_clearText (lu : Launch) (hl9 : lu.stackTraces = false) (Dg : va_G) (E : Nat → ClassId) (N : Nat) (G : Nat → Nat) (shp : Nat → (Nat → Int32) → va_E) (σ : Nat → Nat → Int32) (hS : StoodS E G shp N) (hN : 788 < N) (hO : shp 788 = LoS E 1) (hM : ModS E G shp N 781) {a : AB} {T : Nat} (hC : Ck σ a) (hG : Go T a) (hT : T ≤ 990000)  : Pair0 lu Dg E N G shp σ a T yX5_clearText wsX5_clearText { frames := 1, cells := 0, slots := 0, locals := 21 } [.ref (G 0)] yX6_clearText wsX6_clearText { frames := 0, cells := 0, slots := 0, locals := 0 } [.ref (G 781)] := by
  obtain ⟨s, m, h, sl, fl, t, lz⟩ := a
  have hg : G1 T s := hG.1
  have hI : Inv T s := hg.1
  have h14 : m ≤ 14 := hG.2.2.2.1
  obtain ⟨⟨c, hX⟩, h5⟩ := id hC
  obtain ⟨og, hH⟩ := hX.2.2.2.1
  have h1 := hX.1
  have hr : Rel c s := hX.2.1
  have hIc := hr.inv hI
  have e1 : c 1 = s 1 := hr.h (by omega)
  have e2 : c 2 = s 2 := hr.h (by omega)
  have t1 : σ 780 = t := hX.2.2.2.2.2.1
  have t2 : σ 779 1 = nI lz := hX.2.2.2.2.2.2
  refine ⟨nI lz, (s, m, h, sl, fl, t, 0), hG.clear.mono (by omega) (by omega), ((c_X5_clearText_0 lu Dg E N G shp σ hS c t2).x.pre h1).to (fun v τ hh => ⟨hh.1, ?_, fun n g1 g2 => ?_⟩), fun σ2 h2 => ((c_X6_clearText lu Dg E N G shp σ2 hM (σ2 781) s (σ2 783) (σ2 784) (σ2 785) (σ2 786) (σ2 787)).x.pre h2.form).to (fun v τ hh => ⟨⟨_, hh.1, fun _ => h2.1.2.2⟩, ?_, ?_, fun n hn => by rw [hh.2]; exact mk7_far hn⟩)⟩
  · rw [hh.2]
    exact ⟨Cl.text hX (fun n hn => by rw [st2_row _ (by omega)]) (by rw [st2_row _ (by omega)]; exact t1) (by rw [st2_eq, if_pos ⟨rfl, rfl⟩]), by rw [hs5, st2_row _ (by omega)]; exact h5⟩
  · rw [hh.2, hs_far (by omega), st2_row _ (by omega)]
  · rw [hh.2, mk7_0, upd_ap, if_neg (by omega), upd_ap, if_pos rfl]
  · rw [hh.2]
    exact h2.clear (fun i hi => by rw [upd_ap, if_neg (by omega), upd_ap, if_neg (by omega)]) (by rw [upd_ap, if_pos rfl])
theorem op_errorPosition (lu : Launch) (hl9 : lu.stackTraces = false) (Dg : va_G) (E : Nat → ClassId) (N : Nat) (G : Nat → Nat) (shp : Nat → (Nat → Int32) → va_E) (σ : Nat → Nat → Int32) (hS : StoodS E G shp N) (hN : 788 < N) (hO : shp 788 = LoS E 1) (hM : ModS E G shp N 781) {a : AB} {T : Nat} (hC : Ck σ a) (hG : Go T a) (hT : T ≤ 990000)  : Pair0 lu Dg E N G shp σ a T yX5_errorPosition wsX5_errorPosition { frames := 5, cells := 0, slots := 0, locals := 107 } [.ref (G 0)] yX6_errorPosition wsX6_errorPosition { frames := 8, cells := 0, slots := 0, locals := 183 } [.ref (G 781)] := by
  obtain ⟨s, m, h, sl, fl, t, lz⟩ := a
  have hg : G1 T s := hG.1
  have hI : Inv T s := hg.1
  have h14 : m ≤ 14 := hG.2.2.2.1
  obtain ⟨⟨c, hX⟩, h5⟩ := id hC
  obtain ⟨og, hH⟩ := hX.2.2.2.1
  have h1 := hX.1
  have hr : Rel c s := hX.2.1
  have hIc := hr.inv hI
  have e1 : c 1 = s 1 := hr.h (by omega)
  have e2 : c 2 = s 2 := hr.h (by omega)
  have t1 : σ 780 = t := hX.2.2.2.2.2.1
  have t2 : σ 779 1 = nI lz := hX.2.2.2.2.2.2
  have h100 : lz ≤ 100 := hG.2.2.2.2.1
  have hRg : ∀ k, k < lz → Rg 256 (t k) := hG.2.2.2.2.2
  have hc := c_X5_errorPosition lu Dg E N G shp σ hS c t2 h100
  rw [t1] at hc
  refine ⟨ic (prs t lz).2 (-1) (nI (prs t lz).1), (s, m, h, sl, fl, t, lz), hG.mono (by omega) (by omega), (hc.x.pre h1).to (fun v τ hh => ⟨hh.1, ?_, fun n g1 g2 => ?_⟩), fun σ2 h2 => ((c_X6_errorPosition lu Dg E N G shp σ2 hM (σ2 781) s (σ2 783) (σ2 784) (σ2 785) (σ2 786) (σ2 787) h2.1.2.2 h100 (fun k hk => by rw [show σ2 787 k = (t k).toInt8.toInt32 from h2.2.2.2.2 k hk]; exact byte_and (hRg k hk)) (fun hk => by rw [show σ2 787 0 = (t 0).toInt8.toInt32 from h2.2.2.2.2 0 hk]; exact byte_87 (hRg 0 hk))).x.pre h2.form).to (fun v τ hh => ⟨⟨_, hh.1, fun _ => rfl⟩, ?_, ?_, fun n hn => by rw [hh.2]; exact mk7_far hn⟩)⟩
  · rw [hh.2]
    exact ⟨Cl.text hX (fun n hn => by rw [st2_row _ (by omega)]) (by rw [st2_row _ (by omega)]; exact t1) (by rw [st2_eq, if_neg (by omega)]; exact t2), by rw [hs5, st2_row _ (by omega)]; exact h5⟩
  · rw [hh.2, hs_far (by omega), st2_row _ (by omega)]
  · rw [hh.2, mk7_0, pz_o _ _ _ _ (by omega), upd_ap, if_pos rfl]
  · rw [hh.2]
    exact h2.q (fun i hi => by rw [pz_o _ _ _ _ (by omega), upd_ap, if_neg (by omega)])
