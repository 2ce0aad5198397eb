/-! THE MODEL'S STATE: its seven cells, of which the first is the object's own ints -/
def mk7 (σ : Nat → Nat → Int32) (b : Nat) (f0 f1 f2 f3 f4 f5 f6 : Nat → Int32) : Nat → Nat → Int32 := fun n => if n = b then f0 else if n = b + 1 then f1 else if n = b + 2 then f2 else if n = b + 3 then f3 else if n = b + 4 then f4 else if n = b + 5 then f5 else if n = b + 6 then f6 else σ n
section MK
variable {σ : Nat → Nat → Int32} {b : Nat} {f0 f1 f2 f3 f4 f5 f6 : Nat → Int32}
theorem mk7_id : mk7 σ b (σ b) (σ (b + 1)) (σ (b + 2)) (σ (b + 3)) (σ (b + 4)) (σ (b + 5)) (σ (b + 6)) = σ := by
  funext n
  unfold mk7
  split
  · rename_i h; rw [h]
  split
  · rename_i h; rw [h]
  split
  · rename_i h; rw [h]
  split
  · rename_i h; rw [h]
  split
  · rename_i h; rw [h]
  split
  · rename_i h; rw [h]
  split
  · rename_i h; rw [h]
  rfl
theorem mk7_out {n : Nat} (h : n < b ∨ b + 6 < n) : mk7 σ b f0 f1 f2 f3 f4 f5 f6 n = σ n := by
  unfold mk7
  rw [if_neg (by omega), if_neg (by omega), if_neg (by omega), if_neg (by omega), if_neg (by omega), if_neg (by omega), if_neg (by omega)]
theorem mk7_0 : mk7 σ b f0 f1 f2 f3 f4 f5 f6 b = f0 := by simp [mk7]
theorem mk7_st0 (k : Nat) (v : Int32) : st2 (mk7 σ b f0 f1 f2 f3 f4 f5 f6) b k v = mk7 σ b (upd f0 k v) f1 f2 f3 f4 f5 f6 := by
  unfold st2
  rw [mk7_0]
  funext n
  unfold va_up mk7
  repeat' split
  all_goals first | rfl | omega
theorem mk7_1 : mk7 σ b f0 f1 f2 f3 f4 f5 f6 (b + 1) = f1 := by simp [mk7]
theorem mk7_st1 (k : Nat) (v : Int32) : st2 (mk7 σ b f0 f1 f2 f3 f4 f5 f6) (b + 1) k v = mk7 σ b f0 (upd f1 k v) f2 f3 f4 f5 f6 := by
  unfold st2
  rw [mk7_1]
  funext n
  unfold va_up mk7
  repeat' split
  all_goals first | rfl | omega
theorem mk7_2 : mk7 σ b f0 f1 f2 f3 f4 f5 f6 (b + 2) = f2 := by simp [mk7]
theorem mk7_st2 (k : Nat) (v : Int32) : st2 (mk7 σ b f0 f1 f2 f3 f4 f5 f6) (b + 2) k v = mk7 σ b f0 f1 (upd f2 k v) f3 f4 f5 f6 := by
  unfold st2
  rw [mk7_2]
  funext n
  unfold va_up mk7
  repeat' split
  all_goals first | rfl | omega
theorem mk7_3 : mk7 σ b f0 f1 f2 f3 f4 f5 f6 (b + 3) = f3 := by simp [mk7]
theorem mk7_st3 (k : Nat) (v : Int32) : st2 (mk7 σ b f0 f1 f2 f3 f4 f5 f6) (b + 3) k v = mk7 σ b f0 f1 f2 (upd f3 k v) f4 f5 f6 := by
  unfold st2
  rw [mk7_3]
  funext n
  unfold va_up mk7
  repeat' split
  all_goals first | rfl | omega
theorem mk7_4 : mk7 σ b f0 f1 f2 f3 f4 f5 f6 (b + 4) = f4 := by simp [mk7]
theorem mk7_st4 (k : Nat) (v : Int32) : st2 (mk7 σ b f0 f1 f2 f3 f4 f5 f6) (b + 4) k v = mk7 σ b f0 f1 f2 f3 (upd f4 k v) f5 f6 := by
  unfold st2
  rw [mk7_4]
  funext n
  unfold va_up mk7
  repeat' split
  all_goals first | rfl | omega
theorem mk7_5 : mk7 σ b f0 f1 f2 f3 f4 f5 f6 (b + 5) = f5 := by simp [mk7]
theorem mk7_st5 (k : Nat) (v : Int32) : st2 (mk7 σ b f0 f1 f2 f3 f4 f5 f6) (b + 5) k v = mk7 σ b f0 f1 f2 f3 f4 (upd f5 k v) f6 := by
  unfold st2
  rw [mk7_5]
  funext n
  unfold va_up mk7
  repeat' split
  all_goals first | rfl | omega
theorem mk7_6 : mk7 σ b f0 f1 f2 f3 f4 f5 f6 (b + 6) = f6 := by simp [mk7]
theorem mk7_st6 (k : Nat) (v : Int32) : st2 (mk7 σ b f0 f1 f2 f3 f4 f5 f6) (b + 6) k v = mk7 σ b f0 f1 f2 f3 f4 f5 (upd f6 k v) := by
  unfold st2
  rw [mk7_6]
  funext n
  unfold va_up mk7
  repeat' split
  all_goals first | rfl | omega
end MK
section RM
variable {p : Program} {l : Launch} {e : Env} {R : Room} {s : State} {m : MethodId} {args : Array Value} {below : List Frame} {meth : Method} {c : Code} {Q : State → Prop} {D : va_G} {E : Nat → ClassId} {A : Nat → Prop} {cc : ByteArray} {nL : Nat} {own : String} {ret : Option FieldType} {Ts : List Cond} {N : Nat} {G : Nat → Nat} {cells slots : Nat} {pc : Nat} {loc : List (Nat × Value)} {st : List Value} {shp : Nat → (Nat → Int32) → va_E} {σ : Nat → Nat → Int32} {b : Nat} {f0 f1 f2 f3 f4 f5 f6 : Nat → Int32}
theorem m_geti {k index : Nat} (hM : ModS E G shp N b) (hk0 : (ksModel b)[k]? = some none) (hin : ∀ w ∈ u_ws RX6 TX6 13, w ∈ Ts) (hk : k < 13) (hlink : Cond.fieldLink own index RX6 (TX6 k).2.1 (TX6 k).2.2.1 ∈ Ts) (href : (TX6 k).1 = RX6) (hdg : decode cc pc = .ok (.getfield index, 3)) (kk : V p l e R s m args below meth c Q D E A cc nL own ret Ts N G cells slots (φ shp (mk7 σ b f0 f1 f2 f3 f4 f5 f6)) (pc + 3) loc (.int (f0 k) :: st)) : V p l e R s m args below meth c Q D E A cc nL own ret Ts N G cells slots (φ shp (mk7 σ b f0 f1 f2 f3 f4 f5 f6)) pc loc (.ref (G b) :: st) :=
  u_geti hM.n hM.s hk0 rfl hin hk hlink href hdg (by rw [mk7_0]; exact kk)
theorem m_puti {k index : Nat} {v : Int32} {ty : FieldType} (hM : ModS E G shp N b) (hk0 : (ksModel b)[k]? = some none) (hin : ∀ w ∈ u_ws RX6 TX6 13, w ∈ Ts) (hk : k < 13) (hlink : Cond.fieldLink own index RX6 (TX6 k).2.1 (TX6 k).2.2.1 ∈ Ts) (href : (TX6 k).1 = RX6) (hfin : (TX6 k).2.2.2 = false) (hd : parseFieldDescriptor (TX6 k).2.2.1 = some ty) (hnf : narrow ty (.int v) = .int v ∧ fits ty (.int v) = true) (hdg : decode cc pc = .ok (.putfield index, 3)) (kk : V p l e R s m args below meth c Q D E A cc nL own ret Ts N G cells slots (φ shp (mk7 σ b (upd f0 k v) f1 f2 f3 f4 f5 f6)) (pc + 3) loc st) : V p l e R s m args below meth c Q D E A cc nL own ret Ts N G cells slots (φ shp (mk7 σ b f0 f1 f2 f3 f4 f5 f6)) pc loc (.int v :: .ref (G b) :: st) :=
  u_puti hM.n hM.s hk0 rfl hin tyX6 tyX6_ok nmX6 hk hlink href hfin hd hnf.1 hnf.2 hdg (by rw [mk7_st0]; exact kk)
theorem m_ld1 (i : Nat) {x : Int32} (hM : ModS E G shp N b) (hx : x = nI i) (hi : i < 358) (hdg : decode cc pc = .ok (.iaload, 1)) (kk : V p l e R s m args below meth c Q D E A cc nL own ret Ts N G cells slots (φ shp (mk7 σ b f0 f1 f2 f3 f4 f5 f6)) (pc + 1) loc (.int (f1 i) :: st)) : V p l e R s m args below meth c Q D E A cc nL own ret Ts N G cells slots (φ shp (mk7 σ b f0 f1 f2 f3 f4 f5 f6)) pc loc (.int x :: .ref (G (b + 1)) :: st) :=
  u_iald i hM.n1 hM.s1 hx hi (by decide) hdg (by rw [mk7_1]; exact kk)
theorem m_st1 (i : Nat) {x v : Int32} (hM : ModS E G shp N b) (hx : x = nI i) (hi : i < 358) (hdg : decode cc pc = .ok (.iastore, 1)) (kk : V p l e R s m args below meth c Q D E A cc nL own ret Ts N G cells slots (φ shp (mk7 σ b f0 (upd f1 i v) f2 f3 f4 f5 f6)) (pc + 1) loc st) : V p l e R s m args below meth c Q D E A cc nL own ret Ts N G cells slots (φ shp (mk7 σ b f0 f1 f2 f3 f4 f5 f6)) pc loc (.int v :: .int x :: .ref (G (b + 1)) :: st) :=
  u_iast i hM.n1 hM.s1 hx hi (by decide) hdg (by rw [mk7_st1]; exact kk)
theorem m_ld2 (i : Nat) {x : Int32} (hM : ModS E G shp N b) (hx : x = nI i) (hi : i < 1074) (hdg : decode cc pc = .ok (.iaload, 1)) (kk : V p l e R s m args below meth c Q D E A cc nL own ret Ts N G cells slots (φ shp (mk7 σ b f0 f1 f2 f3 f4 f5 f6)) (pc + 1) loc (.int (f2 i) :: st)) : V p l e R s m args below meth c Q D E A cc nL own ret Ts N G cells slots (φ shp (mk7 σ b f0 f1 f2 f3 f4 f5 f6)) pc loc (.int x :: .ref (G (b + 2)) :: st) :=
  u_iald i hM.n2 hM.s2 hx hi (by decide) hdg (by rw [mk7_2]; exact kk)
theorem m_st2 (i : Nat) {x v : Int32} (hM : ModS E G shp N b) (hx : x = nI i) (hi : i < 1074) (hdg : decode cc pc = .ok (.iastore, 1)) (kk : V p l e R s m args below meth c Q D E A cc nL own ret Ts N G cells slots (φ shp (mk7 σ b f0 f1 (upd f2 i v) f3 f4 f5 f6)) (pc + 1) loc st) : V p l e R s m args below meth c Q D E A cc nL own ret Ts N G cells slots (φ shp (mk7 σ b f0 f1 f2 f3 f4 f5 f6)) pc loc (.int v :: .int x :: .ref (G (b + 2)) :: st) :=
  u_iast i hM.n2 hM.s2 hx hi (by decide) hdg (by rw [mk7_st2]; exact kk)
theorem m_ld3 (i : Nat) {x : Int32} (hM : ModS E G shp N b) (hx : x = nI i) (hi : i < 5012) (hdg : decode cc pc = .ok (.iaload, 1)) (kk : V p l e R s m args below meth c Q D E A cc nL own ret Ts N G cells slots (φ shp (mk7 σ b f0 f1 f2 f3 f4 f5 f6)) (pc + 1) loc (.int (f3 i) :: st)) : V p l e R s m args below meth c Q D E A cc nL own ret Ts N G cells slots (φ shp (mk7 σ b f0 f1 f2 f3 f4 f5 f6)) pc loc (.int x :: .ref (G (b + 3)) :: st) :=
  u_iald i hM.n3 hM.s3 hx hi (by decide) hdg (by rw [mk7_3]; exact kk)
theorem m_st3 (i : Nat) {x v : Int32} (hM : ModS E G shp N b) (hx : x = nI i) (hi : i < 5012) (hdg : decode cc pc = .ok (.iastore, 1)) (kk : V p l e R s m args below meth c Q D E A cc nL own ret Ts N G cells slots (φ shp (mk7 σ b f0 f1 f2 (upd f3 i v) f4 f5 f6)) (pc + 1) loc st) : V p l e R s m args below meth c Q D E A cc nL own ret Ts N G cells slots (φ shp (mk7 σ b f0 f1 f2 f3 f4 f5 f6)) pc loc (.int v :: .int x :: .ref (G (b + 3)) :: st) :=
  u_iast i hM.n3 hM.s3 hx hi (by decide) hdg (by rw [mk7_st3]; exact kk)
theorem m_ld4 (i : Nat) {x : Int32} (hM : ModS E G shp N b) (hx : x = nI i) (hi : i < 716) (hdg : decode cc pc = .ok (.iaload, 1)) (kk : V p l e R s m args below meth c Q D E A cc nL own ret Ts N G cells slots (φ shp (mk7 σ b f0 f1 f2 f3 f4 f5 f6)) (pc + 1) loc (.int (f4 i) :: st)) : V p l e R s m args below meth c Q D E A cc nL own ret Ts N G cells slots (φ shp (mk7 σ b f0 f1 f2 f3 f4 f5 f6)) pc loc (.int x :: .ref (G (b + 4)) :: st) :=
  u_iald i hM.n4 hM.s4 hx hi (by decide) hdg (by rw [mk7_4]; exact kk)
theorem m_st4 (i : Nat) {x v : Int32} (hM : ModS E G shp N b) (hx : x = nI i) (hi : i < 716) (hdg : decode cc pc = .ok (.iastore, 1)) (kk : V p l e R s m args below meth c Q D E A cc nL own ret Ts N G cells slots (φ shp (mk7 σ b f0 f1 f2 f3 (upd f4 i v) f5 f6)) (pc + 1) loc st) : V p l e R s m args below meth c Q D E A cc nL own ret Ts N G cells slots (φ shp (mk7 σ b f0 f1 f2 f3 f4 f5 f6)) pc loc (.int v :: .int x :: .ref (G (b + 4)) :: st) :=
  u_iast i hM.n4 hM.s4 hx hi (by decide) hdg (by rw [mk7_st4]; exact kk)
theorem m_ld5 (i : Nat) {x : Int32} (hM : ModS E G shp N b) (hx : x = nI i) (hi : i < 2) (hdg : decode cc pc = .ok (.baload, 1)) (kk : V p l e R s m args below meth c Q D E A cc nL own ret Ts N G cells slots (φ shp (mk7 σ b f0 f1 f2 f3 f4 f5 f6)) (pc + 1) loc (.int (f5 i) :: st)) : V p l e R s m args below meth c Q D E A cc nL own ret Ts N G cells slots (φ shp (mk7 σ b f0 f1 f2 f3 f4 f5 f6)) pc loc (.int x :: .ref (G (b + 5)) :: st) :=
  u_zald i hM.n5 hM.s5 hx hi (by decide) hdg (by rw [mk7_5]; exact kk)
theorem m_st5 (i : Nat) {x v : Int32} (hM : ModS E G shp N b) (hx : x = nI i) (hi : i < 2) (hv : vp_nar .boolean v = v) (hdg : decode cc pc = .ok (.bastore, 1)) (kk : V p l e R s m args below meth c Q D E A cc nL own ret Ts N G cells slots (φ shp (mk7 σ b f0 f1 f2 f3 f4 (upd f5 i v) f6)) (pc + 1) loc st) : V p l e R s m args below meth c Q D E A cc nL own ret Ts N G cells slots (φ shp (mk7 σ b f0 f1 f2 f3 f4 f5 f6)) pc loc (.int v :: .int x :: .ref (G (b + 5)) :: st) :=
  u_zast i hM.n5 hM.s5 hx hi (by decide) hv hdg (by rw [mk7_st5]; exact kk)
theorem m_ld6 (i : Nat) {x : Int32} (hM : ModS E G shp N b) (hx : x = nI i) (hi : i < 100) (hdg : decode cc pc = .ok (.baload, 1)) (kk : V p l e R s m args below meth c Q D E A cc nL own ret Ts N G cells slots (φ shp (mk7 σ b f0 f1 f2 f3 f4 f5 f6)) (pc + 1) loc (.int (f6 i) :: st)) : V p l e R s m args below meth c Q D E A cc nL own ret Ts N G cells slots (φ shp (mk7 σ b f0 f1 f2 f3 f4 f5 f6)) pc loc (.int x :: .ref (G (b + 6)) :: st) :=
  u_bald i hM.n6 hM.s6 hx hi (by decide) hdg (by rw [mk7_6]; exact kk)
theorem m_st6 (i : Nat) {x v : Int32} (hM : ModS E G shp N b) (hx : x = nI i) (hi : i < 100) (hv : vp_nar .byte v = v) (hdg : decode cc pc = .ok (.bastore, 1)) (kk : V p l e R s m args below meth c Q D E A cc nL own ret Ts N G cells slots (φ shp (mk7 σ b f0 f1 f2 f3 f4 f5 (upd f6 i v))) (pc + 1) loc st) : V p l e R s m args below meth c Q D E A cc nL own ret Ts N G cells slots (φ shp (mk7 σ b f0 f1 f2 f3 f4 f5 f6)) pc loc (.int v :: .int x :: .ref (G (b + 6)) :: st) :=
  u_bast i hM.n6 hM.s6 hx hi (by decide) hv hdg (by rw [mk7_st6]; exact kk)
end RM
