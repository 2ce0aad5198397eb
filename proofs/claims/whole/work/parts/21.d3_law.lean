section LAW9
variable {p : Program} {l : Launch} {e : Env} {s : State} {m : MethodId} {args : Array Value} {below : List Frame} {meth : Method} {c : Code} {Q : State → Prop} {D : va_G} {E : Nat → ClassId} {A : Nat → Prop} {ret : Option FieldType} {G : Nat → Nat} {shp : Nat → (Nat → Int32) → va_E} {b L : Nat} {xs : Nat → Int32}
set_option maxHeartbeats 4000000 in
set_option maxRecDepth 100000 in
theorem law_undo (hl9 : l.stackTraces = false) (hX : StX A s) (hC : StC s) (hS : StoodS E G shp 789) (hO : shp 788 = LoS E 1) (hM : ModS E G shp 789 781) (hb : va_X b L xs s s.heap) (hbl : b < s.heap.size) (hbA : ¬ A b) (hL : L ≤ 2048) {σ : Nat → Nat → Int32} {a : AB} {T i cells slots : Nat} (hCk : Ck σ a) (hMo : Mo σ a) (hG : Go T a) (hT : T ≤ 990000) (hi : i + 4 ≤ L) (hc : cells + 1 ≤ 601024) (hs : slots + 6 ≤ 7293034)
    (hk : ∀ σ' a' cells' slots', Ck σ' a' → Mo σ' a' → Go (T + 1000) a' → cells' ≤ cells + 1 → slots' ≤ slots + 6 → V p l e room_1 s m args below meth c Q D E A cL_law 7 RL ret wsL_law 789 G cells' slots' (φ shp σ') 1792 (lw_loc G b i) []) : V p l e room_1 s m args below meth c Q D E A cL_law 7 RL ret wsL_law 789 G cells slots (φ shp σ) 1106 (lw_loc G b i) [] := by
  obtain ⟨k, v', a', hk3, hG', hW, h6⟩ := op_undo l hl9 D E 789 G shp σ hS (by decide) hO hM hCk hG hT 
  refine v_aload_n 2 dL_law_1106 rfl rfl ?_
  refine v_aload_n 4 dL_law_1107 rfl rfl ?_
  refine u_callSW [.ref (G 0), .ref (G 788)] [] hX hC hW gL_law_L_undo rfl rfl rfl ⟨by decide +kernel, by decide +kernel, Eq.trans (b := some 2) (by decide +kernel) rfl⟩ ⟨Nat.le_of_ble_eq_true rfl, Nat.le_of_ble_eq_true rfl⟩ ⟨hc, hs⟩ (Nat.le_of_ble_eq_true rfl) rfl dL_law_1108 (fun v9 τ9 hp9 => ?_)
  obtain ⟨hv9, hck9, hout9, hfr9⟩ := hp9
  subst hv9
  refine v_st (st' := [.int (nI k)]) rfl ?_
  refine v_istore ((5, .int (nI k)) :: lw_loc G b i) dL_law_1111 (by decide) rfl ?_
  refine v_aload_n 4 dL_law_1113 rfl rfl ?_
  refine u_callVx [] [] 0 (h6 τ9 (hMo.cong hfr9)) (ci := 6) (C := RX6) (T := TX6) (NF := 13) hM.n hM.s rfl gL_law_X6_undo rfl rfl rfl (by decide +kernel) rfl ⟨Nat.le_of_ble_eq_true rfl, Nat.le_of_ble_eq_true rfl⟩ ⟨hc, hs⟩ (Nat.le_of_ble_eq_true rfl) rfl dL_law_1114 (fun v8 τ8 hp8 => ?_)
  obtain ⟨⟨w8, hv8, hw8⟩, hth8, hmo8, hfr8⟩ := hp8
  subst hv8
  refine v_st (st' := [.int w8]) rfl ?_
  refine v_istore ((6, .int w8) :: (5, .int (nI k)) :: lw_loc G b i) dL_law_1117 (by decide) rfl ?_
  refine v_aload_n 5 dL_law_1119 rfl rfl ?_
  refine u_callVx [] [] 0 (lw_thrown l D E 789 G shp τ8 hM hth8) (ci := 6) (C := RX6) (T := TX6) (NF := 13) hM.n hM.s rfl gL_law_X6_thrown rfl rfl rfl (by decide +kernel) rfl ⟨Nat.le_of_ble_eq_true rfl, Nat.le_of_ble_eq_true rfl⟩ ⟨hc, hs⟩ (Nat.le_of_ble_eq_true rfl) rfl dL_law_1120 (fun v7 τ7 hp7 => ?_)
  obtain ⟨hv7, h7⟩ := hp7
  subst hv7
  subst h7
  refine v_st (st' := [.int (nI k)]) rfl ?_
  refine v_iload 1 dL_law_1123 rfl ?_
  refine v_icmp_eqN 1130 (by omega) (by omega) dL_law_1125 rfl (fun _ => ?_) (fun z => absurd rfl z)
  refine v_iload 1 dL_law_1130 rfl ?_
  refine v_if_neN 1147 (by omega) dL_law_1132 rfl (fun _ => ?_) (fun hk0 => ?_)
  · refine v_goto 1792 dL_law_1147 rfl ?_
    refine v_loc [2, 3, 4, 5, 6] (lw_loc G b i) rfl ?_
    exact hk τ7 a' (cells + 1) (slots + 6) (hck9.far (fun n hn => hfr8 n (Or.inl hn))) hmo8 hG' (Nat.le_refl _) (Nat.le_refl _)
  · refine v_aload_n 6 dL_law_1135 rfl rfl ?_
    refine v_iconst (nI 0) dL_law_1136 (by decide +kernel) ?_
    refine u_lald 0 (by decide) hO rfl (by decide) (by decide) dL_law_1137 ?_
    refine v_iload 0 dL_law_1138 rfl ?_
    refine v_i2l dL_law_1140 ?_
    refine v_lcmp dL_law_1141 ?_
    refine v_if_eq 1147 dL_law_1142 rfl (fun _ => ?_) (fun z => absurd ((lg_cmp_eq _ _).mpr (by rw [hfr8 788 (Or.inr rfl), hout9 hk0, hw8 hk0])) z)
    refine v_goto 1792 dL_law_1147 rfl ?_
    refine v_loc [2, 3, 4, 5, 6] (lw_loc G b i) rfl ?_
    exact hk τ7 a' (cells + 1) (slots + 6) (hck9.far (fun n hn => hfr8 n (Or.inl hn))) hmo8 hG' (Nat.le_refl _) (Nat.le_refl _)
set_option maxHeartbeats 4000000 in
set_option maxRecDepth 100000 in
theorem law_servedIn (hl9 : l.stackTraces = false) (hX : StX A s) (hC : StC s) (hS : StoodS E G shp 789) (hO : shp 788 = LoS E 1) (hM : ModS E G shp 789 781) (hb : va_X b L xs s s.heap) (hbl : b < s.heap.size) (hbA : ¬ A b) (hL : L ≤ 2048) {σ : Nat → Nat → Int32} {a : AB} {T i cells slots : Nat} (hCk : Ck σ a) (hMo : Mo σ a) (hG : Go T a) (hT : T ≤ 990000) (hi : i + 4 ≤ L) (hc : cells + 1 ≤ 601024) (hs : slots + 6 ≤ 7293034)
    (hk : ∀ σ' a' cells' slots', Ck σ' a' → Mo σ' a' → Go (T + 1000) a' → cells' ≤ cells + 1 → slots' ≤ slots + 6 → V p l e room_1 s m args below meth c Q D E A cL_law 7 RL ret wsL_law 789 G cells' slots' (φ shp σ') 1792 (lw_loc G b i) []) : V p l e room_1 s m args below meth c Q D E A cL_law 7 RL ret wsL_law 789 G cells slots (φ shp σ) 1150 (lw_loc G b i) [] := by
  obtain ⟨k, v', a', hk3, hG', hW, h6⟩ := op_servedIn l hl9 D E 789 G shp σ hS (by decide) hO hM hCk hG hT (xs (nI (i + 1)).toNatClampNeg)
  refine v_aload_n 2 dL_law_1150 rfl rfl ?_
  refine v_aload_n 1 dL_law_1151 rfl rfl ?_
  refine v_iload 0 dL_law_1152 rfl ?_
  refine v_iconst (nI 1) dL_law_1154 (by decide +kernel) ?_
  refine v_iaddN dL_law_1155 ?_
  refine v_sld hb hbl hbA (vp_in_nI (by omega) (by omega)) dL_law_1156 ?_
  refine v_aload_n 4 dL_law_1157 rfl rfl ?_
  refine u_callSW [.ref (G 0), .int (xs (nI (i + 1)).toNatClampNeg), .ref (G 788)] [] hX hC hW gL_law_L_servedIn rfl rfl rfl ⟨by decide +kernel, by decide +kernel, Eq.trans (b := some 3) (by decide +kernel) rfl⟩ ⟨Nat.le_of_ble_eq_true rfl, Nat.le_of_ble_eq_true rfl⟩ ⟨hc, hs⟩ (Nat.le_of_ble_eq_true rfl) rfl dL_law_1158 (fun v9 τ9 hp9 => ?_)
  obtain ⟨hv9, hck9, hout9, hfr9⟩ := hp9
  subst hv9
  refine v_st (st' := [.int (nI k)]) rfl ?_
  refine v_istore ((5, .int (nI k)) :: lw_loc G b i) dL_law_1161 (by decide) rfl ?_
  refine v_aload_n 4 dL_law_1163 rfl rfl ?_
  refine v_aload_n 2 dL_law_1164 rfl rfl ?_
  refine v_iload 1 dL_law_1165 rfl ?_
  refine v_iconst (nI 1) dL_law_1167 (by decide +kernel) ?_
  refine v_iaddN dL_law_1168 ?_
  refine v_sld hb hbl hbA (vp_in_nI (by omega) (by omega)) dL_law_1169 ?_
  refine u_callVx [.int (xs (nI (i + 1)).toNatClampNeg)] [] 1 (h6 τ9 (hMo.cong hfr9)) (ci := 6) (C := RX6) (T := TX6) (NF := 13) hM.n hM.s rfl gL_law_X6_servedIn rfl rfl rfl (by decide +kernel) rfl ⟨Nat.le_of_ble_eq_true rfl, Nat.le_of_ble_eq_true rfl⟩ ⟨hc, hs⟩ (Nat.le_of_ble_eq_true rfl) rfl dL_law_1170 (fun v8 τ8 hp8 => ?_)
  obtain ⟨⟨w8, hv8, hw8⟩, hth8, hmo8, hfr8⟩ := hp8
  subst hv8
  refine v_st (st' := [.int w8]) rfl ?_
  refine v_istore ((6, .int w8) :: (5, .int (nI k)) :: lw_loc G b i) dL_law_1173 (by decide) rfl ?_
  refine v_aload_n 5 dL_law_1175 rfl rfl ?_
  refine u_callVx [] [] 0 (lw_thrown l D E 789 G shp τ8 hM hth8) (ci := 6) (C := RX6) (T := TX6) (NF := 13) hM.n hM.s rfl gL_law_X6_thrown rfl rfl rfl (by decide +kernel) rfl ⟨Nat.le_of_ble_eq_true rfl, Nat.le_of_ble_eq_true rfl⟩ ⟨hc, hs⟩ (Nat.le_of_ble_eq_true rfl) rfl dL_law_1176 (fun v7 τ7 hp7 => ?_)
  obtain ⟨hv7, h7⟩ := hp7
  subst hv7
  subst h7
  refine v_st (st' := [.int (nI k)]) rfl ?_
  refine v_iload 1 dL_law_1179 rfl ?_
  refine v_icmp_eqN 1186 (by omega) (by omega) dL_law_1181 rfl (fun _ => ?_) (fun z => absurd rfl z)
  refine v_iload 1 dL_law_1186 rfl ?_
  refine v_if_neN 1203 (by omega) dL_law_1188 rfl (fun _ => ?_) (fun hk0 => ?_)
  · refine v_goto 1792 dL_law_1203 rfl ?_
    refine v_loc [2, 3, 4, 5, 6] (lw_loc G b i) rfl ?_
    exact hk τ7 a' (cells + 1) (slots + 6) (hck9.far (fun n hn => hfr8 n (Or.inl hn))) hmo8 hG' (Nat.le_refl _) (Nat.le_refl _)
  · refine v_aload_n 6 dL_law_1191 rfl rfl ?_
    refine v_iconst (nI 0) dL_law_1192 (by decide +kernel) ?_
    refine u_lald 0 (by decide) hO rfl (by decide) (by decide) dL_law_1193 ?_
    refine v_iload 0 dL_law_1194 rfl ?_
    refine v_i2l dL_law_1196 ?_
    refine v_lcmp dL_law_1197 ?_
    refine v_if_eq 1203 dL_law_1198 rfl (fun _ => ?_) (fun z => absurd ((lg_cmp_eq _ _).mpr (by rw [hfr8 788 (Or.inr rfl), hout9 hk0, hw8 hk0])) z)
    refine v_goto 1792 dL_law_1203 rfl ?_
    refine v_loc [2, 3, 4, 5, 6] (lw_loc G b i) rfl ?_
    exact hk τ7 a' (cells + 1) (slots + 6) (hck9.far (fun n hn => hfr8 n (Or.inl hn))) hmo8 hG' (Nat.le_refl _) (Nat.le_refl _)
set_option maxHeartbeats 4000000 in
set_option maxRecDepth 100000 in
theorem law_willPay (hl9 : l.stackTraces = false) (hX : StX A s) (hC : StC s) (hS : StoodS E G shp 789) (hO : shp 788 = LoS E 1) (hM : ModS E G shp 789 781) (hb : va_X b L xs s s.heap) (hbl : b < s.heap.size) (hbA : ¬ A b) (hL : L ≤ 2048) {σ : Nat → Nat → Int32} {a : AB} {T i cells slots : Nat} (hCk : Ck σ a) (hMo : Mo σ a) (hG : Go T a) (hT : T ≤ 990000) (hi : i + 4 ≤ L) (hc : cells + 1 ≤ 601024) (hs : slots + 6 ≤ 7293034)
    (hk : ∀ σ' a' cells' slots', Ck σ' a' → Mo σ' a' → Go (T + 1000) a' → cells' ≤ cells + 1 → slots' ≤ slots + 6 → V p l e room_1 s m args below meth c Q D E A cL_law 7 RL ret wsL_law 789 G cells' slots' (φ shp σ') 1792 (lw_loc G b i) []) : V p l e room_1 s m args below meth c Q D E A cL_law 7 RL ret wsL_law 789 G cells slots (φ shp σ) 1206 (lw_loc G b i) [] := by
  obtain ⟨k, v', a', hk3, hG', hW, h6⟩ := op_willPay l hl9 D E 789 G shp σ hS (by decide) hO hM hCk hG hT (xs (nI (i + 1)).toNatClampNeg)
  refine v_aload_n 2 dL_law_1206 rfl rfl ?_
  refine v_aload_n 1 dL_law_1207 rfl rfl ?_
  refine v_iload 0 dL_law_1208 rfl ?_
  refine v_iconst (nI 1) dL_law_1210 (by decide +kernel) ?_
  refine v_iaddN dL_law_1211 ?_
  refine v_sld hb hbl hbA (vp_in_nI (by omega) (by omega)) dL_law_1212 ?_
  refine v_aload_n 4 dL_law_1213 rfl rfl ?_
  refine u_callSW [.ref (G 0), .int (xs (nI (i + 1)).toNatClampNeg), .ref (G 788)] [] hX hC hW gL_law_L_willPay rfl rfl rfl ⟨by decide +kernel, by decide +kernel, Eq.trans (b := some 3) (by decide +kernel) rfl⟩ ⟨Nat.le_of_ble_eq_true rfl, Nat.le_of_ble_eq_true rfl⟩ ⟨hc, hs⟩ (Nat.le_of_ble_eq_true rfl) rfl dL_law_1214 (fun v9 τ9 hp9 => ?_)
  obtain ⟨hv9, hck9, hout9, hfr9⟩ := hp9
  subst hv9
  refine v_st (st' := [.int (nI k)]) rfl ?_
  refine v_istore ((5, .int (nI k)) :: lw_loc G b i) dL_law_1217 (by decide) rfl ?_
  refine v_aload_n 4 dL_law_1219 rfl rfl ?_
  refine v_aload_n 2 dL_law_1220 rfl rfl ?_
  refine v_iload 1 dL_law_1221 rfl ?_
  refine v_iconst (nI 1) dL_law_1223 (by decide +kernel) ?_
  refine v_iaddN dL_law_1224 ?_
  refine v_sld hb hbl hbA (vp_in_nI (by omega) (by omega)) dL_law_1225 ?_
  refine u_callVx [.int (xs (nI (i + 1)).toNatClampNeg)] [] 1 (h6 τ9 (hMo.cong hfr9)) (ci := 6) (C := RX6) (T := TX6) (NF := 13) hM.n hM.s rfl gL_law_X6_willPay rfl rfl rfl (by decide +kernel) rfl ⟨Nat.le_of_ble_eq_true rfl, Nat.le_of_ble_eq_true rfl⟩ ⟨hc, hs⟩ (Nat.le_of_ble_eq_true rfl) rfl dL_law_1226 (fun v8 τ8 hp8 => ?_)
  obtain ⟨⟨w8, hv8, hw8⟩, hth8, hmo8, hfr8⟩ := hp8
  subst hv8
  refine v_st (st' := [.int w8]) rfl ?_
  refine v_istore ((6, .int w8) :: (5, .int (nI k)) :: lw_loc G b i) dL_law_1229 (by decide) rfl ?_
  refine v_aload_n 5 dL_law_1231 rfl rfl ?_
  refine u_callVx [] [] 0 (lw_thrown l D E 789 G shp τ8 hM hth8) (ci := 6) (C := RX6) (T := TX6) (NF := 13) hM.n hM.s rfl gL_law_X6_thrown rfl rfl rfl (by decide +kernel) rfl ⟨Nat.le_of_ble_eq_true rfl, Nat.le_of_ble_eq_true rfl⟩ ⟨hc, hs⟩ (Nat.le_of_ble_eq_true rfl) rfl dL_law_1232 (fun v7 τ7 hp7 => ?_)
  obtain ⟨hv7, h7⟩ := hp7
  subst hv7
  subst h7
  refine v_st (st' := [.int (nI k)]) rfl ?_
  refine v_iload 1 dL_law_1235 rfl ?_
  refine v_icmp_eqN 1242 (by omega) (by omega) dL_law_1237 rfl (fun _ => ?_) (fun z => absurd rfl z)
  refine v_iload 1 dL_law_1242 rfl ?_
  refine v_if_neN 1259 (by omega) dL_law_1244 rfl (fun _ => ?_) (fun hk0 => ?_)
  · refine v_goto 1792 dL_law_1259 rfl ?_
    refine v_loc [2, 3, 4, 5, 6] (lw_loc G b i) rfl ?_
    exact hk τ7 a' (cells + 1) (slots + 6) (hck9.far (fun n hn => hfr8 n (Or.inl hn))) hmo8 hG' (Nat.le_refl _) (Nat.le_refl _)
  · refine v_aload_n 6 dL_law_1247 rfl rfl ?_
    refine v_iconst (nI 0) dL_law_1248 (by decide +kernel) ?_
    refine u_lald 0 (by decide) hO rfl (by decide) (by decide) dL_law_1249 ?_
    refine v_iload 0 dL_law_1250 rfl ?_
    refine v_i2l dL_law_1252 ?_
    refine v_lcmp dL_law_1253 ?_
    refine v_if_eq 1259 dL_law_1254 rfl (fun _ => ?_) (fun z => absurd ((lg_cmp_eq _ _).mpr (by rw [hfr8 788 (Or.inr rfl), hout9 hk0, hw8 hk0])) z)
    refine v_goto 1792 dL_law_1259 rfl ?_
    refine v_loc [2, 3, 4, 5, 6] (lw_loc G b i) rfl ?_
    exact hk τ7 a' (cells + 1) (slots + 6) (hck9.far (fun n hn => hfr8 n (Or.inl hn))) hmo8 hG' (Nat.le_refl _) (Nat.le_refl _)
set_option maxHeartbeats 4000000 in
set_option maxRecDepth 100000 in
theorem law_gain (hl9 : l.stackTraces = false) (hX : StX A s) (hC : StC s) (hS : StoodS E G shp 789) (hO : shp 788 = LoS E 1) (hM : ModS E G shp 789 781) (hb : va_X b L xs s s.heap) (hbl : b < s.heap.size) (hbA : ¬ A b) (hL : L ≤ 2048) {σ : Nat → Nat → Int32} {a : AB} {T i cells slots : Nat} (hCk : Ck σ a) (hMo : Mo σ a) (hG : Go T a) (hT : T ≤ 990000) (hi : i + 4 ≤ L) (hc : cells + 1 ≤ 601024) (hs : slots + 6 ≤ 7293034)
    (hk : ∀ σ' a' cells' slots', Ck σ' a' → Mo σ' a' → Go (T + 1000) a' → cells' ≤ cells + 1 → slots' ≤ slots + 6 → V p l e room_1 s m args below meth c Q D E A cL_law 7 RL ret wsL_law 789 G cells' slots' (φ shp σ') 1792 (lw_loc G b i) []) : V p l e room_1 s m args below meth c Q D E A cL_law 7 RL ret wsL_law 789 G cells slots (φ shp σ) 1262 (lw_loc G b i) [] := by
  obtain ⟨k, v', a', hk3, hG', hW, h6⟩ := op_gain l hl9 D E 789 G shp σ hS (by decide) hO hM hCk hG hT (xs (nI (i + 1)).toNatClampNeg) (xs (nI (i + 2)).toNatClampNeg)
  refine v_aload_n 2 dL_law_1262 rfl rfl ?_
  refine v_aload_n 1 dL_law_1263 rfl rfl ?_
  refine v_iload 0 dL_law_1264 rfl ?_
  refine v_iconst (nI 1) dL_law_1266 (by decide +kernel) ?_
  refine v_iaddN dL_law_1267 ?_
  refine v_sld hb hbl hbA (vp_in_nI (by omega) (by omega)) dL_law_1268 ?_
  refine v_aload_n 1 dL_law_1269 rfl rfl ?_
  refine v_iload 0 dL_law_1270 rfl ?_
  refine v_iconst (nI 2) dL_law_1272 (by decide +kernel) ?_
  refine v_iaddN dL_law_1273 ?_
  refine v_sld hb hbl hbA (vp_in_nI (by omega) (by omega)) dL_law_1274 ?_
  refine v_aload_n 4 dL_law_1275 rfl rfl ?_
  refine u_callSW [.ref (G 0), .int (xs (nI (i + 1)).toNatClampNeg), .int (xs (nI (i + 2)).toNatClampNeg), .ref (G 788)] [] hX hC hW gL_law_L_gain rfl rfl rfl ⟨by decide +kernel, by decide +kernel, Eq.trans (b := some 4) (by decide +kernel) rfl⟩ ⟨Nat.le_of_ble_eq_true rfl, Nat.le_of_ble_eq_true rfl⟩ ⟨hc, hs⟩ (Nat.le_of_ble_eq_true rfl) rfl dL_law_1276 (fun v9 τ9 hp9 => ?_)
  obtain ⟨hv9, hck9, hout9, hfr9⟩ := hp9
  subst hv9
  refine v_st (st' := [.int (nI k)]) rfl ?_
  refine v_istore ((5, .int (nI k)) :: lw_loc G b i) dL_law_1279 (by decide) rfl ?_
  refine v_aload_n 4 dL_law_1281 rfl rfl ?_
  refine v_aload_n 2 dL_law_1282 rfl rfl ?_
  refine v_iload 1 dL_law_1283 rfl ?_
  refine v_iconst (nI 1) dL_law_1285 (by decide +kernel) ?_
  refine v_iaddN dL_law_1286 ?_
  refine v_sld hb hbl hbA (vp_in_nI (by omega) (by omega)) dL_law_1287 ?_
  refine v_aload_n 2 dL_law_1288 rfl rfl ?_
  refine v_iload 1 dL_law_1289 rfl ?_
  refine v_iconst (nI 2) dL_law_1291 (by decide +kernel) ?_
  refine v_iaddN dL_law_1292 ?_
  refine v_sld hb hbl hbA (vp_in_nI (by omega) (by omega)) dL_law_1293 ?_
  refine u_callVx [.int (xs (nI (i + 1)).toNatClampNeg), .int (xs (nI (i + 2)).toNatClampNeg)] [] 2 (h6 τ9 (hMo.cong hfr9)) (ci := 6) (C := RX6) (T := TX6) (NF := 13) hM.n hM.s rfl gL_law_X6_gain rfl rfl rfl (by decide +kernel) rfl ⟨Nat.le_of_ble_eq_true rfl, Nat.le_of_ble_eq_true rfl⟩ ⟨hc, hs⟩ (Nat.le_of_ble_eq_true rfl) rfl dL_law_1294 (fun v8 τ8 hp8 => ?_)
  obtain ⟨⟨w8, hv8, hw8⟩, hth8, hmo8, hfr8⟩ := hp8
  subst hv8
  refine v_st (st' := [.int w8]) rfl ?_
  refine v_istore ((6, .int w8) :: (5, .int (nI k)) :: lw_loc G b i) dL_law_1297 (by decide) rfl ?_
  refine v_aload_n 5 dL_law_1299 rfl rfl ?_
  refine u_callVx [] [] 0 (lw_thrown l D E 789 G shp τ8 hM hth8) (ci := 6) (C := RX6) (T := TX6) (NF := 13) hM.n hM.s rfl gL_law_X6_thrown rfl rfl rfl (by decide +kernel) rfl ⟨Nat.le_of_ble_eq_true rfl, Nat.le_of_ble_eq_true rfl⟩ ⟨hc, hs⟩ (Nat.le_of_ble_eq_true rfl) rfl dL_law_1300 (fun v7 τ7 hp7 => ?_)
  obtain ⟨hv7, h7⟩ := hp7
  subst hv7
  subst h7
  refine v_st (st' := [.int (nI k)]) rfl ?_
  refine v_iload 1 dL_law_1303 rfl ?_
  refine v_icmp_eqN 1310 (by omega) (by omega) dL_law_1305 rfl (fun _ => ?_) (fun z => absurd rfl z)
  refine v_iload 1 dL_law_1310 rfl ?_
  refine v_if_neN 1327 (by omega) dL_law_1312 rfl (fun _ => ?_) (fun hk0 => ?_)
  · refine v_goto 1792 dL_law_1327 rfl ?_
    refine v_loc [2, 3, 4, 5, 6] (lw_loc G b i) rfl ?_
    exact hk τ7 a' (cells + 1) (slots + 6) (hck9.far (fun n hn => hfr8 n (Or.inl hn))) hmo8 hG' (Nat.le_refl _) (Nat.le_refl _)
  · refine v_aload_n 6 dL_law_1315 rfl rfl ?_
    refine v_iconst (nI 0) dL_law_1316 (by decide +kernel) ?_
    refine u_lald 0 (by decide) hO rfl (by decide) (by decide) dL_law_1317 ?_
    refine v_iload 0 dL_law_1318 rfl ?_
    refine v_i2l dL_law_1320 ?_
    refine v_lcmp dL_law_1321 ?_
    refine v_if_eq 1327 dL_law_1322 rfl (fun _ => ?_) (fun z => absurd ((lg_cmp_eq _ _).mpr (by rw [hfr8 788 (Or.inr rfl), hout9 hk0, hw8 hk0])) z)
    refine v_goto 1792 dL_law_1327 rfl ?_
    refine v_loc [2, 3, 4, 5, 6] (lw_loc G b i) rfl ?_
    exact hk τ7 a' (cells + 1) (slots + 6) (hck9.far (fun n hn => hfr8 n (Or.inl hn))) hmo8 hG' (Nat.le_refl _) (Nat.le_refl _)
set_option maxHeartbeats 4000000 in
set_option maxRecDepth 100000 in
theorem law_partner (hl9 : l.stackTraces = false) (hX : StX A s) (hC : StC s) (hS : StoodS E G shp 789) (hO : shp 788 = LoS E 1) (hM : ModS E G shp 789 781) (hb : va_X b L xs s s.heap) (hbl : b < s.heap.size) (hbA : ¬ A b) (hL : L ≤ 2048) {σ : Nat → Nat → Int32} {a : AB} {T i cells slots : Nat} (hCk : Ck σ a) (hMo : Mo σ a) (hG : Go T a) (hT : T ≤ 990000) (hi : i + 4 ≤ L) (hc : cells + 1 ≤ 601024) (hs : slots + 6 ≤ 7293034)
    (hk : ∀ σ' a' cells' slots', Ck σ' a' → Mo σ' a' → Go (T + 1000) a' → cells' ≤ cells + 1 → slots' ≤ slots + 6 → V p l e room_1 s m args below meth c Q D E A cL_law 7 RL ret wsL_law 789 G cells' slots' (φ shp σ') 1792 (lw_loc G b i) []) : V p l e room_1 s m args below meth c Q D E A cL_law 7 RL ret wsL_law 789 G cells slots (φ shp σ) 1330 (lw_loc G b i) [] := by
  obtain ⟨k, v', a', hk3, hG', hW, h6⟩ := op_partner l hl9 D E 789 G shp σ hS (by decide) hO hM hCk hG hT (xs (nI (i + 1)).toNatClampNeg)
  refine v_aload_n 2 dL_law_1330 rfl rfl ?_
  refine v_aload_n 1 dL_law_1331 rfl rfl ?_
  refine v_iload 0 dL_law_1332 rfl ?_
  refine v_iconst (nI 1) dL_law_1334 (by decide +kernel) ?_
  refine v_iaddN dL_law_1335 ?_
  refine v_sld hb hbl hbA (vp_in_nI (by omega) (by omega)) dL_law_1336 ?_
  refine v_aload_n 4 dL_law_1337 rfl rfl ?_
  refine u_callSW [.ref (G 0), .int (xs (nI (i + 1)).toNatClampNeg), .ref (G 788)] [] hX hC hW gL_law_L_partner rfl rfl rfl ⟨by decide +kernel, by decide +kernel, Eq.trans (b := some 3) (by decide +kernel) rfl⟩ ⟨Nat.le_of_ble_eq_true rfl, Nat.le_of_ble_eq_true rfl⟩ ⟨hc, hs⟩ (Nat.le_of_ble_eq_true rfl) rfl dL_law_1338 (fun v9 τ9 hp9 => ?_)
  obtain ⟨hv9, hck9, hout9, hfr9⟩ := hp9
  subst hv9
  refine v_st (st' := [.int (nI k)]) rfl ?_
  refine v_istore ((5, .int (nI k)) :: lw_loc G b i) dL_law_1341 (by decide) rfl ?_
  refine v_aload_n 4 dL_law_1343 rfl rfl ?_
  refine v_aload_n 2 dL_law_1344 rfl rfl ?_
  refine v_iload 1 dL_law_1345 rfl ?_
  refine v_iconst (nI 1) dL_law_1347 (by decide +kernel) ?_
  refine v_iaddN dL_law_1348 ?_
  refine v_sld hb hbl hbA (vp_in_nI (by omega) (by omega)) dL_law_1349 ?_
  refine u_callVx [.int (xs (nI (i + 1)).toNatClampNeg)] [] 1 (h6 τ9 (hMo.cong hfr9)) (ci := 6) (C := RX6) (T := TX6) (NF := 13) hM.n hM.s rfl gL_law_X6_partner rfl rfl rfl (by decide +kernel) rfl ⟨Nat.le_of_ble_eq_true rfl, Nat.le_of_ble_eq_true rfl⟩ ⟨hc, hs⟩ (Nat.le_of_ble_eq_true rfl) rfl dL_law_1350 (fun v8 τ8 hp8 => ?_)
  obtain ⟨⟨w8, hv8, hw8⟩, hth8, hmo8, hfr8⟩ := hp8
  subst hv8
  refine v_st (st' := [.int w8]) rfl ?_
  refine v_istore ((6, .int w8) :: (5, .int (nI k)) :: lw_loc G b i) dL_law_1353 (by decide) rfl ?_
  refine v_aload_n 5 dL_law_1355 rfl rfl ?_
  refine u_callVx [] [] 0 (lw_thrown l D E 789 G shp τ8 hM hth8) (ci := 6) (C := RX6) (T := TX6) (NF := 13) hM.n hM.s rfl gL_law_X6_thrown rfl rfl rfl (by decide +kernel) rfl ⟨Nat.le_of_ble_eq_true rfl, Nat.le_of_ble_eq_true rfl⟩ ⟨hc, hs⟩ (Nat.le_of_ble_eq_true rfl) rfl dL_law_1356 (fun v7 τ7 hp7 => ?_)
  obtain ⟨hv7, h7⟩ := hp7
  subst hv7
  subst h7
  refine v_st (st' := [.int (nI k)]) rfl ?_
  refine v_iload 1 dL_law_1359 rfl ?_
  refine v_icmp_eqN 1366 (by omega) (by omega) dL_law_1361 rfl (fun _ => ?_) (fun z => absurd rfl z)
  refine v_iload 1 dL_law_1366 rfl ?_
  refine v_if_neN 1383 (by omega) dL_law_1368 rfl (fun _ => ?_) (fun hk0 => ?_)
  · refine v_goto 1792 dL_law_1383 rfl ?_
    refine v_loc [2, 3, 4, 5, 6] (lw_loc G b i) rfl ?_
    exact hk τ7 a' (cells + 1) (slots + 6) (hck9.far (fun n hn => hfr8 n (Or.inl hn))) hmo8 hG' (Nat.le_refl _) (Nat.le_refl _)
  · refine v_aload_n 6 dL_law_1371 rfl rfl ?_
    refine v_iconst (nI 0) dL_law_1372 (by decide +kernel) ?_
    refine u_lald 0 (by decide) hO rfl (by decide) (by decide) dL_law_1373 ?_
    refine v_iload 0 dL_law_1374 rfl ?_
    refine v_i2l dL_law_1376 ?_
    refine v_lcmp dL_law_1377 ?_
    refine v_if_eq 1383 dL_law_1378 rfl (fun _ => ?_) (fun z => absurd ((lg_cmp_eq _ _).mpr (by rw [hfr8 788 (Or.inr rfl), hout9 hk0, hw8 hk0])) z)
    refine v_goto 1792 dL_law_1383 rfl ?_
    refine v_loc [2, 3, 4, 5, 6] (lw_loc G b i) rfl ?_
    exact hk τ7 a' (cells + 1) (slots + 6) (hck9.far (fun n hn => hfr8 n (Or.inl hn))) hmo8 hG' (Nat.le_refl _) (Nat.le_refl _)
set_option maxHeartbeats 4000000 in
set_option maxRecDepth 100000 in
theorem law_bestLine (hl9 : l.stackTraces = false) (hX : StX A s) (hC : StC s) (hS : StoodS E G shp 789) (hO : shp 788 = LoS E 1) (hM : ModS E G shp 789 781) (hb : va_X b L xs s s.heap) (hbl : b < s.heap.size) (hbA : ¬ A b) (hL : L ≤ 2048) {σ : Nat → Nat → Int32} {a : AB} {T i cells slots : Nat} (hCk : Ck σ a) (hMo : Mo σ a) (hG : Go T a) (hT : T ≤ 990000) (hi : i + 4 ≤ L) (hc : cells + 1 ≤ 601024) (hs : slots + 6 ≤ 7293034)
    (hk : ∀ σ' a' cells' slots', Ck σ' a' → Mo σ' a' → Go (T + 1000) a' → cells' ≤ cells + 1 → slots' ≤ slots + 6 → V p l e room_1 s m args below meth c Q D E A cL_law 7 RL ret wsL_law 789 G cells' slots' (φ shp σ') 1792 (lw_loc G b i) []) : V p l e room_1 s m args below meth c Q D E A cL_law 7 RL ret wsL_law 789 G cells slots (φ shp σ) 1386 (lw_loc G b i) [] := by
  obtain ⟨v', a', hG', hW, h6⟩ := op_bestLine l hl9 D E 789 G shp σ hS (by decide) hO hM hCk hG hT
  refine v_aload_n 2 dL_law_1386 rfl rfl ?_
  refine u_callVx [] [] 0 hW (ci := 5) (C := RX5) (T := TX5) (NF := 6) hS.o.1 hS.o.2 rfl gL_law_X5_bestLine rfl rfl rfl (by decide +kernel) rfl ⟨Nat.le_of_ble_eq_true rfl, Nat.le_of_ble_eq_true rfl⟩ ⟨by show _ ≤ 601024; omega, by show _ ≤ 7293034; omega⟩ (Nat.le_of_ble_eq_true rfl) rfl dL_law_1387 (fun v9 τ9 hp9 => ?_)
  obtain ⟨hv9, hck9, hfr9⟩ := hp9
  subst hv9
  refine v_st (st' := [.int v']) rfl ?_
  refine v_aload_n 3 dL_law_1390 rfl rfl ?_
  refine u_callVx [] [.int v'] 0 (h6 τ9 (hMo.cong (fun n g1 g2 => hfr9 n g1 (by omega)))) (ci := 6) (C := RX6) (T := TX6) (NF := 13) hM.n hM.s rfl gL_law_X6_bestLine rfl rfl rfl (by decide +kernel) rfl ⟨Nat.le_of_ble_eq_true rfl, Nat.le_of_ble_eq_true rfl⟩ ⟨by show _ ≤ 601024; omega, by show _ ≤ 7293034; omega⟩ (Nat.le_of_ble_eq_true rfl) rfl dL_law_1391 (fun v8 τ8 hp8 => ?_)
  obtain ⟨⟨w8, hv8, hw8⟩, hth8, hmo8, hfr8⟩ := hp8
  subst hv8
  refine v_st (st' := [.int w8, .int v']) rfl ?_
  refine v_icmp_eq 1792 dL_law_1394 rfl (fun _ => ?_) (fun z => absurd (hw8 rfl).symm z)
  exact hk τ8 a' cells slots (hck9.far (fun n hn => hfr8 n (Or.inl hn))) hmo8 hG' (by omega) (by omega)
set_option maxHeartbeats 4000000 in
set_option maxRecDepth 100000 in
theorem law_longest (hl9 : l.stackTraces = false) (hX : StX A s) (hC : StC s) (hS : StoodS E G shp 789) (hO : shp 788 = LoS E 1) (hM : ModS E G shp 789 781) (hb : va_X b L xs s s.heap) (hbl : b < s.heap.size) (hbA : ¬ A b) (hL : L ≤ 2048) {σ : Nat → Nat → Int32} {a : AB} {T i cells slots : Nat} (hCk : Ck σ a) (hMo : Mo σ a) (hG : Go T a) (hT : T ≤ 990000) (hi : i + 4 ≤ L) (hc : cells + 1 ≤ 601024) (hs : slots + 6 ≤ 7293034)
    (hk : ∀ σ' a' cells' slots', Ck σ' a' → Mo σ' a' → Go (T + 1000) a' → cells' ≤ cells + 1 → slots' ≤ slots + 6 → V p l e room_1 s m args below meth c Q D E A cL_law 7 RL ret wsL_law 789 G cells' slots' (φ shp σ') 1792 (lw_loc G b i) []) : V p l e room_1 s m args below meth c Q D E A cL_law 7 RL ret wsL_law 789 G cells slots (φ shp σ) 1399 (lw_loc G b i) [] := by
  obtain ⟨v', a', hG', hW, h6⟩ := op_longest l hl9 D E 789 G shp σ hS (by decide) hO hM hCk hG hT
  refine v_aload_n 2 dL_law_1399 rfl rfl ?_
  refine u_callVx [] [] 0 hW (ci := 5) (C := RX5) (T := TX5) (NF := 6) hS.o.1 hS.o.2 rfl gL_law_X5_longest rfl rfl rfl (by decide +kernel) rfl ⟨Nat.le_of_ble_eq_true rfl, Nat.le_of_ble_eq_true rfl⟩ ⟨by show _ ≤ 601024; omega, by show _ ≤ 7293034; omega⟩ (Nat.le_of_ble_eq_true rfl) rfl dL_law_1400 (fun v9 τ9 hp9 => ?_)
  obtain ⟨hv9, hck9, hfr9⟩ := hp9
  subst hv9
  refine v_st (st' := [.int v']) rfl ?_
  refine v_aload_n 3 dL_law_1403 rfl rfl ?_
  refine u_callVx [] [.int v'] 0 (h6 τ9 (hMo.cong (fun n g1 g2 => hfr9 n g1 (by omega)))) (ci := 6) (C := RX6) (T := TX6) (NF := 13) hM.n hM.s rfl gL_law_X6_longest rfl rfl rfl (by decide +kernel) rfl ⟨Nat.le_of_ble_eq_true rfl, Nat.le_of_ble_eq_true rfl⟩ ⟨by show _ ≤ 601024; omega, by show _ ≤ 7293034; omega⟩ (Nat.le_of_ble_eq_true rfl) rfl dL_law_1404 (fun v8 τ8 hp8 => ?_)
  obtain ⟨⟨w8, hv8, hw8⟩, hth8, hmo8, hfr8⟩ := hp8
  subst hv8
  refine v_st (st' := [.int w8, .int v']) rfl ?_
  refine v_icmp_eq 1792 dL_law_1407 rfl (fun _ => ?_) (fun z => absurd (hw8 rfl).symm z)
  exact hk τ8 a' cells slots (hck9.far (fun n hn => hfr8 n (Or.inl hn))) hmo8 hG' (by omega) (by omega)
end LAW9
