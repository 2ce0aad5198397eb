theorem goodIn_c1 {big a : List Cond} {c : Cond} (hc : GoodIn big [c]) (ha : GoodIn big a) : GoodIn big (c :: a) := fun w h => (List.mem_cons.mp h).elim (fun e => hc w (List.mem_cons.mpr (Or.inl e))) (fun h => ha w h)
set_option maxRecDepth 20000 in
theorem ggX6_runScript_X6_succeeds_h : GoodIn wsX6_runScript [.code yX6_succeeds cX6_succeeds 8 (some .boolean)] := goodIn_r _ [24] (by decide +kernel) (by decide +kernel)
set_option maxRecDepth 20000 in
theorem ggX6_runScript_X6_succeeds_0 : GoodIn wsX6_runScript wsX6_succeeds_r1 := goodIn_r _ [20, 25, 26, 27, 7, 28, 29, 30, 31, 32, 33, 34, 35, 36, 5, 6, 8, 37, 38, 39, 40, 41, 42, 43] (by decide +kernel) (by decide +kernel)
set_option maxRecDepth 20000 in
theorem ggX6_runScript_X6_succeeds_1 : GoodIn wsX6_runScript wsX6_succeeds_r2 := goodIn_r _ [44, 45, 46, 47, 48, 49, 50, 51, 52, 53, 54, 55, 56, 57, 58, 59, 60, 61, 62, 63, 64, 65, 66, 67] (by decide +kernel) (by decide +kernel)
set_option maxRecDepth 20000 in
theorem ggX6_runScript_X6_succeeds_2 : GoodIn wsX6_runScript wsX6_succeeds_r3 := goodIn_r _ [68, 69, 70, 71, 72, 73, 74, 75, 76, 77, 78, 79, 80, 81, 82, 83, 84, 85, 86, 87, 88, 89, 90, 91] (by decide +kernel) (by decide +kernel)
set_option maxRecDepth 20000 in
theorem ggX6_runScript_X6_succeeds_3 : GoodIn wsX6_runScript wsX6_succeeds_r4 := goodIn_r _ [92, 93, 94, 95, 96, 97, 98, 99, 100, 101, 102, 103, 104, 105, 106, 107] (by decide +kernel) (by decide +kernel)
set_option maxRecDepth 20000 in
theorem ggX6_runScript_X6_succeeds_4 : GoodIn wsX6_runScript wsX60 := goodIn_r _ [112, 113, 114, 115, 116, 117, 118, 119, 120, 121, 122, 123, 124] (by decide +kernel) (by decide +kernel)
set_option maxRecDepth 20000 in
theorem ggX6_runScript_X6_succeeds : GoodIn wsX6_runScript wsX6_succeeds := goodIn_c1 ggX6_runScript_X6_succeeds_h (goodIn_app (goodIn_app ggX6_runScript_X6_succeeds_0 (goodIn_app ggX6_runScript_X6_succeeds_1 (goodIn_app ggX6_runScript_X6_succeeds_2 ggX6_runScript_X6_succeeds_3))) ggX6_runScript_X6_succeeds_4)
