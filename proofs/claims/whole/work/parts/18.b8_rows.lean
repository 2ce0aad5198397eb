theorem goodIn_tk {big ws : List Cond} {lo : Nat} (k : Nat) (h1 : GoodIn big ((ws.drop lo).take k)) (h2 : GoodIn big (ws.drop (lo + k))) : GoodIn big (ws.drop lo) := fun w h => by
  rw [← List.take_append_drop k (ws.drop lo), List.drop_drop] at h
  exact (List.mem_append.mp h).elim (h1 w) (h2 w)
set_option maxRecDepth 20000 in
theorem ggL_law_X6_runScript_0 : GoodIn wsL_law ((wsX6_runScript.drop 0).take 32) := goodIn_r _ [954, 955, 956, 957, 958, 149, 150, 5, 151, 152, 153, 154, 155, 156, 810, 811, 812, 813, 105, 814, 104, 959, 960, 961, 962, 237, 238, 239, 240, 241, 242, 243] (by decide +kernel) (by decide +kernel)
set_option maxRecDepth 20000 in
theorem ggL_law_X6_runScript_1 : GoodIn wsL_law ((wsX6_runScript.drop 32).take 32) := goodIn_r _ [244, 245, 246, 247, 248, 249, 250, 251, 252, 253, 254, 255, 256, 257, 258, 259, 260, 261, 262, 263, 264, 265, 266, 267, 268, 269, 270, 271, 272, 273, 274, 275] (by decide +kernel) (by decide +kernel)
set_option maxRecDepth 20000 in
theorem ggL_law_X6_runScript_2 : GoodIn wsL_law ((wsX6_runScript.drop 64).take 32) := goodIn_r _ [276, 277, 278, 279, 280, 281, 282, 283, 284, 285, 286, 287, 288, 289, 290, 291, 292, 293, 294, 295, 296, 297, 298, 299, 300, 301, 302, 303, 304, 305, 306, 307] (by decide +kernel) (by decide +kernel)
set_option maxRecDepth 20000 in
theorem ggL_law_X6_runScript_3 : GoodIn wsL_law (wsX6_runScript.drop 96) := goodIn_r _ [723, 724, 725, 726, 727, 728, 729, 730, 731, 732, 733, 734, 815, 816, 817, 818, 1023, 1024, 1025, 1026, 1027, 1028, 1029, 1030, 1031, 1032, 1033, 1034, 1035] (by decide +kernel) (by decide +kernel)
set_option maxRecDepth 20000 in
theorem ggL_law_X6_runScript : GoodIn wsL_law wsX6_runScript := goodIn_tk (lo := 0) 32 ggL_law_X6_runScript_0 (goodIn_tk 32 ggL_law_X6_runScript_1 (goodIn_tk 32 ggL_law_X6_runScript_2 ggL_law_X6_runScript_3))
set_option maxRecDepth 20000 in
theorem gL_law_X6_runScript : GoodIn wsL_law (wsV RL 191 RX6 yX6_runScript wsX6_runScript) := goodIn_app (goodIn_of _ (by decide +kernel)) ggL_law_X6_runScript
