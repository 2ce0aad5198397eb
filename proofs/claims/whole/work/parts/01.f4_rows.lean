theorem dX6_succeeds_296 : decode cX6_succeeds 296 = .ok (.iload 4, 2) := by decide +kernel
theorem dX6_succeeds_298 : decode cX6_succeeds 298 = .ok (.invokevirtual 65, 3) := by decide +kernel
theorem dX6_succeeds_301 : decode cX6_succeeds 301 = .ok (.iload 5, 2) := by decide +kernel
theorem dX6_succeeds_303 : decode cX6_succeeds 303 = .ok (.if_icmp .ne 7, 3) := by decide +kernel
theorem dX6_succeeds_306 : decode cX6_succeeds 306 = .ok (.iconst 1, 1) := by decide +kernel
theorem dX6_succeeds_307 : decode cX6_succeeds 307 = .ok (.goto 4, 3) := by decide +kernel
theorem dX6_succeeds_310 : decode cX6_succeeds 310 = .ok (.iconst 0, 1) := by decide +kernel
theorem dX6_succeeds_311 : decode cX6_succeeds 311 = .ok (.ireturn, 1) := by decide +kernel
theorem dX6_succeeds_312 : decode cX6_succeeds 312 = .ok (.iload_n 2, 1) := by decide +kernel
theorem dX6_succeeds_313 : decode cX6_succeeds 313 = .ok (.ifCond .ne 21, 3) := by decide +kernel
theorem dX6_succeeds_316 : decode cX6_succeeds 316 = .ok (.aload_n 0, 1) := by decide +kernel
theorem dX6_succeeds_317 : decode cX6_succeeds 317 = .ok (.getfield 7, 3) := by decide +kernel
theorem dX6_succeeds_320 : decode cX6_succeeds 320 = .ok (.iconst 5, 1) := by decide +kernel
theorem dX6_succeeds_321 : decode cX6_succeeds 321 = .ok (.iaload, 1) := by decide +kernel
theorem dX6_succeeds_322 : decode cX6_succeeds 322 = .ok (.iload_n 1, 1) := by decide +kernel
theorem dX6_succeeds_323 : decode cX6_succeeds 323 = .ok (.sipush 1000, 3) := by decide +kernel
theorem dX6_succeeds_326 : decode cX6_succeeds 326 = .ok (.irem, 1) := by decide +kernel
theorem dX6_succeeds_327 : decode cX6_succeeds 327 = .ok (.if_icmp .gt 7, 3) := by decide +kernel
theorem dX6_succeeds_330 : decode cX6_succeeds 330 = .ok (.iconst 1, 1) := by decide +kernel
theorem dX6_succeeds_331 : decode cX6_succeeds 331 = .ok (.goto 4, 3) := by decide +kernel
theorem dX6_succeeds_334 : decode cX6_succeeds 334 = .ok (.iconst 0, 1) := by decide +kernel
theorem dX6_succeeds_335 : decode cX6_succeeds 335 = .ok (.ireturn, 1) := by decide +kernel
theorem dX6_succeeds_336 : decode cX6_succeeds 336 = .ok (.iconst 0, 1) := by decide +kernel
theorem dX6_succeeds_337 : decode cX6_succeeds 337 = .ok (.ireturn, 1) := by decide +kernel
set_option maxRecDepth 20000 in
theorem ggX6_runScript_X6_in : GoodIn wsX6_runScript wsX6_in := goodIn_r _ [8] (by decide +kernel) (by decide +kernel)
set_option maxRecDepth 20000 in
theorem gX6_runScript_X6_in : GoodIn wsX6_runScript (va_wsS RX6 47 yX6_in wsX6_in) := goodIn_app (goodIn_of _ (by decide +kernel)) ggX6_runScript_X6_in
set_option maxRecDepth 20000 in
theorem ggX6_runScript_X6_holds : GoodIn wsX6_runScript wsX6_holds := goodIn_r _ [12, 13, 112, 113, 114, 115, 116, 117, 118, 119, 120, 121, 122, 123, 124] (by decide +kernel) (by decide +kernel)
set_option maxRecDepth 20000 in
theorem gX6_runScript_X6_holds : GoodIn wsX6_runScript (wsV RX6 87 RX6 yX6_holds wsX6_holds) := goodIn_app (goodIn_of _ (by decide +kernel)) ggX6_runScript_X6_holds
set_option maxRecDepth 20000 in
theorem ggX6_runScript_X6_push : GoodIn wsX6_runScript wsX6_push := goodIn_r _ [17, 18, 19, 20, 112, 113, 114, 115, 116, 117, 118, 119, 120, 121, 122, 123, 124] (by decide +kernel) (by decide +kernel)
set_option maxRecDepth 20000 in
theorem gX6_runScript_X6_push : GoodIn wsX6_runScript (wsV RX6 167 RX6 yX6_push wsX6_push) := goodIn_app (goodIn_of _ (by decide +kernel)) ggX6_runScript_X6_push
