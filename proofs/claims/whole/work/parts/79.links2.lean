theorem tt_94 : Cond.arrayOver (.object RX5) ∈ lw_tbl := List.mem_of_getElem? (i := 94) (by decide +kernel)
theorem tt_96 : Cond.methodLinkNest RX11 (11) yX5_init RX11 ∈ lw_tbl := List.mem_of_getElem? (i := 96) (by decide +kernel)
theorem tt_103 : Cond.methodLinkNest RX11 (14) yX7_init RX11 ∈ lw_tbl := List.mem_of_getElem? (i := 103) (by decide +kernel)
theorem tt_106 : Cond.methodLinkNest RX7 (1) yX5_init RX11 ∈ lw_tbl := List.mem_of_getElem? (i := 106) (by decide +kernel)
theorem tt_110 : Cond.methodLinkNest RX11 (17) yX1_init RX11 ∈ lw_tbl := List.mem_of_getElem? (i := 110) (by decide +kernel)
theorem tt_113 : Cond.methodLinkNest RX1 (1) yX5_init RX11 ∈ lw_tbl := List.mem_of_getElem? (i := 113) (by decide +kernel)
theorem tt_117 : Cond.methodLinkNest RX11 (20) yX0_init RX11 ∈ lw_tbl := List.mem_of_getElem? (i := 117) (by decide +kernel)
theorem tt_120 : Cond.methodLinkNest RX0 (3) yX5_init RX11 ∈ lw_tbl := List.mem_of_getElem? (i := 120) (by decide +kernel)
theorem tt_124 : Cond.methodLinkNest RX11 (23) yX3_init RX11 ∈ lw_tbl := List.mem_of_getElem? (i := 124) (by decide +kernel)
theorem tt_127 : Cond.methodLinkNest RX3 (1) yX7_init RX11 ∈ lw_tbl := List.mem_of_getElem? (i := 127) (by decide +kernel)
theorem tt_131 : Cond.methodLinkNest RX11 (26) yX2_init RX11 ∈ lw_tbl := List.mem_of_getElem? (i := 131) (by decide +kernel)
theorem tt_134 : Cond.methodLinkNest RX2 (1) yX1_init RX11 ∈ lw_tbl := List.mem_of_getElem? (i := 134) (by decide +kernel)
theorem tt_138 : Cond.methodLinkNest RX11 (29) yX4_init RX11 ∈ lw_tbl := List.mem_of_getElem? (i := 138) (by decide +kernel)
theorem tt_141 : Cond.methodLinkNest RX4 (1) yX0_init RX11 ∈ lw_tbl := List.mem_of_getElem? (i := 141) (by decide +kernel)
theorem tt_208 : Cond.methodLinkNest RX11 (47) yX8_init RX11 ∈ lw_tbl := List.mem_of_getElem? (i := 208) (by decide +kernel)
theorem tt_214 : Cond.stringRef RX8 (20) "cdp" ∈ lw_tbl := List.mem_of_getElem? (i := 214) (by decide +kernel)
theorem tt_248 : Cond.stringRef RX8 (29) "lsd" ∈ lw_tbl := List.mem_of_getElem? (i := 248) (by decide +kernel)
theorem tt_282 : Cond.methodLinkNest RX11 (57) yX9_init RX11 ∈ lw_tbl := List.mem_of_getElem? (i := 282) (by decide +kernel)
theorem tt_305 : Cond.arrayOver (.array .int) ∈ lw_tbl := List.mem_of_getElem? (i := 305) (by decide +kernel)
theorem tt_1496 : Cond.castable RX7 RX5 ∈ lw_tbl := List.mem_of_getElem? (i := 1496) (by decide +kernel)
theorem tt_1497 : Cond.castable RX1 RX5 ∈ lw_tbl := List.mem_of_getElem? (i := 1497) (by decide +kernel)
theorem tt_1498 : Cond.castable RX0 RX5 ∈ lw_tbl := List.mem_of_getElem? (i := 1498) (by decide +kernel)
theorem tt_1499 : Cond.castable RX3 RX5 ∈ lw_tbl := List.mem_of_getElem? (i := 1499) (by decide +kernel)
theorem tt_1500 : Cond.castable RX2 RX5 ∈ lw_tbl := List.mem_of_getElem? (i := 1500) (by decide +kernel)
theorem tt_1501 : Cond.castable RX4 RX5 ∈ lw_tbl := List.mem_of_getElem? (i := 1501) (by decide +kernel)
theorem tw_85 : Cond.classLink RL (7) RX11 ∈ lw_gd := gd (List.mem_of_getElem? (i := 85) (by decide +kernel)) rfl
theorem tw_86 : Cond.instantiable RX11 (11) ∈ lw_gd := gd (List.mem_of_getElem? (i := 86) (by decide +kernel)) rfl
theorem tw_87 : Cond.methodLink RL (9) yX11_init ∈ lw_gd := gd (List.mem_of_getElem? (i := 87) (by decide +kernel)) rfl
theorem tw_88 : Cond.instanceMethod yX11_init ∈ lw_gd := gd (List.mem_of_getElem? (i := 88) (by decide +kernel)) rfl
theorem tw_89 : Cond.code yX11_init cX11_init 2 none ∈ lw_gd := gd (List.mem_of_getElem? (i := 89) (by decide +kernel)) rfl
theorem tw_90 : Cond.methodLink RX11 (3) ⟨"java/lang/Object", "<init>", "()V"⟩ ∈ lw_gd := gd (List.mem_of_getElem? (i := 90) (by decide +kernel)) rfl
theorem tw_91 : Cond.instanceMethod ⟨"java/lang/Object", "<init>", "()V"⟩ ∈ lw_gd := gd (List.mem_of_getElem? (i := 91) (by decide +kernel)) rfl
theorem tw_92 : Cond.code Lib.objectInit ⟨#[0xb1]⟩ 1 none ∈ lw_gd := gd (List.mem_of_getElem? (i := 92) (by decide +kernel)) rfl
theorem tw_93 : Cond.classLink RX11 (9) RX5 ∈ lw_gd := gd (List.mem_of_getElem? (i := 93) (by decide +kernel)) rfl
theorem tw_95 : Cond.instantiable RX5 (0) ∈ lw_gd := gd (List.mem_of_getElem? (i := 95) (by decide +kernel)) rfl
theorem tw_97 : Cond.instanceMethod yX5_init ∈ lw_gd := gd (List.mem_of_getElem? (i := 97) (by decide +kernel)) rfl
theorem tw_98 : Cond.code yX5_init cX5_init 1 none ∈ lw_gd := gd (List.mem_of_getElem? (i := 98) (by decide +kernel)) rfl
theorem tw_99 : Cond.methodLink RX5 (1) ⟨"java/lang/Object", "<init>", "()V"⟩ ∈ lw_gd := gd (List.mem_of_getElem? (i := 99) (by decide +kernel)) rfl
theorem tw_101 : Cond.classLink RX11 (12) RX7 ∈ lw_gd := gd (List.mem_of_getElem? (i := 101) (by decide +kernel)) rfl
theorem tw_102 : Cond.instantiable RX7 (0) ∈ lw_gd := gd (List.mem_of_getElem? (i := 102) (by decide +kernel)) rfl
theorem tw_104 : Cond.instanceMethod yX7_init ∈ lw_gd := gd (List.mem_of_getElem? (i := 104) (by decide +kernel)) rfl
theorem tw_105 : Cond.code yX7_init cX7_init 1 none ∈ lw_gd := gd (List.mem_of_getElem? (i := 105) (by decide +kernel)) rfl
theorem tw_108 : Cond.classLink RX11 (15) RX1 ∈ lw_gd := gd (List.mem_of_getElem? (i := 108) (by decide +kernel)) rfl
theorem tw_109 : Cond.instantiable RX1 (0) ∈ lw_gd := gd (List.mem_of_getElem? (i := 109) (by decide +kernel)) rfl
theorem tw_111 : Cond.instanceMethod yX1_init ∈ lw_gd := gd (List.mem_of_getElem? (i := 111) (by decide +kernel)) rfl
theorem tw_112 : Cond.code yX1_init cX1_init 1 none ∈ lw_gd := gd (List.mem_of_getElem? (i := 112) (by decide +kernel)) rfl
theorem tw_115 : Cond.classLink RX11 (18) RX0 ∈ lw_gd := gd (List.mem_of_getElem? (i := 115) (by decide +kernel)) rfl
theorem tw_116 : Cond.instantiable RX0 (0) ∈ lw_gd := gd (List.mem_of_getElem? (i := 116) (by decide +kernel)) rfl
theorem tw_118 : Cond.instanceMethod yX0_init ∈ lw_gd := gd (List.mem_of_getElem? (i := 118) (by decide +kernel)) rfl
theorem tw_119 : Cond.code yX0_init cX0_init 1 none ∈ lw_gd := gd (List.mem_of_getElem? (i := 119) (by decide +kernel)) rfl
theorem tw_122 : Cond.classLink RX11 (21) RX3 ∈ lw_gd := gd (List.mem_of_getElem? (i := 122) (by decide +kernel)) rfl
theorem tw_123 : Cond.instantiable RX3 (0) ∈ lw_gd := gd (List.mem_of_getElem? (i := 123) (by decide +kernel)) rfl
theorem tw_125 : Cond.instanceMethod yX3_init ∈ lw_gd := gd (List.mem_of_getElem? (i := 125) (by decide +kernel)) rfl
theorem tw_126 : Cond.code yX3_init cX3_init 1 none ∈ lw_gd := gd (List.mem_of_getElem? (i := 126) (by decide +kernel)) rfl
theorem tw_129 : Cond.classLink RX11 (24) RX2 ∈ lw_gd := gd (List.mem_of_getElem? (i := 129) (by decide +kernel)) rfl
theorem tw_130 : Cond.instantiable RX2 (0) ∈ lw_gd := gd (List.mem_of_getElem? (i := 130) (by decide +kernel)) rfl
theorem tw_132 : Cond.instanceMethod yX2_init ∈ lw_gd := gd (List.mem_of_getElem? (i := 132) (by decide +kernel)) rfl
theorem tw_133 : Cond.code yX2_init cX2_init 1 none ∈ lw_gd := gd (List.mem_of_getElem? (i := 133) (by decide +kernel)) rfl
theorem tw_136 : Cond.classLink RX11 (27) RX4 ∈ lw_gd := gd (List.mem_of_getElem? (i := 136) (by decide +kernel)) rfl
theorem tw_137 : Cond.instantiable RX4 (0) ∈ lw_gd := gd (List.mem_of_getElem? (i := 137) (by decide +kernel)) rfl
theorem tw_139 : Cond.instanceMethod yX4_init ∈ lw_gd := gd (List.mem_of_getElem? (i := 139) (by decide +kernel)) rfl
theorem tw_140 : Cond.code yX4_init cX4_init 1 none ∈ lw_gd := gd (List.mem_of_getElem? (i := 140) (by decide +kernel)) rfl
theorem tw_143 : Cond.classLink RX11 (30) RX10 ∈ lw_gd := gd (List.mem_of_getElem? (i := 143) (by decide +kernel)) rfl
theorem tw_144 : Cond.instantiable RX10 (14) ∈ lw_gd := gd (List.mem_of_getElem? (i := 144) (by decide +kernel)) rfl
theorem tw_145 : Cond.methodLink RX11 (32) yX10_init ∈ lw_gd := gd (List.mem_of_getElem? (i := 145) (by decide +kernel)) rfl
theorem tw_146 : Cond.instanceMethod yX10_init ∈ lw_gd := gd (List.mem_of_getElem? (i := 146) (by decide +kernel)) rfl
theorem tw_147 : Cond.code yX10_init cX10_init 3 none ∈ lw_gd := gd (List.mem_of_getElem? (i := 147) (by decide +kernel)) rfl
theorem tw_148 : Cond.methodLink RX10 (3) ⟨"java/lang/Object", "<init>", "()V"⟩ ∈ lw_gd := gd (List.mem_of_getElem? (i := 148) (by decide +kernel)) rfl
theorem tw_205 : Cond.arrayClass .int ∈ lw_gd := gd (List.mem_of_getElem? (i := 205) (by decide +kernel)) rfl
theorem tw_206 : Cond.classLink RX11 (45) RX8 ∈ lw_gd := gd (List.mem_of_getElem? (i := 206) (by decide +kernel)) rfl
theorem tw_207 : Cond.instantiable RX8 (7) ∈ lw_gd := gd (List.mem_of_getElem? (i := 207) (by decide +kernel)) rfl
theorem tw_209 : Cond.instanceMethod yX8_init ∈ lw_gd := gd (List.mem_of_getElem? (i := 209) (by decide +kernel)) rfl
theorem tw_210 : Cond.code yX8_init cX8_init 1 none ∈ lw_gd := gd (List.mem_of_getElem? (i := 210) (by decide +kernel)) rfl
theorem tw_211 : Cond.methodLink RX8 (3) ⟨"java/lang/Object", "<init>", "()V"⟩ ∈ lw_gd := gd (List.mem_of_getElem? (i := 211) (by decide +kernel)) rfl
theorem tw_212 : Cond.classLink RX8 (18) RX6 ∈ lw_gd := gd (List.mem_of_getElem? (i := 212) (by decide +kernel)) rfl
theorem tw_213 : Cond.instantiable RX6 (9) ∈ lw_gd := gd (List.mem_of_getElem? (i := 213) (by decide +kernel)) rfl
theorem tw_215 : Cond.methodLink RX8 (22) yX6_init ∈ lw_gd := gd (List.mem_of_getElem? (i := 215) (by decide +kernel)) rfl
theorem tw_216 : Cond.instanceMethod yX6_init ∈ lw_gd := gd (List.mem_of_getElem? (i := 216) (by decide +kernel)) rfl
theorem tw_217 : Cond.code yX6_init cX6_init 3 none ∈ lw_gd := gd (List.mem_of_getElem? (i := 217) (by decide +kernel)) rfl
theorem tw_218 : Cond.methodLink RX6 (3) ⟨"java/lang/Object", "<init>", "()V"⟩ ∈ lw_gd := gd (List.mem_of_getElem? (i := 218) (by decide +kernel)) rfl
theorem tw_280 : Cond.classLink RX11 (55) RX9 ∈ lw_gd := gd (List.mem_of_getElem? (i := 280) (by decide +kernel)) rfl
theorem tw_281 : Cond.instantiable RX9 (4) ∈ lw_gd := gd (List.mem_of_getElem? (i := 281) (by decide +kernel)) rfl
theorem tw_283 : Cond.instanceMethod yX9_init ∈ lw_gd := gd (List.mem_of_getElem? (i := 283) (by decide +kernel)) rfl
theorem tw_284 : Cond.code yX9_init cX9_init 1 none ∈ lw_gd := gd (List.mem_of_getElem? (i := 284) (by decide +kernel)) rfl
theorem tw_285 : Cond.methodLink RX9 (3) ⟨"java/lang/Object", "<init>", "()V"⟩ ∈ lw_gd := gd (List.mem_of_getElem? (i := 285) (by decide +kernel)) rfl
theorem tw_304 : Cond.classLink RX11 (62) "[[I" ∈ lw_gd := gd (List.mem_of_getElem? (i := 304) (by decide +kernel)) rfl
theorem tw_340 : Cond.methodLink RL (13) yX11_sill ∈ lw_gd := gd (List.mem_of_getElem? (i := 340) (by decide +kernel)) rfl
theorem tw_341 : Cond.instanceMethod yX11_sill ∈ lw_gd := gd (List.mem_of_getElem? (i := 341) (by decide +kernel)) rfl
theorem tw_342 : Cond.selects RX11 yX11_sill yX11_sill ∈ lw_gd := gd (List.mem_of_getElem? (i := 342) (by decide +kernel)) rfl
theorem tw_356 : Cond.methodLink RL (18) yX11_ofSill ∈ lw_gd := gd (List.mem_of_getElem? (i := 356) (by decide +kernel)) rfl
theorem tw_357 : Cond.instanceMethod yX11_ofSill ∈ lw_gd := gd (List.mem_of_getElem? (i := 357) (by decide +kernel)) rfl
theorem tw_358 : Cond.selects RX11 yX11_ofSill yX11_ofSill ∈ lw_gd := gd (List.mem_of_getElem? (i := 358) (by decide +kernel)) rfl
theorem tw_372 : Cond.methodLink RL (23) yX11_town ∈ lw_gd := gd (List.mem_of_getElem? (i := 372) (by decide +kernel)) rfl
theorem tw_373 : Cond.instanceMethod yX11_town ∈ lw_gd := gd (List.mem_of_getElem? (i := 373) (by decide +kernel)) rfl
theorem tw_374 : Cond.selects RX11 yX11_town yX11_town ∈ lw_gd := gd (List.mem_of_getElem? (i := 374) (by decide +kernel)) rfl
theorem tw_377 : Cond.methodLink RL (27) yX11_heir ∈ lw_gd := gd (List.mem_of_getElem? (i := 377) (by decide +kernel)) rfl
theorem tw_378 : Cond.instanceMethod yX11_heir ∈ lw_gd := gd (List.mem_of_getElem? (i := 378) (by decide +kernel)) rfl
theorem tw_379 : Cond.selects RX11 yX11_heir yX11_heir ∈ lw_gd := gd (List.mem_of_getElem? (i := 379) (by decide +kernel)) rfl
theorem tw_393 : Cond.methodLink RL (31) yX11_ofHeir ∈ lw_gd := gd (List.mem_of_getElem? (i := 393) (by decide +kernel)) rfl
theorem tw_394 : Cond.instanceMethod yX11_ofHeir ∈ lw_gd := gd (List.mem_of_getElem? (i := 394) (by decide +kernel)) rfl
theorem tw_395 : Cond.selects RX11 yX11_ofHeir yX11_ofHeir ∈ lw_gd := gd (List.mem_of_getElem? (i := 395) (by decide +kernel)) rfl
theorem tw_503 : Cond.methodLink RL (35) yX11_change ∈ lw_gd := gd (List.mem_of_getElem? (i := 503) (by decide +kernel)) rfl
theorem tw_504 : Cond.instanceMethod yX11_change ∈ lw_gd := gd (List.mem_of_getElem? (i := 504) (by decide +kernel)) rfl
theorem tw_505 : Cond.selects RX11 yX11_change yX11_change ∈ lw_gd := gd (List.mem_of_getElem? (i := 505) (by decide +kernel)) rfl
theorem tw_512 : Cond.methodLink RL (39) yX11_become ∈ lw_gd := gd (List.mem_of_getElem? (i := 512) (by decide +kernel)) rfl
theorem tw_513 : Cond.instanceMethod yX11_become ∈ lw_gd := gd (List.mem_of_getElem? (i := 513) (by decide +kernel)) rfl
theorem tw_514 : Cond.selects RX11 yX11_become yX11_become ∈ lw_gd := gd (List.mem_of_getElem? (i := 514) (by decide +kernel)) rfl
theorem tw_516 : Cond.methodLink RL (43) yX11_as ∈ lw_gd := gd (List.mem_of_getElem? (i := 516) (by decide +kernel)) rfl
theorem tw_517 : Cond.instanceMethod yX11_as ∈ lw_gd := gd (List.mem_of_getElem? (i := 517) (by decide +kernel)) rfl
theorem tw_518 : Cond.selects RX11 yX11_as yX11_as ∈ lw_gd := gd (List.mem_of_getElem? (i := 518) (by decide +kernel)) rfl
theorem tw_526 : Cond.methodLink RL (49) yX11_feed ∈ lw_gd := gd (List.mem_of_getElem? (i := 526) (by decide +kernel)) rfl
theorem tw_527 : Cond.instanceMethod yX11_feed ∈ lw_gd := gd (List.mem_of_getElem? (i := 527) (by decide +kernel)) rfl
theorem tw_528 : Cond.selects RX11 yX11_feed yX11_feed ∈ lw_gd := gd (List.mem_of_getElem? (i := 528) (by decide +kernel)) rfl
theorem tw_535 : Cond.methodLink RL (54) yX11_text ∈ lw_gd := gd (List.mem_of_getElem? (i := 535) (by decide +kernel)) rfl
theorem tw_536 : Cond.instanceMethod yX11_text ∈ lw_gd := gd (List.mem_of_getElem? (i := 536) (by decide +kernel)) rfl
theorem tw_537 : Cond.selects RX11 yX11_text yX11_text ∈ lw_gd := gd (List.mem_of_getElem? (i := 537) (by decide +kernel)) rfl
theorem tw_665 : Cond.methodLink RL (59) yX11_law ∈ lw_gd := gd (List.mem_of_getElem? (i := 665) (by decide +kernel)) rfl
theorem tw_666 : Cond.instanceMethod yX11_law ∈ lw_gd := gd (List.mem_of_getElem? (i := 666) (by decide +kernel)) rfl
theorem tw_667 : Cond.selects RX11 yX11_law yX11_law ∈ lw_gd := gd (List.mem_of_getElem? (i := 667) (by decide +kernel)) rfl
theorem tw_683 : Cond.methodLink RL (64) yX11_days ∈ lw_gd := gd (List.mem_of_getElem? (i := 683) (by decide +kernel)) rfl
theorem tw_684 : Cond.instanceMethod yX11_days ∈ lw_gd := gd (List.mem_of_getElem? (i := 684) (by decide +kernel)) rfl
theorem tw_685 : Cond.selects RX11 yX11_days yX11_days ∈ lw_gd := gd (List.mem_of_getElem? (i := 685) (by decide +kernel)) rfl
theorem tw_726 : Cond.methodLink RL (68) yX11_loose ∈ lw_gd := gd (List.mem_of_getElem? (i := 726) (by decide +kernel)) rfl
theorem tw_727 : Cond.instanceMethod yX11_loose ∈ lw_gd := gd (List.mem_of_getElem? (i := 727) (by decide +kernel)) rfl
theorem tw_728 : Cond.selects RX11 yX11_loose yX11_loose ∈ lw_gd := gd (List.mem_of_getElem? (i := 728) (by decide +kernel)) rfl
theorem tw_736 : Cond.methodLink RL (72) yX11_then ∈ lw_gd := gd (List.mem_of_getElem? (i := 736) (by decide +kernel)) rfl
theorem tw_737 : Cond.instanceMethod yX11_then ∈ lw_gd := gd (List.mem_of_getElem? (i := 737) (by decide +kernel)) rfl
theorem tw_738 : Cond.selects RX11 yX11_then yX11_then ∈ lw_gd := gd (List.mem_of_getElem? (i := 738) (by decide +kernel)) rfl
theorem tw_749 : Cond.methodLink RL (76) yX11_first ∈ lw_gd := gd (List.mem_of_getElem? (i := 749) (by decide +kernel)) rfl
theorem tw_750 : Cond.instanceMethod yX11_first ∈ lw_gd := gd (List.mem_of_getElem? (i := 750) (by decide +kernel)) rfl
theorem tw_751 : Cond.selects RX11 yX11_first yX11_first ∈ lw_gd := gd (List.mem_of_getElem? (i := 751) (by decide +kernel)) rfl
theorem tw_757 : Cond.methodLink RL (80) yX11_meet ∈ lw_gd := gd (List.mem_of_getElem? (i := 757) (by decide +kernel)) rfl
theorem tw_758 : Cond.instanceMethod yX11_meet ∈ lw_gd := gd (List.mem_of_getElem? (i := 758) (by decide +kernel)) rfl
theorem tw_759 : Cond.selects RX11 yX11_meet yX11_meet ∈ lw_gd := gd (List.mem_of_getElem? (i := 759) (by decide +kernel)) rfl
theorem tw_761 : Cond.methodLink RL (84) yX11_bright ∈ lw_gd := gd (List.mem_of_getElem? (i := 761) (by decide +kernel)) rfl
theorem tw_762 : Cond.instanceMethod yX11_bright ∈ lw_gd := gd (List.mem_of_getElem? (i := 762) (by decide +kernel)) rfl
theorem tw_763 : Cond.selects RX11 yX11_bright yX11_bright ∈ lw_gd := gd (List.mem_of_getElem? (i := 763) (by decide +kernel)) rfl
theorem tw_765 : Cond.methodLink RL (88) yX11_place ∈ lw_gd := gd (List.mem_of_getElem? (i := 765) (by decide +kernel)) rfl
theorem tw_766 : Cond.instanceMethod yX11_place ∈ lw_gd := gd (List.mem_of_getElem? (i := 766) (by decide +kernel)) rfl
theorem tw_767 : Cond.selects RX11 yX11_place yX11_place ∈ lw_gd := gd (List.mem_of_getElem? (i := 767) (by decide +kernel)) rfl
theorem tw_769 : Cond.methodLink RL (92) yX11_cartsFor ∈ lw_gd := gd (List.mem_of_getElem? (i := 769) (by decide +kernel)) rfl
theorem tw_770 : Cond.instanceMethod yX11_cartsFor ∈ lw_gd := gd (List.mem_of_getElem? (i := 770) (by decide +kernel)) rfl
theorem tw_771 : Cond.selects RX11 yX11_cartsFor yX11_cartsFor ∈ lw_gd := gd (List.mem_of_getElem? (i := 771) (by decide +kernel)) rfl
theorem tw_782 : Cond.methodLink RL (96) yX11_stop ∈ lw_gd := gd (List.mem_of_getElem? (i := 782) (by decide +kernel)) rfl
theorem tw_783 : Cond.instanceMethod yX11_stop ∈ lw_gd := gd (List.mem_of_getElem? (i := 783) (by decide +kernel)) rfl
theorem tw_784 : Cond.selects RX11 yX11_stop yX11_stop ∈ lw_gd := gd (List.mem_of_getElem? (i := 784) (by decide +kernel)) rfl
theorem tw_786 : Cond.methodLink RL (100) yX11_swap ∈ lw_gd := gd (List.mem_of_getElem? (i := 786) (by decide +kernel)) rfl
theorem tw_787 : Cond.instanceMethod yX11_swap ∈ lw_gd := gd (List.mem_of_getElem? (i := 787) (by decide +kernel)) rfl
theorem tw_788 : Cond.selects RX11 yX11_swap yX11_swap ∈ lw_gd := gd (List.mem_of_getElem? (i := 788) (by decide +kernel)) rfl
theorem tw_790 : Cond.methodLink RL (104) yX11_sunFor ∈ lw_gd := gd (List.mem_of_getElem? (i := 790) (by decide +kernel)) rfl
theorem tw_791 : Cond.instanceMethod yX11_sunFor ∈ lw_gd := gd (List.mem_of_getElem? (i := 791) (by decide +kernel)) rfl
theorem tw_792 : Cond.selects RX11 yX11_sunFor yX11_sunFor ∈ lw_gd := gd (List.mem_of_getElem? (i := 792) (by decide +kernel)) rfl
theorem tw_794 : Cond.methodLink RL (108) yX11_sweepFor ∈ lw_gd := gd (List.mem_of_getElem? (i := 794) (by decide +kernel)) rfl
theorem tw_795 : Cond.instanceMethod yX11_sweepFor ∈ lw_gd := gd (List.mem_of_getElem? (i := 795) (by decide +kernel)) rfl
theorem tw_796 : Cond.selects RX11 yX11_sweepFor yX11_sweepFor ∈ lw_gd := gd (List.mem_of_getElem? (i := 796) (by decide +kernel)) rfl
theorem tw_798 : Cond.methodLink RL (112) yX11_whence ∈ lw_gd := gd (List.mem_of_getElem? (i := 798) (by decide +kernel)) rfl
theorem tw_799 : Cond.instanceMethod yX11_whence ∈ lw_gd := gd (List.mem_of_getElem? (i := 799) (by decide +kernel)) rfl
theorem tw_800 : Cond.selects RX11 yX11_whence yX11_whence ∈ lw_gd := gd (List.mem_of_getElem? (i := 800) (by decide +kernel)) rfl
theorem tw_813 : Cond.methodLink RL (116) yX11_bare ∈ lw_gd := gd (List.mem_of_getElem? (i := 813) (by decide +kernel)) rfl
theorem tw_814 : Cond.instanceMethod yX11_bare ∈ lw_gd := gd (List.mem_of_getElem? (i := 814) (by decide +kernel)) rfl
theorem tw_815 : Cond.selects RX11 yX11_bare yX11_bare ∈ lw_gd := gd (List.mem_of_getElem? (i := 815) (by decide +kernel)) rfl
theorem tw_817 : Cond.methodLink RL (120) yX11_crowd ∈ lw_gd := gd (List.mem_of_getElem? (i := 817) (by decide +kernel)) rfl
theorem tw_818 : Cond.instanceMethod yX11_crowd ∈ lw_gd := gd (List.mem_of_getElem? (i := 818) (by decide +kernel)) rfl
theorem tw_819 : Cond.selects RX11 yX11_crowd yX11_crowd ∈ lw_gd := gd (List.mem_of_getElem? (i := 819) (by decide +kernel)) rfl
theorem tw_822 : Cond.methodLink RL (124) yX11_light ∈ lw_gd := gd (List.mem_of_getElem? (i := 822) (by decide +kernel)) rfl
theorem tw_823 : Cond.instanceMethod yX11_light ∈ lw_gd := gd (List.mem_of_getElem? (i := 823) (by decide +kernel)) rfl
theorem tw_824 : Cond.selects RX11 yX11_light yX11_light ∈ lw_gd := gd (List.mem_of_getElem? (i := 824) (by decide +kernel)) rfl
theorem tw_826 : Cond.methodLink RL (128) yX11_late ∈ lw_gd := gd (List.mem_of_getElem? (i := 826) (by decide +kernel)) rfl
theorem tw_827 : Cond.instanceMethod yX11_late ∈ lw_gd := gd (List.mem_of_getElem? (i := 827) (by decide +kernel)) rfl
theorem tw_828 : Cond.selects RX11 yX11_late yX11_late ∈ lw_gd := gd (List.mem_of_getElem? (i := 828) (by decide +kernel)) rfl
theorem tw_831 : Cond.methodLink RL (132) yX11_odds ∈ lw_gd := gd (List.mem_of_getElem? (i := 831) (by decide +kernel)) rfl
theorem tw_832 : Cond.instanceMethod yX11_odds ∈ lw_gd := gd (List.mem_of_getElem? (i := 832) (by decide +kernel)) rfl
theorem tw_833 : Cond.selects RX11 yX11_odds yX11_odds ∈ lw_gd := gd (List.mem_of_getElem? (i := 833) (by decide +kernel)) rfl
theorem tw_838 : Cond.methodLink RL (136) yX11_seed ∈ lw_gd := gd (List.mem_of_getElem? (i := 838) (by decide +kernel)) rfl
theorem tw_839 : Cond.instanceMethod yX11_seed ∈ lw_gd := gd (List.mem_of_getElem? (i := 839) (by decide +kernel)) rfl
theorem tw_840 : Cond.selects RX11 yX11_seed yX11_seed ∈ lw_gd := gd (List.mem_of_getElem? (i := 840) (by decide +kernel)) rfl
theorem tw_842 : Cond.methodLink RL (140) yX11_voice ∈ lw_gd := gd (List.mem_of_getElem? (i := 842) (by decide +kernel)) rfl
theorem tw_843 : Cond.instanceMethod yX11_voice ∈ lw_gd := gd (List.mem_of_getElem? (i := 843) (by decide +kernel)) rfl
theorem tw_844 : Cond.selects RX11 yX11_voice yX11_voice ∈ lw_gd := gd (List.mem_of_getElem? (i := 844) (by decide +kernel)) rfl
theorem tw_937 : Cond.methodLink RL (144) yX11_trace ∈ lw_gd := gd (List.mem_of_getElem? (i := 937) (by decide +kernel)) rfl
theorem tw_938 : Cond.instanceMethod yX11_trace ∈ lw_gd := gd (List.mem_of_getElem? (i := 938) (by decide +kernel)) rfl
theorem tw_939 : Cond.selects RX11 yX11_trace yX11_trace ∈ lw_gd := gd (List.mem_of_getElem? (i := 939) (by decide +kernel)) rfl
theorem tw_941 : Cond.methodLink RL (148) yX11_sheet ∈ lw_gd := gd (List.mem_of_getElem? (i := 941) (by decide +kernel)) rfl
theorem tw_942 : Cond.instanceMethod yX11_sheet ∈ lw_gd := gd (List.mem_of_getElem? (i := 942) (by decide +kernel)) rfl
theorem tw_943 : Cond.selects RX11 yX11_sheet yX11_sheet ∈ lw_gd := gd (List.mem_of_getElem? (i := 943) (by decide +kernel)) rfl
theorem tw_948 : Cond.methodLink RL (152) yX11_put ∈ lw_gd := gd (List.mem_of_getElem? (i := 948) (by decide +kernel)) rfl
theorem tw_949 : Cond.instanceMethod yX11_put ∈ lw_gd := gd (List.mem_of_getElem? (i := 949) (by decide +kernel)) rfl
theorem tw_950 : Cond.selects RX11 yX11_put yX11_put ∈ lw_gd := gd (List.mem_of_getElem? (i := 950) (by decide +kernel)) rfl
theorem tw_959 : Cond.methodLink RL (156) yX11_move ∈ lw_gd := gd (List.mem_of_getElem? (i := 959) (by decide +kernel)) rfl
theorem tw_960 : Cond.instanceMethod yX11_move ∈ lw_gd := gd (List.mem_of_getElem? (i := 960) (by decide +kernel)) rfl
theorem tw_961 : Cond.selects RX11 yX11_move yX11_move ∈ lw_gd := gd (List.mem_of_getElem? (i := 961) (by decide +kernel)) rfl
theorem tw_964 : Cond.methodLink RL (161) yX11_suns ∈ lw_gd := gd (List.mem_of_getElem? (i := 964) (by decide +kernel)) rfl
theorem tw_965 : Cond.instanceMethod yX11_suns ∈ lw_gd := gd (List.mem_of_getElem? (i := 965) (by decide +kernel)) rfl
theorem tw_966 : Cond.selects RX11 yX11_suns yX11_suns ∈ lw_gd := gd (List.mem_of_getElem? (i := 966) (by decide +kernel)) rfl
theorem tw_969 : Cond.methodLink RL (165) yX11_judge ∈ lw_gd := gd (List.mem_of_getElem? (i := 969) (by decide +kernel)) rfl
theorem tw_970 : Cond.instanceMethod yX11_judge ∈ lw_gd := gd (List.mem_of_getElem? (i := 970) (by decide +kernel)) rfl
theorem tw_971 : Cond.selects RX11 yX11_judge yX11_judge ∈ lw_gd := gd (List.mem_of_getElem? (i := 971) (by decide +kernel)) rfl
theorem tw_973 : Cond.methodLink RL (169) yX11_image ∈ lw_gd := gd (List.mem_of_getElem? (i := 973) (by decide +kernel)) rfl
theorem tw_974 : Cond.instanceMethod yX11_image ∈ lw_gd := gd (List.mem_of_getElem? (i := 974) (by decide +kernel)) rfl
theorem tw_975 : Cond.selects RX11 yX11_image yX11_image ∈ lw_gd := gd (List.mem_of_getElem? (i := 975) (by decide +kernel)) rfl
theorem tw_986 : Cond.methodLink RL (174) yX11_restore ∈ lw_gd := gd (List.mem_of_getElem? (i := 986) (by decide +kernel)) rfl
theorem tw_987 : Cond.instanceMethod yX11_restore ∈ lw_gd := gd (List.mem_of_getElem? (i := 987) (by decide +kernel)) rfl
theorem tw_988 : Cond.selects RX11 yX11_restore yX11_restore ∈ lw_gd := gd (List.mem_of_getElem? (i := 988) (by decide +kernel)) rfl
theorem tw_990 : Cond.methodLink RL (178) yX11_tell ∈ lw_gd := gd (List.mem_of_getElem? (i := 990) (by decide +kernel)) rfl
theorem tw_991 : Cond.instanceMethod yX11_tell ∈ lw_gd := gd (List.mem_of_getElem? (i := 991) (by decide +kernel)) rfl
theorem tw_992 : Cond.selects RX11 yX11_tell yX11_tell ∈ lw_gd := gd (List.mem_of_getElem? (i := 992) (by decide +kernel)) rfl
theorem tw_998 : Cond.methodLink RL (182) yX11_check ∈ lw_gd := gd (List.mem_of_getElem? (i := 998) (by decide +kernel)) rfl
theorem tw_999 : Cond.instanceMethod yX11_check ∈ lw_gd := gd (List.mem_of_getElem? (i := 999) (by decide +kernel)) rfl
theorem tw_1000 : Cond.selects RX11 yX11_check yX11_check ∈ lw_gd := gd (List.mem_of_getElem? (i := 1000) (by decide +kernel)) rfl
theorem tw_1002 : Cond.methodLink RL (186) yX11_count ∈ lw_gd := gd (List.mem_of_getElem? (i := 1002) (by decide +kernel)) rfl
theorem tw_1003 : Cond.instanceMethod yX11_count ∈ lw_gd := gd (List.mem_of_getElem? (i := 1003) (by decide +kernel)) rfl
theorem tw_1004 : Cond.selects RX11 yX11_count yX11_count ∈ lw_gd := gd (List.mem_of_getElem? (i := 1004) (by decide +kernel)) rfl
theorem tw_1009 : Cond.methodLink RL (190) yX11_told ∈ lw_gd := gd (List.mem_of_getElem? (i := 1009) (by decide +kernel)) rfl
theorem tw_1010 : Cond.instanceMethod yX11_told ∈ lw_gd := gd (List.mem_of_getElem? (i := 1010) (by decide +kernel)) rfl
theorem tw_1011 : Cond.selects RX11 yX11_told yX11_told ∈ lw_gd := gd (List.mem_of_getElem? (i := 1011) (by decide +kernel)) rfl
theorem tw_1013 : Cond.classLink RL (10) RX12 ∈ lw_gd := gd (List.mem_of_getElem? (i := 1013) (by decide +kernel)) rfl
theorem tw_1014 : Cond.instantiable RX12 (22) ∈ lw_gd := gd (List.mem_of_getElem? (i := 1014) (by decide +kernel)) rfl
theorem tw_1015 : Cond.methodLink RL (12) yX12_init ∈ lw_gd := gd (List.mem_of_getElem? (i := 1015) (by decide +kernel)) rfl
theorem tw_1016 : Cond.instanceMethod yX12_init ∈ lw_gd := gd (List.mem_of_getElem? (i := 1016) (by decide +kernel)) rfl
theorem tw_1017 : Cond.code yX12_init cX12_init 2 none ∈ lw_gd := gd (List.mem_of_getElem? (i := 1017) (by decide +kernel)) rfl
theorem tw_1018 : Cond.methodLink RX12 (1) ⟨"java/lang/Object", "<init>", "()V"⟩ ∈ lw_gd := gd (List.mem_of_getElem? (i := 1018) (by decide +kernel)) rfl
theorem tw_1086 : Cond.methodLink RL (53) yX12_feed ∈ lw_gd := gd (List.mem_of_getElem? (i := 1086) (by decide +kernel)) rfl
theorem tw_1087 : Cond.instanceMethod yX12_feed ∈ lw_gd := gd (List.mem_of_getElem? (i := 1087) (by decide +kernel)) rfl
theorem tw_1088 : Cond.selects RX12 yX12_feed yX12_feed ∈ lw_gd := gd (List.mem_of_getElem? (i := 1088) (by decide +kernel)) rfl
theorem tw_1100 : Cond.methodLink RL (58) yX12_text ∈ lw_gd := gd (List.mem_of_getElem? (i := 1100) (by decide +kernel)) rfl
theorem tw_1101 : Cond.instanceMethod yX12_text ∈ lw_gd := gd (List.mem_of_getElem? (i := 1101) (by decide +kernel)) rfl
theorem tw_1102 : Cond.selects RX12 yX12_text yX12_text ∈ lw_gd := gd (List.mem_of_getElem? (i := 1102) (by decide +kernel)) rfl
theorem tw_1158 : Cond.methodLink RL (63) yX12_law ∈ lw_gd := gd (List.mem_of_getElem? (i := 1158) (by decide +kernel)) rfl
theorem tw_1159 : Cond.instanceMethod yX12_law ∈ lw_gd := gd (List.mem_of_getElem? (i := 1159) (by decide +kernel)) rfl
theorem tw_1160 : Cond.selects RX12 yX12_law yX12_law ∈ lw_gd := gd (List.mem_of_getElem? (i := 1160) (by decide +kernel)) rfl
theorem tw_1176 : Cond.methodLink RL (17) yX12_sill ∈ lw_gd := gd (List.mem_of_getElem? (i := 1176) (by decide +kernel)) rfl
theorem tw_1177 : Cond.instanceMethod yX12_sill ∈ lw_gd := gd (List.mem_of_getElem? (i := 1177) (by decide +kernel)) rfl
theorem tw_1178 : Cond.selects RX12 yX12_sill yX12_sill ∈ lw_gd := gd (List.mem_of_getElem? (i := 1178) (by decide +kernel)) rfl
theorem tw_1189 : Cond.methodLink RL (22) yX12_ofSill ∈ lw_gd := gd (List.mem_of_getElem? (i := 1189) (by decide +kernel)) rfl
theorem tw_1190 : Cond.instanceMethod yX12_ofSill ∈ lw_gd := gd (List.mem_of_getElem? (i := 1190) (by decide +kernel)) rfl
theorem tw_1191 : Cond.selects RX12 yX12_ofSill yX12_ofSill ∈ lw_gd := gd (List.mem_of_getElem? (i := 1191) (by decide +kernel)) rfl
theorem tw_1202 : Cond.methodLink RL (26) yX12_town ∈ lw_gd := gd (List.mem_of_getElem? (i := 1202) (by decide +kernel)) rfl
theorem tw_1203 : Cond.instanceMethod yX12_town ∈ lw_gd := gd (List.mem_of_getElem? (i := 1203) (by decide +kernel)) rfl
theorem tw_1204 : Cond.selects RX12 yX12_town yX12_town ∈ lw_gd := gd (List.mem_of_getElem? (i := 1204) (by decide +kernel)) rfl
theorem tw_1208 : Cond.methodLink RL (30) yX12_heir ∈ lw_gd := gd (List.mem_of_getElem? (i := 1208) (by decide +kernel)) rfl
theorem tw_1209 : Cond.instanceMethod yX12_heir ∈ lw_gd := gd (List.mem_of_getElem? (i := 1209) (by decide +kernel)) rfl
theorem tw_1210 : Cond.selects RX12 yX12_heir yX12_heir ∈ lw_gd := gd (List.mem_of_getElem? (i := 1210) (by decide +kernel)) rfl
theorem tw_1222 : Cond.methodLink RL (34) yX12_ofHeir ∈ lw_gd := gd (List.mem_of_getElem? (i := 1222) (by decide +kernel)) rfl
theorem tw_1223 : Cond.instanceMethod yX12_ofHeir ∈ lw_gd := gd (List.mem_of_getElem? (i := 1223) (by decide +kernel)) rfl
theorem tw_1224 : Cond.selects RX12 yX12_ofHeir yX12_ofHeir ∈ lw_gd := gd (List.mem_of_getElem? (i := 1224) (by decide +kernel)) rfl
theorem tw_1254 : Cond.methodLink RL (38) yX12_change ∈ lw_gd := gd (List.mem_of_getElem? (i := 1254) (by decide +kernel)) rfl
theorem tw_1255 : Cond.instanceMethod yX12_change ∈ lw_gd := gd (List.mem_of_getElem? (i := 1255) (by decide +kernel)) rfl
theorem tw_1256 : Cond.selects RX12 yX12_change yX12_change ∈ lw_gd := gd (List.mem_of_getElem? (i := 1256) (by decide +kernel)) rfl
theorem tw_1259 : Cond.methodLink RL (42) yX12_become ∈ lw_gd := gd (List.mem_of_getElem? (i := 1259) (by decide +kernel)) rfl
theorem tw_1260 : Cond.instanceMethod yX12_become ∈ lw_gd := gd (List.mem_of_getElem? (i := 1260) (by decide +kernel)) rfl
theorem tw_1261 : Cond.selects RX12 yX12_become yX12_become ∈ lw_gd := gd (List.mem_of_getElem? (i := 1261) (by decide +kernel)) rfl
theorem tw_1263 : Cond.methodLink RL (46) yX12_as ∈ lw_gd := gd (List.mem_of_getElem? (i := 1263) (by decide +kernel)) rfl
theorem tw_1264 : Cond.instanceMethod yX12_as ∈ lw_gd := gd (List.mem_of_getElem? (i := 1264) (by decide +kernel)) rfl
theorem tw_1265 : Cond.selects RX12 yX12_as yX12_as ∈ lw_gd := gd (List.mem_of_getElem? (i := 1265) (by decide +kernel)) rfl
theorem tw_1271 : Cond.methodLink RL (67) yX12_days ∈ lw_gd := gd (List.mem_of_getElem? (i := 1271) (by decide +kernel)) rfl
theorem tw_1272 : Cond.instanceMethod yX12_days ∈ lw_gd := gd (List.mem_of_getElem? (i := 1272) (by decide +kernel)) rfl
theorem tw_1273 : Cond.selects RX12 yX12_days yX12_days ∈ lw_gd := gd (List.mem_of_getElem? (i := 1273) (by decide +kernel)) rfl
theorem tw_1289 : Cond.methodLink RL (71) yX12_loose ∈ lw_gd := gd (List.mem_of_getElem? (i := 1289) (by decide +kernel)) rfl
theorem tw_1290 : Cond.instanceMethod yX12_loose ∈ lw_gd := gd (List.mem_of_getElem? (i := 1290) (by decide +kernel)) rfl
theorem tw_1291 : Cond.selects RX12 yX12_loose yX12_loose ∈ lw_gd := gd (List.mem_of_getElem? (i := 1291) (by decide +kernel)) rfl
theorem tw_1299 : Cond.methodLink RL (75) yX12_then ∈ lw_gd := gd (List.mem_of_getElem? (i := 1299) (by decide +kernel)) rfl
theorem tw_1300 : Cond.instanceMethod yX12_then ∈ lw_gd := gd (List.mem_of_getElem? (i := 1300) (by decide +kernel)) rfl
theorem tw_1301 : Cond.selects RX12 yX12_then yX12_then ∈ lw_gd := gd (List.mem_of_getElem? (i := 1301) (by decide +kernel)) rfl
theorem tw_1318 : Cond.methodLink RL (79) yX12_first ∈ lw_gd := gd (List.mem_of_getElem? (i := 1318) (by decide +kernel)) rfl
theorem tw_1319 : Cond.instanceMethod yX12_first ∈ lw_gd := gd (List.mem_of_getElem? (i := 1319) (by decide +kernel)) rfl
theorem tw_1320 : Cond.selects RX12 yX12_first yX12_first ∈ lw_gd := gd (List.mem_of_getElem? (i := 1320) (by decide +kernel)) rfl
theorem tw_1325 : Cond.methodLink RL (83) yX12_meet ∈ lw_gd := gd (List.mem_of_getElem? (i := 1325) (by decide +kernel)) rfl
theorem tw_1326 : Cond.instanceMethod yX12_meet ∈ lw_gd := gd (List.mem_of_getElem? (i := 1326) (by decide +kernel)) rfl
theorem tw_1327 : Cond.selects RX12 yX12_meet yX12_meet ∈ lw_gd := gd (List.mem_of_getElem? (i := 1327) (by decide +kernel)) rfl
theorem tw_1329 : Cond.methodLink RL (87) yX12_bright ∈ lw_gd := gd (List.mem_of_getElem? (i := 1329) (by decide +kernel)) rfl
theorem tw_1330 : Cond.instanceMethod yX12_bright ∈ lw_gd := gd (List.mem_of_getElem? (i := 1330) (by decide +kernel)) rfl
theorem tw_1331 : Cond.selects RX12 yX12_bright yX12_bright ∈ lw_gd := gd (List.mem_of_getElem? (i := 1331) (by decide +kernel)) rfl
theorem tw_1333 : Cond.methodLink RL (91) yX12_place ∈ lw_gd := gd (List.mem_of_getElem? (i := 1333) (by decide +kernel)) rfl
theorem tw_1334 : Cond.instanceMethod yX12_place ∈ lw_gd := gd (List.mem_of_getElem? (i := 1334) (by decide +kernel)) rfl
theorem tw_1335 : Cond.selects RX12 yX12_place yX12_place ∈ lw_gd := gd (List.mem_of_getElem? (i := 1335) (by decide +kernel)) rfl
theorem tw_1337 : Cond.methodLink RL (95) yX12_cartsFor ∈ lw_gd := gd (List.mem_of_getElem? (i := 1337) (by decide +kernel)) rfl
theorem tw_1338 : Cond.instanceMethod yX12_cartsFor ∈ lw_gd := gd (List.mem_of_getElem? (i := 1338) (by decide +kernel)) rfl
theorem tw_1339 : Cond.selects RX12 yX12_cartsFor yX12_cartsFor ∈ lw_gd := gd (List.mem_of_getElem? (i := 1339) (by decide +kernel)) rfl
theorem tw_1345 : Cond.methodLink RL (99) yX12_stop ∈ lw_gd := gd (List.mem_of_getElem? (i := 1345) (by decide +kernel)) rfl
theorem tw_1346 : Cond.instanceMethod yX12_stop ∈ lw_gd := gd (List.mem_of_getElem? (i := 1346) (by decide +kernel)) rfl
theorem tw_1347 : Cond.selects RX12 yX12_stop yX12_stop ∈ lw_gd := gd (List.mem_of_getElem? (i := 1347) (by decide +kernel)) rfl
theorem tw_1350 : Cond.methodLink RL (103) yX12_swap ∈ lw_gd := gd (List.mem_of_getElem? (i := 1350) (by decide +kernel)) rfl
theorem tw_1351 : Cond.instanceMethod yX12_swap ∈ lw_gd := gd (List.mem_of_getElem? (i := 1351) (by decide +kernel)) rfl
theorem tw_1352 : Cond.selects RX12 yX12_swap yX12_swap ∈ lw_gd := gd (List.mem_of_getElem? (i := 1352) (by decide +kernel)) rfl
theorem tw_1354 : Cond.methodLink RL (107) yX12_sunFor ∈ lw_gd := gd (List.mem_of_getElem? (i := 1354) (by decide +kernel)) rfl
theorem tw_1355 : Cond.instanceMethod yX12_sunFor ∈ lw_gd := gd (List.mem_of_getElem? (i := 1355) (by decide +kernel)) rfl
theorem tw_1356 : Cond.selects RX12 yX12_sunFor yX12_sunFor ∈ lw_gd := gd (List.mem_of_getElem? (i := 1356) (by decide +kernel)) rfl
theorem tw_1358 : Cond.methodLink RL (111) yX12_sweepFor ∈ lw_gd := gd (List.mem_of_getElem? (i := 1358) (by decide +kernel)) rfl
theorem tw_1359 : Cond.instanceMethod yX12_sweepFor ∈ lw_gd := gd (List.mem_of_getElem? (i := 1359) (by decide +kernel)) rfl
theorem tw_1360 : Cond.selects RX12 yX12_sweepFor yX12_sweepFor ∈ lw_gd := gd (List.mem_of_getElem? (i := 1360) (by decide +kernel)) rfl
theorem tw_1362 : Cond.methodLink RL (115) yX12_whence ∈ lw_gd := gd (List.mem_of_getElem? (i := 1362) (by decide +kernel)) rfl
theorem tw_1363 : Cond.instanceMethod yX12_whence ∈ lw_gd := gd (List.mem_of_getElem? (i := 1363) (by decide +kernel)) rfl
theorem tw_1364 : Cond.selects RX12 yX12_whence yX12_whence ∈ lw_gd := gd (List.mem_of_getElem? (i := 1364) (by decide +kernel)) rfl
theorem tw_1369 : Cond.methodLink RL (119) yX12_bare ∈ lw_gd := gd (List.mem_of_getElem? (i := 1369) (by decide +kernel)) rfl
theorem tw_1370 : Cond.instanceMethod yX12_bare ∈ lw_gd := gd (List.mem_of_getElem? (i := 1370) (by decide +kernel)) rfl
theorem tw_1371 : Cond.selects RX12 yX12_bare yX12_bare ∈ lw_gd := gd (List.mem_of_getElem? (i := 1371) (by decide +kernel)) rfl
theorem tw_1373 : Cond.methodLink RL (123) yX12_crowd ∈ lw_gd := gd (List.mem_of_getElem? (i := 1373) (by decide +kernel)) rfl
theorem tw_1374 : Cond.instanceMethod yX12_crowd ∈ lw_gd := gd (List.mem_of_getElem? (i := 1374) (by decide +kernel)) rfl
theorem tw_1375 : Cond.selects RX12 yX12_crowd yX12_crowd ∈ lw_gd := gd (List.mem_of_getElem? (i := 1375) (by decide +kernel)) rfl
theorem tw_1380 : Cond.methodLink RL (127) yX12_light ∈ lw_gd := gd (List.mem_of_getElem? (i := 1380) (by decide +kernel)) rfl
theorem tw_1381 : Cond.instanceMethod yX12_light ∈ lw_gd := gd (List.mem_of_getElem? (i := 1381) (by decide +kernel)) rfl
theorem tw_1382 : Cond.selects RX12 yX12_light yX12_light ∈ lw_gd := gd (List.mem_of_getElem? (i := 1382) (by decide +kernel)) rfl
theorem tw_1384 : Cond.methodLink RL (131) yX12_late ∈ lw_gd := gd (List.mem_of_getElem? (i := 1384) (by decide +kernel)) rfl
theorem tw_1385 : Cond.instanceMethod yX12_late ∈ lw_gd := gd (List.mem_of_getElem? (i := 1385) (by decide +kernel)) rfl
theorem tw_1386 : Cond.selects RX12 yX12_late yX12_late ∈ lw_gd := gd (List.mem_of_getElem? (i := 1386) (by decide +kernel)) rfl
theorem tw_1392 : Cond.methodLink RL (135) yX12_odds ∈ lw_gd := gd (List.mem_of_getElem? (i := 1392) (by decide +kernel)) rfl
theorem tw_1393 : Cond.instanceMethod yX12_odds ∈ lw_gd := gd (List.mem_of_getElem? (i := 1393) (by decide +kernel)) rfl
theorem tw_1394 : Cond.selects RX12 yX12_odds yX12_odds ∈ lw_gd := gd (List.mem_of_getElem? (i := 1394) (by decide +kernel)) rfl
theorem tw_1399 : Cond.methodLink RL (139) yX12_seed ∈ lw_gd := gd (List.mem_of_getElem? (i := 1399) (by decide +kernel)) rfl
theorem tw_1400 : Cond.instanceMethod yX12_seed ∈ lw_gd := gd (List.mem_of_getElem? (i := 1400) (by decide +kernel)) rfl
theorem tw_1401 : Cond.selects RX12 yX12_seed yX12_seed ∈ lw_gd := gd (List.mem_of_getElem? (i := 1401) (by decide +kernel)) rfl
theorem tw_1403 : Cond.methodLink RL (143) yX12_voice ∈ lw_gd := gd (List.mem_of_getElem? (i := 1403) (by decide +kernel)) rfl
theorem tw_1404 : Cond.instanceMethod yX12_voice ∈ lw_gd := gd (List.mem_of_getElem? (i := 1404) (by decide +kernel)) rfl
theorem tw_1405 : Cond.selects RX12 yX12_voice yX12_voice ∈ lw_gd := gd (List.mem_of_getElem? (i := 1405) (by decide +kernel)) rfl
theorem tw_1427 : Cond.methodLink RL (147) yX12_trace ∈ lw_gd := gd (List.mem_of_getElem? (i := 1427) (by decide +kernel)) rfl
theorem tw_1428 : Cond.instanceMethod yX12_trace ∈ lw_gd := gd (List.mem_of_getElem? (i := 1428) (by decide +kernel)) rfl
theorem tw_1429 : Cond.selects RX12 yX12_trace yX12_trace ∈ lw_gd := gd (List.mem_of_getElem? (i := 1429) (by decide +kernel)) rfl
theorem tw_1431 : Cond.methodLink RL (151) yX12_sheet ∈ lw_gd := gd (List.mem_of_getElem? (i := 1431) (by decide +kernel)) rfl
theorem tw_1432 : Cond.instanceMethod yX12_sheet ∈ lw_gd := gd (List.mem_of_getElem? (i := 1432) (by decide +kernel)) rfl
theorem tw_1433 : Cond.selects RX12 yX12_sheet yX12_sheet ∈ lw_gd := gd (List.mem_of_getElem? (i := 1433) (by decide +kernel)) rfl
theorem tw_1435 : Cond.methodLink RL (155) yX12_put ∈ lw_gd := gd (List.mem_of_getElem? (i := 1435) (by decide +kernel)) rfl
theorem tw_1436 : Cond.instanceMethod yX12_put ∈ lw_gd := gd (List.mem_of_getElem? (i := 1436) (by decide +kernel)) rfl
theorem tw_1437 : Cond.selects RX12 yX12_put yX12_put ∈ lw_gd := gd (List.mem_of_getElem? (i := 1437) (by decide +kernel)) rfl
theorem tw_1439 : Cond.methodLink RL (160) yX12_move ∈ lw_gd := gd (List.mem_of_getElem? (i := 1439) (by decide +kernel)) rfl
theorem tw_1440 : Cond.instanceMethod yX12_move ∈ lw_gd := gd (List.mem_of_getElem? (i := 1440) (by decide +kernel)) rfl
theorem tw_1441 : Cond.selects RX12 yX12_move yX12_move ∈ lw_gd := gd (List.mem_of_getElem? (i := 1441) (by decide +kernel)) rfl
theorem tw_1443 : Cond.methodLink RL (164) yX12_suns ∈ lw_gd := gd (List.mem_of_getElem? (i := 1443) (by decide +kernel)) rfl
theorem tw_1444 : Cond.instanceMethod yX12_suns ∈ lw_gd := gd (List.mem_of_getElem? (i := 1444) (by decide +kernel)) rfl
theorem tw_1445 : Cond.selects RX12 yX12_suns yX12_suns ∈ lw_gd := gd (List.mem_of_getElem? (i := 1445) (by decide +kernel)) rfl
theorem tw_1447 : Cond.methodLink RL (168) yX12_judge ∈ lw_gd := gd (List.mem_of_getElem? (i := 1447) (by decide +kernel)) rfl
theorem tw_1448 : Cond.instanceMethod yX12_judge ∈ lw_gd := gd (List.mem_of_getElem? (i := 1448) (by decide +kernel)) rfl
theorem tw_1449 : Cond.selects RX12 yX12_judge yX12_judge ∈ lw_gd := gd (List.mem_of_getElem? (i := 1449) (by decide +kernel)) rfl
theorem tw_1451 : Cond.methodLink RL (173) yX12_image ∈ lw_gd := gd (List.mem_of_getElem? (i := 1451) (by decide +kernel)) rfl
theorem tw_1452 : Cond.instanceMethod yX12_image ∈ lw_gd := gd (List.mem_of_getElem? (i := 1452) (by decide +kernel)) rfl
theorem tw_1453 : Cond.selects RX12 yX12_image yX12_image ∈ lw_gd := gd (List.mem_of_getElem? (i := 1453) (by decide +kernel)) rfl
theorem tw_1455 : Cond.methodLink RL (177) yX12_restore ∈ lw_gd := gd (List.mem_of_getElem? (i := 1455) (by decide +kernel)) rfl
theorem tw_1456 : Cond.instanceMethod yX12_restore ∈ lw_gd := gd (List.mem_of_getElem? (i := 1456) (by decide +kernel)) rfl
theorem tw_1457 : Cond.selects RX12 yX12_restore yX12_restore ∈ lw_gd := gd (List.mem_of_getElem? (i := 1457) (by decide +kernel)) rfl
theorem tw_1459 : Cond.methodLink RL (181) yX12_tell ∈ lw_gd := gd (List.mem_of_getElem? (i := 1459) (by decide +kernel)) rfl
theorem tw_1460 : Cond.instanceMethod yX12_tell ∈ lw_gd := gd (List.mem_of_getElem? (i := 1460) (by decide +kernel)) rfl
theorem tw_1461 : Cond.selects RX12 yX12_tell yX12_tell ∈ lw_gd := gd (List.mem_of_getElem? (i := 1461) (by decide +kernel)) rfl
theorem tw_1463 : Cond.methodLink RL (185) yX12_check ∈ lw_gd := gd (List.mem_of_getElem? (i := 1463) (by decide +kernel)) rfl
theorem tw_1464 : Cond.instanceMethod yX12_check ∈ lw_gd := gd (List.mem_of_getElem? (i := 1464) (by decide +kernel)) rfl
theorem tw_1465 : Cond.selects RX12 yX12_check yX12_check ∈ lw_gd := gd (List.mem_of_getElem? (i := 1465) (by decide +kernel)) rfl
theorem tw_1467 : Cond.methodLink RL (189) yX12_count ∈ lw_gd := gd (List.mem_of_getElem? (i := 1467) (by decide +kernel)) rfl
theorem tw_1468 : Cond.instanceMethod yX12_count ∈ lw_gd := gd (List.mem_of_getElem? (i := 1468) (by decide +kernel)) rfl
theorem tw_1469 : Cond.selects RX12 yX12_count yX12_count ∈ lw_gd := gd (List.mem_of_getElem? (i := 1469) (by decide +kernel)) rfl
theorem tw_1475 : Cond.methodLink RL (193) yX12_told ∈ lw_gd := gd (List.mem_of_getElem? (i := 1475) (by decide +kernel)) rfl
theorem tw_1476 : Cond.instanceMethod yX12_told ∈ lw_gd := gd (List.mem_of_getElem? (i := 1476) (by decide +kernel)) rfl
theorem tw_1477 : Cond.selects RX12 yX12_told yX12_told ∈ lw_gd := gd (List.mem_of_getElem? (i := 1477) (by decide +kernel)) rfl
theorem mi_X0_init : MI mX0_init 0 := ⟨tw_119, tw_67, ⟨by decide +kernel, by decide +kernel, by decide +kernel⟩, rfl⟩
theorem mi_X1_init : MI mX1_init 0 := ⟨tw_112, tw_66, ⟨by decide +kernel, by decide +kernel, by decide +kernel⟩, rfl⟩
theorem mi_X2_init : MI mX2_init 0 := ⟨tw_133, tw_69, ⟨by decide +kernel, by decide +kernel, by decide +kernel⟩, rfl⟩
theorem mi_X3_init : MI mX3_init 0 := ⟨tw_126, tw_68, ⟨by decide +kernel, by decide +kernel, by decide +kernel⟩, rfl⟩
theorem mi_X4_init : MI mX4_init 0 := ⟨tw_140, tw_70, ⟨by decide +kernel, by decide +kernel, by decide +kernel⟩, rfl⟩
theorem mi_X5_init : MI mX5_init 0 := ⟨tw_98, tw_64, ⟨by decide +kernel, by decide +kernel, by decide +kernel⟩, rfl⟩
theorem mi_X6_init : MI mX6_init 2 := ⟨tw_217, tw_73, ⟨by decide +kernel, by decide +kernel, by decide +kernel⟩, rfl⟩
theorem mi_X7_init : MI mX7_init 0 := ⟨tw_105, tw_65, ⟨by decide +kernel, by decide +kernel, by decide +kernel⟩, rfl⟩
theorem mi_X8_init : MI mX8_init 0 := ⟨tw_210, tw_72, ⟨by decide +kernel, by decide +kernel, by decide +kernel⟩, rfl⟩
theorem mi_X9_init : MI mX9_init 0 := ⟨tw_284, tw_74, ⟨by decide +kernel, by decide +kernel, by decide +kernel⟩, rfl⟩
theorem mi_X10_init : MI mX10_init 1 := ⟨tw_147, tw_71, ⟨by decide +kernel, by decide +kernel, by decide +kernel⟩, rfl⟩
theorem mi_X11_init : MI mX11_init 0 := ⟨tw_89, tw_63, ⟨by decide +kernel, by decide +kernel, by decide +kernel⟩, rfl⟩
theorem mi_X12_init : MI mX12_init 0 := ⟨tw_1017, tw_75, ⟨by decide +kernel, by decide +kernel, by decide +kernel⟩, rfl⟩
theorem ob_code : Cond.code Lib.objectInit ⟨#[0xb1]⟩ 1 none ∈ lw_gd := tw_92
theorem ob_inst : Cond.instanceMethod Lib.objectInit ∈ lw_gd := tw_91
theorem ac_int : Cond.arrayClass .int ∈ lw_gd := tw_205
theorem ol_X11_3 : Cond.methodLink RX11 3 Lib.objectInit ∈ lw_gd := tw_90
theorem ol_X5_1 : Cond.methodLink RX5 1 Lib.objectInit ∈ lw_gd := tw_99
theorem ol_X10_3 : Cond.methodLink RX10 3 Lib.objectInit ∈ lw_gd := tw_148
theorem ol_X8_3 : Cond.methodLink RX8 3 Lib.objectInit ∈ lw_gd := tw_211
theorem ol_X6_3 : Cond.methodLink RX6 3 Lib.objectInit ∈ lw_gd := tw_218
theorem ol_X9_3 : Cond.methodLink RX9 3 Lib.objectInit ∈ lw_gd := tw_285
theorem ol_X12_1 : Cond.methodLink RX12 1 Lib.objectInit ∈ lw_gd := tw_1018
theorem ci_L_9 : CIn RL 9 mX11_init 0 := ⟨mi_X11_init, rfl, rfl, tw_88, Or.inl tw_87⟩
theorem ci_X11_11 : CIn RX11 11 mX5_init 0 := ⟨mi_X5_init, rfl, rfl, tw_97, Or.inr ⟨RX11, tt_96⟩⟩
theorem ci_X11_14 : CIn RX11 14 mX7_init 0 := ⟨mi_X7_init, rfl, rfl, tw_104, Or.inr ⟨RX11, tt_103⟩⟩
theorem ci_X7_1 : CIn RX7 1 mX5_init 0 := ⟨mi_X5_init, rfl, rfl, tw_97, Or.inr ⟨RX11, tt_106⟩⟩
theorem ci_X11_17 : CIn RX11 17 mX1_init 0 := ⟨mi_X1_init, rfl, rfl, tw_111, Or.inr ⟨RX11, tt_110⟩⟩
theorem ci_X1_1 : CIn RX1 1 mX5_init 0 := ⟨mi_X5_init, rfl, rfl, tw_97, Or.inr ⟨RX11, tt_113⟩⟩
theorem ci_X11_20 : CIn RX11 20 mX0_init 0 := ⟨mi_X0_init, rfl, rfl, tw_118, Or.inr ⟨RX11, tt_117⟩⟩
theorem ci_X0_3 : CIn RX0 3 mX5_init 0 := ⟨mi_X5_init, rfl, rfl, tw_97, Or.inr ⟨RX11, tt_120⟩⟩
theorem ci_X11_23 : CIn RX11 23 mX3_init 0 := ⟨mi_X3_init, rfl, rfl, tw_125, Or.inr ⟨RX11, tt_124⟩⟩
theorem ci_X3_1 : CIn RX3 1 mX7_init 0 := ⟨mi_X7_init, rfl, rfl, tw_104, Or.inr ⟨RX11, tt_127⟩⟩
theorem ci_X11_26 : CIn RX11 26 mX2_init 0 := ⟨mi_X2_init, rfl, rfl, tw_132, Or.inr ⟨RX11, tt_131⟩⟩
theorem ci_X2_1 : CIn RX2 1 mX1_init 0 := ⟨mi_X1_init, rfl, rfl, tw_111, Or.inr ⟨RX11, tt_134⟩⟩
theorem ci_X11_29 : CIn RX11 29 mX4_init 0 := ⟨mi_X4_init, rfl, rfl, tw_139, Or.inr ⟨RX11, tt_138⟩⟩
theorem ci_X4_1 : CIn RX4 1 mX0_init 0 := ⟨mi_X0_init, rfl, rfl, tw_118, Or.inr ⟨RX11, tt_141⟩⟩
theorem ci_X11_32 : CIn RX11 32 mX10_init 1 := ⟨mi_X10_init, rfl, rfl, tw_146, Or.inl tw_145⟩
theorem ci_X11_47 : CIn RX11 47 mX8_init 0 := ⟨mi_X8_init, rfl, rfl, tw_209, Or.inr ⟨RX11, tt_208⟩⟩
theorem ci_X8_22 : CIn RX8 22 mX6_init 2 := ⟨mi_X6_init, rfl, rfl, tw_216, Or.inl tw_215⟩
theorem ci_X11_57 : CIn RX11 57 mX9_init 0 := ⟨mi_X9_init, rfl, rfl, tw_283, Or.inr ⟨RX11, tt_282⟩⟩
theorem ci_L_12 : CIn RL 12 mX12_init 0 := ⟨mi_X12_init, rfl, rfl, tw_1016, Or.inl tw_1015⟩
theorem fx_X6_9 : FPx RX6 9 6 2 (.array .int) true := ⟨(RX6, TX6, 9), rfl, by decide, tw_221, rfl, by decide +kernel, fun _ => rfl⟩
theorem fx_X6_15 : FPx RX6 15 6 4 (.array .int) true := ⟨(RX6, TX6, 9), rfl, by decide, tw_223, rfl, by decide +kernel, fun _ => rfl⟩
theorem fx_X6_18 : FPx RX6 18 6 5 (.array .int) true := ⟨(RX6, TX6, 9), rfl, by decide, tw_224, rfl, by decide +kernel, fun _ => rfl⟩
theorem fx_X6_21 : FPx RX6 21 6 0 (.object "java/lang/String") true := ⟨(RX6, TX6, 9), rfl, by decide, tw_219, rfl, by decide +kernel, fun _ => rfl⟩
theorem fx_X6_25 : FPx RX6 25 6 1 .int true := ⟨(RX6, TX6, 9), rfl, by decide, tw_220, rfl, by decide +kernel, fun _ => rfl⟩
theorem fx_X8_9 : FPx RX8 9 8 0 (.array .int) true := ⟨(RX8, TX8, 7), rfl, by decide, tw_249, rfl, by decide +kernel, fun _ => rfl⟩
theorem fx_X8_15 : FPx RX8 15 8 1 (.array .int) true := ⟨(RX8, TX8, 7), rfl, by decide, tw_251, rfl, by decide +kernel, fun _ => rfl⟩
theorem fx_X8_25 : FPx RX8 25 8 2 (.object "DustSills$Law") true := ⟨(RX8, TX8, 7), rfl, by decide, tw_253, rfl, by decide +kernel, fun _ => rfl⟩
theorem fx_X8_31 : FPx RX8 31 8 3 (.object "DustSills$Law") true := ⟨(RX8, TX8, 7), rfl, by decide, tw_256, rfl, by decide +kernel, fun _ => rfl⟩
theorem fx_X8_34 : FPx RX8 34 8 6 .int false := ⟨(RX8, TX8, 7), rfl, by decide, tw_263, rfl, by decide +kernel, fun h => by cases h⟩
theorem fx_X9_9 : FPx RX9 9 9 0 (.array .int) true := ⟨(RX9, TX9, 4), rfl, by decide, tw_286, rfl, by decide +kernel, fun _ => rfl⟩
theorem fx_X10_9 : FPx RX10 9 10 1 (.array .int) true := ⟨(RX10, TX10, 14), rfl, by decide, tw_150, rfl, by decide +kernel, fun _ => rfl⟩
theorem fx_X10_15 : FPx RX10 15 10 2 (.array .int) true := ⟨(RX10, TX10, 14), rfl, by decide, tw_152, rfl, by decide +kernel, fun _ => rfl⟩
theorem fx_X10_18 : FPx RX10 18 10 3 (.array .int) true := ⟨(RX10, TX10, 14), rfl, by decide, tw_154, rfl, by decide +kernel, fun _ => rfl⟩
theorem fx_X10_21 : FPx RX10 21 10 4 (.array .int) true := ⟨(RX10, TX10, 14), rfl, by decide, tw_156, rfl, by decide +kernel, fun _ => rfl⟩
theorem fx_X10_24 : FPx RX10 24 10 5 (.array .int) true := ⟨(RX10, TX10, 14), rfl, by decide, tw_158, rfl, by decide +kernel, fun _ => rfl⟩
theorem fx_X10_27 : FPx RX10 27 10 6 (.array .int) true := ⟨(RX10, TX10, 14), rfl, by decide, tw_160, rfl, by decide +kernel, fun _ => rfl⟩
theorem fx_X10_30 : FPx RX10 30 10 7 (.array .int) true := ⟨(RX10, TX10, 14), rfl, by decide, tw_162, rfl, by decide +kernel, fun _ => rfl⟩
theorem fx_X10_33 : FPx RX10 33 10 8 (.array .int) true := ⟨(RX10, TX10, 14), rfl, by decide, tw_164, rfl, by decide +kernel, fun _ => rfl⟩
theorem fx_X10_36 : FPx RX10 36 10 10 .int false := ⟨(RX10, TX10, 14), rfl, by decide, tw_168, rfl, by decide +kernel, fun h => by cases h⟩
theorem fx_X10_40 : FPx RX10 40 10 11 .int false := ⟨(RX10, TX10, 14), rfl, by decide, tw_170, rfl, by decide +kernel, fun h => by cases h⟩
theorem fx_X10_43 : FPx RX10 43 10 0 (.array (.object "DustSills$Heir")) true := ⟨(RX10, TX10, 14), rfl, by decide, tw_149, rfl, by decide +kernel, fun _ => rfl⟩
theorem fx_X11_35 : FPx RX11 35 11 0 (.object "DustSills$Town") true := ⟨(RX11, TX11, 11), rfl, by decide, tw_306, rfl, by decide +kernel, fun _ => rfl⟩
theorem fx_X11_39 : FPx RX11 39 11 1 (.object "DustSills$Town") true := ⟨(RX11, TX11, 11), rfl, by decide, tw_307, rfl, by decide +kernel, fun _ => rfl⟩
theorem fx_X11_42 : FPx RX11 42 11 2 (.object "DustSills$Town") true := ⟨(RX11, TX11, 11), rfl, by decide, tw_308, rfl, by decide +kernel, fun _ => rfl⟩
theorem fx_X11_48 : FPx RX11 48 11 3 (.object "DustSills$Papers") true := ⟨(RX11, TX11, 11), rfl, by decide, tw_309, rfl, by decide +kernel, fun _ => rfl⟩
theorem fx_X11_52 : FPx RX11 52 11 4 (.object "DustSills$Papers") true := ⟨(RX11, TX11, 11), rfl, by decide, tw_310, rfl, by decide +kernel, fun _ => rfl⟩
theorem fx_X11_58 : FPx RX11 58 11 5 (.object "DustSills$Speech") true := ⟨(RX11, TX11, 11), rfl, by decide, tw_311, rfl, by decide +kernel, fun _ => rfl⟩
theorem fx_X11_64 : FPx RX11 64 11 6 (.array (.array .int)) true := ⟨(RX11, TX11, 11), rfl, by decide, tw_312, rfl, by decide +kernel, fun _ => rfl⟩
theorem fx_X11_67 : FPx RX11 67 11 7 (.array .int) true := ⟨(RX11, TX11, 11), rfl, by decide, tw_313, rfl, by decide +kernel, fun _ => rfl⟩
theorem fx_X11_71 : FPx RX11 71 11 8 (.array .int) true := ⟨(RX11, TX11, 11), rfl, by decide, tw_314, rfl, by decide +kernel, fun _ => rfl⟩
theorem fx_X11_74 : FPx RX11 74 11 9 (.array .int) true := ⟨(RX11, TX11, 11), rfl, by decide, tw_315, rfl, by decide +kernel, fun _ => rfl⟩
theorem fx_X12_7 : FPx RX12 7 12 0 (.array .int) true := ⟨(RX12, TX12, 22), rfl, by decide, tw_1019, rfl, by decide +kernel, fun _ => rfl⟩
theorem fx_X12_13 : FPx RX12 13 12 1 (.array .int) true := ⟨(RX12, TX12, 22), rfl, by decide, tw_1020, rfl, by decide +kernel, fun _ => rfl⟩
theorem fx_X12_16 : FPx RX12 16 12 2 (.array .int) true := ⟨(RX12, TX12, 22), rfl, by decide, tw_1021, rfl, by decide +kernel, fun _ => rfl⟩
theorem fx_X12_19 : FPx RX12 19 12 4 (.array .int) true := ⟨(RX12, TX12, 22), rfl, by decide, tw_1023, rfl, by decide +kernel, fun _ => rfl⟩
theorem fx_X12_22 : FPx RX12 22 12 11 (.array .int) true := ⟨(RX12, TX12, 22), rfl, by decide, tw_1030, rfl, by decide +kernel, fun _ => rfl⟩
theorem fx_X12_25 : FPx RX12 25 12 12 (.array .int) true := ⟨(RX12, TX12, 22), rfl, by decide, tw_1031, rfl, by decide +kernel, fun _ => rfl⟩
theorem fx_X12_28 : FPx RX12 28 12 14 (.array .int) true := ⟨(RX12, TX12, 22), rfl, by decide, tw_1033, rfl, by decide +kernel, fun _ => rfl⟩
theorem fx_X12_31 : FPx RX12 31 12 15 (.array .int) true := ⟨(RX12, TX12, 22), rfl, by decide, tw_1034, rfl, by decide +kernel, fun _ => rfl⟩
theorem fx_X12_34 : FPx RX12 34 12 18 (.array .int) true := ⟨(RX12, TX12, 22), rfl, by decide, tw_1037, rfl, by decide +kernel, fun _ => rfl⟩
theorem fx_X12_37 : FPx RX12 37 12 19 (.array .int) true := ⟨(RX12, TX12, 22), rfl, by decide, tw_1038, rfl, by decide +kernel, fun _ => rfl⟩
theorem fx_X12_40 : FPx RX12 40 12 20 (.array .int) true := ⟨(RX12, TX12, 22), rfl, by decide, tw_1039, rfl, by decide +kernel, fun _ => rfl⟩
theorem fx_X12_43 : FPx RX12 43 12 21 (.array .int) true := ⟨(RX12, TX12, 22), rfl, by decide, tw_1040, rfl, by decide +kernel, fun _ => rfl⟩
theorem cl_L_13 : CVc RL 13 11 mX11_sill 3 := ⟨⟨mi_X11_sill, tw_340, tw_341, tw_342⟩, (RX11, TX11, 11), rfl, rfl⟩
theorem cl_L_17 : CVc RL 17 12 mX12_sill 3 := ⟨⟨mi_X12_sill, tw_1176, tw_1177, tw_1178⟩, (RX12, TX12, 22), rfl, rfl⟩
theorem cl_L_18 : CVc RL 18 11 mX11_ofSill 2 := ⟨⟨mi_X11_ofSill, tw_356, tw_357, tw_358⟩, (RX11, TX11, 11), rfl, rfl⟩
theorem cl_L_22 : CVc RL 22 12 mX12_ofSill 2 := ⟨⟨mi_X12_ofSill, tw_1189, tw_1190, tw_1191⟩, (RX12, TX12, 22), rfl, rfl⟩
theorem cl_L_23 : CVc RL 23 11 mX11_town 2 := ⟨⟨mi_X11_town, tw_372, tw_373, tw_374⟩, (RX11, TX11, 11), rfl, rfl⟩
theorem cl_L_26 : CVc RL 26 12 mX12_town 2 := ⟨⟨mi_X12_town, tw_1202, tw_1203, tw_1204⟩, (RX12, TX12, 22), rfl, rfl⟩
theorem cl_L_27 : CVc RL 27 11 mX11_heir 3 := ⟨⟨mi_X11_heir, tw_377, tw_378, tw_379⟩, (RX11, TX11, 11), rfl, rfl⟩
theorem cl_L_30 : CVc RL 30 12 mX12_heir 3 := ⟨⟨mi_X12_heir, tw_1208, tw_1209, tw_1210⟩, (RX12, TX12, 22), rfl, rfl⟩
theorem cl_L_31 : CVc RL 31 11 mX11_ofHeir 2 := ⟨⟨mi_X11_ofHeir, tw_393, tw_394, tw_395⟩, (RX11, TX11, 11), rfl, rfl⟩
theorem cl_L_34 : CVc RL 34 12 mX12_ofHeir 2 := ⟨⟨mi_X12_ofHeir, tw_1222, tw_1223, tw_1224⟩, (RX12, TX12, 22), rfl, rfl⟩
theorem cl_L_35 : CVc RL 35 11 mX11_change 3 := ⟨⟨mi_X11_change, tw_503, tw_504, tw_505⟩, (RX11, TX11, 11), rfl, rfl⟩
theorem cl_L_38 : CVc RL 38 12 mX12_change 3 := ⟨⟨mi_X12_change, tw_1254, tw_1255, tw_1256⟩, (RX12, TX12, 22), rfl, rfl⟩
theorem cl_L_39 : CVc RL 39 11 mX11_become 2 := ⟨⟨mi_X11_become, tw_512, tw_513, tw_514⟩, (RX11, TX11, 11), rfl, rfl⟩
theorem cl_L_42 : CVc RL 42 12 mX12_become 2 := ⟨⟨mi_X12_become, tw_1259, tw_1260, tw_1261⟩, (RX12, TX12, 22), rfl, rfl⟩
theorem cl_L_43 : CVc RL 43 11 mX11_as 2 := ⟨⟨mi_X11_as, tw_516, tw_517, tw_518⟩, (RX11, TX11, 11), rfl, rfl⟩
theorem cl_L_46 : CVc RL 46 12 mX12_as 2 := ⟨⟨mi_X12_as, tw_1263, tw_1264, tw_1265⟩, (RX12, TX12, 22), rfl, rfl⟩
theorem cl_L_49 : CVc RL 49 11 mX11_feed 2 := ⟨⟨mi_X11_feed, tw_526, tw_527, tw_528⟩, (RX11, TX11, 11), rfl, rfl⟩
theorem cl_L_53 : CVc RL 53 12 mX12_feed 2 := ⟨⟨mi_X12_feed, tw_1086, tw_1087, tw_1088⟩, (RX12, TX12, 22), rfl, rfl⟩
theorem cl_L_54 : CVc RL 54 11 mX11_text 1 := ⟨⟨mi_X11_text, tw_535, tw_536, tw_537⟩, (RX11, TX11, 11), rfl, rfl⟩
theorem cl_L_58 : CVc RL 58 12 mX12_text 1 := ⟨⟨mi_X12_text, tw_1100, tw_1101, tw_1102⟩, (RX12, TX12, 22), rfl, rfl⟩
theorem cl_L_59 : CVc RL 59 11 mX11_law 4 := ⟨⟨mi_X11_law, tw_665, tw_666, tw_667⟩, (RX11, TX11, 11), rfl, rfl⟩
theorem cl_L_63 : CVc RL 63 12 mX12_law 4 := ⟨⟨mi_X12_law, tw_1158, tw_1159, tw_1160⟩, (RX12, TX12, 22), rfl, rfl⟩
theorem cl_L_64 : CVc RL 64 11 mX11_days 1 := ⟨⟨mi_X11_days, tw_683, tw_684, tw_685⟩, (RX11, TX11, 11), rfl, rfl⟩
theorem cl_L_67 : CVc RL 67 12 mX12_days 1 := ⟨⟨mi_X12_days, tw_1271, tw_1272, tw_1273⟩, (RX12, TX12, 22), rfl, rfl⟩
theorem cl_L_68 : CVc RL 68 11 mX11_loose 1 := ⟨⟨mi_X11_loose, tw_726, tw_727, tw_728⟩, (RX11, TX11, 11), rfl, rfl⟩
theorem cl_L_71 : CVc RL 71 12 mX12_loose 1 := ⟨⟨mi_X12_loose, tw_1289, tw_1290, tw_1291⟩, (RX12, TX12, 22), rfl, rfl⟩
theorem cl_L_72 : CVc RL 72 11 mX11_then 2 := ⟨⟨mi_X11_then, tw_736, tw_737, tw_738⟩, (RX11, TX11, 11), rfl, rfl⟩
theorem cl_L_75 : CVc RL 75 12 mX12_then 2 := ⟨⟨mi_X12_then, tw_1299, tw_1300, tw_1301⟩, (RX12, TX12, 22), rfl, rfl⟩
theorem cl_L_76 : CVc RL 76 11 mX11_first 2 := ⟨⟨mi_X11_first, tw_749, tw_750, tw_751⟩, (RX11, TX11, 11), rfl, rfl⟩
theorem cl_L_79 : CVc RL 79 12 mX12_first 2 := ⟨⟨mi_X12_first, tw_1318, tw_1319, tw_1320⟩, (RX12, TX12, 22), rfl, rfl⟩
theorem cl_L_80 : CVc RL 80 11 mX11_meet 2 := ⟨⟨mi_X11_meet, tw_757, tw_758, tw_759⟩, (RX11, TX11, 11), rfl, rfl⟩
theorem cl_L_83 : CVc RL 83 12 mX12_meet 2 := ⟨⟨mi_X12_meet, tw_1325, tw_1326, tw_1327⟩, (RX12, TX12, 22), rfl, rfl⟩
theorem cl_L_84 : CVc RL 84 11 mX11_bright 2 := ⟨⟨mi_X11_bright, tw_761, tw_762, tw_763⟩, (RX11, TX11, 11), rfl, rfl⟩
theorem cl_L_87 : CVc RL 87 12 mX12_bright 2 := ⟨⟨mi_X12_bright, tw_1329, tw_1330, tw_1331⟩, (RX12, TX12, 22), rfl, rfl⟩
theorem cl_L_88 : CVc RL 88 11 mX11_place 3 := ⟨⟨mi_X11_place, tw_765, tw_766, tw_767⟩, (RX11, TX11, 11), rfl, rfl⟩
theorem cl_L_91 : CVc RL 91 12 mX12_place 3 := ⟨⟨mi_X12_place, tw_1333, tw_1334, tw_1335⟩, (RX12, TX12, 22), rfl, rfl⟩
theorem cl_L_92 : CVc RL 92 11 mX11_cartsFor 2 := ⟨⟨mi_X11_cartsFor, tw_769, tw_770, tw_771⟩, (RX11, TX11, 11), rfl, rfl⟩
theorem cl_L_95 : CVc RL 95 12 mX12_cartsFor 2 := ⟨⟨mi_X12_cartsFor, tw_1337, tw_1338, tw_1339⟩, (RX12, TX12, 22), rfl, rfl⟩
theorem cl_L_96 : CVc RL 96 11 mX11_stop 2 := ⟨⟨mi_X11_stop, tw_782, tw_783, tw_784⟩, (RX11, TX11, 11), rfl, rfl⟩
theorem cl_L_99 : CVc RL 99 12 mX12_stop 2 := ⟨⟨mi_X12_stop, tw_1345, tw_1346, tw_1347⟩, (RX12, TX12, 22), rfl, rfl⟩
theorem cl_L_100 : CVc RL 100 11 mX11_swap 1 := ⟨⟨mi_X11_swap, tw_786, tw_787, tw_788⟩, (RX11, TX11, 11), rfl, rfl⟩
theorem cl_L_103 : CVc RL 103 12 mX12_swap 1 := ⟨⟨mi_X12_swap, tw_1350, tw_1351, tw_1352⟩, (RX12, TX12, 22), rfl, rfl⟩
theorem cl_L_104 : CVc RL 104 11 mX11_sunFor 3 := ⟨⟨mi_X11_sunFor, tw_790, tw_791, tw_792⟩, (RX11, TX11, 11), rfl, rfl⟩
theorem cl_L_107 : CVc RL 107 12 mX12_sunFor 3 := ⟨⟨mi_X12_sunFor, tw_1354, tw_1355, tw_1356⟩, (RX12, TX12, 22), rfl, rfl⟩
theorem cl_L_108 : CVc RL 108 11 mX11_sweepFor 2 := ⟨⟨mi_X11_sweepFor, tw_794, tw_795, tw_796⟩, (RX11, TX11, 11), rfl, rfl⟩
theorem cl_L_111 : CVc RL 111 12 mX12_sweepFor 2 := ⟨⟨mi_X12_sweepFor, tw_1358, tw_1359, tw_1360⟩, (RX12, TX12, 22), rfl, rfl⟩
theorem cl_L_112 : CVc RL 112 11 mX11_whence 3 := ⟨⟨mi_X11_whence, tw_798, tw_799, tw_800⟩, (RX11, TX11, 11), rfl, rfl⟩
theorem cl_L_115 : CVc RL 115 12 mX12_whence 3 := ⟨⟨mi_X12_whence, tw_1362, tw_1363, tw_1364⟩, (RX12, TX12, 22), rfl, rfl⟩
theorem cl_L_116 : CVc RL 116 11 mX11_bare 1 := ⟨⟨mi_X11_bare, tw_813, tw_814, tw_815⟩, (RX11, TX11, 11), rfl, rfl⟩
theorem cl_L_119 : CVc RL 119 12 mX12_bare 1 := ⟨⟨mi_X12_bare, tw_1369, tw_1370, tw_1371⟩, (RX12, TX12, 22), rfl, rfl⟩
theorem cl_L_120 : CVc RL 120 11 mX11_crowd 2 := ⟨⟨mi_X11_crowd, tw_817, tw_818, tw_819⟩, (RX11, TX11, 11), rfl, rfl⟩
theorem cl_L_123 : CVc RL 123 12 mX12_crowd 2 := ⟨⟨mi_X12_crowd, tw_1373, tw_1374, tw_1375⟩, (RX12, TX12, 22), rfl, rfl⟩
theorem cl_L_124 : CVc RL 124 11 mX11_light 1 := ⟨⟨mi_X11_light, tw_822, tw_823, tw_824⟩, (RX11, TX11, 11), rfl, rfl⟩
theorem cl_L_127 : CVc RL 127 12 mX12_light 1 := ⟨⟨mi_X12_light, tw_1380, tw_1381, tw_1382⟩, (RX12, TX12, 22), rfl, rfl⟩
theorem cl_L_128 : CVc RL 128 11 mX11_late 1 := ⟨⟨mi_X11_late, tw_826, tw_827, tw_828⟩, (RX11, TX11, 11), rfl, rfl⟩
theorem cl_L_131 : CVc RL 131 12 mX12_late 1 := ⟨⟨mi_X12_late, tw_1384, tw_1385, tw_1386⟩, (RX12, TX12, 22), rfl, rfl⟩
theorem cl_L_132 : CVc RL 132 11 mX11_odds 3 := ⟨⟨mi_X11_odds, tw_831, tw_832, tw_833⟩, (RX11, TX11, 11), rfl, rfl⟩
theorem cl_L_135 : CVc RL 135 12 mX12_odds 3 := ⟨⟨mi_X12_odds, tw_1392, tw_1393, tw_1394⟩, (RX12, TX12, 22), rfl, rfl⟩
theorem cl_L_136 : CVc RL 136 11 mX11_seed 1 := ⟨⟨mi_X11_seed, tw_838, tw_839, tw_840⟩, (RX11, TX11, 11), rfl, rfl⟩
theorem cl_L_139 : CVc RL 139 12 mX12_seed 1 := ⟨⟨mi_X12_seed, tw_1399, tw_1400, tw_1401⟩, (RX12, TX12, 22), rfl, rfl⟩
theorem cl_L_140 : CVc RL 140 11 mX11_voice 3 := ⟨⟨mi_X11_voice, tw_842, tw_843, tw_844⟩, (RX11, TX11, 11), rfl, rfl⟩
theorem cl_L_143 : CVc RL 143 12 mX12_voice 3 := ⟨⟨mi_X12_voice, tw_1403, tw_1404, tw_1405⟩, (RX12, TX12, 22), rfl, rfl⟩
theorem cl_L_144 : CVc RL 144 11 mX11_trace 1 := ⟨⟨mi_X11_trace, tw_937, tw_938, tw_939⟩, (RX11, TX11, 11), rfl, rfl⟩
theorem cl_L_147 : CVc RL 147 12 mX12_trace 1 := ⟨⟨mi_X12_trace, tw_1427, tw_1428, tw_1429⟩, (RX12, TX12, 22), rfl, rfl⟩
theorem cl_L_148 : CVc RL 148 11 mX11_sheet 3 := ⟨⟨mi_X11_sheet, tw_941, tw_942, tw_943⟩, (RX11, TX11, 11), rfl, rfl⟩
theorem cl_L_151 : CVc RL 151 12 mX12_sheet 3 := ⟨⟨mi_X12_sheet, tw_1431, tw_1432, tw_1433⟩, (RX12, TX12, 22), rfl, rfl⟩
theorem cl_L_152 : CVc RL 152 11 mX11_put 3 := ⟨⟨mi_X11_put, tw_948, tw_949, tw_950⟩, (RX11, TX11, 11), rfl, rfl⟩
theorem cl_L_155 : CVc RL 155 12 mX12_put 3 := ⟨⟨mi_X12_put, tw_1435, tw_1436, tw_1437⟩, (RX12, TX12, 22), rfl, rfl⟩
theorem cl_L_156 : CVc RL 156 11 mX11_move 5 := ⟨⟨mi_X11_move, tw_959, tw_960, tw_961⟩, (RX11, TX11, 11), rfl, rfl⟩
theorem cl_L_160 : CVc RL 160 12 mX12_move 5 := ⟨⟨mi_X12_move, tw_1439, tw_1440, tw_1441⟩, (RX12, TX12, 22), rfl, rfl⟩
theorem cl_L_161 : CVc RL 161 11 mX11_suns 1 := ⟨⟨mi_X11_suns, tw_964, tw_965, tw_966⟩, (RX11, TX11, 11), rfl, rfl⟩
theorem cl_L_164 : CVc RL 164 12 mX12_suns 1 := ⟨⟨mi_X12_suns, tw_1443, tw_1444, tw_1445⟩, (RX12, TX12, 22), rfl, rfl⟩
theorem cl_L_165 : CVc RL 165 11 mX11_judge 1 := ⟨⟨mi_X11_judge, tw_969, tw_970, tw_971⟩, (RX11, TX11, 11), rfl, rfl⟩
theorem cl_L_168 : CVc RL 168 12 mX12_judge 1 := ⟨⟨mi_X12_judge, tw_1447, tw_1448, tw_1449⟩, (RX12, TX12, 22), rfl, rfl⟩
theorem cl_L_169 : CVc RL 169 11 mX11_image 0 := ⟨⟨mi_X11_image, tw_973, tw_974, tw_975⟩, (RX11, TX11, 11), rfl, rfl⟩
theorem cl_L_173 : CVc RL 173 12 mX12_image 0 := ⟨⟨mi_X12_image, tw_1451, tw_1452, tw_1453⟩, (RX12, TX12, 22), rfl, rfl⟩
theorem cl_L_174 : CVc RL 174 11 mX11_restore 0 := ⟨⟨mi_X11_restore, tw_986, tw_987, tw_988⟩, (RX11, TX11, 11), rfl, rfl⟩
theorem cl_L_177 : CVc RL 177 12 mX12_restore 0 := ⟨⟨mi_X12_restore, tw_1455, tw_1456, tw_1457⟩, (RX12, TX12, 22), rfl, rfl⟩
theorem cl_L_178 : CVc RL 178 11 mX11_tell 1 := ⟨⟨mi_X11_tell, tw_990, tw_991, tw_992⟩, (RX11, TX11, 11), rfl, rfl⟩
theorem cl_L_181 : CVc RL 181 12 mX12_tell 1 := ⟨⟨mi_X12_tell, tw_1459, tw_1460, tw_1461⟩, (RX12, TX12, 22), rfl, rfl⟩
theorem cl_L_182 : CVc RL 182 11 mX11_check 0 := ⟨⟨mi_X11_check, tw_998, tw_999, tw_1000⟩, (RX11, TX11, 11), rfl, rfl⟩
theorem cl_L_185 : CVc RL 185 12 mX12_check 0 := ⟨⟨mi_X12_check, tw_1463, tw_1464, tw_1465⟩, (RX12, TX12, 22), rfl, rfl⟩
theorem cl_L_186 : CVc RL 186 11 mX11_count 1 := ⟨⟨mi_X11_count, tw_1002, tw_1003, tw_1004⟩, (RX11, TX11, 11), rfl, rfl⟩
theorem cl_L_189 : CVc RL 189 12 mX12_count 1 := ⟨⟨mi_X12_count, tw_1467, tw_1468, tw_1469⟩, (RX12, TX12, 22), rfl, rfl⟩
theorem cl_L_190 : CVc RL 190 11 mX11_told 1 := ⟨⟨mi_X11_told, tw_1009, tw_1010, tw_1011⟩, (RX11, TX11, 11), rfl, rfl⟩
theorem cl_L_193 : CVc RL 193 12 mX12_told 1 := ⟨⟨mi_X12_told, tw_1475, tw_1476, tw_1477⟩, (RX12, TX12, 22), rfl, rfl⟩
