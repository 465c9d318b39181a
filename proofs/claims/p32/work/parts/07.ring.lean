theorem q_4 : Cond.selects RX0 yX0_unlimitedDemand yX0_unlimitedDemand ∈ lw_all := kq 4 (by decide +kernel) (by decide +kernel)
theorem q_16 : Cond.initialized RX10 ∈ lw_all := kq 16 (by decide +kernel) (by decide +kernel)
theorem q_18 : Cond.initialized RX0 ∈ lw_all := kq 18 (by decide +kernel) (by decide +kernel)
theorem q_19 : Cond.initialized RX6 ∈ lw_all := kq 19 (by decide +kernel) (by decide +kernel)
theorem q_20 : Cond.initialized RX4 ∈ lw_all := kq 20 (by decide +kernel) (by decide +kernel)
theorem q_23 : Cond.initialized RX3 ∈ lw_all := kq 23 (by decide +kernel) (by decide +kernel)
theorem q_24 : Cond.initialized "java/lang/Math" ∈ lw_all := kq 24 (by decide +kernel) (by decide +kernel)
theorem q_33 : Cond.initialized "java/lang/System" ∈ lw_all := kq 33 (by decide +kernel) (by decide +kernel)
theorem q_64 : Cond.fieldLink RX0 7 "ClimateChamber$Channel" "mode" "I" ∈ lw_all := kq 64 (by decide +kernel) (by decide +kernel)
theorem q_66 : Cond.fieldLink RX0 13 "ClimateChamber$Channel" "gain" "I" ∈ lw_all := kq 66 (by decide +kernel) (by decide +kernel)
theorem q_68 : Cond.fieldLink RX0 16 "ClimateChamber$Channel" "band" "I" ∈ lw_all := kq 68 (by decide +kernel) (by decide +kernel)
theorem q_84 : Cond.fieldLink RX6 11 "ClimateChamber$Segments" "cells" "[I" ∈ lw_all := kq 84 (by decide +kernel) (by decide +kernel)
theorem q_85 : Cond.fieldLink RX6 15 "ClimateChamber$Segments" "count" "I" ∈ lw_all := kq 85 (by decide +kernel) (by decide +kernel)
theorem q_100 : Cond.fieldLink RX4 9 "ClimateChamber$Run" "phase" "I" ∈ lw_all := kq 100 (by decide +kernel) (by decide +kernel)
theorem q_103 : Cond.fieldLink RX4 19 "ClimateChamber$Run" "held" "Z" ∈ lw_all := kq 103 (by decide +kernel) (by decide +kernel)
theorem q_106 : Cond.fieldLink RX2 27 "ClimateChamber$Run" "segment" "I" ∈ lw_all := kq 106 (by decide +kernel) (by decide +kernel)
theorem q_108 : Cond.fieldLink RX4 23 "ClimateChamber$Run" "segment" "I" ∈ lw_all := kq 108 (by decide +kernel) (by decide +kernel)
theorem q_110 : Cond.fieldLink RX2 36 "ClimateChamber$Run" "cycle" "I" ∈ lw_all := kq 110 (by decide +kernel) (by decide +kernel)
theorem q_111 : Cond.fieldLink RX4 26 "ClimateChamber$Run" "cycle" "I" ∈ lw_all := kq 111 (by decide +kernel) (by decide +kernel)
theorem q_114 : Cond.fieldLink RX4 29 "ClimateChamber$Run" "rampClock" "I" ∈ lw_all := kq 114 (by decide +kernel) (by decide +kernel)
theorem q_115 : Cond.fieldLink RX4 32 "ClimateChamber$Run" "soakClock" "I" ∈ lw_all := kq 115 (by decide +kernel) (by decide +kernel)
theorem q_117 : Cond.fieldLink RX2 42 "ClimateChamber$Run" "pausedMinutes" "I" ∈ lw_all := kq 117 (by decide +kernel) (by decide +kernel)
theorem q_118 : Cond.fieldLink RX4 35 "ClimateChamber$Run" "pausedMinutes" "I" ∈ lw_all := kq 118 (by decide +kernel) (by decide +kernel)
theorem q_120 : Cond.fieldLink RX2 39 "ClimateChamber$Run" "beginning" "I" ∈ lw_all := kq 120 (by decide +kernel) (by decide +kernel)
theorem q_121 : Cond.fieldLink RX4 38 "ClimateChamber$Run" "beginning" "I" ∈ lw_all := kq 121 (by decide +kernel) (by decide +kernel)
theorem q_124 : Cond.fieldLink RX4 41 "ClimateChamber$Run" "startTemperature" "I" ∈ lw_all := kq 124 (by decide +kernel) (by decide +kernel)
theorem q_126 : Cond.fieldLink RX4 44 "ClimateChamber$Run" "startHumidity" "I" ∈ lw_all := kq 126 (by decide +kernel) (by decide +kernel)
theorem q_154 : Cond.fieldLink RX1 9 "ClimateChamber$Climate" "temperature" "I" ∈ lw_all := kq 154 (by decide +kernel) (by decide +kernel)
theorem q_157 : Cond.fieldLink RX1 15 "ClimateChamber$Climate" "humidity" "I" ∈ lw_all := kq 157 (by decide +kernel) (by decide +kernel)
theorem q_160 : Cond.fieldLink RX1 18 "ClimateChamber$Climate" "temperaturePoint" "I" ∈ lw_all := kq 160 (by decide +kernel) (by decide +kernel)
theorem q_163 : Cond.fieldLink RX1 21 "ClimateChamber$Climate" "humidityPoint" "I" ∈ lw_all := kq 163 (by decide +kernel) (by decide +kernel)
theorem q_168 : Cond.fieldLink RX1 62 "ClimateChamber$Climate" "doorOpen" "Z" ∈ lw_all := kq 168 (by decide +kernel) (by decide +kernel)
theorem q_170 : Cond.fieldLink RX1 66 "ClimateChamber$Climate" "wasBlocked" "Z" ∈ lw_all := kq 170 (by decide +kernel) (by decide +kernel)
theorem q_172 : Cond.fieldLink RX1 59 "ClimateChamber$Climate" "blockedMinutes" "I" ∈ lw_all := kq 172 (by decide +kernel) (by decide +kernel)
theorem q_173 : Cond.fieldLink RX1 24 "ClimateChamber$Climate" "heaterRest" "I" ∈ lw_all := kq 173 (by decide +kernel) (by decide +kernel)
theorem q_175 : Cond.fieldLink RX1 27 "ClimateChamber$Climate" "coolerRest" "I" ∈ lw_all := kq 175 (by decide +kernel) (by decide +kernel)
theorem q_177 : Cond.fieldLink RX1 44 "ClimateChamber$Climate" "heaterMinutes" "I" ∈ lw_all := kq 177 (by decide +kernel) (by decide +kernel)
theorem q_178 : Cond.fieldLink RX1 47 "ClimateChamber$Climate" "coolerMinutes" "I" ∈ lw_all := kq 178 (by decide +kernel) (by decide +kernel)
theorem q_179 : Cond.fieldLink RX1 50 "ClimateChamber$Climate" "humidifierMinutes" "I" ∈ lw_all := kq 179 (by decide +kernel) (by decide +kernel)
theorem q_180 : Cond.fieldLink RX1 53 "ClimateChamber$Climate" "dryerMinutes" "I" ∈ lw_all := kq 180 (by decide +kernel) (by decide +kernel)
theorem q_181 : Cond.fieldLink RX1 56 "ClimateChamber$Climate" "energy" "I" ∈ lw_all := kq 181 (by decide +kernel) (by decide +kernel)
theorem q_224 : Cond.static Lib.Math.max.name ∈ lw_all := kq 224 (by decide +kernel) (by decide +kernel)
theorem q_225 : Cond.code Lib.Math.max.name Lib.Math.max.code 2 (some .int) ∈ lw_all := kq 225 (by decide +kernel) (by decide +kernel)
theorem q_226 : Cond.fieldLink RX3 15 "ClimateChamber$Ring" "cells" "[I" ∈ lw_all := kq 226 (by decide +kernel) (by decide +kernel)
theorem q_227 : Cond.fieldLink RX3 21 "ClimateChamber$Ring" "next" "I" ∈ lw_all := kq 227 (by decide +kernel) (by decide +kernel)
theorem q_228 : Cond.fieldLink RX3 25 "ClimateChamber$Ring" "kept" "I" ∈ lw_all := kq 228 (by decide +kernel) (by decide +kernel)
theorem q_237 : Cond.fieldLink RX2 12 "ClimateChamber$Results" "segments" "LClimateChamber$Ring;" ∈ lw_all := kq 237 (by decide +kernel) (by decide +kernel)
theorem q_238 : Cond.fieldLink RX2 18 "ClimateChamber$Results" "cycles" "LClimateChamber$Ring;" ∈ lw_all := kq 238 (by decide +kernel) (by decide +kernel)
theorem q_239 : Cond.fieldLink RX2 21 "ClimateChamber$Results" "minutes" "LClimateChamber$Ring;" ∈ lw_all := kq 239 (by decide +kernel) (by decide +kernel)
theorem q_240 : Cond.fieldLink RX2 24 "ClimateChamber$Results" "pausedMinutes" "LClimateChamber$Ring;" ∈ lw_all := kq 240 (by decide +kernel) (by decide +kernel)
theorem q_259 : Cond.fieldLink RX9 12 "ClimateChamber$Trail" "kinds" "LClimateChamber$Ring;" ∈ lw_all := kq 259 (by decide +kernel) (by decide +kernel)
theorem q_260 : Cond.fieldLink RX9 18 "ClimateChamber$Trail" "numbers" "LClimateChamber$Ring;" ∈ lw_all := kq 260 (by decide +kernel) (by decide +kernel)
theorem q_261 : Cond.fieldLink RX9 21 "ClimateChamber$Trail" "times" "LClimateChamber$Ring;" ∈ lw_all := kq 261 (by decide +kernel) (by decide +kernel)
theorem q_262 : Cond.fieldLink RX9 26 "ClimateChamber$Trail" "code" "J" ∈ lw_all := kq 262 (by decide +kernel) (by decide +kernel)
theorem q_393 : Cond.methodLink RX10 51 yX10_isWithin ∈ lw_all := kq 393 (by decide +kernel) (by decide +kernel)
theorem q_394 : Cond.static yX10_isWithin ∈ lw_all := kq 394 (by decide +kernel) (by decide +kernel)
theorem q_395 : Cond.code yX10_isWithin cX10_isWithin 3 (some .boolean) ∈ lw_all := kq 395 (by decide +kernel) (by decide +kernel)
theorem q_496 : Cond.static yX10_copyRow ∈ lw_all := kq 496 (by decide +kernel) (by decide +kernel)
theorem q_497 : Cond.code yX10_copyRow cX10_copyRow 2 none ∈ lw_all := kq 497 (by decide +kernel) (by decide +kernel)
theorem q_498 : Cond.methodLink RX10 225 Lib.Math.min.name ∈ lw_all := kq 498 (by decide +kernel) (by decide +kernel)
theorem q_499 : Cond.static Lib.Math.min.name ∈ lw_all := kq 499 (by decide +kernel) (by decide +kernel)
theorem q_500 : Cond.code Lib.Math.min.name Lib.Math.min.code 2 (some .int) ∈ lw_all := kq 500 (by decide +kernel) (by decide +kernel)
theorem q_501 : Cond.methodLink RX10 277 arraycopyName ∈ lw_all := kq 501 (by decide +kernel) (by decide +kernel)
theorem q_502 : Cond.static arraycopyName ∈ lw_all := kq 502 (by decide +kernel) (by decide +kernel)
theorem q_503 : Cond.native arraycopyName ∈ lw_all := kq 503 (by decide +kernel) (by decide +kernel)
theorem q_512 : Cond.methodLinkNest RX6 31 yX10_copyRow RX10 ∈ lw_nest := kqn 512 (by decide +kernel) (by decide +kernel)
theorem q_525 : Cond.methodLink RX2 48 yX3_copy ∈ lw_all := kq 525 (by decide +kernel) (by decide +kernel)
theorem q_526 : Cond.instanceMethod yX3_copy ∈ lw_all := kq 526 (by decide +kernel) (by decide +kernel)
theorem q_527 : Cond.selects RX3 yX3_copy yX3_copy ∈ lw_all := kq 527 (by decide +kernel) (by decide +kernel)
theorem q_528 : Cond.code yX3_copy cX3_copy 2 none ∈ lw_all := kq 528 (by decide +kernel) (by decide +kernel)
theorem q_529 : Cond.methodLinkNest RX3 32 yX10_copyRow RX10 ∈ lw_nest := kqn 529 (by decide +kernel) (by decide +kernel)
theorem q_534 : Cond.methodLink RX9 39 yX3_copy ∈ lw_all := kq 534 (by decide +kernel) (by decide +kernel)
theorem q_549 : Cond.methodLink RX4 15 yX4_isRunning ∈ lw_all := kq 549 (by decide +kernel) (by decide +kernel)
theorem q_550 : Cond.instanceMethod yX4_isRunning ∈ lw_all := kq 550 (by decide +kernel) (by decide +kernel)
theorem q_551 : Cond.selects RX4 yX4_isRunning yX4_isRunning ∈ lw_all := kq 551 (by decide +kernel) (by decide +kernel)
theorem q_552 : Cond.code yX4_isRunning cX4_isRunning 1 (some .boolean) ∈ lw_all := kq 552 (by decide +kernel) (by decide +kernel)
theorem q_557 : Cond.methodLinkNest RX6 19 yX10_at RX10 ∈ lw_nest := kqn 557 (by decide +kernel) (by decide +kernel)
theorem q_558 : Cond.static yX10_at ∈ lw_all := kq 558 (by decide +kernel) (by decide +kernel)
theorem q_559 : Cond.code yX10_at cX10_at 2 (some .int) ∈ lw_all := kq 559 (by decide +kernel) (by decide +kernel)
theorem q_573 : Cond.methodLink RX0 19 yX0_unlimitedDemand ∈ lw_all := kq 573 (by decide +kernel) (by decide +kernel)
theorem q_575 : Cond.instanceMethod yX0_unlimitedDemand ∈ lw_all := kq 575 (by decide +kernel) (by decide +kernel)
theorem q_576 : Cond.code yX0_unlimitedDemand cX0_unlimitedDemand 2 (some .int) ∈ lw_all := kq 576 (by decide +kernel) (by decide +kernel)
theorem q_577 : Cond.methodLinkNest RX0 23 yX10_limit RX10 ∈ lw_nest := kqn 577 (by decide +kernel) (by decide +kernel)
theorem q_578 : Cond.static yX10_limit ∈ lw_all := kq 578 (by decide +kernel) (by decide +kernel)
theorem q_579 : Cond.code yX10_limit cX10_limit 3 (some .int) ∈ lw_all := kq 579 (by decide +kernel) (by decide +kernel)
theorem q_580 : Cond.methodLink RX10 230 Lib.Math.max.name ∈ lw_all := kq 580 (by decide +kernel) (by decide +kernel)
theorem q_585 : Cond.methodLink RX9 30 yX3_add ∈ lw_all := kq 585 (by decide +kernel) (by decide +kernel)
theorem q_586 : Cond.instanceMethod yX3_add ∈ lw_all := kq 586 (by decide +kernel) (by decide +kernel)
theorem q_587 : Cond.selects RX3 yX3_add yX3_add ∈ lw_all := kq 587 (by decide +kernel) (by decide +kernel)
theorem q_588 : Cond.code yX3_add cX3_add 2 none ∈ lw_all := kq 588 (by decide +kernel) (by decide +kernel)
theorem q_589 : Cond.constantLong RX9 33 (31) ∈ lw_all := kq 589 (by decide +kernel) (by decide +kernel)
theorem q_602 : Cond.methodLinkNest RX1 36 yX10_limit RX10 ∈ lw_nest := kqn 602 (by decide +kernel) (by decide +kernel)
theorem q_607 : Cond.methodLink RX1 40 Lib.Math.min.name ∈ lw_all := kq 607 (by decide +kernel) (by decide +kernel)
theorem q_608 : Cond.methodLink RX1 30 Lib.Math.abs.name ∈ lw_all := kq 608 (by decide +kernel) (by decide +kernel)
theorem q_609 : Cond.static Lib.Math.abs.name ∈ lw_all := kq 609 (by decide +kernel) (by decide +kernel)
theorem q_610 : Cond.code Lib.Math.abs.name Lib.Math.abs.code 1 (some .int) ∈ lw_all := kq 610 (by decide +kernel) (by decide +kernel)
theorem q_640 : Cond.methodLink RX2 33 yX3_add ∈ lw_all := kq 640 (by decide +kernel) (by decide +kernel)
theorem q_708 : Cond.static yX10_put ∈ lw_all := kq 708 (by decide +kernel) (by decide +kernel)
theorem q_709 : Cond.code yX10_put cX10_put 3 none ∈ lw_all := kq 709 (by decide +kernel) (by decide +kernel)
theorem q_725 : Cond.methodLink RX10 89 yX10_isTarget ∈ lw_all := kq 725 (by decide +kernel) (by decide +kernel)
theorem q_726 : Cond.static yX10_isTarget ∈ lw_all := kq 726 (by decide +kernel) (by decide +kernel)
theorem q_727 : Cond.code yX10_isTarget cX10_isTarget 2 (some .boolean) ∈ lw_all := kq 727 (by decide +kernel) (by decide +kernel)
theorem q_728 : Cond.methodLink RX10 242 yX10_isTargetTemperature ∈ lw_all := kq 728 (by decide +kernel) (by decide +kernel)
theorem q_729 : Cond.static yX10_isTargetTemperature ∈ lw_all := kq 729 (by decide +kernel) (by decide +kernel)
theorem q_730 : Cond.code yX10_isTargetTemperature cX10_isTargetTemperature 1 (some .boolean) ∈ lw_all := kq 730 (by decide +kernel) (by decide +kernel)
theorem q_751 : Cond.instanceMethod yX6_isFull ∈ lw_all := kq 751 (by decide +kernel) (by decide +kernel)
theorem q_752 : Cond.selects RX6 yX6_isFull yX6_isFull ∈ lw_all := kq 752 (by decide +kernel) (by decide +kernel)
theorem q_753 : Cond.code yX6_isFull cX6_isFull 1 (some .boolean) ∈ lw_all := kq 753 (by decide +kernel) (by decide +kernel)
theorem q_758 : Cond.methodLink RX6 23 yX6_isFull ∈ lw_all := kq 758 (by decide +kernel) (by decide +kernel)
theorem q_759 : Cond.methodLinkNest RX6 27 yX10_put RX10 ∈ lw_nest := kqn 759 (by decide +kernel) (by decide +kernel)
theorem q_860 : Cond.methodLink RX2 44 yX3_latest ∈ lw_all := kq 860 (by decide +kernel) (by decide +kernel)
theorem q_861 : Cond.instanceMethod yX3_latest ∈ lw_all := kq 861 (by decide +kernel) (by decide +kernel)
theorem q_862 : Cond.selects RX3 yX3_latest yX3_latest ∈ lw_all := kq 862 (by decide +kernel) (by decide +kernel)
theorem q_863 : Cond.code yX3_latest cX3_latest 3 (some .int) ∈ lw_all := kq 863 (by decide +kernel) (by decide +kernel)
theorem q_864 : Cond.methodLinkNest RX3 28 yX10_at RX10 ∈ lw_nest := kqn 864 (by decide +kernel) (by decide +kernel)
theorem q_932 : Cond.methodLink RX9 35 yX3_latest ∈ lw_all := kq 932 (by decide +kernel) (by decide +kernel)
theorem bipush_100 : (Int8.ofInt 100).toInt32 = 100 := by decide
theorem bipush_12 : (Int8.ofInt 12).toInt32 = 12 := by decide
theorem iconst_0 : Int32.ofInt 0 = 0 := by decide
theorem iconst_1 : Int32.ofInt 1 = 1 := by decide
theorem iconst_2 : Int32.ofInt 2 = 2 := by decide
theorem iconst_3 : Int32.ofInt 3 = 3 := by decide
theorem iconst_4 : Int32.ofInt 4 = 4 := by decide
theorem sipush_m1000 : (Int16.ofInt (-1000)).toInt32 = (-1000) := by decide
theorem sipush_m10000 : (Int16.ofInt (-10000)).toInt32 = (-10000) := by decide
theorem sipush_m400 : (Int16.ofInt (-400)).toInt32 = (-400) := by decide
theorem sipush_m700 : (Int16.ofInt (-700)).toInt32 = (-700) := by decide
theorem sipush_1000 : (Int16.ofInt 1000).toInt32 = 1000 := by decide
theorem sipush_1800 : (Int16.ofInt 1800).toInt32 = 1800 := by decide
theorem sipush_2000 : (Int16.ofInt 2000).toInt32 = 2000 := by decide
theorem sipush_500 : (Int16.ofInt 500).toInt32 = 500 := by decide
theorem cwv_X0_unlimitedDemand : kCWv yX0_unlimitedDemand cX0_unlimitedDemand 2 (some .int) 1 := ⟨⟨q_576, q_18, by decide +kernel⟩, q_575, q_4⟩
theorem cws_X10_at : kCWs yX10_at cX10_at 2 (some .int) 2 := ⟨⟨q_559, q_16, by decide +kernel⟩, q_558⟩
theorem cws_X10_copyRow : kCWs yX10_copyRow cX10_copyRow 2 none 2 := ⟨⟨q_497, q_16, by decide +kernel⟩, q_496⟩
theorem cws_X10_isTarget : kCWs yX10_isTarget cX10_isTarget 2 (some .boolean) 2 := ⟨⟨q_727, q_16, by decide +kernel⟩, q_726⟩
theorem cws_X10_isTargetTemperature : kCWs yX10_isTargetTemperature cX10_isTargetTemperature 1 (some .boolean) 1 := ⟨⟨q_730, q_16, by decide +kernel⟩, q_729⟩
theorem cws_X10_isWithin : kCWs yX10_isWithin cX10_isWithin 3 (some .boolean) 3 := ⟨⟨q_395, q_16, by decide +kernel⟩, q_394⟩
theorem cws_X10_limit : kCWs yX10_limit cX10_limit 3 (some .int) 3 := ⟨⟨q_579, q_16, by decide +kernel⟩, q_578⟩
theorem cws_X10_put : kCWs yX10_put cX10_put 3 none 3 := ⟨⟨q_709, q_16, by decide +kernel⟩, q_708⟩
theorem cwv_X3_add : kCWv yX3_add cX3_add 2 none 1 := ⟨⟨q_588, q_23, by decide +kernel⟩, q_586, q_587⟩
theorem cwv_X3_copy : kCWv yX3_copy cX3_copy 2 none 1 := ⟨⟨q_528, q_23, by decide +kernel⟩, q_526, q_527⟩
theorem cwv_X3_latest : kCWv yX3_latest cX3_latest 3 (some .int) 1 := ⟨⟨q_863, q_23, by decide +kernel⟩, q_861, q_862⟩
theorem cwv_X4_isRunning : kCWv yX4_isRunning cX4_isRunning 1 (some .boolean) 0 := ⟨⟨q_552, q_20, by decide +kernel⟩, q_550, q_551⟩
theorem cwv_X6_isFull : kCWv yX6_isFull cX6_isFull 1 (some .boolean) 0 := ⟨⟨q_753, q_19, by decide +kernel⟩, q_751, q_752⟩
theorem dX10_at_0 : decode cX10_at 0 = .ok (.iload_n 1, 1) := by decide +kernel
theorem dX10_at_1 : decode cX10_at 1 = .ok (.ifCond .lt 15, 3) := by decide +kernel
theorem dX10_at_4 : decode cX10_at 4 = .ok (.iload_n 1, 1) := by decide +kernel
theorem dX10_at_5 : decode cX10_at 5 = .ok (.aload_n 0, 1) := by decide +kernel
theorem dX10_at_6 : decode cX10_at 6 = .ok (.arraylength, 1) := by decide +kernel
theorem dX10_at_7 : decode cX10_at 7 = .ok (.if_icmp .ge 9, 3) := by decide +kernel
theorem dX10_at_10 : decode cX10_at 10 = .ok (.aload_n 0, 1) := by decide +kernel
theorem dX10_at_11 : decode cX10_at 11 = .ok (.iload_n 1, 1) := by decide +kernel
theorem dX10_at_12 : decode cX10_at 12 = .ok (.iaload, 1) := by decide +kernel
theorem dX10_at_13 : decode cX10_at 13 = .ok (.goto 6, 3) := by decide +kernel
theorem dX10_at_16 : decode cX10_at 16 = .ok (.sipush (-10000), 3) := by decide +kernel
theorem dX10_at_19 : decode cX10_at 19 = .ok (.ireturn, 1) := by decide +kernel
def s_X10_at_1 (x_3 : Int32) : Int32 :=
  x_3
def s_X10_at (n_p0 : Nat) (f_p0 : Nat → Int32) (p1 : Int32) : Int32 :=
  (s_X10_at_1 (if p1 < 0 then (-10000) else (if (nI n_p0) ≤ p1 then (-10000) else (f_p0 (Int32.toNatClampNeg p1)))))
set_option maxRecDepth 100000 in
set_option maxHeartbeats 4000000 in
theorem c_X10_at (l : Launch) (D : va_G) (cI cJ cO : ClassId) (h_p0 : Nat) (n_p0 : Nat) (f_p0 : Nat → Int32) (p1 : Int32) (hn_p0 : n_p0 < 2 ^ 31) : kI l yX10_at cX10_at 2 .int 0 0 D (kT cI cJ cO) [.ref h_p0, .int p1] [(h_p0, iA cI n_p0 f_p0)] (s_X10_at n_p0 f_p0 p1) [(h_p0, iA cI n_p0 f_p0)] := by
  refine kI_of (own := RX10) (lv := [(0, .ref h_p0), (1, .int p1)]) rfl rfl (by decide) (Nat.le_of_ble_eq_true rfl) ?_
  intro p e s m args below meth c Q A C hret
  refine k_iload_n (pc := 0) C rfl 1 rfl dX10_at_0 ?_
  have K_4 : ∀ (x_3 : Int32), x_3 = (if p1 < 0 then (-10000) else (if (nI n_p0) ≤ p1 then (-10000) else (f_p0 (Int32.toNatClampNeg p1)))) → KJ p l e (kR 0 0) s m args below meth c 0 0 Q D A 2 [(h_p0, iA cI n_p0 f_p0)] [] [.int x_3] 19 := by
    intro x_3 ex_3
    have hs : (s_X10_at n_p0 f_p0 p1) = x_3 := (k_st (g := s_X10_at_1) ex_3 rfl rfl)
    exact k_finI (pc := 19) hret rfl (by rw [hs]) rfl dX10_at_19
  refine k_if_lt (pc := 1) (tgt := 16) C dX10_at_1 (by decide) (fun c_1 => ?_) (fun c_1 => ?_)
  · refine k_sipush (pc := 16) C sipush_m10000 dX10_at_16 ?_
    refine k_lpick (lv2 := []) [] rfl ?_
    exact K_4 (-10000) (Eq.symm (if_pos c_1))
  · refine k_iload_n (pc := 4) C rfl 1 rfl dX10_at_4 ?_
    refine k_aload_n (pc := 5) C rfl 0 rfl dX10_at_5 ?_
    refine k_alen (pc := 6) (v := (nI n_p0)) C 0 0 rfl rfl rfl dX10_at_6 ?_
    refine k_icmp_ge (pc := 7) (tgt := 16) C dX10_at_7 (by decide) (fun c_2 => ?_) (fun c_2 => ?_)
    · refine k_sipush (pc := 16) C sipush_m10000 dX10_at_16 ?_
      refine k_lpick (lv2 := []) [] rfl ?_
      exact K_4 (-10000) (Eq.symm ((if_neg c_1).trans (if_pos c_2)))
    · refine k_aload_n (pc := 10) C rfl 0 rfl dX10_at_10 ?_
      refine k_iload_n (pc := 11) C rfl 1 rfl dX10_at_11 ?_
      refine k_ialdK (pc := 12) (v := (f_p0 (Int32.toNatClampNeg p1))) C 0 0 rfl rfl (k_vin hn_p0 c_1 (k_nle c_2)) rfl rfl dX10_at_12 ?_
      refine k_goto (pc := 13) (tgt := 19) C (by decide) dX10_at_13 ?_
      refine k_lpick (lv2 := []) [] rfl ?_
      exact K_4 (f_p0 (Int32.toNatClampNeg p1)) (Eq.symm ((if_neg c_1).trans (if_neg c_2)))

theorem dX10_put_0 : decode cX10_put 0 = .ok (.iload_n 1, 1) := by decide +kernel
theorem dX10_put_1 : decode cX10_put 1 = .ok (.ifCond .lt 13, 3) := by decide +kernel
theorem dX10_put_4 : decode cX10_put 4 = .ok (.iload_n 1, 1) := by decide +kernel
theorem dX10_put_5 : decode cX10_put 5 = .ok (.aload_n 0, 1) := by decide +kernel
theorem dX10_put_6 : decode cX10_put 6 = .ok (.arraylength, 1) := by decide +kernel
theorem dX10_put_7 : decode cX10_put 7 = .ok (.if_icmp .ge 7, 3) := by decide +kernel
theorem dX10_put_10 : decode cX10_put 10 = .ok (.aload_n 0, 1) := by decide +kernel
theorem dX10_put_11 : decode cX10_put 11 = .ok (.iload_n 1, 1) := by decide +kernel
theorem dX10_put_12 : decode cX10_put 12 = .ok (.iload_n 2, 1) := by decide +kernel
theorem dX10_put_13 : decode cX10_put 13 = .ok (.iastore, 1) := by decide +kernel
theorem dX10_put_14 : decode cX10_put 14 = .ok (.return_, 1) := by decide +kernel
def s_X10_put (n_p0 : Nat) (f_p0 : Nat → Int32) (p1 : Int32) (p2 : Int32) : (Nat → Int32) :=
  (if p1 < 0 then f_p0 else (if (nI n_p0) ≤ p1 then f_p0 else (upd f_p0 (Int32.toNatClampNeg p1) p2)))
set_option maxRecDepth 100000 in
set_option maxHeartbeats 4000000 in
theorem c_X10_put (l : Launch) (D : va_G) (cI cJ cO : ClassId) (h_p0 : Nat) (n_p0 : Nat) (f_p0 : Nat → Int32) (p1 : Int32) (p2 : Int32) (hn_p0 : n_p0 < 2 ^ 31) : kV l yX10_put cX10_put 3 0 0 D (kT cI cJ cO) [.ref h_p0, .int p1, .int p2] [(h_p0, iA cI n_p0 f_p0)] [(h_p0, iA cI n_p0 (s_X10_put n_p0 f_p0 p1 p2))] := by
  refine kV_of (own := RX10) (lv := [(0, .ref h_p0), (1, .int p1), (2, .int p2)]) rfl rfl (by decide) (Nat.le_of_ble_eq_true rfl) ?_
  intro p e s m args below meth c Q A C hret
  refine k_iload_n (pc := 0) C rfl 1 rfl dX10_put_0 ?_
  refine k_if_lt (pc := 1) (tgt := 14) C dX10_put_1 (by decide) (fun c_1 => ?_) (fun c_1 => ?_)
  · have hs : (s_X10_put n_p0 f_p0 p1 p2) = f_p0 := (if_pos c_1)
    exact k_finV (pc := 14) hret (by rw [hs]) dX10_put_14
  · refine k_iload_n (pc := 4) C rfl 1 rfl dX10_put_4 ?_
    refine k_aload_n (pc := 5) C rfl 0 rfl dX10_put_5 ?_
    refine k_alen (pc := 6) (v := (nI n_p0)) C 0 0 rfl rfl rfl dX10_put_6 ?_
    refine k_icmp_ge (pc := 7) (tgt := 14) C dX10_put_7 (by decide) (fun c_2 => ?_) (fun c_2 => ?_)
    · have hs : (s_X10_put n_p0 f_p0 p1 p2) = f_p0 := ((if_neg c_1).trans (if_pos c_2))
      exact k_finV (pc := 14) hret (by rw [hs]) dX10_put_14
    · refine k_aload_n (pc := 10) C rfl 0 rfl dX10_put_10 ?_
      refine k_iload_n (pc := 11) C rfl 1 rfl dX10_put_11 ?_
      refine k_iload_n (pc := 12) C rfl 2 rfl dX10_put_12 ?_
      refine k_iastK (pc := 13) (ws2 := [(h_p0, iA cI n_p0 (upd f_p0 (Int32.toNatClampNeg p1) p2))]) C 0 0 rfl rfl (k_vin hn_p0 c_1 (k_nle c_2)) rfl rfl dX10_put_13 ?_
      have hs : (s_X10_put n_p0 f_p0 p1 p2) = (upd f_p0 (Int32.toNatClampNeg p1) p2) := ((if_neg c_1).trans (if_neg c_2))
      exact k_finV (pc := 14) hret (by rw [hs]) dX10_put_14

theorem dX10_isWithin_0 : decode cX10_isWithin 0 = .ok (.iload_n 0, 1) := by decide +kernel
theorem dX10_isWithin_1 : decode cX10_isWithin 1 = .ok (.iload_n 1, 1) := by decide +kernel
theorem dX10_isWithin_2 : decode cX10_isWithin 2 = .ok (.if_icmp .lt 12, 3) := by decide +kernel
theorem dX10_isWithin_5 : decode cX10_isWithin 5 = .ok (.iload_n 0, 1) := by decide +kernel
theorem dX10_isWithin_6 : decode cX10_isWithin 6 = .ok (.iload_n 2, 1) := by decide +kernel
theorem dX10_isWithin_7 : decode cX10_isWithin 7 = .ok (.if_icmp .gt 7, 3) := by decide +kernel
theorem dX10_isWithin_10 : decode cX10_isWithin 10 = .ok (.iconst 1, 1) := by decide +kernel
theorem dX10_isWithin_11 : decode cX10_isWithin 11 = .ok (.goto 4, 3) := by decide +kernel
theorem dX10_isWithin_14 : decode cX10_isWithin 14 = .ok (.iconst 0, 1) := by decide +kernel
theorem dX10_isWithin_15 : decode cX10_isWithin 15 = .ok (.ireturn, 1) := by decide +kernel
def s_X10_isWithin (p0 : Int32) (p1 : Int32) (p2 : Int32) : Int32 :=
  (if p0 < p1 then 0 else (if p2 < p0 then 0 else 1))
set_option maxRecDepth 100000 in
set_option maxHeartbeats 4000000 in
theorem c_X10_isWithin (l : Launch) (D : va_G) (cI cJ cO : ClassId) (p0 : Int32) (p1 : Int32) (p2 : Int32) : kI l yX10_isWithin cX10_isWithin 3 .boolean 0 0 D (kT cI cJ cO) [.int p0, .int p1, .int p2] [] (s_X10_isWithin p0 p1 p2) [] := by
  refine kI_of (own := RX10) (lv := [(0, .int p0), (1, .int p1), (2, .int p2)]) rfl rfl (by decide) (Nat.le_of_ble_eq_true rfl) ?_
  intro p e s m args below meth c Q A C hret
  refine k_iload_n (pc := 0) C rfl 0 rfl dX10_isWithin_0 ?_
  refine k_iload_n (pc := 1) C rfl 1 rfl dX10_isWithin_1 ?_
  refine k_icmp_lt (pc := 2) (tgt := 14) C dX10_isWithin_2 (by decide) (fun c_1 => ?_) (fun c_1 => ?_)
  · refine k_iconst (pc := 14) C iconst_0 dX10_isWithin_14 ?_
    have hs : (s_X10_isWithin p0 p1 p2) = 0 := (if_pos c_1)
    exact k_finI (pc := 15) hret rfl (by rw [hs]) rfl dX10_isWithin_15
  · refine k_iload_n (pc := 5) C rfl 0 rfl dX10_isWithin_5 ?_
    refine k_iload_n (pc := 6) C rfl 2 rfl dX10_isWithin_6 ?_
    refine k_icmp_gt (pc := 7) (tgt := 14) C dX10_isWithin_7 (by decide) (fun c_2 => ?_) (fun c_2 => ?_)
    · refine k_iconst (pc := 14) C iconst_0 dX10_isWithin_14 ?_
      have hs : (s_X10_isWithin p0 p1 p2) = 0 := ((if_neg c_1).trans (if_pos c_2))
      exact k_finI (pc := 15) hret rfl (by rw [hs]) rfl dX10_isWithin_15
    · refine k_iconst (pc := 10) C iconst_1 dX10_isWithin_10 ?_
      refine k_goto (pc := 11) (tgt := 15) C (by decide) dX10_isWithin_11 ?_
      have hs : (s_X10_isWithin p0 p1 p2) = 1 := ((if_neg c_1).trans (if_neg c_2))
      exact k_finI (pc := 15) hret rfl (by rw [hs]) rfl dX10_isWithin_15
theorem b_X10_isWithin (p0 : Int32) (p1 : Int32) (p2 : Int32) : kb (s_X10_isWithin p0 p1 p2) := by
  unfold s_X10_isWithin
  repeat' first | with_reducible exact kb0 | with_reducible exact kb1 | with_reducible refine k_bif ?_ ?_ | with_reducible refine k_bif0 ?_ ?_

theorem dX10_limit_0 : decode cX10_limit 0 = .ok (.iload_n 1, 1) := by decide +kernel
theorem dX10_limit_1 : decode cX10_limit 1 = .ok (.iload_n 2, 1) := by decide +kernel
theorem dX10_limit_2 : decode cX10_limit 2 = .ok (.iload_n 0, 1) := by decide +kernel
theorem dX10_limit_3 : decode cX10_limit 3 = .ok (.invokestatic 225, 3) := by decide +kernel
theorem dX10_limit_6 : decode cX10_limit 6 = .ok (.invokestatic 230, 3) := by decide +kernel
theorem dX10_limit_9 : decode cX10_limit 9 = .ok (.ireturn, 1) := by decide +kernel
def s_X10_limit (p0 : Int32) (p1 : Int32) (p2 : Int32) : Int32 :=
  (if p1 < (if p0 < p2 then p0 else p2) then (if p0 < p2 then p0 else p2) else p1)
set_option maxRecDepth 100000 in
set_option maxHeartbeats 4000000 in
theorem c_X10_limit (l : Launch) (D : va_G) (cI cJ cO : ClassId) (p0 : Int32) (p1 : Int32) (p2 : Int32) : kI l yX10_limit cX10_limit 3 .int 1 14 D (kT cI cJ cO) [.int p0, .int p1, .int p2] [] (s_X10_limit p0 p1 p2) [] := by
  refine kI_of (own := RX10) (lv := [(0, .int p0), (1, .int p1), (2, .int p2)]) rfl rfl (by decide) (Nat.le_of_ble_eq_true rfl) ?_
  intro p e s m args below meth c Q A C hret
  refine k_iload_n (pc := 0) C rfl 1 rfl dX10_limit_0 ?_
  refine k_iload_n (pc := 1) C rfl 2 rfl dX10_limit_1 ?_
  refine k_iload_n (pc := 2) C rfl 0 rfl dX10_limit_2 ?_
  refine k_mmin (pc := 3) C q_498 q_499 q_24 q_500 ⟨Nat.le_of_ble_eq_true rfl, Nat.le_of_ble_eq_true rfl, Nat.le_refl _, Nat.le_refl _⟩ dX10_limit_3 ?_
  refine k_mmax (pc := 6) C q_580 q_224 q_24 q_225 ⟨Nat.le_of_ble_eq_true rfl, Nat.le_of_ble_eq_true rfl, Nat.le_refl _, Nat.le_refl _⟩ dX10_limit_6 ?_
  have hs : (s_X10_limit p0 p1 p2) = (if p1 < (if p0 < p2 then p0 else p2) then (if p0 < p2 then p0 else p2) else p1) := rfl
  exact k_finI (pc := 9) hret rfl (by rw [hs]) rfl dX10_limit_9

theorem dX10_isTargetTemperature_0 : decode cX10_isTargetTemperature 0 = .ok (.iload_n 0, 1) := by decide +kernel
theorem dX10_isTargetTemperature_1 : decode cX10_isTargetTemperature 1 = .ok (.sipush (-400), 3) := by decide +kernel
theorem dX10_isTargetTemperature_4 : decode cX10_isTargetTemperature 4 = .ok (.sipush 1800, 3) := by decide +kernel
theorem dX10_isTargetTemperature_7 : decode cX10_isTargetTemperature 7 = .ok (.invokestatic 51, 3) := by decide +kernel
theorem dX10_isTargetTemperature_10 : decode cX10_isTargetTemperature 10 = .ok (.ireturn, 1) := by decide +kernel
def s_X10_isTargetTemperature (p0 : Int32) : Int32 :=
  (s_X10_isWithin p0 (-400) 1800)
set_option maxRecDepth 100000 in
set_option maxHeartbeats 4000000 in
theorem c_X10_isTargetTemperature (l : Launch) (D : va_G) (cI cJ cO : ClassId) (p0 : Int32) : kI l yX10_isTargetTemperature cX10_isTargetTemperature 1 .boolean 1 22 D (kT cI cJ cO) [.int p0] [] (s_X10_isTargetTemperature p0) [] := by
  refine kI_of (own := RX10) (lv := [(0, .int p0)]) rfl rfl (by decide) (Nat.le_of_ble_eq_true rfl) ?_
  intro p e s m args below meth c Q A C hret
  refine k_iload_n (pc := 0) C rfl 0 rfl dX10_isTargetTemperature_0 ?_
  refine k_sipush (pc := 1) C sipush_m400 dX10_isTargetTemperature_1 ?_
  refine k_sipush (pc := 4) C sipush_1800 dX10_isTargetTemperature_4 ?_
  refine k_callSi (pc := 7) (As := [.int p0, .int (-400), .int 1800]) (rest := []) (r := (s_X10_isWithin p0 (-400) 1800)) (wc := []) (wc2 := []) (ws2 := []) C (c_X10_isWithin l D cI cJ cO p0 (-400) 1800) cws_X10_isWithin q_393 [] rfl rfl (by decide) rfl rfl (Nat.le_of_ble_eq_true rfl) ⟨Nat.le_of_ble_eq_true rfl, Nat.le_of_ble_eq_true rfl⟩ rfl ⟨Nat.le_refl _, Nat.le_refl _⟩ dX10_isTargetTemperature_7 ?_
  have hs : (s_X10_isTargetTemperature p0) = (s_X10_isWithin p0 (-400) 1800) := rfl
  exact k_finI (pc := 10) hret (kb_n (b_X10_isWithin _ _ _)) (by rw [hs]) rfl dX10_isTargetTemperature_10
theorem b_X10_isTargetTemperature (p0 : Int32) : kb (s_X10_isTargetTemperature p0) := by
  unfold s_X10_isTargetTemperature
  repeat' first | with_reducible exact kb0 | with_reducible exact kb1 | with_reducible exact b_X10_isWithin .. | with_reducible refine k_bif ?_ ?_ | with_reducible refine k_bif0 ?_ ?_

theorem dX10_isTarget_0 : decode cX10_isTarget 0 = .ok (.iload_n 0, 1) := by decide +kernel
theorem dX10_isTarget_1 : decode cX10_isTarget 1 = .ok (.invokestatic 242, 3) := by decide +kernel
theorem dX10_isTarget_4 : decode cX10_isTarget 4 = .ok (.ifCond .eq 18, 3) := by decide +kernel
theorem dX10_isTarget_7 : decode cX10_isTarget 7 = .ok (.iload_n 1, 1) := by decide +kernel
theorem dX10_isTarget_8 : decode cX10_isTarget 8 = .ok (.iconst 0, 1) := by decide +kernel
theorem dX10_isTarget_9 : decode cX10_isTarget 9 = .ok (.sipush 1000, 3) := by decide +kernel
theorem dX10_isTarget_12 : decode cX10_isTarget 12 = .ok (.invokestatic 51, 3) := by decide +kernel
theorem dX10_isTarget_15 : decode cX10_isTarget 15 = .ok (.ifCond .eq 7, 3) := by decide +kernel
theorem dX10_isTarget_18 : decode cX10_isTarget 18 = .ok (.iconst 1, 1) := by decide +kernel
theorem dX10_isTarget_19 : decode cX10_isTarget 19 = .ok (.goto 4, 3) := by decide +kernel
theorem dX10_isTarget_22 : decode cX10_isTarget 22 = .ok (.iconst 0, 1) := by decide +kernel
theorem dX10_isTarget_23 : decode cX10_isTarget 23 = .ok (.ireturn, 1) := by decide +kernel
def s_X10_isTarget (p0 : Int32) (p1 : Int32) : Int32 :=
  (if (s_X10_isTargetTemperature p0) = 0 then 0 else (if (s_X10_isWithin p1 0 1000) = 0 then 0 else 1))
set_option maxRecDepth 100000 in
set_option maxHeartbeats 4000000 in
theorem c_X10_isTarget (l : Launch) (D : va_G) (cI cJ cO : ClassId) (p0 : Int32) (p1 : Int32) : kI l yX10_isTarget cX10_isTarget 2 .boolean 2 42 D (kT cI cJ cO) [.int p0, .int p1] [] (s_X10_isTarget p0 p1) [] := by
  refine kI_of (own := RX10) (lv := [(0, .int p0), (1, .int p1)]) rfl rfl (by decide) (Nat.le_of_ble_eq_true rfl) ?_
  intro p e s m args below meth c Q A C hret
  refine k_iload_n (pc := 0) C rfl 0 rfl dX10_isTarget_0 ?_
  refine k_callSi (pc := 1) (As := [.int p0]) (rest := []) (r := (s_X10_isTargetTemperature p0)) (wc := []) (wc2 := []) (ws2 := []) C (c_X10_isTargetTemperature l D cI cJ cO p0) cws_X10_isTargetTemperature q_728 [] rfl rfl (by decide) rfl rfl (Nat.le_of_ble_eq_true rfl) ⟨Nat.le_of_ble_eq_true rfl, Nat.le_of_ble_eq_true rfl⟩ rfl ⟨Nat.le_refl _, Nat.le_refl _⟩ dX10_isTarget_1 ?_
  refine k_if_eq (pc := 4) (tgt := 22) C dX10_isTarget_4 (by decide) (fun c_1 => ?_) (fun c_1 => ?_)
  · refine k_iconst (pc := 22) C iconst_0 dX10_isTarget_22 ?_
    have hs : (s_X10_isTarget p0 p1) = 0 := (if_pos c_1)
    exact k_finI (pc := 23) hret rfl (by rw [hs]) rfl dX10_isTarget_23
  · refine k_iload_n (pc := 7) C rfl 1 rfl dX10_isTarget_7 ?_
    refine k_iconst (pc := 8) C iconst_0 dX10_isTarget_8 ?_
    refine k_sipush (pc := 9) C sipush_1000 dX10_isTarget_9 ?_
    refine k_callSi (pc := 12) (As := [.int p1, .int 0, .int 1000]) (rest := []) (r := (s_X10_isWithin p1 0 1000)) (wc := []) (wc2 := []) (ws2 := []) C (c_X10_isWithin l D cI cJ cO p1 0 1000) cws_X10_isWithin q_393 [] rfl rfl (by decide) rfl rfl (Nat.le_of_ble_eq_true rfl) ⟨Nat.le_of_ble_eq_true rfl, Nat.le_of_ble_eq_true rfl⟩ rfl ⟨Nat.le_refl _, Nat.le_refl _⟩ dX10_isTarget_12 ?_
    refine k_if_eq (pc := 15) (tgt := 22) C dX10_isTarget_15 (by decide) (fun c_2 => ?_) (fun c_2 => ?_)
    · refine k_iconst (pc := 22) C iconst_0 dX10_isTarget_22 ?_
      have hs : (s_X10_isTarget p0 p1) = 0 := ((if_neg c_1).trans (if_pos c_2))
      exact k_finI (pc := 23) hret rfl (by rw [hs]) rfl dX10_isTarget_23
    · refine k_iconst (pc := 18) C iconst_1 dX10_isTarget_18 ?_
      refine k_goto (pc := 19) (tgt := 23) C (by decide) dX10_isTarget_19 ?_
      have hs : (s_X10_isTarget p0 p1) = 1 := ((if_neg c_1).trans (if_neg c_2))
      exact k_finI (pc := 23) hret rfl (by rw [hs]) rfl dX10_isTarget_23
theorem b_X10_isTarget (p0 : Int32) (p1 : Int32) : kb (s_X10_isTarget p0 p1) := by
  unfold s_X10_isTarget
  repeat' first | with_reducible exact kb0 | with_reducible exact kb1 | with_reducible exact b_X10_isTargetTemperature .. | with_reducible exact b_X10_isWithin .. | with_reducible refine k_bif ?_ ?_ | with_reducible refine k_bif0 ?_ ?_

theorem dX10_isSegment_0 : decode cX10_isSegment 0 = .ok (.iload_n 0, 1) := by decide +kernel
theorem dX10_isSegment_1 : decode cX10_isSegment 1 = .ok (.iload_n 1, 1) := by decide +kernel
theorem dX10_isSegment_2 : decode cX10_isSegment 2 = .ok (.invokestatic 89, 3) := by decide +kernel
theorem dX10_isSegment_5 : decode cX10_isSegment 5 = .ok (.ifCond .eq 35, 3) := by decide +kernel
theorem dX10_isSegment_8 : decode cX10_isSegment 8 = .ok (.iload_n 2, 1) := by decide +kernel
theorem dX10_isSegment_9 : decode cX10_isSegment 9 = .ok (.iconst 0, 1) := by decide +kernel
theorem dX10_isSegment_10 : decode cX10_isSegment 10 = .ok (.sipush 500, 3) := by decide +kernel
theorem dX10_isSegment_13 : decode cX10_isSegment 13 = .ok (.invokestatic 51, 3) := by decide +kernel
theorem dX10_isSegment_16 : decode cX10_isSegment 16 = .ok (.ifCond .eq 24, 3) := by decide +kernel
theorem dX10_isSegment_19 : decode cX10_isSegment 19 = .ok (.iload_n 3, 1) := by decide +kernel
theorem dX10_isSegment_20 : decode cX10_isSegment 20 = .ok (.iconst 0, 1) := by decide +kernel
theorem dX10_isSegment_21 : decode cX10_isSegment 21 = .ok (.sipush 500, 3) := by decide +kernel
theorem dX10_isSegment_24 : decode cX10_isSegment 24 = .ok (.invokestatic 51, 3) := by decide +kernel
theorem dX10_isSegment_27 : decode cX10_isSegment 27 = .ok (.ifCond .eq 13, 3) := by decide +kernel
theorem dX10_isSegment_30 : decode cX10_isSegment 30 = .ok (.iload_n 2, 1) := by decide +kernel
theorem dX10_isSegment_31 : decode cX10_isSegment 31 = .ok (.iload_n 3, 1) := by decide +kernel
theorem dX10_isSegment_32 : decode cX10_isSegment 32 = .ok (.iadd, 1) := by decide +kernel
theorem dX10_isSegment_33 : decode cX10_isSegment 33 = .ok (.ifCond .le 7, 3) := by decide +kernel
theorem dX10_isSegment_36 : decode cX10_isSegment 36 = .ok (.iconst 1, 1) := by decide +kernel
theorem dX10_isSegment_37 : decode cX10_isSegment 37 = .ok (.goto 4, 3) := by decide +kernel
theorem dX10_isSegment_40 : decode cX10_isSegment 40 = .ok (.iconst 0, 1) := by decide +kernel
theorem dX10_isSegment_41 : decode cX10_isSegment 41 = .ok (.ireturn, 1) := by decide +kernel
def s_X10_isSegment (p0 : Int32) (p1 : Int32) (p2 : Int32) (p3 : Int32) : Int32 :=
  (if (s_X10_isTarget p0 p1) = 0 then 0 else (if (s_X10_isWithin p2 0 500) = 0 then 0 else (if (s_X10_isWithin p3 0 500) = 0 then 0 else (if (p2 + p3) ≤ 0 then 0 else 1))))
set_option maxRecDepth 100000 in
set_option maxHeartbeats 4000000 in
theorem c_X10_isSegment (l : Launch) (D : va_G) (cI cJ cO : ClassId) (p0 : Int32) (p1 : Int32) (p2 : Int32) (p3 : Int32) : kI l yX10_isSegment cX10_isSegment 4 .boolean 3 63 D (kT cI cJ cO) [.int p0, .int p1, .int p2, .int p3] [] (s_X10_isSegment p0 p1 p2 p3) [] := by
  refine kI_of (own := RX10) (lv := [(0, .int p0), (1, .int p1), (2, .int p2), (3, .int p3)]) rfl rfl (by decide) (Nat.le_of_ble_eq_true rfl) ?_
  intro p e s m args below meth c Q A C hret
  refine k_iload_n (pc := 0) C rfl 0 rfl dX10_isSegment_0 ?_
  refine k_iload_n (pc := 1) C rfl 1 rfl dX10_isSegment_1 ?_
  refine k_callSi (pc := 2) (As := [.int p0, .int p1]) (rest := []) (r := (s_X10_isTarget p0 p1)) (wc := []) (wc2 := []) (ws2 := []) C (c_X10_isTarget l D cI cJ cO p0 p1) cws_X10_isTarget q_725 [] rfl rfl (by decide) rfl rfl (Nat.le_of_ble_eq_true rfl) ⟨Nat.le_of_ble_eq_true rfl, Nat.le_of_ble_eq_true rfl⟩ rfl ⟨Nat.le_refl _, Nat.le_refl _⟩ dX10_isSegment_2 ?_
  refine k_if_eq (pc := 5) (tgt := 40) C dX10_isSegment_5 (by decide) (fun c_1 => ?_) (fun c_1 => ?_)
  · refine k_iconst (pc := 40) C iconst_0 dX10_isSegment_40 ?_
    have hs : (s_X10_isSegment p0 p1 p2 p3) = 0 := (if_pos c_1)
    exact k_finI (pc := 41) hret rfl (by rw [hs]) rfl dX10_isSegment_41
  · refine k_iload_n (pc := 8) C rfl 2 rfl dX10_isSegment_8 ?_
    refine k_iconst (pc := 9) C iconst_0 dX10_isSegment_9 ?_
    refine k_sipush (pc := 10) C sipush_500 dX10_isSegment_10 ?_
    refine k_callSi (pc := 13) (As := [.int p2, .int 0, .int 500]) (rest := []) (r := (s_X10_isWithin p2 0 500)) (wc := []) (wc2 := []) (ws2 := []) C (c_X10_isWithin l D cI cJ cO p2 0 500) cws_X10_isWithin q_393 [] rfl rfl (by decide) rfl rfl (Nat.le_of_ble_eq_true rfl) ⟨Nat.le_of_ble_eq_true rfl, Nat.le_of_ble_eq_true rfl⟩ rfl ⟨Nat.le_refl _, Nat.le_refl _⟩ dX10_isSegment_13 ?_
    refine k_if_eq (pc := 16) (tgt := 40) C dX10_isSegment_16 (by decide) (fun c_2 => ?_) (fun c_2 => ?_)
    · refine k_iconst (pc := 40) C iconst_0 dX10_isSegment_40 ?_
      have hs : (s_X10_isSegment p0 p1 p2 p3) = 0 := ((if_neg c_1).trans (if_pos c_2))
      exact k_finI (pc := 41) hret rfl (by rw [hs]) rfl dX10_isSegment_41
    · refine k_iload_n (pc := 19) C rfl 3 rfl dX10_isSegment_19 ?_
      refine k_iconst (pc := 20) C iconst_0 dX10_isSegment_20 ?_
      refine k_sipush (pc := 21) C sipush_500 dX10_isSegment_21 ?_
      refine k_callSi (pc := 24) (As := [.int p3, .int 0, .int 500]) (rest := []) (r := (s_X10_isWithin p3 0 500)) (wc := []) (wc2 := []) (ws2 := []) C (c_X10_isWithin l D cI cJ cO p3 0 500) cws_X10_isWithin q_393 [] rfl rfl (by decide) rfl rfl (Nat.le_of_ble_eq_true rfl) ⟨Nat.le_of_ble_eq_true rfl, Nat.le_of_ble_eq_true rfl⟩ rfl ⟨Nat.le_refl _, Nat.le_refl _⟩ dX10_isSegment_24 ?_
      refine k_if_eq (pc := 27) (tgt := 40) C dX10_isSegment_27 (by decide) (fun c_3 => ?_) (fun c_3 => ?_)
      · refine k_iconst (pc := 40) C iconst_0 dX10_isSegment_40 ?_
        have hs : (s_X10_isSegment p0 p1 p2 p3) = 0 := ((if_neg c_1).trans ((if_neg c_2).trans (if_pos c_3)))
        exact k_finI (pc := 41) hret rfl (by rw [hs]) rfl dX10_isSegment_41
      · refine k_iload_n (pc := 30) C rfl 2 rfl dX10_isSegment_30 ?_
        refine k_iload_n (pc := 31) C rfl 3 rfl dX10_isSegment_31 ?_
        refine k_iadd (pc := 32) C dX10_isSegment_32 ?_
        refine k_if_le (pc := 33) (tgt := 40) C dX10_isSegment_33 (by decide) (fun c_4 => ?_) (fun c_4 => ?_)
        · refine k_iconst (pc := 40) C iconst_0 dX10_isSegment_40 ?_
          have hs : (s_X10_isSegment p0 p1 p2 p3) = 0 := ((if_neg c_1).trans ((if_neg c_2).trans ((if_neg c_3).trans (if_pos c_4))))
          exact k_finI (pc := 41) hret rfl (by rw [hs]) rfl dX10_isSegment_41
        · refine k_iconst (pc := 36) C iconst_1 dX10_isSegment_36 ?_
          refine k_goto (pc := 37) (tgt := 41) C (by decide) dX10_isSegment_37 ?_
          have hs : (s_X10_isSegment p0 p1 p2 p3) = 1 := ((if_neg c_1).trans ((if_neg c_2).trans ((if_neg c_3).trans (if_neg c_4))))
          exact k_finI (pc := 41) hret rfl (by rw [hs]) rfl dX10_isSegment_41
theorem b_X10_isSegment (p0 : Int32) (p1 : Int32) (p2 : Int32) (p3 : Int32) : kb (s_X10_isSegment p0 p1 p2 p3) := by
  unfold s_X10_isSegment
  repeat' first | with_reducible exact kb0 | with_reducible exact kb1 | with_reducible exact b_X10_isTarget .. | with_reducible exact b_X10_isWithin .. | with_reducible refine k_bif ?_ ?_ | with_reducible refine k_bif0 ?_ ?_

theorem dX0_unlimitedDemand_0 : decode cX0_unlimitedDemand 0 = .ok (.aload_n 0, 1) := by decide +kernel
theorem dX0_unlimitedDemand_1 : decode cX0_unlimitedDemand 1 = .ok (.getfield 7, 3) := by decide +kernel
theorem dX0_unlimitedDemand_4 : decode cX0_unlimitedDemand 4 = .ok (.iconst 1, 1) := by decide +kernel
theorem dX0_unlimitedDemand_5 : decode cX0_unlimitedDemand 5 = .ok (.if_icmp .ne 13, 3) := by decide +kernel
theorem dX0_unlimitedDemand_8 : decode cX0_unlimitedDemand 8 = .ok (.iload_n 1, 1) := by decide +kernel
theorem dX0_unlimitedDemand_9 : decode cX0_unlimitedDemand 9 = .ok (.aload_n 0, 1) := by decide +kernel
theorem dX0_unlimitedDemand_10 : decode cX0_unlimitedDemand 10 = .ok (.getfield 13, 3) := by decide +kernel
theorem dX0_unlimitedDemand_13 : decode cX0_unlimitedDemand 13 = .ok (.imul, 1) := by decide +kernel
theorem dX0_unlimitedDemand_14 : decode cX0_unlimitedDemand 14 = .ok (.bipush 100, 2) := by decide +kernel
theorem dX0_unlimitedDemand_16 : decode cX0_unlimitedDemand 16 = .ok (.idiv, 1) := by decide +kernel
theorem dX0_unlimitedDemand_17 : decode cX0_unlimitedDemand 17 = .ok (.ireturn, 1) := by decide +kernel
theorem dX0_unlimitedDemand_18 : decode cX0_unlimitedDemand 18 = .ok (.iload_n 1, 1) := by decide +kernel
theorem dX0_unlimitedDemand_19 : decode cX0_unlimitedDemand 19 = .ok (.aload_n 0, 1) := by decide +kernel
theorem dX0_unlimitedDemand_20 : decode cX0_unlimitedDemand 20 = .ok (.getfield 16, 3) := by decide +kernel
theorem dX0_unlimitedDemand_23 : decode cX0_unlimitedDemand 23 = .ok (.ineg, 1) := by decide +kernel
theorem dX0_unlimitedDemand_24 : decode cX0_unlimitedDemand 24 = .ok (.if_icmp .lt 13, 3) := by decide +kernel
theorem dX0_unlimitedDemand_27 : decode cX0_unlimitedDemand 27 = .ok (.iload_n 1, 1) := by decide +kernel
theorem dX0_unlimitedDemand_28 : decode cX0_unlimitedDemand 28 = .ok (.aload_n 0, 1) := by decide +kernel
theorem dX0_unlimitedDemand_29 : decode cX0_unlimitedDemand 29 = .ok (.getfield 16, 3) := by decide +kernel
theorem dX0_unlimitedDemand_32 : decode cX0_unlimitedDemand 32 = .ok (.if_icmp .gt 5, 3) := by decide +kernel
theorem dX0_unlimitedDemand_35 : decode cX0_unlimitedDemand 35 = .ok (.iconst 0, 1) := by decide +kernel
theorem dX0_unlimitedDemand_36 : decode cX0_unlimitedDemand 36 = .ok (.ireturn, 1) := by decide +kernel
theorem dX0_unlimitedDemand_37 : decode cX0_unlimitedDemand 37 = .ok (.aload_n 0, 1) := by decide +kernel
theorem dX0_unlimitedDemand_38 : decode cX0_unlimitedDemand 38 = .ok (.getfield 7, 3) := by decide +kernel
theorem dX0_unlimitedDemand_41 : decode cX0_unlimitedDemand 41 = .ok (.ifCond .ne 5, 3) := by decide +kernel
theorem dX0_unlimitedDemand_44 : decode cX0_unlimitedDemand 44 = .ok (.iload_n 1, 1) := by decide +kernel
theorem dX0_unlimitedDemand_45 : decode cX0_unlimitedDemand 45 = .ok (.ireturn, 1) := by decide +kernel
theorem dX0_unlimitedDemand_46 : decode cX0_unlimitedDemand 46 = .ok (.iload_n 1, 1) := by decide +kernel
theorem dX0_unlimitedDemand_47 : decode cX0_unlimitedDemand 47 = .ok (.ifCond .le 9, 3) := by decide +kernel
theorem dX0_unlimitedDemand_50 : decode cX0_unlimitedDemand 50 = .ok (.sipush 1000, 3) := by decide +kernel
theorem dX0_unlimitedDemand_53 : decode cX0_unlimitedDemand 53 = .ok (.goto 6, 3) := by decide +kernel
theorem dX0_unlimitedDemand_56 : decode cX0_unlimitedDemand 56 = .ok (.sipush (-1000), 3) := by decide +kernel
theorem dX0_unlimitedDemand_59 : decode cX0_unlimitedDemand 59 = .ok (.ireturn, 1) := by decide +kernel
def s_X0_unlimitedDemand_1 (x_5 : Int32) : Int32 :=
  x_5
def s_X0_unlimitedDemand_2 (x_9 : Int32) : Int32 :=
  x_9
def s_X0_unlimitedDemand (f_t : Nat → Int32) (p0 : Int32) : Int32 :=
  (if (f_t 0) = 1 then ((p0 * (f_t 1)) / 100) else (if p0 < (-(f_t 2)) then (if (f_t 0) = 0 then p0 else (s_X0_unlimitedDemand_1 (if p0 ≤ 0 then (-1000) else 1000))) else (if (f_t 2) < p0 then (if (f_t 0) = 0 then p0 else (s_X0_unlimitedDemand_2 (if p0 ≤ 0 then (-1000) else 1000))) else 0)))
set_option maxRecDepth 100000 in
set_option maxHeartbeats 4000000 in
theorem c_X0_unlimitedDemand (l : Launch) (D : va_G) (cI cJ cO : ClassId) (h_t : Nat) (f_t : Nat → Int32) (p0 : Int32) : kI l yX0_unlimitedDemand cX0_unlimitedDemand 2 .int 0 0 D (kT cI cJ cO) [.ref h_t, .int p0] [(h_t, chE f_t)] (s_X0_unlimitedDemand f_t p0) [(h_t, chE f_t)] := by
  refine kI_of (own := RX0) (lv := [(0, .ref h_t), (1, .int p0)]) rfl rfl (by decide) (Nat.le_of_ble_eq_true rfl) ?_
  intro p e s m args below meth c Q A C hret
  refine k_aload_n (pc := 0) C rfl 0 rfl dX0_unlimitedDemand_0 ?_
  refine g_X0_0 (pc := 1) (x := (f_t 0)) C q_64 0 rfl rfl dX0_unlimitedDemand_1 ?_
  refine k_iconst (pc := 4) C iconst_1 dX0_unlimitedDemand_4 ?_
  refine k_icmp_ne (pc := 5) (tgt := 18) C dX0_unlimitedDemand_5 (by decide) (fun c_1 => ?_) (fun c_1 => ?_)
  · refine k_iload_n (pc := 18) C rfl 1 rfl dX0_unlimitedDemand_18 ?_
    refine k_aload_n (pc := 19) C rfl 0 rfl dX0_unlimitedDemand_19 ?_
    refine g_X0_2 (pc := 20) (x := (f_t 2)) C q_68 0 rfl rfl dX0_unlimitedDemand_20 ?_
    refine k_ineg (pc := 23) C dX0_unlimitedDemand_23 ?_
    refine k_icmp_lt (pc := 24) (tgt := 37) C dX0_unlimitedDemand_24 (by decide) (fun c_2 => ?_) (fun c_2 => ?_)
    · refine k_aload_n (pc := 37) C rfl 0 rfl dX0_unlimitedDemand_37 ?_
      refine g_X0_0 (pc := 38) (x := (f_t 0)) C q_64 0 rfl rfl dX0_unlimitedDemand_38 ?_
      refine k_if_ne (pc := 41) (tgt := 46) C dX0_unlimitedDemand_41 (by decide) (fun c_3 => ?_) (fun c_3 => ?_)
      · refine k_iload_n (pc := 46) C rfl 1 rfl dX0_unlimitedDemand_46 ?_
        have K_10 : ∀ (x_5 : Int32), x_5 = (if p0 ≤ 0 then (-1000) else 1000) → KJ p l e (kR 0 0) s m args below meth c 0 0 Q D A 2 [(h_t, chE f_t)] [] [.int x_5] 59 := by
          intro x_5 ex_5
          have hs : (s_X0_unlimitedDemand f_t p0) = x_5 := (k_st (g := s_X0_unlimitedDemand_1) ex_5 ((if_neg c_1).trans ((if_pos c_2).trans (if_neg c_3))) rfl)
          exact k_finI (pc := 59) hret rfl (by rw [hs]) rfl dX0_unlimitedDemand_59
        refine k_if_le (pc := 47) (tgt := 56) C dX0_unlimitedDemand_47 (by decide) (fun c_4 => ?_) (fun c_4 => ?_)
        · refine k_sipush (pc := 56) C sipush_m1000 dX0_unlimitedDemand_56 ?_
          refine k_lpick (lv2 := []) [] rfl ?_
          exact K_10 (-1000) (Eq.symm (if_pos c_4))
        · refine k_sipush (pc := 50) C sipush_1000 dX0_unlimitedDemand_50 ?_
          refine k_goto (pc := 53) (tgt := 59) C (by decide) dX0_unlimitedDemand_53 ?_
          refine k_lpick (lv2 := []) [] rfl ?_
          exact K_10 1000 (Eq.symm (if_neg c_4))
      · refine k_iload_n (pc := 44) C rfl 1 rfl dX0_unlimitedDemand_44 ?_
        have hs : (s_X0_unlimitedDemand f_t p0) = p0 := ((if_neg c_1).trans ((if_pos c_2).trans (if_pos c_3)))
        exact k_finI (pc := 45) hret rfl (by rw [hs]) rfl dX0_unlimitedDemand_45
    · refine k_iload_n (pc := 27) C rfl 1 rfl dX0_unlimitedDemand_27 ?_
      refine k_aload_n (pc := 28) C rfl 0 rfl dX0_unlimitedDemand_28 ?_
      refine g_X0_2 (pc := 29) (x := (f_t 2)) C q_68 0 rfl rfl dX0_unlimitedDemand_29 ?_
      refine k_icmp_gt (pc := 32) (tgt := 37) C dX0_unlimitedDemand_32 (by decide) (fun c_6 => ?_) (fun c_6 => ?_)
      · refine k_aload_n (pc := 37) C rfl 0 rfl dX0_unlimitedDemand_37 ?_
        refine g_X0_0 (pc := 38) (x := (f_t 0)) C q_64 0 rfl rfl dX0_unlimitedDemand_38 ?_
        refine k_if_ne (pc := 41) (tgt := 46) C dX0_unlimitedDemand_41 (by decide) (fun c_7 => ?_) (fun c_7 => ?_)
        · refine k_iload_n (pc := 46) C rfl 1 rfl dX0_unlimitedDemand_46 ?_
          have K_11 : ∀ (x_9 : Int32), x_9 = (if p0 ≤ 0 then (-1000) else 1000) → KJ p l e (kR 0 0) s m args below meth c 0 0 Q D A 2 [(h_t, chE f_t)] [] [.int x_9] 59 := by
            intro x_9 ex_9
            have hs : (s_X0_unlimitedDemand f_t p0) = x_9 := (k_st (g := s_X0_unlimitedDemand_2) ex_9 ((if_neg c_1).trans ((if_neg c_2).trans ((if_pos c_6).trans (if_neg c_7)))) rfl)
            exact k_finI (pc := 59) hret rfl (by rw [hs]) rfl dX0_unlimitedDemand_59
          refine k_if_le (pc := 47) (tgt := 56) C dX0_unlimitedDemand_47 (by decide) (fun c_8 => ?_) (fun c_8 => ?_)
          · refine k_sipush (pc := 56) C sipush_m1000 dX0_unlimitedDemand_56 ?_
            refine k_lpick (lv2 := []) [] rfl ?_
            exact K_11 (-1000) (Eq.symm (if_pos c_8))
          · refine k_sipush (pc := 50) C sipush_1000 dX0_unlimitedDemand_50 ?_
            refine k_goto (pc := 53) (tgt := 59) C (by decide) dX0_unlimitedDemand_53 ?_
            refine k_lpick (lv2 := []) [] rfl ?_
            exact K_11 1000 (Eq.symm (if_neg c_8))
        · refine k_iload_n (pc := 44) C rfl 1 rfl dX0_unlimitedDemand_44 ?_
          have hs : (s_X0_unlimitedDemand f_t p0) = p0 := ((if_neg c_1).trans ((if_neg c_2).trans ((if_pos c_6).trans (if_pos c_7))))
          exact k_finI (pc := 45) hret rfl (by rw [hs]) rfl dX0_unlimitedDemand_45
      · refine k_iconst (pc := 35) C iconst_0 dX0_unlimitedDemand_35 ?_
        have hs : (s_X0_unlimitedDemand f_t p0) = 0 := ((if_neg c_1).trans ((if_neg c_2).trans (if_neg c_6)))
        exact k_finI (pc := 36) hret rfl (by rw [hs]) rfl dX0_unlimitedDemand_36
  · refine k_iload_n (pc := 8) C rfl 1 rfl dX0_unlimitedDemand_8 ?_
    refine k_aload_n (pc := 9) C rfl 0 rfl dX0_unlimitedDemand_9 ?_
    refine g_X0_1 (pc := 10) (x := (f_t 1)) C q_66 0 rfl rfl dX0_unlimitedDemand_10 ?_
    refine k_imul (pc := 13) C dX0_unlimitedDemand_13 ?_
    refine k_bipush (pc := 14) C bipush_100 dX0_unlimitedDemand_14 ?_
    refine k_idiv (pc := 16) C (by decide) dX0_unlimitedDemand_16 ?_
    have hs : (s_X0_unlimitedDemand f_t p0) = ((p0 * (f_t 1)) / 100) := (if_pos c_1)
    exact k_finI (pc := 17) hret rfl (by rw [hs]) rfl dX0_unlimitedDemand_17

theorem dX0_demand_0 : decode cX0_demand 0 = .ok (.aload_n 0, 1) := by decide +kernel
theorem dX0_demand_1 : decode cX0_demand 1 = .ok (.iload_n 1, 1) := by decide +kernel
theorem dX0_demand_2 : decode cX0_demand 2 = .ok (.invokevirtual 19, 3) := by decide +kernel
theorem dX0_demand_5 : decode cX0_demand 5 = .ok (.iload_n 3, 1) := by decide +kernel
theorem dX0_demand_6 : decode cX0_demand 6 = .ok (.ineg, 1) := by decide +kernel
theorem dX0_demand_7 : decode cX0_demand 7 = .ok (.iload_n 2, 1) := by decide +kernel
theorem dX0_demand_8 : decode cX0_demand 8 = .ok (.invokestatic 23, 3) := by decide +kernel
theorem dX0_demand_11 : decode cX0_demand 11 = .ok (.ireturn, 1) := by decide +kernel
def s_X0_demand (f_t : Nat → Int32) (p0 : Int32) (p1 : Int32) (p2 : Int32) : Int32 :=
  (s_X10_limit (s_X0_unlimitedDemand f_t p0) (-p2) p1)
set_option maxRecDepth 100000 in
set_option maxHeartbeats 4000000 in
theorem c_X0_demand (l : Launch) (D : va_G) (cI cJ cO : ClassId) (h_t : Nat) (f_t : Nat → Int32) (p0 : Int32) (p1 : Int32) (p2 : Int32) : kI l yX0_demand cX0_demand 4 .int 2 36 D (kT cI cJ cO) [.ref h_t, .int p0, .int p1, .int p2] [(h_t, chE f_t)] (s_X0_demand f_t p0 p1 p2) [(h_t, chE f_t)] := by
  refine kI_of (own := RX0) (lv := [(0, .ref h_t), (1, .int p0), (2, .int p1), (3, .int p2)]) rfl rfl (by decide) (Nat.le_of_ble_eq_true rfl) ?_
  intro p e s m args below meth c Q A C hret
  refine k_aload_n (pc := 0) C rfl 0 rfl dX0_demand_0 ?_
  refine k_iload_n (pc := 1) C rfl 1 rfl dX0_demand_1 ?_
  refine k_callVi (pc := 2) (As := [.int p0]) (rest := []) (r := (s_X0_unlimitedDemand f_t p0)) (wc := [(h_t, chE f_t)]) (wc2 := [(h_t, chE f_t)]) (ws2 := [(h_t, chE f_t)]) C (c_X0_unlimitedDemand l D cI cJ cO h_t f_t p0) cwv_X0_unlimitedDemand q_573 vX0 0 rfl [0] rfl rfl (by decide) rfl rfl (Nat.le_of_ble_eq_true rfl) ⟨Nat.le_of_ble_eq_true rfl, Nat.le_of_ble_eq_true rfl⟩ rfl ⟨Nat.le_refl _, Nat.le_refl _⟩ dX0_demand_2 ?_
  refine k_iload_n (pc := 5) C rfl 3 rfl dX0_demand_5 ?_
  refine k_ineg (pc := 6) C dX0_demand_6 ?_
  refine k_iload_n (pc := 7) C rfl 2 rfl dX0_demand_7 ?_
  refine k_callNi (pc := 8) (As := [.int (s_X0_unlimitedDemand f_t p0), .int (-p2), .int p1]) (rest := []) (r := (s_X10_limit (s_X0_unlimitedDemand f_t p0) (-p2) p1)) (wc := []) (wc2 := []) (ws2 := [(h_t, chE f_t)]) C (c_X10_limit l D cI cJ cO (s_X0_unlimitedDemand f_t p0) (-p2) p1) cws_X10_limit q_577 [] rfl rfl (by decide) rfl rfl (Nat.le_of_ble_eq_true rfl) ⟨Nat.le_of_ble_eq_true rfl, Nat.le_of_ble_eq_true rfl⟩ rfl ⟨Nat.le_refl _, Nat.le_refl _⟩ dX0_demand_8 ?_
  have hs : (s_X0_demand f_t p0 p1 p2) = (s_X10_limit (s_X0_unlimitedDemand f_t p0) (-p2) p1) := rfl
  exact k_finI (pc := 11) hret rfl (by rw [hs]) rfl dX0_demand_11

theorem dX0_copy_0 : decode cX0_copy 0 = .ok (.aload_n 0, 1) := by decide +kernel
theorem dX0_copy_1 : decode cX0_copy 1 = .ok (.aload_n 1, 1) := by decide +kernel
theorem dX0_copy_2 : decode cX0_copy 2 = .ok (.getfield 7, 3) := by decide +kernel
theorem dX0_copy_5 : decode cX0_copy 5 = .ok (.putfield 7, 3) := by decide +kernel
theorem dX0_copy_8 : decode cX0_copy 8 = .ok (.aload_n 0, 1) := by decide +kernel
theorem dX0_copy_9 : decode cX0_copy 9 = .ok (.aload_n 1, 1) := by decide +kernel
theorem dX0_copy_10 : decode cX0_copy 10 = .ok (.getfield 13, 3) := by decide +kernel
theorem dX0_copy_13 : decode cX0_copy 13 = .ok (.putfield 13, 3) := by decide +kernel
theorem dX0_copy_16 : decode cX0_copy 16 = .ok (.aload_n 0, 1) := by decide +kernel
theorem dX0_copy_17 : decode cX0_copy 17 = .ok (.aload_n 1, 1) := by decide +kernel
theorem dX0_copy_18 : decode cX0_copy 18 = .ok (.getfield 16, 3) := by decide +kernel
theorem dX0_copy_21 : decode cX0_copy 21 = .ok (.putfield 16, 3) := by decide +kernel
theorem dX0_copy_24 : decode cX0_copy 24 = .ok (.return_, 1) := by decide +kernel
def s_X0_copy (f_p0 : Nat → Int32) (f_t : Nat → Int32) : (Nat → Int32) :=
  (upd (upd (upd f_t 0 (f_p0 0)) 1 (f_p0 1)) 2 (f_p0 2))
set_option maxRecDepth 100000 in
set_option maxHeartbeats 4000000 in
theorem c_X0_copy (l : Launch) (D : va_G) (cI cJ cO : ClassId) (h_t : Nat) (h_p0 : Nat) (f_p0 : Nat → Int32) (f_t : Nat → Int32) : kV l yX0_copy cX0_copy 2 0 0 D (kT cI cJ cO) [.ref h_t, .ref h_p0] [(h_p0, chE f_p0), (h_t, chE f_t)] [(h_p0, chE f_p0), (h_t, chE (s_X0_copy f_p0 f_t))] := by
  refine kV_of (own := RX0) (lv := [(0, .ref h_t), (1, .ref h_p0)]) rfl rfl (by decide) (Nat.le_of_ble_eq_true rfl) ?_
  intro p e s m args below meth c Q A C hret
  refine k_aload_n (pc := 0) C rfl 0 rfl dX0_copy_0 ?_
  refine k_aload_n (pc := 1) C rfl 1 rfl dX0_copy_1 ?_
  refine g_X0_0 (pc := 2) (x := (f_p0 0)) C q_64 0 rfl rfl dX0_copy_2 ?_
  refine p_X0_0 (pc := 5) (ws2 := [(h_p0, chE f_p0), (h_t, chE (upd f_t 0 (f_p0 0)))]) C q_64 1 rfl rfl dX0_copy_5 ?_
  refine k_aload_n (pc := 8) C rfl 0 rfl dX0_copy_8 ?_
  refine k_aload_n (pc := 9) C rfl 1 rfl dX0_copy_9 ?_
  refine g_X0_1 (pc := 10) (x := (f_p0 1)) C q_66 0 rfl rfl dX0_copy_10 ?_
  refine p_X0_1 (pc := 13) (ws2 := [(h_p0, chE f_p0), (h_t, chE (upd (upd f_t 0 (f_p0 0)) 1 (f_p0 1)))]) C q_66 1 rfl rfl dX0_copy_13 ?_
  refine k_aload_n (pc := 16) C rfl 0 rfl dX0_copy_16 ?_
  refine k_aload_n (pc := 17) C rfl 1 rfl dX0_copy_17 ?_
  refine g_X0_2 (pc := 18) (x := (f_p0 2)) C q_68 0 rfl rfl dX0_copy_18 ?_
  refine p_X0_2 (pc := 21) (ws2 := [(h_p0, chE f_p0), (h_t, chE (upd (upd (upd f_t 0 (f_p0 0)) 1 (f_p0 1)) 2 (f_p0 2)))]) C q_68 1 rfl rfl dX0_copy_21 ?_
  have hs : (s_X0_copy f_p0 f_t) = (upd (upd (upd f_t 0 (f_p0 0)) 1 (f_p0 1)) 2 (f_p0 2)) := rfl
  exact k_finV (pc := 24) hret (by rw [hs]) dX0_copy_24

theorem dX3_add_0 : decode cX3_add 0 = .ok (.aload_n 0, 1) := by decide +kernel
theorem dX3_add_1 : decode cX3_add 1 = .ok (.getfield 21, 3) := by decide +kernel
theorem dX3_add_4 : decode cX3_add 4 = .ok (.ifCond .lt 15, 3) := by decide +kernel
theorem dX3_add_7 : decode cX3_add 7 = .ok (.aload_n 0, 1) := by decide +kernel
theorem dX3_add_8 : decode cX3_add 8 = .ok (.getfield 21, 3) := by decide +kernel
theorem dX3_add_11 : decode cX3_add 11 = .ok (.aload_n 0, 1) := by decide +kernel
theorem dX3_add_12 : decode cX3_add 12 = .ok (.getfield 15, 3) := by decide +kernel
theorem dX3_add_15 : decode cX3_add 15 = .ok (.arraylength, 1) := by decide +kernel
theorem dX3_add_16 : decode cX3_add 16 = .ok (.if_icmp .lt 4, 3) := by decide +kernel
theorem dX3_add_19 : decode cX3_add 19 = .ok (.return_, 1) := by decide +kernel
theorem dX3_add_20 : decode cX3_add 20 = .ok (.aload_n 0, 1) := by decide +kernel
theorem dX3_add_21 : decode cX3_add 21 = .ok (.getfield 15, 3) := by decide +kernel
theorem dX3_add_24 : decode cX3_add 24 = .ok (.aload_n 0, 1) := by decide +kernel
theorem dX3_add_25 : decode cX3_add 25 = .ok (.getfield 21, 3) := by decide +kernel
theorem dX3_add_28 : decode cX3_add 28 = .ok (.iload_n 1, 1) := by decide +kernel
theorem dX3_add_29 : decode cX3_add 29 = .ok (.iastore, 1) := by decide +kernel
theorem dX3_add_30 : decode cX3_add 30 = .ok (.aload_n 0, 1) := by decide +kernel
theorem dX3_add_31 : decode cX3_add 31 = .ok (.aload_n 0, 1) := by decide +kernel
theorem dX3_add_32 : decode cX3_add 32 = .ok (.getfield 21, 3) := by decide +kernel
theorem dX3_add_35 : decode cX3_add 35 = .ok (.iconst 1, 1) := by decide +kernel
theorem dX3_add_36 : decode cX3_add 36 = .ok (.iadd, 1) := by decide +kernel
theorem dX3_add_37 : decode cX3_add 37 = .ok (.aload_n 0, 1) := by decide +kernel
theorem dX3_add_38 : decode cX3_add 38 = .ok (.getfield 15, 3) := by decide +kernel
theorem dX3_add_41 : decode cX3_add 41 = .ok (.arraylength, 1) := by decide +kernel
theorem dX3_add_42 : decode cX3_add 42 = .ok (.if_icmp .ge 12, 3) := by decide +kernel
theorem dX3_add_45 : decode cX3_add 45 = .ok (.aload_n 0, 1) := by decide +kernel
theorem dX3_add_46 : decode cX3_add 46 = .ok (.getfield 21, 3) := by decide +kernel
theorem dX3_add_49 : decode cX3_add 49 = .ok (.iconst 1, 1) := by decide +kernel
theorem dX3_add_50 : decode cX3_add 50 = .ok (.iadd, 1) := by decide +kernel
theorem dX3_add_51 : decode cX3_add 51 = .ok (.goto 4, 3) := by decide +kernel
theorem dX3_add_54 : decode cX3_add 54 = .ok (.iconst 0, 1) := by decide +kernel
theorem dX3_add_55 : decode cX3_add 55 = .ok (.putfield 21, 3) := by decide +kernel
theorem dX3_add_58 : decode cX3_add 58 = .ok (.aload_n 0, 1) := by decide +kernel
theorem dX3_add_59 : decode cX3_add 59 = .ok (.getfield 25, 3) := by decide +kernel
theorem dX3_add_62 : decode cX3_add 62 = .ok (.aload_n 0, 1) := by decide +kernel
theorem dX3_add_63 : decode cX3_add 63 = .ok (.getfield 15, 3) := by decide +kernel
theorem dX3_add_66 : decode cX3_add 66 = .ok (.arraylength, 1) := by decide +kernel
theorem dX3_add_67 : decode cX3_add 67 = .ok (.if_icmp .ge 13, 3) := by decide +kernel
theorem dX3_add_70 : decode cX3_add 70 = .ok (.aload_n 0, 1) := by decide +kernel
theorem dX3_add_71 : decode cX3_add 71 = .ok (.dup, 1) := by decide +kernel
theorem dX3_add_72 : decode cX3_add 72 = .ok (.getfield 25, 3) := by decide +kernel
theorem dX3_add_75 : decode cX3_add 75 = .ok (.iconst 1, 1) := by decide +kernel
theorem dX3_add_76 : decode cX3_add 76 = .ok (.iadd, 1) := by decide +kernel
theorem dX3_add_77 : decode cX3_add 77 = .ok (.putfield 25, 3) := by decide +kernel
theorem dX3_add_80 : decode cX3_add 80 = .ok (.return_, 1) := by decide +kernel
def s_X3_add_1 (n_t_cells : Nat) (f_t : Nat → Int32) (f_t_cells : Nat → Int32) (p0 : Int32) (x_4 : Int32) : (Nat → Int32) × (Nat → Int32) :=
  (if (nI n_t_cells) ≤ (f_t 2) then ((upd f_t 1 x_4), (upd f_t_cells (Int32.toNatClampNeg (f_t 1)) p0)) else ((upd (upd f_t 1 x_4) 2 ((f_t 2) + 1)), (upd f_t_cells (Int32.toNatClampNeg (f_t 1)) p0)))
def s_X3_add (n_t_cells : Nat) (f_t : Nat → Int32) (f_t_cells : Nat → Int32) (p0 : Int32) : (Nat → Int32) × (Nat → Int32) :=
  (if (f_t 1) < 0 then (f_t, f_t_cells) else (if (f_t 1) < (nI n_t_cells) then (s_X3_add_1 n_t_cells f_t f_t_cells p0 (if (nI n_t_cells) ≤ ((f_t 1) + 1) then 0 else ((f_t 1) + 1))) else (f_t, f_t_cells)))
set_option maxRecDepth 100000 in
set_option maxHeartbeats 4000000 in
theorem c_X3_add (l : Launch) (D : va_G) (cI cJ cO : ClassId) (h_t : Nat) (h_t_cells : Nat) (n_t_cells : Nat) (f_t : Nat → Int32) (f_t_cells : Nat → Int32) (p0 : Int32) (hn_t_cells : n_t_cells < 2 ^ 31) : kV l yX3_add cX3_add 2 0 0 D (kT cI cJ cO) [.ref h_t, .int p0] [(h_t, rgE f_t h_t_cells), (h_t_cells, iA cI n_t_cells f_t_cells)] [(h_t, rgE (s_X3_add n_t_cells f_t f_t_cells p0).1 h_t_cells), (h_t_cells, iA cI n_t_cells (s_X3_add n_t_cells f_t f_t_cells p0).2)] := by
  refine kV_of (own := RX3) (lv := [(0, .ref h_t), (1, .int p0)]) rfl rfl (by decide) (Nat.le_of_ble_eq_true rfl) ?_
  intro p e s m args below meth c Q A C hret
  refine k_aload_n (pc := 0) C rfl 0 rfl dX3_add_0 ?_
  refine g_X3_1 (pc := 1) (x := (f_t 1)) C q_227 0 rfl rfl dX3_add_1 ?_
  refine k_if_lt (pc := 4) (tgt := 19) C dX3_add_4 (by decide) (fun c_1 => ?_) (fun c_1 => ?_)
  · have hs : (s_X3_add n_t_cells f_t f_t_cells p0) = (f_t, f_t_cells) := (if_pos c_1)
    exact k_finV (pc := 19) hret (by rw [hs]) dX3_add_19
  · refine k_aload_n (pc := 7) C rfl 0 rfl dX3_add_7 ?_
    refine g_X3_1 (pc := 8) (x := (f_t 1)) C q_227 0 rfl rfl dX3_add_8 ?_
    refine k_aload_n (pc := 11) C rfl 0 rfl dX3_add_11 ?_
    refine g_X3_0 (pc := 12) C q_226 0 rfl dX3_add_12 ?_
    refine k_alen (pc := 15) (v := (nI n_t_cells)) C 1 0 rfl rfl rfl dX3_add_15 ?_
    refine k_icmp_lt (pc := 16) (tgt := 20) C dX3_add_16 (by decide) (fun c_2 => ?_) (fun c_2 => ?_)
    · refine k_aload_n (pc := 20) C rfl 0 rfl dX3_add_20 ?_
      refine g_X3_0 (pc := 21) C q_226 0 rfl dX3_add_21 ?_
      refine k_aload_n (pc := 24) C rfl 0 rfl dX3_add_24 ?_
      refine g_X3_1 (pc := 25) (x := (f_t 1)) C q_227 0 rfl rfl dX3_add_25 ?_
      refine k_iload_n (pc := 28) C rfl 1 rfl dX3_add_28 ?_
      refine k_iastK (pc := 29) (ws2 := [(h_t, rgE f_t h_t_cells), (h_t_cells, iA cI n_t_cells (upd f_t_cells (Int32.toNatClampNeg (f_t 1)) p0))]) C 1 0 rfl rfl (k_vin hn_t_cells c_1 c_2) rfl rfl dX3_add_29 ?_
      refine k_aload_n (pc := 30) C rfl 0 rfl dX3_add_30 ?_
      refine k_aload_n (pc := 31) C rfl 0 rfl dX3_add_31 ?_
      refine g_X3_1 (pc := 32) (x := (f_t 1)) C q_227 0 rfl rfl dX3_add_32 ?_
      refine k_iconst (pc := 35) C iconst_1 dX3_add_35 ?_
      refine k_iadd (pc := 36) C dX3_add_36 ?_
      refine k_aload_n (pc := 37) C rfl 0 rfl dX3_add_37 ?_
      refine g_X3_0 (pc := 38) C q_226 0 rfl dX3_add_38 ?_
      refine k_alen (pc := 41) (v := (nI n_t_cells)) C 1 0 rfl rfl rfl dX3_add_41 ?_
      have K_6 : ∀ (x_4 : Int32), x_4 = (if (nI n_t_cells) ≤ ((f_t 1) + 1) then 0 else ((f_t 1) + 1)) → KJ p l e (kR 0 0) s m args below meth c 0 0 Q D A 2 [(h_t, rgE f_t h_t_cells), (h_t_cells, iA cI n_t_cells (upd f_t_cells (Int32.toNatClampNeg (f_t 1)) p0))] [(0, .ref h_t)] [.int x_4, .ref h_t] 55 := by
        intro x_4 ex_4
        refine p_X3_1 (pc := 55) (ws2 := [(h_t, rgE (upd f_t 1 x_4) h_t_cells), (h_t_cells, iA cI n_t_cells (upd f_t_cells (Int32.toNatClampNeg (f_t 1)) p0))]) C q_227 0 rfl rfl dX3_add_55 ?_
        refine k_aload_n (pc := 58) C rfl 0 rfl dX3_add_58 ?_
        refine g_X3_2 (pc := 59) (x := (f_t 2)) C q_228 0 rfl (upn (by decide) rfl) dX3_add_59 ?_
        refine k_aload_n (pc := 62) C rfl 0 rfl dX3_add_62 ?_
        refine g_X3_0 (pc := 63) C q_226 0 rfl dX3_add_63 ?_
        refine k_alen (pc := 66) (v := (nI n_t_cells)) C 1 0 rfl rfl rfl dX3_add_66 ?_
        refine k_icmp_ge (pc := 67) (tgt := 80) C dX3_add_67 (by decide) (fun c_5 => ?_) (fun c_5 => ?_)
        · have hs : (s_X3_add n_t_cells f_t f_t_cells p0) = ((upd f_t 1 x_4), (upd f_t_cells (Int32.toNatClampNeg (f_t 1)) p0)) := (k_st (g := s_X3_add_1 n_t_cells f_t f_t_cells p0) ex_4 ((if_neg c_1).trans (if_pos c_2)) (if_pos c_5))
          exact k_finV (pc := 80) hret (by rw [hs]) dX3_add_80
        · refine k_aload_n (pc := 70) C rfl 0 rfl dX3_add_70 ?_
          refine k_dup (pc := 71) C rfl dX3_add_71 ?_
          refine g_X3_2 (pc := 72) (x := (f_t 2)) C q_228 0 rfl (upn (by decide) rfl) dX3_add_72 ?_
          refine k_iconst (pc := 75) C iconst_1 dX3_add_75 ?_
          refine k_iadd (pc := 76) C dX3_add_76 ?_
          refine p_X3_2 (pc := 77) (ws2 := [(h_t, rgE (upd (upd f_t 1 x_4) 2 ((f_t 2) + 1)) h_t_cells), (h_t_cells, iA cI n_t_cells (upd f_t_cells (Int32.toNatClampNeg (f_t 1)) p0))]) C q_228 0 rfl rfl dX3_add_77 ?_
          have hs : (s_X3_add n_t_cells f_t f_t_cells p0) = ((upd (upd f_t 1 x_4) 2 ((f_t 2) + 1)), (upd f_t_cells (Int32.toNatClampNeg (f_t 1)) p0)) := (k_st (g := s_X3_add_1 n_t_cells f_t f_t_cells p0) ex_4 ((if_neg c_1).trans (if_pos c_2)) (if_neg c_5))
          exact k_finV (pc := 80) hret (by rw [hs]) dX3_add_80
      refine k_icmp_ge (pc := 42) (tgt := 54) C dX3_add_42 (by decide) (fun c_3 => ?_) (fun c_3 => ?_)
      · refine k_iconst (pc := 54) C iconst_0 dX3_add_54 ?_
        refine k_lpick (lv2 := [(0, .ref h_t)]) [0] rfl ?_
        exact K_6 0 (Eq.symm (if_pos c_3))
      · refine k_aload_n (pc := 45) C rfl 0 rfl dX3_add_45 ?_
        refine g_X3_1 (pc := 46) (x := (f_t 1)) C q_227 0 rfl rfl dX3_add_46 ?_
        refine k_iconst (pc := 49) C iconst_1 dX3_add_49 ?_
        refine k_iadd (pc := 50) C dX3_add_50 ?_
        refine k_goto (pc := 51) (tgt := 55) C (by decide) dX3_add_51 ?_
        refine k_lpick (lv2 := [(0, .ref h_t)]) [0] rfl ?_
        exact K_6 ((f_t 1) + 1) (Eq.symm (if_neg c_3))
    · have hs : (s_X3_add n_t_cells f_t f_t_cells p0) = (f_t, f_t_cells) := ((if_neg c_1).trans (if_neg c_2))
      exact k_finV (pc := 19) hret (by rw [hs]) dX3_add_19

theorem dX3_latest_0 : decode cX3_latest 0 = .ok (.iload_n 1, 1) := by decide +kernel
theorem dX3_latest_1 : decode cX3_latest 1 = .ok (.ifCond .lt 11, 3) := by decide +kernel
theorem dX3_latest_4 : decode cX3_latest 4 = .ok (.iload_n 1, 1) := by decide +kernel
theorem dX3_latest_5 : decode cX3_latest 5 = .ok (.aload_n 0, 1) := by decide +kernel
theorem dX3_latest_6 : decode cX3_latest 6 = .ok (.getfield 25, 3) := by decide +kernel
theorem dX3_latest_9 : decode cX3_latest 9 = .ok (.if_icmp .lt 7, 3) := by decide +kernel
theorem dX3_latest_12 : decode cX3_latest 12 = .ok (.sipush (-10000), 3) := by decide +kernel
theorem dX3_latest_15 : decode cX3_latest 15 = .ok (.ireturn, 1) := by decide +kernel
theorem dX3_latest_16 : decode cX3_latest 16 = .ok (.aload_n 0, 1) := by decide +kernel
theorem dX3_latest_17 : decode cX3_latest 17 = .ok (.getfield 21, 3) := by decide +kernel
theorem dX3_latest_20 : decode cX3_latest 20 = .ok (.iconst 1, 1) := by decide +kernel
theorem dX3_latest_21 : decode cX3_latest 21 = .ok (.isub, 1) := by decide +kernel
theorem dX3_latest_22 : decode cX3_latest 22 = .ok (.iload_n 1, 1) := by decide +kernel
theorem dX3_latest_23 : decode cX3_latest 23 = .ok (.isub, 1) := by decide +kernel
theorem dX3_latest_24 : decode cX3_latest 24 = .ok (.istore_n 2, 1) := by decide +kernel
theorem dX3_latest_25 : decode cX3_latest 25 = .ok (.aload_n 0, 1) := by decide +kernel
theorem dX3_latest_26 : decode cX3_latest 26 = .ok (.getfield 15, 3) := by decide +kernel
theorem dX3_latest_29 : decode cX3_latest 29 = .ok (.iload_n 2, 1) := by decide +kernel
theorem dX3_latest_30 : decode cX3_latest 30 = .ok (.ifCond .ge 13, 3) := by decide +kernel
theorem dX3_latest_33 : decode cX3_latest 33 = .ok (.iload_n 2, 1) := by decide +kernel
theorem dX3_latest_34 : decode cX3_latest 34 = .ok (.aload_n 0, 1) := by decide +kernel
theorem dX3_latest_35 : decode cX3_latest 35 = .ok (.getfield 15, 3) := by decide +kernel
theorem dX3_latest_38 : decode cX3_latest 38 = .ok (.arraylength, 1) := by decide +kernel
theorem dX3_latest_39 : decode cX3_latest 39 = .ok (.iadd, 1) := by decide +kernel
theorem dX3_latest_40 : decode cX3_latest 40 = .ok (.goto 4, 3) := by decide +kernel
theorem dX3_latest_43 : decode cX3_latest 43 = .ok (.iload_n 2, 1) := by decide +kernel
theorem dX3_latest_44 : decode cX3_latest 44 = .ok (.invokestatic 28, 3) := by decide +kernel
theorem dX3_latest_47 : decode cX3_latest 47 = .ok (.ireturn, 1) := by decide +kernel
def s_X3_latest_1 (n_t_cells : Nat) (f_t_cells : Nat → Int32) (x_4 : Int32) : Int32 :=
  (s_X10_at n_t_cells f_t_cells x_4)
def s_X3_latest (n_t_cells : Nat) (f_t : Nat → Int32) (f_t_cells : Nat → Int32) (p0 : Int32) : Int32 :=
  (if p0 < 0 then (-10000) else (if p0 < (f_t 2) then (s_X3_latest_1 n_t_cells f_t_cells (if 0 ≤ (((f_t 1) - 1) - p0) then (((f_t 1) - 1) - p0) else ((((f_t 1) - 1) - p0) + (nI n_t_cells)))) else (-10000)))
set_option maxRecDepth 100000 in
set_option maxHeartbeats 4000000 in
theorem c_X3_latest (l : Launch) (D : va_G) (cI cJ cO : ClassId) (h_t : Nat) (h_t_cells : Nat) (n_t_cells : Nat) (f_t : Nat → Int32) (f_t_cells : Nat → Int32) (p0 : Int32) (hn_t_cells : n_t_cells < 2 ^ 31) : kI l yX3_latest cX3_latest 3 .int 1 21 D (kT cI cJ cO) [.ref h_t, .int p0] [(h_t, rgE f_t h_t_cells), (h_t_cells, iA cI n_t_cells f_t_cells)] (s_X3_latest n_t_cells f_t f_t_cells p0) [(h_t, rgE f_t h_t_cells), (h_t_cells, iA cI n_t_cells f_t_cells)] := by
  refine kI_of (own := RX3) (lv := [(0, .ref h_t), (1, .int p0)]) rfl rfl (by decide) (Nat.le_of_ble_eq_true rfl) ?_
  intro p e s m args below meth c Q A C hret
  refine k_iload_n (pc := 0) C rfl 1 rfl dX3_latest_0 ?_
  refine k_if_lt (pc := 1) (tgt := 12) C dX3_latest_1 (by decide) (fun c_1 => ?_) (fun c_1 => ?_)
  · refine k_sipush (pc := 12) C sipush_m10000 dX3_latest_12 ?_
    have hs : (s_X3_latest n_t_cells f_t f_t_cells p0) = (-10000) := (if_pos c_1)
    exact k_finI (pc := 15) hret rfl (by rw [hs]) rfl dX3_latest_15
  · refine k_iload_n (pc := 4) C rfl 1 rfl dX3_latest_4 ?_
    refine k_aload_n (pc := 5) C rfl 0 rfl dX3_latest_5 ?_
    refine g_X3_2 (pc := 6) (x := (f_t 2)) C q_228 0 rfl rfl dX3_latest_6 ?_
    refine k_icmp_lt (pc := 9) (tgt := 16) C dX3_latest_9 (by decide) (fun c_2 => ?_) (fun c_2 => ?_)
    · refine k_aload_n (pc := 16) C rfl 0 rfl dX3_latest_16 ?_
      refine g_X3_1 (pc := 17) (x := (f_t 1)) C q_227 0 rfl rfl dX3_latest_17 ?_
      refine k_iconst (pc := 20) C iconst_1 dX3_latest_20 ?_
      refine k_isub (pc := 21) C dX3_latest_21 ?_
      refine k_iload_n (pc := 22) C rfl 1 rfl dX3_latest_22 ?_
      refine k_isub (pc := 23) C dX3_latest_23 ?_
      refine k_istore_n (pc := 24) (lv2 := [(2, .int (((f_t 1) - 1) - p0)), (0, .ref h_t), (1, .int p0)]) C rfl (by decide) rfl dX3_latest_24 ?_
      refine k_aload_n (pc := 25) C rfl 1 rfl dX3_latest_25 ?_
      refine g_X3_0 (pc := 26) C q_226 0 rfl dX3_latest_26 ?_
      refine k_iload_n (pc := 29) C rfl 0 rfl dX3_latest_29 ?_
      have K_5 : ∀ (x_4 : Int32), x_4 = (if 0 ≤ (((f_t 1) - 1) - p0) then (((f_t 1) - 1) - p0) else ((((f_t 1) - 1) - p0) + (nI n_t_cells))) → KJ p l e (kR 1 21) s m args below meth c 0 0 Q D A 3 [(h_t, rgE f_t h_t_cells), (h_t_cells, iA cI n_t_cells f_t_cells)] [] [.int x_4, .ref h_t_cells] 44 := by
        intro x_4 ex_4
        refine k_callNi (pc := 44) (As := [.ref h_t_cells, .int x_4]) (rest := []) (r := (s_X10_at n_t_cells f_t_cells x_4)) (wc := [(h_t_cells, iA cI n_t_cells f_t_cells)]) (wc2 := [(h_t_cells, iA cI n_t_cells f_t_cells)]) (ws2 := [(h_t, rgE f_t h_t_cells), (h_t_cells, iA cI n_t_cells f_t_cells)]) C (c_X10_at l D cI cJ cO h_t_cells n_t_cells f_t_cells x_4 hn_t_cells) cws_X10_at q_864 [1] rfl rfl (by decide) rfl rfl (Nat.le_of_ble_eq_true rfl) ⟨Nat.le_of_ble_eq_true rfl, Nat.le_of_ble_eq_true rfl⟩ rfl ⟨Nat.le_refl _, Nat.le_refl _⟩ dX3_latest_44 ?_
        have hs : (s_X3_latest n_t_cells f_t f_t_cells p0) = (s_X10_at n_t_cells f_t_cells x_4) := (k_st (g := s_X3_latest_1 n_t_cells f_t_cells) ex_4 ((if_neg c_1).trans (if_pos c_2)) rfl)
        exact k_finI (pc := 47) hret rfl (by rw [hs]) rfl dX3_latest_47
      refine k_if_ge (pc := 30) (tgt := 43) C dX3_latest_30 (by decide) (fun c_3 => ?_) (fun c_3 => ?_)
      · refine k_iload_n (pc := 43) C rfl 0 rfl dX3_latest_43 ?_
        refine k_lpick (lv2 := []) [] rfl ?_
        exact K_5 (((f_t 1) - 1) - p0) (Eq.symm (if_pos c_3))
      · refine k_iload_n (pc := 33) C rfl 0 rfl dX3_latest_33 ?_
        refine k_aload_n (pc := 34) C rfl 1 rfl dX3_latest_34 ?_
        refine g_X3_0 (pc := 35) C q_226 0 rfl dX3_latest_35 ?_
        refine k_alen (pc := 38) (v := (nI n_t_cells)) C 1 0 rfl rfl rfl dX3_latest_38 ?_
        refine k_iadd (pc := 39) C dX3_latest_39 ?_
        refine k_goto (pc := 40) (tgt := 44) C (by decide) dX3_latest_40 ?_
        refine k_lpick (lv2 := []) [] rfl ?_
        exact K_5 ((((f_t 1) - 1) - p0) + (nI n_t_cells)) (Eq.symm (if_neg c_3))
    · refine k_sipush (pc := 12) C sipush_m10000 dX3_latest_12 ?_
      have hs : (s_X3_latest n_t_cells f_t f_t_cells p0) = (-10000) := ((if_neg c_1).trans (if_neg c_2))
      exact k_finI (pc := 15) hret rfl (by rw [hs]) rfl dX3_latest_15

theorem dX6_isFull_0 : decode cX6_isFull 0 = .ok (.aload_n 0, 1) := by decide +kernel
theorem dX6_isFull_1 : decode cX6_isFull 1 = .ok (.getfield 15, 3) := by decide +kernel
theorem dX6_isFull_4 : decode cX6_isFull 4 = .ok (.bipush 12, 2) := by decide +kernel
theorem dX6_isFull_6 : decode cX6_isFull 6 = .ok (.if_icmp .lt 7, 3) := by decide +kernel
theorem dX6_isFull_9 : decode cX6_isFull 9 = .ok (.iconst 1, 1) := by decide +kernel
theorem dX6_isFull_10 : decode cX6_isFull 10 = .ok (.goto 4, 3) := by decide +kernel
theorem dX6_isFull_13 : decode cX6_isFull 13 = .ok (.iconst 0, 1) := by decide +kernel
theorem dX6_isFull_14 : decode cX6_isFull 14 = .ok (.ireturn, 1) := by decide +kernel
def s_X6_isFull (f_t : Nat → Int32) : Int32 :=
  (if (f_t 1) < 12 then 0 else 1)
set_option maxRecDepth 100000 in
set_option maxHeartbeats 4000000 in
theorem c_X6_isFull (l : Launch) (D : va_G) (cI cJ cO : ClassId) (h_t : Nat) (h_t_cells : Nat) (f_t : Nat → Int32) : kI l yX6_isFull cX6_isFull 1 .boolean 0 0 D (kT cI cJ cO) [.ref h_t] [(h_t, sgE f_t h_t_cells)] (s_X6_isFull f_t) [(h_t, sgE f_t h_t_cells)] := by
  refine kI_of (own := RX6) (lv := [(0, .ref h_t)]) rfl rfl (by decide) (Nat.le_of_ble_eq_true rfl) ?_
  intro p e s m args below meth c Q A C hret
  refine k_aload_n (pc := 0) C rfl 0 rfl dX6_isFull_0 ?_
  refine g_X6_1 (pc := 1) (x := (f_t 1)) C q_85 0 rfl rfl dX6_isFull_1 ?_
  refine k_bipush (pc := 4) C bipush_12 dX6_isFull_4 ?_
  refine k_icmp_lt (pc := 6) (tgt := 13) C dX6_isFull_6 (by decide) (fun c_1 => ?_) (fun c_1 => ?_)
  · refine k_iconst (pc := 13) C iconst_0 dX6_isFull_13 ?_
    have hs : (s_X6_isFull f_t) = 0 := (if_pos c_1)
    exact k_finI (pc := 14) hret rfl (by rw [hs]) rfl dX6_isFull_14
  · refine k_iconst (pc := 9) C iconst_1 dX6_isFull_9 ?_
    refine k_goto (pc := 10) (tgt := 14) C (by decide) dX6_isFull_10 ?_
    have hs : (s_X6_isFull f_t) = 1 := (if_neg c_1)
    exact k_finI (pc := 14) hret rfl (by rw [hs]) rfl dX6_isFull_14
theorem b_X6_isFull (f_t : Nat → Int32) : kb (s_X6_isFull f_t) := by
  unfold s_X6_isFull
  repeat' first | with_reducible exact kb0 | with_reducible exact kb1 | with_reducible refine k_bif ?_ ?_ | with_reducible refine k_bif0 ?_ ?_

theorem dX6_property_0 : decode cX6_property 0 = .ok (.aload_n 0, 1) := by decide +kernel
theorem dX6_property_1 : decode cX6_property 1 = .ok (.getfield 11, 3) := by decide +kernel
theorem dX6_property_4 : decode cX6_property 4 = .ok (.iload_n 1, 1) := by decide +kernel
theorem dX6_property_5 : decode cX6_property 5 = .ok (.iconst 4, 1) := by decide +kernel
theorem dX6_property_6 : decode cX6_property 6 = .ok (.imul, 1) := by decide +kernel
theorem dX6_property_7 : decode cX6_property 7 = .ok (.iload_n 2, 1) := by decide +kernel
theorem dX6_property_8 : decode cX6_property 8 = .ok (.iadd, 1) := by decide +kernel
theorem dX6_property_9 : decode cX6_property 9 = .ok (.invokestatic 19, 3) := by decide +kernel
theorem dX6_property_12 : decode cX6_property 12 = .ok (.ireturn, 1) := by decide +kernel
def s_X6_property (f_t : Nat → Int32) (f_t_cells : Nat → Int32) (p0 : Int32) (p1 : Int32) : Int32 :=
  (s_X10_at 48 f_t_cells ((p0 * 4) + p1))
set_option maxRecDepth 100000 in
set_option maxHeartbeats 4000000 in
theorem c_X6_property (l : Launch) (D : va_G) (cI cJ cO : ClassId) (h_t : Nat) (h_t_cells : Nat) (f_t : Nat → Int32) (f_t_cells : Nat → Int32) (p0 : Int32) (p1 : Int32) : kI l yX6_property cX6_property 3 .int 1 21 D (kT cI cJ cO) [.ref h_t, .int p0, .int p1] [(h_t, sgE f_t h_t_cells), (h_t_cells, iA cI 48 f_t_cells)] (s_X6_property f_t f_t_cells p0 p1) [(h_t, sgE f_t h_t_cells), (h_t_cells, iA cI 48 f_t_cells)] := by
  refine kI_of (own := RX6) (lv := [(0, .ref h_t), (1, .int p0), (2, .int p1)]) rfl rfl (by decide) (Nat.le_of_ble_eq_true rfl) ?_
  intro p e s m args below meth c Q A C hret
  refine k_aload_n (pc := 0) C rfl 0 rfl dX6_property_0 ?_
  refine g_X6_0 (pc := 1) C q_84 0 rfl dX6_property_1 ?_
  refine k_iload_n (pc := 4) C rfl 1 rfl dX6_property_4 ?_
  refine k_iconst (pc := 5) C iconst_4 dX6_property_5 ?_
  refine k_imul (pc := 6) C dX6_property_6 ?_
  refine k_iload_n (pc := 7) C rfl 2 rfl dX6_property_7 ?_
  refine k_iadd (pc := 8) C dX6_property_8 ?_
  refine k_callNi (pc := 9) (As := [.ref h_t_cells, .int ((p0 * 4) + p1)]) (rest := []) (r := (s_X10_at 48 f_t_cells ((p0 * 4) + p1))) (wc := [(h_t_cells, iA cI 48 f_t_cells)]) (wc2 := [(h_t_cells, iA cI 48 f_t_cells)]) (ws2 := [(h_t, sgE f_t h_t_cells), (h_t_cells, iA cI 48 f_t_cells)]) C (c_X10_at l D cI cJ cO h_t_cells 48 f_t_cells ((p0 * 4) + p1) (by decide)) cws_X10_at q_557 [1] rfl rfl (by decide) rfl rfl (Nat.le_of_ble_eq_true rfl) ⟨Nat.le_of_ble_eq_true rfl, Nat.le_of_ble_eq_true rfl⟩ rfl ⟨Nat.le_refl _, Nat.le_refl _⟩ dX6_property_9 ?_
  have hs : (s_X6_property f_t f_t_cells p0 p1) = (s_X10_at 48 f_t_cells ((p0 * 4) + p1)) := rfl
  exact k_finI (pc := 12) hret rfl (by rw [hs]) rfl dX6_property_12

theorem dX6_add_0 : decode cX6_add 0 = .ok (.aload_n 0, 1) := by decide +kernel
theorem dX6_add_1 : decode cX6_add 1 = .ok (.invokevirtual 23, 3) := by decide +kernel
theorem dX6_add_4 : decode cX6_add 4 = .ok (.ifCond .eq 4, 3) := by decide +kernel
theorem dX6_add_7 : decode cX6_add 7 = .ok (.return_, 1) := by decide +kernel
theorem dX6_add_8 : decode cX6_add 8 = .ok (.aload_n 0, 1) := by decide +kernel
theorem dX6_add_9 : decode cX6_add 9 = .ok (.getfield 15, 3) := by decide +kernel
theorem dX6_add_12 : decode cX6_add 12 = .ok (.iconst 4, 1) := by decide +kernel
theorem dX6_add_13 : decode cX6_add 13 = .ok (.imul, 1) := by decide +kernel
theorem dX6_add_14 : decode cX6_add 14 = .ok (.istore 5, 2) := by decide +kernel
theorem dX6_add_16 : decode cX6_add 16 = .ok (.aload_n 0, 1) := by decide +kernel
theorem dX6_add_17 : decode cX6_add 17 = .ok (.getfield 11, 3) := by decide +kernel
theorem dX6_add_20 : decode cX6_add 20 = .ok (.iload 5, 2) := by decide +kernel
theorem dX6_add_22 : decode cX6_add 22 = .ok (.iconst 0, 1) := by decide +kernel
theorem dX6_add_23 : decode cX6_add 23 = .ok (.iadd, 1) := by decide +kernel
theorem dX6_add_24 : decode cX6_add 24 = .ok (.iload_n 1, 1) := by decide +kernel
theorem dX6_add_25 : decode cX6_add 25 = .ok (.invokestatic 27, 3) := by decide +kernel
theorem dX6_add_28 : decode cX6_add 28 = .ok (.aload_n 0, 1) := by decide +kernel
theorem dX6_add_29 : decode cX6_add 29 = .ok (.getfield 11, 3) := by decide +kernel
theorem dX6_add_32 : decode cX6_add 32 = .ok (.iload 5, 2) := by decide +kernel
theorem dX6_add_34 : decode cX6_add 34 = .ok (.iconst 1, 1) := by decide +kernel
theorem dX6_add_35 : decode cX6_add 35 = .ok (.iadd, 1) := by decide +kernel
theorem dX6_add_36 : decode cX6_add 36 = .ok (.iload_n 2, 1) := by decide +kernel
theorem dX6_add_37 : decode cX6_add 37 = .ok (.invokestatic 27, 3) := by decide +kernel
theorem dX6_add_40 : decode cX6_add 40 = .ok (.aload_n 0, 1) := by decide +kernel
theorem dX6_add_41 : decode cX6_add 41 = .ok (.getfield 11, 3) := by decide +kernel
theorem dX6_add_44 : decode cX6_add 44 = .ok (.iload 5, 2) := by decide +kernel
theorem dX6_add_46 : decode cX6_add 46 = .ok (.iconst 2, 1) := by decide +kernel
theorem dX6_add_47 : decode cX6_add 47 = .ok (.iadd, 1) := by decide +kernel
theorem dX6_add_48 : decode cX6_add 48 = .ok (.iload_n 3, 1) := by decide +kernel
theorem dX6_add_49 : decode cX6_add 49 = .ok (.invokestatic 27, 3) := by decide +kernel
theorem dX6_add_52 : decode cX6_add 52 = .ok (.aload_n 0, 1) := by decide +kernel
theorem dX6_add_53 : decode cX6_add 53 = .ok (.getfield 11, 3) := by decide +kernel
theorem dX6_add_56 : decode cX6_add 56 = .ok (.iload 5, 2) := by decide +kernel
theorem dX6_add_58 : decode cX6_add 58 = .ok (.iconst 3, 1) := by decide +kernel
theorem dX6_add_59 : decode cX6_add 59 = .ok (.iadd, 1) := by decide +kernel
theorem dX6_add_60 : decode cX6_add 60 = .ok (.iload 4, 2) := by decide +kernel
theorem dX6_add_62 : decode cX6_add 62 = .ok (.invokestatic 27, 3) := by decide +kernel
theorem dX6_add_65 : decode cX6_add 65 = .ok (.aload_n 0, 1) := by decide +kernel
theorem dX6_add_66 : decode cX6_add 66 = .ok (.dup, 1) := by decide +kernel
theorem dX6_add_67 : decode cX6_add 67 = .ok (.getfield 15, 3) := by decide +kernel
theorem dX6_add_70 : decode cX6_add 70 = .ok (.iconst 1, 1) := by decide +kernel
theorem dX6_add_71 : decode cX6_add 71 = .ok (.iadd, 1) := by decide +kernel
theorem dX6_add_72 : decode cX6_add 72 = .ok (.putfield 15, 3) := by decide +kernel
theorem dX6_add_75 : decode cX6_add 75 = .ok (.return_, 1) := by decide +kernel
def s_X6_add_1 (f_t : Nat → Int32) (u_5 : (Nat → Int32)) : (Nat → Int32) × (Nat → Int32) :=
  ((upd f_t 1 ((f_t 1) + 1)), u_5)
def s_X6_add_2 (f_t : Nat → Int32) (p3 : Int32) (u_4 : (Nat → Int32)) : (Nat → Int32) × (Nat → Int32) :=
  (s_X6_add_1 f_t (s_X10_put 48 u_4 (((f_t 1) * 4) + 3) p3))
def s_X6_add_3 (f_t : Nat → Int32) (p3 : Int32) (p2 : Int32) (u_3 : (Nat → Int32)) : (Nat → Int32) × (Nat → Int32) :=
  (s_X6_add_2 f_t p3 (s_X10_put 48 u_3 (((f_t 1) * 4) + 2) p2))
def s_X6_add_4 (f_t : Nat → Int32) (p3 : Int32) (p2 : Int32) (p1 : Int32) (u_2 : (Nat → Int32)) : (Nat → Int32) × (Nat → Int32) :=
  (s_X6_add_3 f_t p3 p2 (s_X10_put 48 u_2 (((f_t 1) * 4) + 1) p1))
def s_X6_add (f_t : Nat → Int32) (f_t_cells : Nat → Int32) (p0 : Int32) (p1 : Int32) (p2 : Int32) (p3 : Int32) : (Nat → Int32) × (Nat → Int32) :=
  (if (s_X6_isFull f_t) = 0 then (s_X6_add_4 f_t p3 p2 p1 (s_X10_put 48 f_t_cells (((f_t 1) * 4) + 0) p0)) else (f_t, f_t_cells))
set_option maxRecDepth 100000 in
set_option maxHeartbeats 4000000 in
theorem c_X6_add (l : Launch) (D : va_G) (cI cJ cO : ClassId) (h_t : Nat) (h_t_cells : Nat) (f_t : Nat → Int32) (f_t_cells : Nat → Int32) (p0 : Int32) (p1 : Int32) (p2 : Int32) (p3 : Int32) : kV l yX6_add cX6_add 6 1 22 D (kT cI cJ cO) [.ref h_t, .int p0, .int p1, .int p2, .int p3] [(h_t, sgE f_t h_t_cells), (h_t_cells, iA cI 48 f_t_cells)] [(h_t, sgE (s_X6_add f_t f_t_cells p0 p1 p2 p3).1 h_t_cells), (h_t_cells, iA cI 48 (s_X6_add f_t f_t_cells p0 p1 p2 p3).2)] := by
  refine kV_of (own := RX6) (lv := [(0, .ref h_t), (1, .int p0), (2, .int p1), (3, .int p2), (4, .int p3)]) rfl rfl (by decide) (Nat.le_of_ble_eq_true rfl) ?_
  intro p e s m args below meth c Q A C hret
  refine k_aload_n (pc := 0) C rfl 0 rfl dX6_add_0 ?_
  refine k_callVi (pc := 1) (As := []) (rest := []) (r := (s_X6_isFull f_t)) (wc := [(h_t, sgE f_t h_t_cells)]) (wc2 := [(h_t, sgE f_t h_t_cells)]) (ws2 := [(h_t, sgE f_t h_t_cells), (h_t_cells, iA cI 48 f_t_cells)]) C (c_X6_isFull l D cI cJ cO h_t h_t_cells f_t) cwv_X6_isFull q_758 vX6 0 rfl [0] rfl rfl (by decide) rfl rfl (Nat.le_of_ble_eq_true rfl) ⟨Nat.le_of_ble_eq_true rfl, Nat.le_of_ble_eq_true rfl⟩ rfl ⟨Nat.le_refl _, Nat.le_refl _⟩ dX6_add_1 ?_
  refine k_if_eq (pc := 4) (tgt := 8) C dX6_add_4 (by decide) (fun c_1 => ?_) (fun c_1 => ?_)
  · refine k_aload_n (pc := 8) C rfl 0 rfl dX6_add_8 ?_
    refine g_X6_1 (pc := 9) (x := (f_t 1)) C q_85 0 rfl rfl dX6_add_9 ?_
    refine k_iconst (pc := 12) C iconst_4 dX6_add_12 ?_
    refine k_imul (pc := 13) C dX6_add_13 ?_
    refine k_istore (pc := 14) (lv2 := [(5, .int ((f_t 1) * 4)), (0, .ref h_t), (1, .int p0), (2, .int p1), (3, .int p2), (4, .int p3)]) C (by decide) rfl dX6_add_14 ?_
    refine k_aload_n (pc := 16) C rfl 1 rfl dX6_add_16 ?_
    refine g_X6_0 (pc := 17) C q_84 0 rfl dX6_add_17 ?_
    refine k_iload (pc := 20) C 0 rfl dX6_add_20 ?_
    refine k_iconst (pc := 22) C iconst_0 dX6_add_22 ?_
    refine k_iadd (pc := 23) C dX6_add_23 ?_
    refine k_iload_n (pc := 24) C rfl 2 rfl dX6_add_24 ?_
    obtain ⟨u_2, eu_2⟩ : ∃ z : (Nat → Int32), z = (s_X10_put 48 f_t_cells (((f_t 1) * 4) + 0) p0) := ⟨_, rfl⟩
    refine k_callNv (pc := 25) (As := [.ref h_t_cells, .int (((f_t 1) * 4) + 0), .int p0]) (rest := []) (wc := [(h_t_cells, iA cI 48 f_t_cells)]) (wc2 := [(h_t_cells, iA cI 48 u_2)]) (ws2 := [(h_t, sgE f_t h_t_cells), (h_t_cells, iA cI 48 u_2)]) C (by rw [eu_2]; exact c_X10_put l D cI cJ cO h_t_cells 48 f_t_cells (((f_t 1) * 4) + 0) p0 (by decide)) cws_X10_put q_759 [1] rfl rfl (by decide) rfl rfl (Nat.le_of_ble_eq_true rfl) ⟨Nat.le_of_ble_eq_true rfl, Nat.le_of_ble_eq_true rfl⟩ rfl ⟨Nat.le_refl _, Nat.le_refl _⟩ dX6_add_25 ?_
    refine k_aload_n (pc := 28) C rfl 1 rfl dX6_add_28 ?_
    refine g_X6_0 (pc := 29) C q_84 0 rfl dX6_add_29 ?_
    refine k_iload (pc := 32) C 0 rfl dX6_add_32 ?_
    refine k_iconst (pc := 34) C iconst_1 dX6_add_34 ?_
    refine k_iadd (pc := 35) C dX6_add_35 ?_
    refine k_iload_n (pc := 36) C rfl 3 rfl dX6_add_36 ?_
    obtain ⟨u_3, eu_3⟩ : ∃ z : (Nat → Int32), z = (s_X10_put 48 u_2 (((f_t 1) * 4) + 1) p1) := ⟨_, rfl⟩
    refine k_callNv (pc := 37) (As := [.ref h_t_cells, .int (((f_t 1) * 4) + 1), .int p1]) (rest := []) (wc := [(h_t_cells, iA cI 48 u_2)]) (wc2 := [(h_t_cells, iA cI 48 u_3)]) (ws2 := [(h_t, sgE f_t h_t_cells), (h_t_cells, iA cI 48 u_3)]) C (by rw [eu_3]; exact c_X10_put l D cI cJ cO h_t_cells 48 u_2 (((f_t 1) * 4) + 1) p1 (by decide)) cws_X10_put q_759 [1] rfl rfl (by decide) rfl rfl (Nat.le_of_ble_eq_true rfl) ⟨Nat.le_of_ble_eq_true rfl, Nat.le_of_ble_eq_true rfl⟩ rfl ⟨Nat.le_refl _, Nat.le_refl _⟩ dX6_add_37 ?_
    refine k_aload_n (pc := 40) C rfl 1 rfl dX6_add_40 ?_
    refine g_X6_0 (pc := 41) C q_84 0 rfl dX6_add_41 ?_
    refine k_iload (pc := 44) C 0 rfl dX6_add_44 ?_
    refine k_iconst (pc := 46) C iconst_2 dX6_add_46 ?_
    refine k_iadd (pc := 47) C dX6_add_47 ?_
    refine k_iload_n (pc := 48) C rfl 4 rfl dX6_add_48 ?_
    obtain ⟨u_4, eu_4⟩ : ∃ z : (Nat → Int32), z = (s_X10_put 48 u_3 (((f_t 1) * 4) + 2) p2) := ⟨_, rfl⟩
    refine k_callNv (pc := 49) (As := [.ref h_t_cells, .int (((f_t 1) * 4) + 2), .int p2]) (rest := []) (wc := [(h_t_cells, iA cI 48 u_3)]) (wc2 := [(h_t_cells, iA cI 48 u_4)]) (ws2 := [(h_t, sgE f_t h_t_cells), (h_t_cells, iA cI 48 u_4)]) C (by rw [eu_4]; exact c_X10_put l D cI cJ cO h_t_cells 48 u_3 (((f_t 1) * 4) + 2) p2 (by decide)) cws_X10_put q_759 [1] rfl rfl (by decide) rfl rfl (Nat.le_of_ble_eq_true rfl) ⟨Nat.le_of_ble_eq_true rfl, Nat.le_of_ble_eq_true rfl⟩ rfl ⟨Nat.le_refl _, Nat.le_refl _⟩ dX6_add_49 ?_
    refine k_aload_n (pc := 52) C rfl 1 rfl dX6_add_52 ?_
    refine g_X6_0 (pc := 53) C q_84 0 rfl dX6_add_53 ?_
    refine k_iload (pc := 56) C 0 rfl dX6_add_56 ?_
    refine k_iconst (pc := 58) C iconst_3 dX6_add_58 ?_
    refine k_iadd (pc := 59) C dX6_add_59 ?_
    refine k_iload (pc := 60) C 5 rfl dX6_add_60 ?_
    obtain ⟨u_5, eu_5⟩ : ∃ z : (Nat → Int32), z = (s_X10_put 48 u_4 (((f_t 1) * 4) + 3) p3) := ⟨_, rfl⟩
    refine k_callNv (pc := 62) (As := [.ref h_t_cells, .int (((f_t 1) * 4) + 3), .int p3]) (rest := []) (wc := [(h_t_cells, iA cI 48 u_4)]) (wc2 := [(h_t_cells, iA cI 48 u_5)]) (ws2 := [(h_t, sgE f_t h_t_cells), (h_t_cells, iA cI 48 u_5)]) C (by rw [eu_5]; exact c_X10_put l D cI cJ cO h_t_cells 48 u_4 (((f_t 1) * 4) + 3) p3 (by decide)) cws_X10_put q_759 [1] rfl rfl (by decide) rfl rfl (Nat.le_of_ble_eq_true rfl) ⟨Nat.le_of_ble_eq_true rfl, Nat.le_of_ble_eq_true rfl⟩ rfl ⟨Nat.le_refl _, Nat.le_refl _⟩ dX6_add_62 ?_
    refine k_aload_n (pc := 65) C rfl 1 rfl dX6_add_65 ?_
    refine k_dup (pc := 66) C rfl dX6_add_66 ?_
    refine g_X6_1 (pc := 67) (x := (f_t 1)) C q_85 0 rfl rfl dX6_add_67 ?_
    refine k_iconst (pc := 70) C iconst_1 dX6_add_70 ?_
    refine k_iadd (pc := 71) C dX6_add_71 ?_
    refine p_X6_1 (pc := 72) (ws2 := [(h_t, sgE (upd f_t 1 ((f_t 1) + 1)) h_t_cells), (h_t_cells, iA cI 48 u_5)]) C q_85 0 rfl rfl dX6_add_72 ?_
    have hs : (s_X6_add f_t f_t_cells p0 p1 p2 p3) = ((upd f_t 1 ((f_t 1) + 1)), u_5) := (k_st (g := s_X6_add_4 f_t p3 p2 p1) eu_2 (if_pos c_1) (k_st (g := s_X6_add_3 f_t p3 p2) eu_3 rfl (k_st (g := s_X6_add_2 f_t p3) eu_4 rfl (k_st (g := s_X6_add_1 f_t) eu_5 rfl rfl))))
    exact k_finV (pc := 75) hret (by rw [hs]) dX6_add_75
  · have hs : (s_X6_add f_t f_t_cells p0 p1 p2 p3) = (f_t, f_t_cells) := (if_neg c_1)
    exact k_finV (pc := 7) hret (by rw [hs]) dX6_add_7

theorem dX4_isRunning_0 : decode cX4_isRunning 0 = .ok (.aload_n 0, 1) := by decide +kernel
theorem dX4_isRunning_1 : decode cX4_isRunning 1 = .ok (.getfield 9, 3) := by decide +kernel
theorem dX4_isRunning_4 : decode cX4_isRunning 4 = .ok (.iconst 1, 1) := by decide +kernel
theorem dX4_isRunning_5 : decode cX4_isRunning 5 = .ok (.if_icmp .eq 11, 3) := by decide +kernel
theorem dX4_isRunning_8 : decode cX4_isRunning 8 = .ok (.aload_n 0, 1) := by decide +kernel
theorem dX4_isRunning_9 : decode cX4_isRunning 9 = .ok (.getfield 9, 3) := by decide +kernel
theorem dX4_isRunning_12 : decode cX4_isRunning 12 = .ok (.iconst 2, 1) := by decide +kernel
theorem dX4_isRunning_13 : decode cX4_isRunning 13 = .ok (.if_icmp .ne 7, 3) := by decide +kernel
theorem dX4_isRunning_16 : decode cX4_isRunning 16 = .ok (.iconst 1, 1) := by decide +kernel
theorem dX4_isRunning_17 : decode cX4_isRunning 17 = .ok (.goto 4, 3) := by decide +kernel
theorem dX4_isRunning_20 : decode cX4_isRunning 20 = .ok (.iconst 0, 1) := by decide +kernel
theorem dX4_isRunning_21 : decode cX4_isRunning 21 = .ok (.ireturn, 1) := by decide +kernel
def s_X4_isRunning (f_t : Nat → Int32) : Int32 :=
  (if (f_t 0) = 1 then 1 else (if (f_t 0) = 2 then 1 else 0))
set_option maxRecDepth 100000 in
set_option maxHeartbeats 4000000 in
theorem c_X4_isRunning (l : Launch) (D : va_G) (cI cJ cO : ClassId) (h_t : Nat) (f_t : Nat → Int32) : kI l yX4_isRunning cX4_isRunning 1 .boolean 0 0 D (kT cI cJ cO) [.ref h_t] [(h_t, ruE f_t)] (s_X4_isRunning f_t) [(h_t, ruE f_t)] := by
  refine kI_of (own := RX4) (lv := [(0, .ref h_t)]) rfl rfl (by decide) (Nat.le_of_ble_eq_true rfl) ?_
  intro p e s m args below meth c Q A C hret
  refine k_aload_n (pc := 0) C rfl 0 rfl dX4_isRunning_0 ?_
  refine g_X4_0 (pc := 1) (x := (f_t 0)) C q_100 0 rfl rfl dX4_isRunning_1 ?_
  refine k_iconst (pc := 4) C iconst_1 dX4_isRunning_4 ?_
  refine k_icmp_eq (pc := 5) (tgt := 16) C dX4_isRunning_5 (by decide) (fun c_1 => ?_) (fun c_1 => ?_)
  · refine k_iconst (pc := 16) C iconst_1 dX4_isRunning_16 ?_
    refine k_goto (pc := 17) (tgt := 21) C (by decide) dX4_isRunning_17 ?_
    have hs : (s_X4_isRunning f_t) = 1 := (if_pos c_1)
    exact k_finI (pc := 21) hret rfl (by rw [hs]) rfl dX4_isRunning_21
  · refine k_aload_n (pc := 8) C rfl 0 rfl dX4_isRunning_8 ?_
    refine g_X4_0 (pc := 9) (x := (f_t 0)) C q_100 0 rfl rfl dX4_isRunning_9 ?_
    refine k_iconst (pc := 12) C iconst_2 dX4_isRunning_12 ?_
    refine k_icmp_ne (pc := 13) (tgt := 20) C dX4_isRunning_13 (by decide) (fun c_2 => ?_) (fun c_2 => ?_)
    · refine k_iconst (pc := 20) C iconst_0 dX4_isRunning_20 ?_
      have hs : (s_X4_isRunning f_t) = 0 := ((if_neg c_1).trans (if_neg c_2))
      exact k_finI (pc := 21) hret rfl (by rw [hs]) rfl dX4_isRunning_21
    · refine k_iconst (pc := 16) C iconst_1 dX4_isRunning_16 ?_
      refine k_goto (pc := 17) (tgt := 21) C (by decide) dX4_isRunning_17 ?_
      have hs : (s_X4_isRunning f_t) = 1 := ((if_neg c_1).trans (if_pos c_2))
      exact k_finI (pc := 21) hret rfl (by rw [hs]) rfl dX4_isRunning_21
theorem b_X4_isRunning (f_t : Nat → Int32) : kb (s_X4_isRunning f_t) := by
  unfold s_X4_isRunning
  repeat' first | with_reducible exact kb0 | with_reducible exact kb1 | with_reducible refine k_bif ?_ ?_ | with_reducible refine k_bif0 ?_ ?_

theorem dX4_goesOn_0 : decode cX4_goesOn 0 = .ok (.aload_n 0, 1) := by decide +kernel
theorem dX4_goesOn_1 : decode cX4_goesOn 1 = .ok (.invokevirtual 15, 3) := by decide +kernel
theorem dX4_goesOn_4 : decode cX4_goesOn 4 = .ok (.ifCond .eq 14, 3) := by decide +kernel
theorem dX4_goesOn_7 : decode cX4_goesOn 7 = .ok (.aload_n 0, 1) := by decide +kernel
theorem dX4_goesOn_8 : decode cX4_goesOn 8 = .ok (.getfield 19, 3) := by decide +kernel
theorem dX4_goesOn_11 : decode cX4_goesOn 11 = .ok (.ifCond .ne 7, 3) := by decide +kernel
theorem dX4_goesOn_14 : decode cX4_goesOn 14 = .ok (.iconst 1, 1) := by decide +kernel
theorem dX4_goesOn_15 : decode cX4_goesOn 15 = .ok (.goto 4, 3) := by decide +kernel
theorem dX4_goesOn_18 : decode cX4_goesOn 18 = .ok (.iconst 0, 1) := by decide +kernel
theorem dX4_goesOn_19 : decode cX4_goesOn 19 = .ok (.ireturn, 1) := by decide +kernel
def s_X4_goesOn (f_t : Nat → Int32) : Int32 :=
  (if (s_X4_isRunning f_t) = 0 then 0 else (if (f_t 1) = 0 then 1 else 0))
set_option maxRecDepth 100000 in
set_option maxHeartbeats 4000000 in
theorem c_X4_goesOn (l : Launch) (D : va_G) (cI cJ cO : ClassId) (h_t : Nat) (f_t : Nat → Int32) : kI l yX4_goesOn cX4_goesOn 1 .boolean 1 20 D (kT cI cJ cO) [.ref h_t] [(h_t, ruE f_t)] (s_X4_goesOn f_t) [(h_t, ruE f_t)] := by
  refine kI_of (own := RX4) (lv := [(0, .ref h_t)]) rfl rfl (by decide) (Nat.le_of_ble_eq_true rfl) ?_
  intro p e s m args below meth c Q A C hret
  refine k_aload_n (pc := 0) C rfl 0 rfl dX4_goesOn_0 ?_
  refine k_callVi (pc := 1) (As := []) (rest := []) (r := (s_X4_isRunning f_t)) (wc := [(h_t, ruE f_t)]) (wc2 := [(h_t, ruE f_t)]) (ws2 := [(h_t, ruE f_t)]) C (c_X4_isRunning l D cI cJ cO h_t f_t) cwv_X4_isRunning q_549 vX4 0 rfl [0] rfl rfl (by decide) rfl rfl (Nat.le_of_ble_eq_true rfl) ⟨Nat.le_of_ble_eq_true rfl, Nat.le_of_ble_eq_true rfl⟩ rfl ⟨Nat.le_refl _, Nat.le_refl _⟩ dX4_goesOn_1 ?_
  refine k_if_eq (pc := 4) (tgt := 18) C dX4_goesOn_4 (by decide) (fun c_1 => ?_) (fun c_1 => ?_)
  · refine k_iconst (pc := 18) C iconst_0 dX4_goesOn_18 ?_
    have hs : (s_X4_goesOn f_t) = 0 := (if_pos c_1)
    exact k_finI (pc := 19) hret rfl (by rw [hs]) rfl dX4_goesOn_19
  · refine k_aload_n (pc := 7) C rfl 0 rfl dX4_goesOn_7 ?_
    refine g_X4_1 (pc := 8) (x := (f_t 1)) C q_103 0 rfl rfl dX4_goesOn_8 ?_
    refine k_if_ne (pc := 11) (tgt := 18) C dX4_goesOn_11 (by decide) (fun c_2 => ?_) (fun c_2 => ?_)
    · refine k_iconst (pc := 18) C iconst_0 dX4_goesOn_18 ?_
      have hs : (s_X4_goesOn f_t) = 0 := ((if_neg c_1).trans (if_neg c_2))
      exact k_finI (pc := 19) hret rfl (by rw [hs]) rfl dX4_goesOn_19
    · refine k_iconst (pc := 14) C iconst_1 dX4_goesOn_14 ?_
      refine k_goto (pc := 15) (tgt := 19) C (by decide) dX4_goesOn_15 ?_
      have hs : (s_X4_goesOn f_t) = 1 := ((if_neg c_1).trans (if_pos c_2))
      exact k_finI (pc := 19) hret rfl (by rw [hs]) rfl dX4_goesOn_19
theorem b_X4_goesOn (f_t : Nat → Int32) : kb (s_X4_goesOn f_t) := by
  unfold s_X4_goesOn
  repeat' first | with_reducible exact kb0 | with_reducible exact kb1 | with_reducible exact b_X4_isRunning .. | with_reducible refine k_bif ?_ ?_ | with_reducible refine k_bif0 ?_ ?_

theorem dX4_end_0 : decode cX4_end 0 = .ok (.aload_n 0, 1) := by decide +kernel
theorem dX4_end_1 : decode cX4_end 1 = .ok (.iload_n 1, 1) := by decide +kernel
theorem dX4_end_2 : decode cX4_end 2 = .ok (.putfield 9, 3) := by decide +kernel
theorem dX4_end_5 : decode cX4_end 5 = .ok (.aload_n 0, 1) := by decide +kernel
theorem dX4_end_6 : decode cX4_end 6 = .ok (.iconst 0, 1) := by decide +kernel
theorem dX4_end_7 : decode cX4_end 7 = .ok (.putfield 19, 3) := by decide +kernel
theorem dX4_end_10 : decode cX4_end 10 = .ok (.return_, 1) := by decide +kernel
def s_X4_end (f_t : Nat → Int32) (p0 : Int32) : (Nat → Int32) :=
  (upd (upd f_t 0 p0) 1 0)
set_option maxRecDepth 100000 in
set_option maxHeartbeats 4000000 in
theorem c_X4_end (l : Launch) (D : va_G) (cI cJ cO : ClassId) (h_t : Nat) (f_t : Nat → Int32) (p0 : Int32) : kV l yX4_end cX4_end 2 0 0 D (kT cI cJ cO) [.ref h_t, .int p0] [(h_t, ruE f_t)] [(h_t, ruE (s_X4_end f_t p0))] := by
  refine kV_of (own := RX4) (lv := [(0, .ref h_t), (1, .int p0)]) rfl rfl (by decide) (Nat.le_of_ble_eq_true rfl) ?_
  intro p e s m args below meth c Q A C hret
  refine k_aload_n (pc := 0) C rfl 0 rfl dX4_end_0 ?_
  refine k_iload_n (pc := 1) C rfl 1 rfl dX4_end_1 ?_
  refine p_X4_0 (pc := 2) (ws2 := [(h_t, ruE (upd f_t 0 p0))]) C q_100 0 rfl rfl dX4_end_2 ?_
  refine k_aload_n (pc := 5) C rfl 0 rfl dX4_end_5 ?_
  refine k_iconst (pc := 6) C iconst_0 dX4_end_6 ?_
  refine p_X4_1 (pc := 7) (ws2 := [(h_t, ruE (upd (upd f_t 0 p0) 1 0))]) C q_103 kb0 0 rfl rfl dX4_end_7 ?_
  have hs : (s_X4_end f_t p0) = (upd (upd f_t 0 p0) 1 0) := rfl
  exact k_finV (pc := 10) hret (by rw [hs]) dX4_end_10

theorem dX1_temperatureOffset_0 : decode cX1_temperatureOffset 0 = .ok (.aload_n 0, 1) := by decide +kernel
theorem dX1_temperatureOffset_1 : decode cX1_temperatureOffset 1 = .ok (.getfield 18, 3) := by decide +kernel
theorem dX1_temperatureOffset_4 : decode cX1_temperatureOffset 4 = .ok (.aload_n 0, 1) := by decide +kernel
theorem dX1_temperatureOffset_5 : decode cX1_temperatureOffset 5 = .ok (.getfield 9, 3) := by decide +kernel
theorem dX1_temperatureOffset_8 : decode cX1_temperatureOffset 8 = .ok (.isub, 1) := by decide +kernel
theorem dX1_temperatureOffset_9 : decode cX1_temperatureOffset 9 = .ok (.invokestatic 30, 3) := by decide +kernel
theorem dX1_temperatureOffset_12 : decode cX1_temperatureOffset 12 = .ok (.ireturn, 1) := by decide +kernel
def s_X1_temperatureOffset (f_t : Nat → Int32) : Int32 :=
  (if 0 ≤ ((f_t 2) - (f_t 0)) then ((f_t 2) - (f_t 0)) else 0 - ((f_t 2) - (f_t 0)))
set_option maxRecDepth 100000 in
set_option maxHeartbeats 4000000 in
theorem c_X1_temperatureOffset (l : Launch) (D : va_G) (cI cJ cO : ClassId) (h_t : Nat) (f_t : Nat → Int32) : kI l yX1_temperatureOffset cX1_temperatureOffset 1 .int 1 13 D (kT cI cJ cO) [.ref h_t] [(h_t, clE f_t)] (s_X1_temperatureOffset f_t) [(h_t, clE f_t)] := by
  refine kI_of (own := RX1) (lv := [(0, .ref h_t)]) rfl rfl (by decide) (Nat.le_of_ble_eq_true rfl) ?_
  intro p e s m args below meth c Q A C hret
  refine k_aload_n (pc := 0) C rfl 0 rfl dX1_temperatureOffset_0 ?_
  refine g_X1_2 (pc := 1) (x := (f_t 2)) C q_160 0 rfl rfl dX1_temperatureOffset_1 ?_
  refine k_aload_n (pc := 4) C rfl 0 rfl dX1_temperatureOffset_4 ?_
  refine g_X1_0 (pc := 5) (x := (f_t 0)) C q_154 0 rfl rfl dX1_temperatureOffset_5 ?_
  refine k_isub (pc := 8) C dX1_temperatureOffset_8 ?_
  refine k_mabs (pc := 9) C q_608 q_609 q_24 q_610 ⟨Nat.le_of_ble_eq_true rfl, Nat.le_of_ble_eq_true rfl, Nat.le_refl _, Nat.le_refl _⟩ dX1_temperatureOffset_9 ?_
  have hs : (s_X1_temperatureOffset f_t) = (if 0 ≤ ((f_t 2) - (f_t 0)) then ((f_t 2) - (f_t 0)) else 0 - ((f_t 2) - (f_t 0))) := rfl
  exact k_finI (pc := 12) hret rfl (by rw [hs]) rfl dX1_temperatureOffset_12

theorem dX1_humidityOffset_0 : decode cX1_humidityOffset 0 = .ok (.aload_n 0, 1) := by decide +kernel
theorem dX1_humidityOffset_1 : decode cX1_humidityOffset 1 = .ok (.getfield 21, 3) := by decide +kernel
theorem dX1_humidityOffset_4 : decode cX1_humidityOffset 4 = .ok (.aload_n 0, 1) := by decide +kernel
theorem dX1_humidityOffset_5 : decode cX1_humidityOffset 5 = .ok (.getfield 15, 3) := by decide +kernel
theorem dX1_humidityOffset_8 : decode cX1_humidityOffset 8 = .ok (.isub, 1) := by decide +kernel
theorem dX1_humidityOffset_9 : decode cX1_humidityOffset 9 = .ok (.invokestatic 30, 3) := by decide +kernel
theorem dX1_humidityOffset_12 : decode cX1_humidityOffset 12 = .ok (.ireturn, 1) := by decide +kernel
def s_X1_humidityOffset (f_t : Nat → Int32) : Int32 :=
  (if 0 ≤ ((f_t 3) - (f_t 1)) then ((f_t 3) - (f_t 1)) else 0 - ((f_t 3) - (f_t 1)))
set_option maxRecDepth 100000 in
set_option maxHeartbeats 4000000 in
theorem c_X1_humidityOffset (l : Launch) (D : va_G) (cI cJ cO : ClassId) (h_t : Nat) (f_t : Nat → Int32) : kI l yX1_humidityOffset cX1_humidityOffset 1 .int 1 13 D (kT cI cJ cO) [.ref h_t] [(h_t, clE f_t)] (s_X1_humidityOffset f_t) [(h_t, clE f_t)] := by
  refine kI_of (own := RX1) (lv := [(0, .ref h_t)]) rfl rfl (by decide) (Nat.le_of_ble_eq_true rfl) ?_
  intro p e s m args below meth c Q A C hret
  refine k_aload_n (pc := 0) C rfl 0 rfl dX1_humidityOffset_0 ?_
  refine g_X1_3 (pc := 1) (x := (f_t 3)) C q_163 0 rfl rfl dX1_humidityOffset_1 ?_
  refine k_aload_n (pc := 4) C rfl 0 rfl dX1_humidityOffset_4 ?_
  refine g_X1_1 (pc := 5) (x := (f_t 1)) C q_157 0 rfl rfl dX1_humidityOffset_5 ?_
  refine k_isub (pc := 8) C dX1_humidityOffset_8 ?_
  refine k_mabs (pc := 9) C q_608 q_609 q_24 q_610 ⟨Nat.le_of_ble_eq_true rfl, Nat.le_of_ble_eq_true rfl, Nat.le_refl _, Nat.le_refl _⟩ dX1_humidityOffset_9 ?_
  have hs : (s_X1_humidityOffset f_t) = (if 0 ≤ ((f_t 3) - (f_t 1)) then ((f_t 3) - (f_t 1)) else 0 - ((f_t 3) - (f_t 1))) := rfl
  exact k_finI (pc := 12) hret rfl (by rw [hs]) rfl dX1_humidityOffset_12

theorem dX1_change_0 : decode cX1_change 0 = .ok (.aload_n 0, 1) := by decide +kernel
theorem dX1_change_1 : decode cX1_change 1 = .ok (.aload_n 0, 1) := by decide +kernel
theorem dX1_change_2 : decode cX1_change 2 = .ok (.getfield 9, 3) := by decide +kernel
theorem dX1_change_5 : decode cX1_change 5 = .ok (.iload_n 1, 1) := by decide +kernel
theorem dX1_change_6 : decode cX1_change 6 = .ok (.iadd, 1) := by decide +kernel
theorem dX1_change_7 : decode cX1_change 7 = .ok (.sipush (-700), 3) := by decide +kernel
theorem dX1_change_10 : decode cX1_change 10 = .ok (.sipush 2000, 3) := by decide +kernel
theorem dX1_change_13 : decode cX1_change 13 = .ok (.invokestatic 36, 3) := by decide +kernel
theorem dX1_change_16 : decode cX1_change 16 = .ok (.putfield 9, 3) := by decide +kernel
theorem dX1_change_19 : decode cX1_change 19 = .ok (.aload_n 0, 1) := by decide +kernel
theorem dX1_change_20 : decode cX1_change 20 = .ok (.aload_n 0, 1) := by decide +kernel
theorem dX1_change_21 : decode cX1_change 21 = .ok (.getfield 15, 3) := by decide +kernel
theorem dX1_change_24 : decode cX1_change 24 = .ok (.iload_n 2, 1) := by decide +kernel
theorem dX1_change_25 : decode cX1_change 25 = .ok (.iadd, 1) := by decide +kernel
theorem dX1_change_26 : decode cX1_change 26 = .ok (.iconst 0, 1) := by decide +kernel
theorem dX1_change_27 : decode cX1_change 27 = .ok (.sipush 1000, 3) := by decide +kernel
theorem dX1_change_30 : decode cX1_change 30 = .ok (.invokestatic 36, 3) := by decide +kernel
theorem dX1_change_33 : decode cX1_change 33 = .ok (.putfield 15, 3) := by decide +kernel
theorem dX1_change_36 : decode cX1_change 36 = .ok (.return_, 1) := by decide +kernel
def s_X1_change (f_t : Nat → Int32) (p0 : Int32) (p1 : Int32) : (Nat → Int32) :=
  (upd (upd f_t 0 (s_X10_limit ((f_t 0) + p0) (-700) 2000)) 1 (s_X10_limit ((f_t 1) + p1) 0 1000))
set_option maxRecDepth 100000 in
set_option maxHeartbeats 4000000 in
theorem c_X1_change (l : Launch) (D : va_G) (cI cJ cO : ClassId) (h_t : Nat) (f_t : Nat → Int32) (p0 : Int32) (p1 : Int32) : kV l yX1_change cX1_change 3 2 36 D (kT cI cJ cO) [.ref h_t, .int p0, .int p1] [(h_t, clE f_t)] [(h_t, clE (s_X1_change f_t p0 p1))] := by
  refine kV_of (own := RX1) (lv := [(0, .ref h_t), (1, .int p0), (2, .int p1)]) rfl rfl (by decide) (Nat.le_of_ble_eq_true rfl) ?_
  intro p e s m args below meth c Q A C hret
  refine k_aload_n (pc := 0) C rfl 0 rfl dX1_change_0 ?_
  refine k_aload_n (pc := 1) C rfl 0 rfl dX1_change_1 ?_
  refine g_X1_0 (pc := 2) (x := (f_t 0)) C q_154 0 rfl rfl dX1_change_2 ?_
  refine k_iload_n (pc := 5) C rfl 1 rfl dX1_change_5 ?_
  refine k_iadd (pc := 6) C dX1_change_6 ?_
  refine k_sipush (pc := 7) C sipush_m700 dX1_change_7 ?_
  refine k_sipush (pc := 10) C sipush_2000 dX1_change_10 ?_
  refine k_callNi (pc := 13) (As := [.int ((f_t 0) + p0), .int (-700), .int 2000]) (rest := [.ref h_t]) (r := (s_X10_limit ((f_t 0) + p0) (-700) 2000)) (wc := []) (wc2 := []) (ws2 := [(h_t, clE f_t)]) C (c_X10_limit l D cI cJ cO ((f_t 0) + p0) (-700) 2000) cws_X10_limit q_602 [] rfl rfl (by decide) rfl rfl (Nat.le_of_ble_eq_true rfl) ⟨Nat.le_of_ble_eq_true rfl, Nat.le_of_ble_eq_true rfl⟩ rfl ⟨Nat.le_refl _, Nat.le_refl _⟩ dX1_change_13 ?_
  refine p_X1_0 (pc := 16) (ws2 := [(h_t, clE (upd f_t 0 (s_X10_limit ((f_t 0) + p0) (-700) 2000)))]) C q_154 0 rfl rfl dX1_change_16 ?_
  refine k_aload_n (pc := 19) C rfl 0 rfl dX1_change_19 ?_
  refine k_aload_n (pc := 20) C rfl 0 rfl dX1_change_20 ?_
  refine g_X1_1 (pc := 21) (x := (f_t 1)) C q_157 0 rfl (upn (by decide) rfl) dX1_change_21 ?_
  refine k_iload_n (pc := 24) C rfl 2 rfl dX1_change_24 ?_
  refine k_iadd (pc := 25) C dX1_change_25 ?_
  refine k_iconst (pc := 26) C iconst_0 dX1_change_26 ?_
  refine k_sipush (pc := 27) C sipush_1000 dX1_change_27 ?_
  refine k_callNi (pc := 30) (As := [.int ((f_t 1) + p1), .int 0, .int 1000]) (rest := [.ref h_t]) (r := (s_X10_limit ((f_t 1) + p1) 0 1000)) (wc := []) (wc2 := []) (ws2 := [(h_t, clE (upd f_t 0 (s_X10_limit ((f_t 0) + p0) (-700) 2000)))]) C (c_X10_limit l D cI cJ cO ((f_t 1) + p1) 0 1000) cws_X10_limit q_602 [] rfl rfl (by decide) rfl rfl (Nat.le_of_ble_eq_true rfl) ⟨Nat.le_of_ble_eq_true rfl, Nat.le_of_ble_eq_true rfl⟩ rfl ⟨Nat.le_refl _, Nat.le_refl _⟩ dX1_change_30 ?_
  refine p_X1_1 (pc := 33) (ws2 := [(h_t, clE (upd (upd f_t 0 (s_X10_limit ((f_t 0) + p0) (-700) 2000)) 1 (s_X10_limit ((f_t 1) + p1) 0 1000)))]) C q_157 0 rfl rfl dX1_change_33 ?_
  have hs : (s_X1_change f_t p0 p1) = (upd (upd f_t 0 (s_X10_limit ((f_t 0) + p0) (-700) 2000)) 1 (s_X10_limit ((f_t 1) + p1) 0 1000)) := rfl
  exact k_finV (pc := 36) hret (by rw [hs]) dX1_change_36

theorem dX1_count_0 : decode cX1_count 0 = .ok (.aload_n 0, 1) := by decide +kernel
theorem dX1_count_1 : decode cX1_count 1 = .ok (.iload_n 1, 1) := by decide +kernel
theorem dX1_count_2 : decode cX1_count 2 = .ok (.ifCond .le 7, 3) := by decide +kernel
theorem dX1_count_5 : decode cX1_count 5 = .ok (.iconst 0, 1) := by decide +kernel
theorem dX1_count_6 : decode cX1_count 6 = .ok (.goto 15, 3) := by decide +kernel
theorem dX1_count_9 : decode cX1_count 9 = .ok (.aload_n 0, 1) := by decide +kernel
theorem dX1_count_10 : decode cX1_count 10 = .ok (.getfield 24, 3) := by decide +kernel
theorem dX1_count_13 : decode cX1_count 13 = .ok (.iconst 1, 1) := by decide +kernel
theorem dX1_count_14 : decode cX1_count 14 = .ok (.iadd, 1) := by decide +kernel
theorem dX1_count_15 : decode cX1_count 15 = .ok (.sipush 1000, 3) := by decide +kernel
theorem dX1_count_18 : decode cX1_count 18 = .ok (.invokestatic 40, 3) := by decide +kernel
theorem dX1_count_21 : decode cX1_count 21 = .ok (.putfield 24, 3) := by decide +kernel
theorem dX1_count_24 : decode cX1_count 24 = .ok (.aload_n 0, 1) := by decide +kernel
theorem dX1_count_25 : decode cX1_count 25 = .ok (.iload_n 1, 1) := by decide +kernel
theorem dX1_count_26 : decode cX1_count 26 = .ok (.ifCond .ge 7, 3) := by decide +kernel
theorem dX1_count_29 : decode cX1_count 29 = .ok (.iconst 0, 1) := by decide +kernel
theorem dX1_count_30 : decode cX1_count 30 = .ok (.goto 15, 3) := by decide +kernel
theorem dX1_count_33 : decode cX1_count 33 = .ok (.aload_n 0, 1) := by decide +kernel
theorem dX1_count_34 : decode cX1_count 34 = .ok (.getfield 27, 3) := by decide +kernel
theorem dX1_count_37 : decode cX1_count 37 = .ok (.iconst 1, 1) := by decide +kernel
theorem dX1_count_38 : decode cX1_count 38 = .ok (.iadd, 1) := by decide +kernel
theorem dX1_count_39 : decode cX1_count 39 = .ok (.sipush 1000, 3) := by decide +kernel
theorem dX1_count_42 : decode cX1_count 42 = .ok (.invokestatic 40, 3) := by decide +kernel
theorem dX1_count_45 : decode cX1_count 45 = .ok (.putfield 27, 3) := by decide +kernel
theorem dX1_count_48 : decode cX1_count 48 = .ok (.aload_n 0, 1) := by decide +kernel
theorem dX1_count_49 : decode cX1_count 49 = .ok (.dup, 1) := by decide +kernel
theorem dX1_count_50 : decode cX1_count 50 = .ok (.getfield 44, 3) := by decide +kernel
theorem dX1_count_53 : decode cX1_count 53 = .ok (.iload_n 1, 1) := by decide +kernel
theorem dX1_count_54 : decode cX1_count 54 = .ok (.ifCond .le 7, 3) := by decide +kernel
theorem dX1_count_57 : decode cX1_count 57 = .ok (.iconst 1, 1) := by decide +kernel
theorem dX1_count_58 : decode cX1_count 58 = .ok (.goto 4, 3) := by decide +kernel
theorem dX1_count_61 : decode cX1_count 61 = .ok (.iconst 0, 1) := by decide +kernel
theorem dX1_count_62 : decode cX1_count 62 = .ok (.iadd, 1) := by decide +kernel
theorem dX1_count_63 : decode cX1_count 63 = .ok (.putfield 44, 3) := by decide +kernel
theorem dX1_count_66 : decode cX1_count 66 = .ok (.aload_n 0, 1) := by decide +kernel
theorem dX1_count_67 : decode cX1_count 67 = .ok (.dup, 1) := by decide +kernel
theorem dX1_count_68 : decode cX1_count 68 = .ok (.getfield 47, 3) := by decide +kernel
theorem dX1_count_71 : decode cX1_count 71 = .ok (.iload_n 1, 1) := by decide +kernel
theorem dX1_count_72 : decode cX1_count 72 = .ok (.ifCond .ge 7, 3) := by decide +kernel
theorem dX1_count_75 : decode cX1_count 75 = .ok (.iconst 1, 1) := by decide +kernel
theorem dX1_count_76 : decode cX1_count 76 = .ok (.goto 4, 3) := by decide +kernel
theorem dX1_count_79 : decode cX1_count 79 = .ok (.iconst 0, 1) := by decide +kernel
theorem dX1_count_80 : decode cX1_count 80 = .ok (.iadd, 1) := by decide +kernel
theorem dX1_count_81 : decode cX1_count 81 = .ok (.putfield 47, 3) := by decide +kernel
theorem dX1_count_84 : decode cX1_count 84 = .ok (.aload_n 0, 1) := by decide +kernel
theorem dX1_count_85 : decode cX1_count 85 = .ok (.dup, 1) := by decide +kernel
theorem dX1_count_86 : decode cX1_count 86 = .ok (.getfield 50, 3) := by decide +kernel
theorem dX1_count_89 : decode cX1_count 89 = .ok (.iload_n 2, 1) := by decide +kernel
theorem dX1_count_90 : decode cX1_count 90 = .ok (.ifCond .le 7, 3) := by decide +kernel
theorem dX1_count_93 : decode cX1_count 93 = .ok (.iconst 1, 1) := by decide +kernel
theorem dX1_count_94 : decode cX1_count 94 = .ok (.goto 4, 3) := by decide +kernel
theorem dX1_count_97 : decode cX1_count 97 = .ok (.iconst 0, 1) := by decide +kernel
theorem dX1_count_98 : decode cX1_count 98 = .ok (.iadd, 1) := by decide +kernel
theorem dX1_count_99 : decode cX1_count 99 = .ok (.putfield 50, 3) := by decide +kernel
theorem dX1_count_102 : decode cX1_count 102 = .ok (.aload_n 0, 1) := by decide +kernel
theorem dX1_count_103 : decode cX1_count 103 = .ok (.dup, 1) := by decide +kernel
theorem dX1_count_104 : decode cX1_count 104 = .ok (.getfield 53, 3) := by decide +kernel
theorem dX1_count_107 : decode cX1_count 107 = .ok (.iload_n 2, 1) := by decide +kernel
theorem dX1_count_108 : decode cX1_count 108 = .ok (.ifCond .ge 7, 3) := by decide +kernel
theorem dX1_count_111 : decode cX1_count 111 = .ok (.iconst 1, 1) := by decide +kernel
theorem dX1_count_112 : decode cX1_count 112 = .ok (.goto 4, 3) := by decide +kernel
theorem dX1_count_115 : decode cX1_count 115 = .ok (.iconst 0, 1) := by decide +kernel
theorem dX1_count_116 : decode cX1_count 116 = .ok (.iadd, 1) := by decide +kernel
theorem dX1_count_117 : decode cX1_count 117 = .ok (.putfield 53, 3) := by decide +kernel
theorem dX1_count_120 : decode cX1_count 120 = .ok (.aload_n 0, 1) := by decide +kernel
theorem dX1_count_121 : decode cX1_count 121 = .ok (.dup, 1) := by decide +kernel
theorem dX1_count_122 : decode cX1_count 122 = .ok (.getfield 56, 3) := by decide +kernel
theorem dX1_count_125 : decode cX1_count 125 = .ok (.iload_n 1, 1) := by decide +kernel
theorem dX1_count_126 : decode cX1_count 126 = .ok (.invokestatic 30, 3) := by decide +kernel
theorem dX1_count_129 : decode cX1_count 129 = .ok (.iload_n 2, 1) := by decide +kernel
theorem dX1_count_130 : decode cX1_count 130 = .ok (.invokestatic 30, 3) := by decide +kernel
theorem dX1_count_133 : decode cX1_count 133 = .ok (.iadd, 1) := by decide +kernel
theorem dX1_count_134 : decode cX1_count 134 = .ok (.iadd, 1) := by decide +kernel
theorem dX1_count_135 : decode cX1_count 135 = .ok (.putfield 56, 3) := by decide +kernel
theorem dX1_count_138 : decode cX1_count 138 = .ok (.return_, 1) := by decide +kernel
def s_X1_count_1 (f_t : Nat → Int32) (x_2 : Int32) (x_4 : Int32) (x_6 : Int32) (x_8 : Int32) (x_10 : Int32) (x_12 : Int32) (v_13 : Int32) : (Nat → Int32) :=
  (upd (upd (upd (upd (upd (upd (upd f_t 7 x_2) 8 x_4) 9 ((f_t 9) + x_6)) 10 ((f_t 10) + x_8)) 11 ((f_t 11) + x_10)) 12 ((f_t 12) + x_12)) 13 v_13)
def s_X1_count_2 (f_t : Nat → Int32) (x_2 : Int32) (x_4 : Int32) (x_6 : Int32) (x_8 : Int32) (x_10 : Int32) (p0 : Int32) (p1 : Int32) (x_12 : Int32) : (Nat → Int32) :=
  (s_X1_count_1 f_t x_2 x_4 x_6 x_8 x_10 x_12 ((f_t 13) + ((if 0 ≤ p0 then p0 else 0 - p0) + (if 0 ≤ p1 then p1 else 0 - p1))))
def s_X1_count_3 (f_t : Nat → Int32) (x_2 : Int32) (x_4 : Int32) (x_6 : Int32) (x_8 : Int32) (p0 : Int32) (p1 : Int32) (x_10 : Int32) : (Nat → Int32) :=
  (s_X1_count_2 f_t x_2 x_4 x_6 x_8 x_10 p0 p1 (if 0 ≤ p1 then 0 else 1))
def s_X1_count_4 (f_t : Nat → Int32) (x_2 : Int32) (x_4 : Int32) (x_6 : Int32) (p0 : Int32) (p1 : Int32) (x_8 : Int32) : (Nat → Int32) :=
  (s_X1_count_3 f_t x_2 x_4 x_6 x_8 p0 p1 (if p1 ≤ 0 then 0 else 1))
def s_X1_count_5 (f_t : Nat → Int32) (x_2 : Int32) (x_4 : Int32) (p0 : Int32) (p1 : Int32) (x_6 : Int32) : (Nat → Int32) :=
  (s_X1_count_4 f_t x_2 x_4 x_6 p0 p1 (if 0 ≤ p0 then 0 else 1))
def s_X1_count_6 (f_t : Nat → Int32) (x_2 : Int32) (p0 : Int32) (p1 : Int32) (x_4 : Int32) : (Nat → Int32) :=
  (s_X1_count_5 f_t x_2 x_4 p0 p1 (if p0 ≤ 0 then 0 else 1))
def s_X1_count_7 (f_t : Nat → Int32) (p0 : Int32) (p1 : Int32) (x_2 : Int32) : (Nat → Int32) :=
  (s_X1_count_6 f_t x_2 p0 p1 (if 0 ≤ p0 then (if 1000 < ((f_t 8) + 1) then 1000 else ((f_t 8) + 1)) else 0))
def s_X1_count (f_t : Nat → Int32) (p0 : Int32) (p1 : Int32) : (Nat → Int32) :=
  (s_X1_count_7 f_t p0 p1 (if p0 ≤ 0 then (if 1000 < ((f_t 7) + 1) then 1000 else ((f_t 7) + 1)) else 0))
set_option maxRecDepth 100000 in
set_option maxHeartbeats 4000000 in
theorem c_X1_count (l : Launch) (D : va_G) (cI cJ cO : ClassId) (h_t : Nat) (f_t : Nat → Int32) (p0 : Int32) (p1 : Int32) : kV l yX1_count cX1_count 3 1 16 D (kT cI cJ cO) [.ref h_t, .int p0, .int p1] [(h_t, clE f_t)] [(h_t, clE (s_X1_count f_t p0 p1))] := by
  refine kV_of (own := RX1) (lv := [(0, .ref h_t), (1, .int p0), (2, .int p1)]) rfl rfl (by decide) (Nat.le_of_ble_eq_true rfl) ?_
  intro p e s m args below meth c Q A C hret
  refine k_aload_n (pc := 0) C rfl 0 rfl dX1_count_0 ?_
  refine k_iload_n (pc := 1) C rfl 1 rfl dX1_count_1 ?_
  have K_14 : ∀ (x_2 : Int32), x_2 = (if p0 ≤ 0 then (if 1000 < ((f_t 7) + 1) then 1000 else ((f_t 7) + 1)) else 0) → KJ p l e (kR 1 16) s m args below meth c 0 0 Q D A 3 [(h_t, clE f_t)] [(0, .ref h_t), (1, .int p0), (2, .int p1)] [.int x_2, .ref h_t] 21 := by
    intro x_2 ex_2
    refine p_X1_7 (pc := 21) (ws2 := [(h_t, clE (upd f_t 7 x_2))]) C q_173 0 rfl rfl dX1_count_21 ?_
    refine k_aload_n (pc := 24) C rfl 0 rfl dX1_count_24 ?_
    refine k_iload_n (pc := 25) C rfl 1 rfl dX1_count_25 ?_
    have K_15 : ∀ (x_4 : Int32), x_4 = (if 0 ≤ p0 then (if 1000 < ((f_t 8) + 1) then 1000 else ((f_t 8) + 1)) else 0) → KJ p l e (kR 1 16) s m args below meth c 0 0 Q D A 3 [(h_t, clE (upd f_t 7 x_2))] [(0, .ref h_t), (1, .int p0), (2, .int p1)] [.int x_4, .ref h_t] 45 := by
      intro x_4 ex_4
      refine p_X1_8 (pc := 45) (ws2 := [(h_t, clE (upd (upd f_t 7 x_2) 8 x_4))]) C q_175 0 rfl rfl dX1_count_45 ?_
      refine k_aload_n (pc := 48) C rfl 0 rfl dX1_count_48 ?_
      refine k_dup (pc := 49) C rfl dX1_count_49 ?_
      refine g_X1_9 (pc := 50) (x := (f_t 9)) C q_177 0 rfl (upn (by decide) (upn (by decide) rfl)) dX1_count_50 ?_
      refine k_iload_n (pc := 53) C rfl 1 rfl dX1_count_53 ?_
      have K_16 : ∀ (x_6 : Int32), x_6 = (if p0 ≤ 0 then 0 else 1) → KJ p l e (kR 1 16) s m args below meth c 0 0 Q D A 3 [(h_t, clE (upd (upd f_t 7 x_2) 8 x_4))] [(0, .ref h_t), (1, .int p0), (2, .int p1)] [.int x_6, .int (f_t 9), .ref h_t] 62 := by
        intro x_6 ex_6
        refine k_iadd (pc := 62) C dX1_count_62 ?_
        refine p_X1_9 (pc := 63) (ws2 := [(h_t, clE (upd (upd (upd f_t 7 x_2) 8 x_4) 9 ((f_t 9) + x_6)))]) C q_177 0 rfl rfl dX1_count_63 ?_
        refine k_aload_n (pc := 66) C rfl 0 rfl dX1_count_66 ?_
        refine k_dup (pc := 67) C rfl dX1_count_67 ?_
        refine g_X1_10 (pc := 68) (x := (f_t 10)) C q_178 0 rfl (upn (by decide) (upn (by decide) (upn (by decide) rfl))) dX1_count_68 ?_
        refine k_iload_n (pc := 71) C rfl 1 rfl dX1_count_71 ?_
        have K_17 : ∀ (x_8 : Int32), x_8 = (if 0 ≤ p0 then 0 else 1) → KJ p l e (kR 1 16) s m args below meth c 0 0 Q D A 3 [(h_t, clE (upd (upd (upd f_t 7 x_2) 8 x_4) 9 ((f_t 9) + x_6)))] [(0, .ref h_t), (1, .int p0), (2, .int p1)] [.int x_8, .int (f_t 10), .ref h_t] 80 := by
          intro x_8 ex_8
          refine k_iadd (pc := 80) C dX1_count_80 ?_
          refine p_X1_10 (pc := 81) (ws2 := [(h_t, clE (upd (upd (upd (upd f_t 7 x_2) 8 x_4) 9 ((f_t 9) + x_6)) 10 ((f_t 10) + x_8)))]) C q_178 0 rfl rfl dX1_count_81 ?_
          refine k_aload_n (pc := 84) C rfl 0 rfl dX1_count_84 ?_
          refine k_dup (pc := 85) C rfl dX1_count_85 ?_
          refine g_X1_11 (pc := 86) (x := (f_t 11)) C q_179 0 rfl (upn (by decide) (upn (by decide) (upn (by decide) (upn (by decide) rfl)))) dX1_count_86 ?_
          refine k_iload_n (pc := 89) C rfl 2 rfl dX1_count_89 ?_
          have K_18 : ∀ (x_10 : Int32), x_10 = (if p1 ≤ 0 then 0 else 1) → KJ p l e (kR 1 16) s m args below meth c 0 0 Q D A 3 [(h_t, clE (upd (upd (upd (upd f_t 7 x_2) 8 x_4) 9 ((f_t 9) + x_6)) 10 ((f_t 10) + x_8)))] [(0, .ref h_t), (1, .int p0), (2, .int p1)] [.int x_10, .int (f_t 11), .ref h_t] 98 := by
            intro x_10 ex_10
            refine k_iadd (pc := 98) C dX1_count_98 ?_
            refine p_X1_11 (pc := 99) (ws2 := [(h_t, clE (upd (upd (upd (upd (upd f_t 7 x_2) 8 x_4) 9 ((f_t 9) + x_6)) 10 ((f_t 10) + x_8)) 11 ((f_t 11) + x_10)))]) C q_179 0 rfl rfl dX1_count_99 ?_
            refine k_aload_n (pc := 102) C rfl 0 rfl dX1_count_102 ?_
            refine k_dup (pc := 103) C rfl dX1_count_103 ?_
            refine g_X1_12 (pc := 104) (x := (f_t 12)) C q_180 0 rfl (upn (by decide) (upn (by decide) (upn (by decide) (upn (by decide) (upn (by decide) rfl))))) dX1_count_104 ?_
            refine k_iload_n (pc := 107) C rfl 2 rfl dX1_count_107 ?_
            have K_19 : ∀ (x_12 : Int32), x_12 = (if 0 ≤ p1 then 0 else 1) → KJ p l e (kR 1 16) s m args below meth c 0 0 Q D A 3 [(h_t, clE (upd (upd (upd (upd (upd f_t 7 x_2) 8 x_4) 9 ((f_t 9) + x_6)) 10 ((f_t 10) + x_8)) 11 ((f_t 11) + x_10)))] [(0, .ref h_t), (1, .int p0), (2, .int p1)] [.int x_12, .int (f_t 12), .ref h_t] 116 := by
              intro x_12 ex_12
              refine k_iadd (pc := 116) C dX1_count_116 ?_
              refine p_X1_12 (pc := 117) (ws2 := [(h_t, clE (upd (upd (upd (upd (upd (upd f_t 7 x_2) 8 x_4) 9 ((f_t 9) + x_6)) 10 ((f_t 10) + x_8)) 11 ((f_t 11) + x_10)) 12 ((f_t 12) + x_12)))]) C q_180 0 rfl rfl dX1_count_117 ?_
              refine k_aload_n (pc := 120) C rfl 0 rfl dX1_count_120 ?_
              refine k_dup (pc := 121) C rfl dX1_count_121 ?_
              refine g_X1_13 (pc := 122) (x := (f_t 13)) C q_181 0 rfl (upn (by decide) (upn (by decide) (upn (by decide) (upn (by decide) (upn (by decide) (upn (by decide) rfl)))))) dX1_count_122 ?_
              refine k_iload_n (pc := 125) C rfl 1 rfl dX1_count_125 ?_
              refine k_mabs (pc := 126) C q_608 q_609 q_24 q_610 ⟨Nat.le_of_ble_eq_true rfl, Nat.le_of_ble_eq_true rfl, Nat.le_refl _, Nat.le_refl _⟩ dX1_count_126 ?_
              refine k_iload_n (pc := 129) C rfl 2 rfl dX1_count_129 ?_
              refine k_mabs (pc := 130) C q_608 q_609 q_24 q_610 ⟨Nat.le_of_ble_eq_true rfl, Nat.le_of_ble_eq_true rfl, Nat.le_refl _, Nat.le_refl _⟩ dX1_count_130 ?_
              refine k_iadd (pc := 133) C dX1_count_133 ?_
              refine k_iadd (pc := 134) C dX1_count_134 ?_
              obtain ⟨v_13, ev_13⟩ : ∃ z : Int32, z = ((f_t 13) + ((if 0 ≤ p0 then p0 else 0 - p0) + (if 0 ≤ p1 then p1 else 0 - p1))) := ⟨_, rfl⟩
              rw [← ev_13]
              refine p_X1_13 (pc := 135) (ws2 := [(h_t, clE (upd (upd (upd (upd (upd (upd (upd f_t 7 x_2) 8 x_4) 9 ((f_t 9) + x_6)) 10 ((f_t 10) + x_8)) 11 ((f_t 11) + x_10)) 12 ((f_t 12) + x_12)) 13 v_13))]) C q_181 0 rfl rfl dX1_count_135 ?_
              have hs : (s_X1_count f_t p0 p1) = (upd (upd (upd (upd (upd (upd (upd f_t 7 x_2) 8 x_4) 9 ((f_t 9) + x_6)) 10 ((f_t 10) + x_8)) 11 ((f_t 11) + x_10)) 12 ((f_t 12) + x_12)) 13 v_13) := (k_st (g := s_X1_count_7 f_t p0 p1) ex_2 rfl (k_st (g := s_X1_count_6 f_t x_2 p0 p1) ex_4 rfl (k_st (g := s_X1_count_5 f_t x_2 x_4 p0 p1) ex_6 rfl (k_st (g := s_X1_count_4 f_t x_2 x_4 x_6 p0 p1) ex_8 rfl (k_st (g := s_X1_count_3 f_t x_2 x_4 x_6 x_8 p0 p1) ex_10 rfl (k_st (g := s_X1_count_2 f_t x_2 x_4 x_6 x_8 x_10 p0 p1) ex_12 rfl (k_st (g := s_X1_count_1 f_t x_2 x_4 x_6 x_8 x_10 x_12) ev_13 rfl rfl)))))))
              exact k_finV (pc := 138) hret (by rw [hs]) dX1_count_138
            refine k_if_ge (pc := 108) (tgt := 115) C dX1_count_108 (by decide) (fun c_11 => ?_) (fun c_11 => ?_)
            · refine k_iconst (pc := 115) C iconst_0 dX1_count_115 ?_
              exact K_19 0 (Eq.symm (if_pos c_11))
            · refine k_iconst (pc := 111) C iconst_1 dX1_count_111 ?_
              refine k_goto (pc := 112) (tgt := 116) C (by decide) dX1_count_112 ?_
              exact K_19 1 (Eq.symm (if_neg c_11))
          refine k_if_le (pc := 90) (tgt := 97) C dX1_count_90 (by decide) (fun c_9 => ?_) (fun c_9 => ?_)
          · refine k_iconst (pc := 97) C iconst_0 dX1_count_97 ?_
            exact K_18 0 (Eq.symm (if_pos c_9))
          · refine k_iconst (pc := 93) C iconst_1 dX1_count_93 ?_
            refine k_goto (pc := 94) (tgt := 98) C (by decide) dX1_count_94 ?_
            exact K_18 1 (Eq.symm (if_neg c_9))
        refine k_if_ge (pc := 72) (tgt := 79) C dX1_count_72 (by decide) (fun c_7 => ?_) (fun c_7 => ?_)
        · refine k_iconst (pc := 79) C iconst_0 dX1_count_79 ?_
          exact K_17 0 (Eq.symm (if_pos c_7))
        · refine k_iconst (pc := 75) C iconst_1 dX1_count_75 ?_
          refine k_goto (pc := 76) (tgt := 80) C (by decide) dX1_count_76 ?_
          exact K_17 1 (Eq.symm (if_neg c_7))
      refine k_if_le (pc := 54) (tgt := 61) C dX1_count_54 (by decide) (fun c_5 => ?_) (fun c_5 => ?_)
      · refine k_iconst (pc := 61) C iconst_0 dX1_count_61 ?_
        exact K_16 0 (Eq.symm (if_pos c_5))
      · refine k_iconst (pc := 57) C iconst_1 dX1_count_57 ?_
        refine k_goto (pc := 58) (tgt := 62) C (by decide) dX1_count_58 ?_
        exact K_16 1 (Eq.symm (if_neg c_5))
    refine k_if_ge (pc := 26) (tgt := 33) C dX1_count_26 (by decide) (fun c_3 => ?_) (fun c_3 => ?_)
    · refine k_aload_n (pc := 33) C rfl 0 rfl dX1_count_33 ?_
      refine g_X1_8 (pc := 34) (x := (f_t 8)) C q_175 0 rfl (upn (by decide) rfl) dX1_count_34 ?_
      refine k_iconst (pc := 37) C iconst_1 dX1_count_37 ?_
      refine k_iadd (pc := 38) C dX1_count_38 ?_
      refine k_sipush (pc := 39) C sipush_1000 dX1_count_39 ?_
      refine k_mmin (pc := 42) C q_607 q_499 q_24 q_500 ⟨Nat.le_of_ble_eq_true rfl, Nat.le_of_ble_eq_true rfl, Nat.le_refl _, Nat.le_refl _⟩ dX1_count_42 ?_
      exact K_15 (if 1000 < ((f_t 8) + 1) then 1000 else ((f_t 8) + 1)) (Eq.symm (if_pos c_3))
    · refine k_iconst (pc := 29) C iconst_0 dX1_count_29 ?_
      refine k_goto (pc := 30) (tgt := 45) C (by decide) dX1_count_30 ?_
      exact K_15 0 (Eq.symm (if_neg c_3))
  refine k_if_le (pc := 2) (tgt := 9) C dX1_count_2 (by decide) (fun c_1 => ?_) (fun c_1 => ?_)
  · refine k_aload_n (pc := 9) C rfl 0 rfl dX1_count_9 ?_
    refine g_X1_7 (pc := 10) (x := (f_t 7)) C q_173 0 rfl rfl dX1_count_10 ?_
    refine k_iconst (pc := 13) C iconst_1 dX1_count_13 ?_
    refine k_iadd (pc := 14) C dX1_count_14 ?_
    refine k_sipush (pc := 15) C sipush_1000 dX1_count_15 ?_
    refine k_mmin (pc := 18) C q_607 q_499 q_24 q_500 ⟨Nat.le_of_ble_eq_true rfl, Nat.le_of_ble_eq_true rfl, Nat.le_refl _, Nat.le_refl _⟩ dX1_count_18 ?_
    exact K_14 (if 1000 < ((f_t 7) + 1) then 1000 else ((f_t 7) + 1)) (Eq.symm (if_pos c_1))
  · refine k_iconst (pc := 5) C iconst_0 dX1_count_5 ?_
    refine k_goto (pc := 6) (tgt := 21) C (by decide) dX1_count_6 ?_
    exact K_14 0 (Eq.symm (if_neg c_1))

theorem dX10_copyRow_0 : decode cX10_copyRow 0 = .ok (.aload_n 0, 1) := by decide +kernel
theorem dX10_copyRow_1 : decode cX10_copyRow 1 = .ok (.iconst 0, 1) := by decide +kernel
theorem dX10_copyRow_2 : decode cX10_copyRow 2 = .ok (.aload_n 1, 1) := by decide +kernel
theorem dX10_copyRow_3 : decode cX10_copyRow 3 = .ok (.iconst 0, 1) := by decide +kernel
theorem dX10_copyRow_4 : decode cX10_copyRow 4 = .ok (.aload_n 0, 1) := by decide +kernel
theorem dX10_copyRow_5 : decode cX10_copyRow 5 = .ok (.arraylength, 1) := by decide +kernel
theorem dX10_copyRow_6 : decode cX10_copyRow 6 = .ok (.aload_n 1, 1) := by decide +kernel
theorem dX10_copyRow_7 : decode cX10_copyRow 7 = .ok (.arraylength, 1) := by decide +kernel
theorem dX10_copyRow_8 : decode cX10_copyRow 8 = .ok (.invokestatic 225, 3) := by decide +kernel
theorem dX10_copyRow_11 : decode cX10_copyRow 11 = .ok (.invokestatic 277, 3) := by decide +kernel
theorem dX10_copyRow_14 : decode cX10_copyRow 14 = .ok (.return_, 1) := by decide +kernel
set_option maxRecDepth 100000 in
set_option maxHeartbeats 4000000 in
theorem c_X10_copyRow (l : Launch) (D : va_G) (cI cJ cO : ClassId) (h_p0 : Nat) (h_p1 : Nat) (n_p0 : Nat) (f_p0 : Nat → Int32) (f_p1 : Nat → Int32) (hn_p0 : n_p0 < 2 ^ 31) : kV l yX10_copyRow cX10_copyRow 2 1 18 D (kT cI cJ cO) [.ref h_p0, .ref h_p1] [(h_p0, iA cI n_p0 f_p0), (h_p1, iA cI n_p0 f_p1)] [(h_p0, iA cI n_p0 f_p0), (h_p1, iA cI n_p0 f_p0)] := by
  refine kV_of (own := RX10) (lv := [(0, .ref h_p0), (1, .ref h_p1)]) rfl rfl (by decide) (Nat.le_of_ble_eq_true rfl) ?_
  intro p e s m args below meth c Q A C hret
  refine k_aload_n (pc := 0) C rfl 0 rfl dX10_copyRow_0 ?_
  refine k_iconst (pc := 1) C iconst_0 dX10_copyRow_1 ?_
  refine k_aload_n (pc := 2) C rfl 1 rfl dX10_copyRow_2 ?_
  refine k_iconst (pc := 3) C iconst_0 dX10_copyRow_3 ?_
  refine k_aload_n (pc := 4) C rfl 0 rfl dX10_copyRow_4 ?_
  refine k_alen (pc := 5) (v := (nI n_p0)) C 0 0 rfl rfl rfl dX10_copyRow_5 ?_
  refine k_aload_n (pc := 6) C rfl 1 rfl dX10_copyRow_6 ?_
  refine k_alen (pc := 7) (v := (nI n_p0)) C 1 0 rfl rfl rfl dX10_copyRow_7 ?_
  refine k_mmin (pc := 8) C q_498 q_499 q_24 q_500 ⟨Nat.le_of_ble_eq_true rfl, Nat.le_of_ble_eq_true rfl, Nat.le_refl _, Nat.le_refl _⟩ dX10_copyRow_8 ?_
  refine k_copy (pc := 11) (ws2 := [(h_p0, iA cI n_p0 f_p0), (h_p1, iA cI n_p0 f_p0)]) C q_501 q_503 q_502 q_33 0 1 0 rfl rfl rfl hn_p0 (by split <;> rfl) rfl ⟨Nat.le_of_ble_eq_true rfl, Nat.le_of_ble_eq_true rfl⟩ dX10_copyRow_11 ?_
  exact k_finV (pc := 14) hret rfl dX10_copyRow_14

theorem dX3_copy_0 : decode cX3_copy 0 = .ok (.aload_n 1, 1) := by decide +kernel
theorem dX3_copy_1 : decode cX3_copy 1 = .ok (.getfield 15, 3) := by decide +kernel
theorem dX3_copy_4 : decode cX3_copy 4 = .ok (.aload_n 0, 1) := by decide +kernel
theorem dX3_copy_5 : decode cX3_copy 5 = .ok (.getfield 15, 3) := by decide +kernel
theorem dX3_copy_8 : decode cX3_copy 8 = .ok (.invokestatic 32, 3) := by decide +kernel
theorem dX3_copy_11 : decode cX3_copy 11 = .ok (.aload_n 0, 1) := by decide +kernel
theorem dX3_copy_12 : decode cX3_copy 12 = .ok (.aload_n 1, 1) := by decide +kernel
theorem dX3_copy_13 : decode cX3_copy 13 = .ok (.getfield 21, 3) := by decide +kernel
theorem dX3_copy_16 : decode cX3_copy 16 = .ok (.putfield 21, 3) := by decide +kernel
theorem dX3_copy_19 : decode cX3_copy 19 = .ok (.aload_n 0, 1) := by decide +kernel
theorem dX3_copy_20 : decode cX3_copy 20 = .ok (.aload_n 1, 1) := by decide +kernel
theorem dX3_copy_21 : decode cX3_copy 21 = .ok (.getfield 25, 3) := by decide +kernel
theorem dX3_copy_24 : decode cX3_copy 24 = .ok (.putfield 25, 3) := by decide +kernel
theorem dX3_copy_27 : decode cX3_copy 27 = .ok (.return_, 1) := by decide +kernel
def s_X3_copy (n_t_cells : Nat) (f_p0 : Nat → Int32) (f_t : Nat → Int32) (f_p0_cells : Nat → Int32) (f_t_cells : Nat → Int32) : (Nat → Int32) × (Nat → Int32) :=
  ((upd (upd f_t 1 (f_p0 1)) 2 (f_p0 2)), f_p0_cells)
set_option maxRecDepth 100000 in
set_option maxHeartbeats 4000000 in
theorem c_X3_copy (l : Launch) (D : va_G) (cI cJ cO : ClassId) (h_t : Nat) (h_p0 : Nat) (h_p0_cells : Nat) (h_t_cells : Nat) (n_t_cells : Nat) (f_p0 : Nat → Int32) (f_t : Nat → Int32) (f_p0_cells : Nat → Int32) (f_t_cells : Nat → Int32) (hn_t_cells : n_t_cells < 2 ^ 31) : kV l yX3_copy cX3_copy 2 2 39 D (kT cI cJ cO) [.ref h_t, .ref h_p0] [(h_p0, rgE f_p0 h_p0_cells), (h_t, rgE f_t h_t_cells), (h_p0_cells, iA cI n_t_cells f_p0_cells), (h_t_cells, iA cI n_t_cells f_t_cells)] [(h_p0, rgE f_p0 h_p0_cells), (h_t, rgE (s_X3_copy n_t_cells f_p0 f_t f_p0_cells f_t_cells).1 h_t_cells), (h_p0_cells, iA cI n_t_cells f_p0_cells), (h_t_cells, iA cI n_t_cells (s_X3_copy n_t_cells f_p0 f_t f_p0_cells f_t_cells).2)] := by
  refine kV_of (own := RX3) (lv := [(0, .ref h_t), (1, .ref h_p0)]) rfl rfl (by decide) (Nat.le_of_ble_eq_true rfl) ?_
  intro p e s m args below meth c Q A C hret
  refine k_aload_n (pc := 0) C rfl 1 rfl dX3_copy_0 ?_
  refine g_X3_0 (pc := 1) C q_226 0 rfl dX3_copy_1 ?_
  refine k_aload_n (pc := 4) C rfl 0 rfl dX3_copy_4 ?_
  refine g_X3_0 (pc := 5) C q_226 1 rfl dX3_copy_5 ?_
  refine k_callNv (pc := 8) (As := [.ref h_p0_cells, .ref h_t_cells]) (rest := []) (wc := [(h_p0_cells, iA cI n_t_cells f_p0_cells), (h_t_cells, iA cI n_t_cells f_t_cells)]) (wc2 := [(h_p0_cells, iA cI n_t_cells f_p0_cells), (h_t_cells, iA cI n_t_cells f_p0_cells)]) (ws2 := [(h_p0, rgE f_p0 h_p0_cells), (h_t, rgE f_t h_t_cells), (h_p0_cells, iA cI n_t_cells f_p0_cells), (h_t_cells, iA cI n_t_cells f_p0_cells)]) C (c_X10_copyRow l D cI cJ cO h_p0_cells h_t_cells n_t_cells f_p0_cells f_t_cells hn_t_cells) cws_X10_copyRow q_529 [2, 3] rfl rfl (by decide) rfl rfl (Nat.le_of_ble_eq_true rfl) ⟨Nat.le_of_ble_eq_true rfl, Nat.le_of_ble_eq_true rfl⟩ rfl ⟨Nat.le_refl _, Nat.le_refl _⟩ dX3_copy_8 ?_
  refine k_aload_n (pc := 11) C rfl 0 rfl dX3_copy_11 ?_
  refine k_aload_n (pc := 12) C rfl 1 rfl dX3_copy_12 ?_
  refine g_X3_1 (pc := 13) (x := (f_p0 1)) C q_227 0 rfl rfl dX3_copy_13 ?_
  refine p_X3_1 (pc := 16) (ws2 := [(h_p0, rgE f_p0 h_p0_cells), (h_t, rgE (upd f_t 1 (f_p0 1)) h_t_cells), (h_p0_cells, iA cI n_t_cells f_p0_cells), (h_t_cells, iA cI n_t_cells f_p0_cells)]) C q_227 1 rfl rfl dX3_copy_16 ?_
  refine k_aload_n (pc := 19) C rfl 0 rfl dX3_copy_19 ?_
  refine k_aload_n (pc := 20) C rfl 1 rfl dX3_copy_20 ?_
  refine g_X3_2 (pc := 21) (x := (f_p0 2)) C q_228 0 rfl rfl dX3_copy_21 ?_
  refine p_X3_2 (pc := 24) (ws2 := [(h_p0, rgE f_p0 h_p0_cells), (h_t, rgE (upd (upd f_t 1 (f_p0 1)) 2 (f_p0 2)) h_t_cells), (h_p0_cells, iA cI n_t_cells f_p0_cells), (h_t_cells, iA cI n_t_cells f_p0_cells)]) C q_228 1 rfl rfl dX3_copy_24 ?_
  have hs : (s_X3_copy n_t_cells f_p0 f_t f_p0_cells f_t_cells) = ((upd (upd f_t 1 (f_p0 1)) 2 (f_p0 2)), f_p0_cells) := rfl
  exact k_finV (pc := 27) hret (by rw [hs]) dX3_copy_27

theorem dX6_copy_0 : decode cX6_copy 0 = .ok (.aload_n 1, 1) := by decide +kernel
theorem dX6_copy_1 : decode cX6_copy 1 = .ok (.getfield 11, 3) := by decide +kernel
theorem dX6_copy_4 : decode cX6_copy 4 = .ok (.aload_n 0, 1) := by decide +kernel
theorem dX6_copy_5 : decode cX6_copy 5 = .ok (.getfield 11, 3) := by decide +kernel
theorem dX6_copy_8 : decode cX6_copy 8 = .ok (.invokestatic 31, 3) := by decide +kernel
theorem dX6_copy_11 : decode cX6_copy 11 = .ok (.aload_n 0, 1) := by decide +kernel
theorem dX6_copy_12 : decode cX6_copy 12 = .ok (.aload_n 1, 1) := by decide +kernel
theorem dX6_copy_13 : decode cX6_copy 13 = .ok (.getfield 15, 3) := by decide +kernel
theorem dX6_copy_16 : decode cX6_copy 16 = .ok (.putfield 15, 3) := by decide +kernel
theorem dX6_copy_19 : decode cX6_copy 19 = .ok (.return_, 1) := by decide +kernel
def s_X6_copy (f_p0 : Nat → Int32) (f_t : Nat → Int32) (f_p0_cells : Nat → Int32) (f_t_cells : Nat → Int32) : (Nat → Int32) × (Nat → Int32) :=
  ((upd f_t 1 (f_p0 1)), f_p0_cells)
set_option maxRecDepth 100000 in
set_option maxHeartbeats 4000000 in
theorem c_X6_copy (l : Launch) (D : va_G) (cI cJ cO : ClassId) (h_t : Nat) (h_p0 : Nat) (h_p0_cells : Nat) (h_t_cells : Nat) (f_p0 : Nat → Int32) (f_t : Nat → Int32) (f_p0_cells : Nat → Int32) (f_t_cells : Nat → Int32) : kV l yX6_copy cX6_copy 2 2 39 D (kT cI cJ cO) [.ref h_t, .ref h_p0] [(h_p0, sgE f_p0 h_p0_cells), (h_t, sgE f_t h_t_cells), (h_p0_cells, iA cI 48 f_p0_cells), (h_t_cells, iA cI 48 f_t_cells)] [(h_p0, sgE f_p0 h_p0_cells), (h_t, sgE (s_X6_copy f_p0 f_t f_p0_cells f_t_cells).1 h_t_cells), (h_p0_cells, iA cI 48 f_p0_cells), (h_t_cells, iA cI 48 (s_X6_copy f_p0 f_t f_p0_cells f_t_cells).2)] := by
  refine kV_of (own := RX6) (lv := [(0, .ref h_t), (1, .ref h_p0)]) rfl rfl (by decide) (Nat.le_of_ble_eq_true rfl) ?_
  intro p e s m args below meth c Q A C hret
  refine k_aload_n (pc := 0) C rfl 1 rfl dX6_copy_0 ?_
  refine g_X6_0 (pc := 1) C q_84 0 rfl dX6_copy_1 ?_
  refine k_aload_n (pc := 4) C rfl 0 rfl dX6_copy_4 ?_
  refine g_X6_0 (pc := 5) C q_84 1 rfl dX6_copy_5 ?_
  refine k_callNv (pc := 8) (As := [.ref h_p0_cells, .ref h_t_cells]) (rest := []) (wc := [(h_p0_cells, iA cI 48 f_p0_cells), (h_t_cells, iA cI 48 f_t_cells)]) (wc2 := [(h_p0_cells, iA cI 48 f_p0_cells), (h_t_cells, iA cI 48 f_p0_cells)]) (ws2 := [(h_p0, sgE f_p0 h_p0_cells), (h_t, sgE f_t h_t_cells), (h_p0_cells, iA cI 48 f_p0_cells), (h_t_cells, iA cI 48 f_p0_cells)]) C (c_X10_copyRow l D cI cJ cO h_p0_cells h_t_cells 48 f_p0_cells f_t_cells (by decide)) cws_X10_copyRow q_512 [2, 3] rfl rfl (by decide) rfl rfl (Nat.le_of_ble_eq_true rfl) ⟨Nat.le_of_ble_eq_true rfl, Nat.le_of_ble_eq_true rfl⟩ rfl ⟨Nat.le_refl _, Nat.le_refl _⟩ dX6_copy_8 ?_
  refine k_aload_n (pc := 11) C rfl 0 rfl dX6_copy_11 ?_
  refine k_aload_n (pc := 12) C rfl 1 rfl dX6_copy_12 ?_
  refine g_X6_1 (pc := 13) (x := (f_p0 1)) C q_85 0 rfl rfl dX6_copy_13 ?_
  refine p_X6_1 (pc := 16) (ws2 := [(h_p0, sgE f_p0 h_p0_cells), (h_t, sgE (upd f_t 1 (f_p0 1)) h_t_cells), (h_p0_cells, iA cI 48 f_p0_cells), (h_t_cells, iA cI 48 f_p0_cells)]) C q_85 1 rfl rfl dX6_copy_16 ?_
  have hs : (s_X6_copy f_p0 f_t f_p0_cells f_t_cells) = ((upd f_t 1 (f_p0 1)), f_p0_cells) := rfl
  exact k_finV (pc := 19) hret (by rw [hs]) dX6_copy_19

theorem dX4_copy_0 : decode cX4_copy 0 = .ok (.aload_n 0, 1) := by decide +kernel
theorem dX4_copy_1 : decode cX4_copy 1 = .ok (.aload_n 1, 1) := by decide +kernel
theorem dX4_copy_2 : decode cX4_copy 2 = .ok (.getfield 9, 3) := by decide +kernel
theorem dX4_copy_5 : decode cX4_copy 5 = .ok (.putfield 9, 3) := by decide +kernel
theorem dX4_copy_8 : decode cX4_copy 8 = .ok (.aload_n 0, 1) := by decide +kernel
theorem dX4_copy_9 : decode cX4_copy 9 = .ok (.aload_n 1, 1) := by decide +kernel
theorem dX4_copy_10 : decode cX4_copy 10 = .ok (.getfield 19, 3) := by decide +kernel
theorem dX4_copy_13 : decode cX4_copy 13 = .ok (.putfield 19, 3) := by decide +kernel
theorem dX4_copy_16 : decode cX4_copy 16 = .ok (.aload_n 0, 1) := by decide +kernel
theorem dX4_copy_17 : decode cX4_copy 17 = .ok (.aload_n 1, 1) := by decide +kernel
theorem dX4_copy_18 : decode cX4_copy 18 = .ok (.getfield 23, 3) := by decide +kernel
theorem dX4_copy_21 : decode cX4_copy 21 = .ok (.putfield 23, 3) := by decide +kernel
theorem dX4_copy_24 : decode cX4_copy 24 = .ok (.aload_n 0, 1) := by decide +kernel
theorem dX4_copy_25 : decode cX4_copy 25 = .ok (.aload_n 1, 1) := by decide +kernel
theorem dX4_copy_26 : decode cX4_copy 26 = .ok (.getfield 26, 3) := by decide +kernel
theorem dX4_copy_29 : decode cX4_copy 29 = .ok (.putfield 26, 3) := by decide +kernel
theorem dX4_copy_32 : decode cX4_copy 32 = .ok (.aload_n 0, 1) := by decide +kernel
theorem dX4_copy_33 : decode cX4_copy 33 = .ok (.aload_n 1, 1) := by decide +kernel
theorem dX4_copy_34 : decode cX4_copy 34 = .ok (.getfield 29, 3) := by decide +kernel
theorem dX4_copy_37 : decode cX4_copy 37 = .ok (.putfield 29, 3) := by decide +kernel
theorem dX4_copy_40 : decode cX4_copy 40 = .ok (.aload_n 0, 1) := by decide +kernel
theorem dX4_copy_41 : decode cX4_copy 41 = .ok (.aload_n 1, 1) := by decide +kernel
theorem dX4_copy_42 : decode cX4_copy 42 = .ok (.getfield 32, 3) := by decide +kernel
theorem dX4_copy_45 : decode cX4_copy 45 = .ok (.putfield 32, 3) := by decide +kernel
theorem dX4_copy_48 : decode cX4_copy 48 = .ok (.aload_n 0, 1) := by decide +kernel
theorem dX4_copy_49 : decode cX4_copy 49 = .ok (.aload_n 1, 1) := by decide +kernel
theorem dX4_copy_50 : decode cX4_copy 50 = .ok (.getfield 35, 3) := by decide +kernel
theorem dX4_copy_53 : decode cX4_copy 53 = .ok (.putfield 35, 3) := by decide +kernel
theorem dX4_copy_56 : decode cX4_copy 56 = .ok (.aload_n 0, 1) := by decide +kernel
theorem dX4_copy_57 : decode cX4_copy 57 = .ok (.aload_n 1, 1) := by decide +kernel
theorem dX4_copy_58 : decode cX4_copy 58 = .ok (.getfield 38, 3) := by decide +kernel
theorem dX4_copy_61 : decode cX4_copy 61 = .ok (.putfield 38, 3) := by decide +kernel
theorem dX4_copy_64 : decode cX4_copy 64 = .ok (.aload_n 0, 1) := by decide +kernel
theorem dX4_copy_65 : decode cX4_copy 65 = .ok (.aload_n 1, 1) := by decide +kernel
theorem dX4_copy_66 : decode cX4_copy 66 = .ok (.getfield 41, 3) := by decide +kernel
theorem dX4_copy_69 : decode cX4_copy 69 = .ok (.putfield 41, 3) := by decide +kernel
theorem dX4_copy_72 : decode cX4_copy 72 = .ok (.aload_n 0, 1) := by decide +kernel
theorem dX4_copy_73 : decode cX4_copy 73 = .ok (.aload_n 1, 1) := by decide +kernel
theorem dX4_copy_74 : decode cX4_copy 74 = .ok (.getfield 44, 3) := by decide +kernel
theorem dX4_copy_77 : decode cX4_copy 77 = .ok (.putfield 44, 3) := by decide +kernel
theorem dX4_copy_80 : decode cX4_copy 80 = .ok (.return_, 1) := by decide +kernel
def s_X4_copy (f_p0 : Nat → Int32) (f_t : Nat → Int32) : (Nat → Int32) :=
  (upd (upd (upd (upd (upd (upd (upd (upd (upd (upd f_t 0 (f_p0 0)) 1 (f_p0 1)) 2 (f_p0 2)) 3 (f_p0 3)) 4 (f_p0 4)) 5 (f_p0 5)) 6 (f_p0 6)) 7 (f_p0 7)) 8 (f_p0 8)) 9 (f_p0 9))
set_option maxRecDepth 100000 in
set_option maxHeartbeats 4000000 in
theorem c_X4_copy (l : Launch) (D : va_G) (cI cJ cO : ClassId) (h_t : Nat) (h_p0 : Nat) (f_p0 : Nat → Int32) (f_t : Nat → Int32) (hb_p0_1 : kb (f_p0 1)) : kV l yX4_copy cX4_copy 2 0 0 D (kT cI cJ cO) [.ref h_t, .ref h_p0] [(h_p0, ruE f_p0), (h_t, ruE f_t)] [(h_p0, ruE f_p0), (h_t, ruE (s_X4_copy f_p0 f_t))] := by
  refine kV_of (own := RX4) (lv := [(0, .ref h_t), (1, .ref h_p0)]) rfl rfl (by decide) (Nat.le_of_ble_eq_true rfl) ?_
  intro p e s m args below meth c Q A C hret
  refine k_aload_n (pc := 0) C rfl 0 rfl dX4_copy_0 ?_
  refine k_aload_n (pc := 1) C rfl 1 rfl dX4_copy_1 ?_
  refine g_X4_0 (pc := 2) (x := (f_p0 0)) C q_100 0 rfl rfl dX4_copy_2 ?_
  refine p_X4_0 (pc := 5) (ws2 := [(h_p0, ruE f_p0), (h_t, ruE (upd f_t 0 (f_p0 0)))]) C q_100 1 rfl rfl dX4_copy_5 ?_
  refine k_aload_n (pc := 8) C rfl 0 rfl dX4_copy_8 ?_
  refine k_aload_n (pc := 9) C rfl 1 rfl dX4_copy_9 ?_
  refine g_X4_1 (pc := 10) (x := (f_p0 1)) C q_103 0 rfl rfl dX4_copy_10 ?_
  refine p_X4_1 (pc := 13) (ws2 := [(h_p0, ruE f_p0), (h_t, ruE (upd (upd f_t 0 (f_p0 0)) 1 (f_p0 1)))]) C q_103 hb_p0_1 1 rfl rfl dX4_copy_13 ?_
  refine k_aload_n (pc := 16) C rfl 0 rfl dX4_copy_16 ?_
  refine k_aload_n (pc := 17) C rfl 1 rfl dX4_copy_17 ?_
  refine g_X4_2 (pc := 18) (x := (f_p0 2)) C q_108 0 rfl rfl dX4_copy_18 ?_
  refine p_X4_2 (pc := 21) (ws2 := [(h_p0, ruE f_p0), (h_t, ruE (upd (upd (upd f_t 0 (f_p0 0)) 1 (f_p0 1)) 2 (f_p0 2)))]) C q_108 1 rfl rfl dX4_copy_21 ?_
  refine k_aload_n (pc := 24) C rfl 0 rfl dX4_copy_24 ?_
  refine k_aload_n (pc := 25) C rfl 1 rfl dX4_copy_25 ?_
  refine g_X4_3 (pc := 26) (x := (f_p0 3)) C q_111 0 rfl rfl dX4_copy_26 ?_
  refine p_X4_3 (pc := 29) (ws2 := [(h_p0, ruE f_p0), (h_t, ruE (upd (upd (upd (upd f_t 0 (f_p0 0)) 1 (f_p0 1)) 2 (f_p0 2)) 3 (f_p0 3)))]) C q_111 1 rfl rfl dX4_copy_29 ?_
  refine k_aload_n (pc := 32) C rfl 0 rfl dX4_copy_32 ?_
  refine k_aload_n (pc := 33) C rfl 1 rfl dX4_copy_33 ?_
  refine g_X4_4 (pc := 34) (x := (f_p0 4)) C q_114 0 rfl rfl dX4_copy_34 ?_
  refine p_X4_4 (pc := 37) (ws2 := [(h_p0, ruE f_p0), (h_t, ruE (upd (upd (upd (upd (upd f_t 0 (f_p0 0)) 1 (f_p0 1)) 2 (f_p0 2)) 3 (f_p0 3)) 4 (f_p0 4)))]) C q_114 1 rfl rfl dX4_copy_37 ?_
  refine k_aload_n (pc := 40) C rfl 0 rfl dX4_copy_40 ?_
  refine k_aload_n (pc := 41) C rfl 1 rfl dX4_copy_41 ?_
  refine g_X4_5 (pc := 42) (x := (f_p0 5)) C q_115 0 rfl rfl dX4_copy_42 ?_
  refine p_X4_5 (pc := 45) (ws2 := [(h_p0, ruE f_p0), (h_t, ruE (upd (upd (upd (upd (upd (upd f_t 0 (f_p0 0)) 1 (f_p0 1)) 2 (f_p0 2)) 3 (f_p0 3)) 4 (f_p0 4)) 5 (f_p0 5)))]) C q_115 1 rfl rfl dX4_copy_45 ?_
  refine k_aload_n (pc := 48) C rfl 0 rfl dX4_copy_48 ?_
  refine k_aload_n (pc := 49) C rfl 1 rfl dX4_copy_49 ?_
  refine g_X4_6 (pc := 50) (x := (f_p0 6)) C q_118 0 rfl rfl dX4_copy_50 ?_
  refine p_X4_6 (pc := 53) (ws2 := [(h_p0, ruE f_p0), (h_t, ruE (upd (upd (upd (upd (upd (upd (upd f_t 0 (f_p0 0)) 1 (f_p0 1)) 2 (f_p0 2)) 3 (f_p0 3)) 4 (f_p0 4)) 5 (f_p0 5)) 6 (f_p0 6)))]) C q_118 1 rfl rfl dX4_copy_53 ?_
  refine k_aload_n (pc := 56) C rfl 0 rfl dX4_copy_56 ?_
  refine k_aload_n (pc := 57) C rfl 1 rfl dX4_copy_57 ?_
  refine g_X4_7 (pc := 58) (x := (f_p0 7)) C q_121 0 rfl rfl dX4_copy_58 ?_
  refine p_X4_7 (pc := 61) (ws2 := [(h_p0, ruE f_p0), (h_t, ruE (upd (upd (upd (upd (upd (upd (upd (upd f_t 0 (f_p0 0)) 1 (f_p0 1)) 2 (f_p0 2)) 3 (f_p0 3)) 4 (f_p0 4)) 5 (f_p0 5)) 6 (f_p0 6)) 7 (f_p0 7)))]) C q_121 1 rfl rfl dX4_copy_61 ?_
  refine k_aload_n (pc := 64) C rfl 0 rfl dX4_copy_64 ?_
  refine k_aload_n (pc := 65) C rfl 1 rfl dX4_copy_65 ?_
  refine g_X4_8 (pc := 66) (x := (f_p0 8)) C q_124 0 rfl rfl dX4_copy_66 ?_
  refine p_X4_8 (pc := 69) (ws2 := [(h_p0, ruE f_p0), (h_t, ruE (upd (upd (upd (upd (upd (upd (upd (upd (upd f_t 0 (f_p0 0)) 1 (f_p0 1)) 2 (f_p0 2)) 3 (f_p0 3)) 4 (f_p0 4)) 5 (f_p0 5)) 6 (f_p0 6)) 7 (f_p0 7)) 8 (f_p0 8)))]) C q_124 1 rfl rfl dX4_copy_69 ?_
  refine k_aload_n (pc := 72) C rfl 0 rfl dX4_copy_72 ?_
  refine k_aload_n (pc := 73) C rfl 1 rfl dX4_copy_73 ?_
  refine g_X4_9 (pc := 74) (x := (f_p0 9)) C q_126 0 rfl rfl dX4_copy_74 ?_
  refine p_X4_9 (pc := 77) (ws2 := [(h_p0, ruE f_p0), (h_t, ruE (upd (upd (upd (upd (upd (upd (upd (upd (upd (upd f_t 0 (f_p0 0)) 1 (f_p0 1)) 2 (f_p0 2)) 3 (f_p0 3)) 4 (f_p0 4)) 5 (f_p0 5)) 6 (f_p0 6)) 7 (f_p0 7)) 8 (f_p0 8)) 9 (f_p0 9)))]) C q_126 1 rfl rfl dX4_copy_77 ?_
  have hs : (s_X4_copy f_p0 f_t) = (upd (upd (upd (upd (upd (upd (upd (upd (upd (upd f_t 0 (f_p0 0)) 1 (f_p0 1)) 2 (f_p0 2)) 3 (f_p0 3)) 4 (f_p0 4)) 5 (f_p0 5)) 6 (f_p0 6)) 7 (f_p0 7)) 8 (f_p0 8)) 9 (f_p0 9)) := rfl
  exact k_finV (pc := 80) hret (by rw [hs]) dX4_copy_80

theorem dX1_copy_0 : decode cX1_copy 0 = .ok (.aload_n 0, 1) := by decide +kernel
theorem dX1_copy_1 : decode cX1_copy 1 = .ok (.aload_n 1, 1) := by decide +kernel
theorem dX1_copy_2 : decode cX1_copy 2 = .ok (.getfield 9, 3) := by decide +kernel
theorem dX1_copy_5 : decode cX1_copy 5 = .ok (.putfield 9, 3) := by decide +kernel
theorem dX1_copy_8 : decode cX1_copy 8 = .ok (.aload_n 0, 1) := by decide +kernel
theorem dX1_copy_9 : decode cX1_copy 9 = .ok (.aload_n 1, 1) := by decide +kernel
theorem dX1_copy_10 : decode cX1_copy 10 = .ok (.getfield 15, 3) := by decide +kernel
theorem dX1_copy_13 : decode cX1_copy 13 = .ok (.putfield 15, 3) := by decide +kernel
theorem dX1_copy_16 : decode cX1_copy 16 = .ok (.aload_n 0, 1) := by decide +kernel
theorem dX1_copy_17 : decode cX1_copy 17 = .ok (.aload_n 1, 1) := by decide +kernel
theorem dX1_copy_18 : decode cX1_copy 18 = .ok (.getfield 18, 3) := by decide +kernel
theorem dX1_copy_21 : decode cX1_copy 21 = .ok (.putfield 18, 3) := by decide +kernel
theorem dX1_copy_24 : decode cX1_copy 24 = .ok (.aload_n 0, 1) := by decide +kernel
theorem dX1_copy_25 : decode cX1_copy 25 = .ok (.aload_n 1, 1) := by decide +kernel
theorem dX1_copy_26 : decode cX1_copy 26 = .ok (.getfield 21, 3) := by decide +kernel
theorem dX1_copy_29 : decode cX1_copy 29 = .ok (.putfield 21, 3) := by decide +kernel
theorem dX1_copy_32 : decode cX1_copy 32 = .ok (.aload_n 0, 1) := by decide +kernel
theorem dX1_copy_33 : decode cX1_copy 33 = .ok (.aload_n 1, 1) := by decide +kernel
theorem dX1_copy_34 : decode cX1_copy 34 = .ok (.getfield 62, 3) := by decide +kernel
theorem dX1_copy_37 : decode cX1_copy 37 = .ok (.putfield 62, 3) := by decide +kernel
theorem dX1_copy_40 : decode cX1_copy 40 = .ok (.aload_n 0, 1) := by decide +kernel
theorem dX1_copy_41 : decode cX1_copy 41 = .ok (.aload_n 1, 1) := by decide +kernel
theorem dX1_copy_42 : decode cX1_copy 42 = .ok (.getfield 66, 3) := by decide +kernel
theorem dX1_copy_45 : decode cX1_copy 45 = .ok (.putfield 66, 3) := by decide +kernel
theorem dX1_copy_48 : decode cX1_copy 48 = .ok (.aload_n 0, 1) := by decide +kernel
theorem dX1_copy_49 : decode cX1_copy 49 = .ok (.aload_n 1, 1) := by decide +kernel
theorem dX1_copy_50 : decode cX1_copy 50 = .ok (.getfield 59, 3) := by decide +kernel
theorem dX1_copy_53 : decode cX1_copy 53 = .ok (.putfield 59, 3) := by decide +kernel
theorem dX1_copy_56 : decode cX1_copy 56 = .ok (.aload_n 0, 1) := by decide +kernel
theorem dX1_copy_57 : decode cX1_copy 57 = .ok (.aload_n 1, 1) := by decide +kernel
theorem dX1_copy_58 : decode cX1_copy 58 = .ok (.getfield 24, 3) := by decide +kernel
theorem dX1_copy_61 : decode cX1_copy 61 = .ok (.putfield 24, 3) := by decide +kernel
theorem dX1_copy_64 : decode cX1_copy 64 = .ok (.aload_n 0, 1) := by decide +kernel
theorem dX1_copy_65 : decode cX1_copy 65 = .ok (.aload_n 1, 1) := by decide +kernel
theorem dX1_copy_66 : decode cX1_copy 66 = .ok (.getfield 27, 3) := by decide +kernel
theorem dX1_copy_69 : decode cX1_copy 69 = .ok (.putfield 27, 3) := by decide +kernel
theorem dX1_copy_72 : decode cX1_copy 72 = .ok (.aload_n 0, 1) := by decide +kernel
theorem dX1_copy_73 : decode cX1_copy 73 = .ok (.aload_n 1, 1) := by decide +kernel
theorem dX1_copy_74 : decode cX1_copy 74 = .ok (.getfield 44, 3) := by decide +kernel
theorem dX1_copy_77 : decode cX1_copy 77 = .ok (.putfield 44, 3) := by decide +kernel
theorem dX1_copy_80 : decode cX1_copy 80 = .ok (.aload_n 0, 1) := by decide +kernel
theorem dX1_copy_81 : decode cX1_copy 81 = .ok (.aload_n 1, 1) := by decide +kernel
theorem dX1_copy_82 : decode cX1_copy 82 = .ok (.getfield 47, 3) := by decide +kernel
theorem dX1_copy_85 : decode cX1_copy 85 = .ok (.putfield 47, 3) := by decide +kernel
theorem dX1_copy_88 : decode cX1_copy 88 = .ok (.aload_n 0, 1) := by decide +kernel
theorem dX1_copy_89 : decode cX1_copy 89 = .ok (.aload_n 1, 1) := by decide +kernel
theorem dX1_copy_90 : decode cX1_copy 90 = .ok (.getfield 50, 3) := by decide +kernel
theorem dX1_copy_93 : decode cX1_copy 93 = .ok (.putfield 50, 3) := by decide +kernel
theorem dX1_copy_96 : decode cX1_copy 96 = .ok (.aload_n 0, 1) := by decide +kernel
theorem dX1_copy_97 : decode cX1_copy 97 = .ok (.aload_n 1, 1) := by decide +kernel
theorem dX1_copy_98 : decode cX1_copy 98 = .ok (.getfield 53, 3) := by decide +kernel
theorem dX1_copy_101 : decode cX1_copy 101 = .ok (.putfield 53, 3) := by decide +kernel
theorem dX1_copy_104 : decode cX1_copy 104 = .ok (.aload_n 0, 1) := by decide +kernel
theorem dX1_copy_105 : decode cX1_copy 105 = .ok (.aload_n 1, 1) := by decide +kernel
theorem dX1_copy_106 : decode cX1_copy 106 = .ok (.getfield 56, 3) := by decide +kernel
theorem dX1_copy_109 : decode cX1_copy 109 = .ok (.putfield 56, 3) := by decide +kernel
theorem dX1_copy_112 : decode cX1_copy 112 = .ok (.return_, 1) := by decide +kernel
def s_X1_copy (f_p0 : Nat → Int32) (f_t : Nat → Int32) : (Nat → Int32) :=
  (upd (upd (upd (upd (upd (upd (upd (upd (upd (upd (upd (upd (upd (upd f_t 0 (f_p0 0)) 1 (f_p0 1)) 2 (f_p0 2)) 3 (f_p0 3)) 4 (f_p0 4)) 5 (f_p0 5)) 6 (f_p0 6)) 7 (f_p0 7)) 8 (f_p0 8)) 9 (f_p0 9)) 10 (f_p0 10)) 11 (f_p0 11)) 12 (f_p0 12)) 13 (f_p0 13))
set_option maxRecDepth 100000 in
set_option maxHeartbeats 4000000 in
theorem c_X1_copy (l : Launch) (D : va_G) (cI cJ cO : ClassId) (h_t : Nat) (h_p0 : Nat) (f_p0 : Nat → Int32) (f_t : Nat → Int32) (hb_p0_4 : kb (f_p0 4)) (hb_p0_5 : kb (f_p0 5)) : kV l yX1_copy cX1_copy 2 0 0 D (kT cI cJ cO) [.ref h_t, .ref h_p0] [(h_p0, clE f_p0), (h_t, clE f_t)] [(h_p0, clE f_p0), (h_t, clE (s_X1_copy f_p0 f_t))] := by
  refine kV_of (own := RX1) (lv := [(0, .ref h_t), (1, .ref h_p0)]) rfl rfl (by decide) (Nat.le_of_ble_eq_true rfl) ?_
  intro p e s m args below meth c Q A C hret
  refine k_aload_n (pc := 0) C rfl 0 rfl dX1_copy_0 ?_
  refine k_aload_n (pc := 1) C rfl 1 rfl dX1_copy_1 ?_
  refine g_X1_0 (pc := 2) (x := (f_p0 0)) C q_154 0 rfl rfl dX1_copy_2 ?_
  refine p_X1_0 (pc := 5) (ws2 := [(h_p0, clE f_p0), (h_t, clE (upd f_t 0 (f_p0 0)))]) C q_154 1 rfl rfl dX1_copy_5 ?_
  refine k_aload_n (pc := 8) C rfl 0 rfl dX1_copy_8 ?_
  refine k_aload_n (pc := 9) C rfl 1 rfl dX1_copy_9 ?_
  refine g_X1_1 (pc := 10) (x := (f_p0 1)) C q_157 0 rfl rfl dX1_copy_10 ?_
  refine p_X1_1 (pc := 13) (ws2 := [(h_p0, clE f_p0), (h_t, clE (upd (upd f_t 0 (f_p0 0)) 1 (f_p0 1)))]) C q_157 1 rfl rfl dX1_copy_13 ?_
  refine k_aload_n (pc := 16) C rfl 0 rfl dX1_copy_16 ?_
  refine k_aload_n (pc := 17) C rfl 1 rfl dX1_copy_17 ?_
  refine g_X1_2 (pc := 18) (x := (f_p0 2)) C q_160 0 rfl rfl dX1_copy_18 ?_
  refine p_X1_2 (pc := 21) (ws2 := [(h_p0, clE f_p0), (h_t, clE (upd (upd (upd f_t 0 (f_p0 0)) 1 (f_p0 1)) 2 (f_p0 2)))]) C q_160 1 rfl rfl dX1_copy_21 ?_
  refine k_aload_n (pc := 24) C rfl 0 rfl dX1_copy_24 ?_
  refine k_aload_n (pc := 25) C rfl 1 rfl dX1_copy_25 ?_
  refine g_X1_3 (pc := 26) (x := (f_p0 3)) C q_163 0 rfl rfl dX1_copy_26 ?_
  refine p_X1_3 (pc := 29) (ws2 := [(h_p0, clE f_p0), (h_t, clE (upd (upd (upd (upd f_t 0 (f_p0 0)) 1 (f_p0 1)) 2 (f_p0 2)) 3 (f_p0 3)))]) C q_163 1 rfl rfl dX1_copy_29 ?_
  refine k_aload_n (pc := 32) C rfl 0 rfl dX1_copy_32 ?_
  refine k_aload_n (pc := 33) C rfl 1 rfl dX1_copy_33 ?_
  refine g_X1_4 (pc := 34) (x := (f_p0 4)) C q_168 0 rfl rfl dX1_copy_34 ?_
  refine p_X1_4 (pc := 37) (ws2 := [(h_p0, clE f_p0), (h_t, clE (upd (upd (upd (upd (upd f_t 0 (f_p0 0)) 1 (f_p0 1)) 2 (f_p0 2)) 3 (f_p0 3)) 4 (f_p0 4)))]) C q_168 hb_p0_4 1 rfl rfl dX1_copy_37 ?_
  refine k_aload_n (pc := 40) C rfl 0 rfl dX1_copy_40 ?_
  refine k_aload_n (pc := 41) C rfl 1 rfl dX1_copy_41 ?_
  refine g_X1_5 (pc := 42) (x := (f_p0 5)) C q_170 0 rfl rfl dX1_copy_42 ?_
  refine p_X1_5 (pc := 45) (ws2 := [(h_p0, clE f_p0), (h_t, clE (upd (upd (upd (upd (upd (upd f_t 0 (f_p0 0)) 1 (f_p0 1)) 2 (f_p0 2)) 3 (f_p0 3)) 4 (f_p0 4)) 5 (f_p0 5)))]) C q_170 hb_p0_5 1 rfl rfl dX1_copy_45 ?_
  refine k_aload_n (pc := 48) C rfl 0 rfl dX1_copy_48 ?_
  refine k_aload_n (pc := 49) C rfl 1 rfl dX1_copy_49 ?_
  refine g_X1_6 (pc := 50) (x := (f_p0 6)) C q_172 0 rfl rfl dX1_copy_50 ?_
  refine p_X1_6 (pc := 53) (ws2 := [(h_p0, clE f_p0), (h_t, clE (upd (upd (upd (upd (upd (upd (upd f_t 0 (f_p0 0)) 1 (f_p0 1)) 2 (f_p0 2)) 3 (f_p0 3)) 4 (f_p0 4)) 5 (f_p0 5)) 6 (f_p0 6)))]) C q_172 1 rfl rfl dX1_copy_53 ?_
  refine k_aload_n (pc := 56) C rfl 0 rfl dX1_copy_56 ?_
  refine k_aload_n (pc := 57) C rfl 1 rfl dX1_copy_57 ?_
  refine g_X1_7 (pc := 58) (x := (f_p0 7)) C q_173 0 rfl rfl dX1_copy_58 ?_
  refine p_X1_7 (pc := 61) (ws2 := [(h_p0, clE f_p0), (h_t, clE (upd (upd (upd (upd (upd (upd (upd (upd f_t 0 (f_p0 0)) 1 (f_p0 1)) 2 (f_p0 2)) 3 (f_p0 3)) 4 (f_p0 4)) 5 (f_p0 5)) 6 (f_p0 6)) 7 (f_p0 7)))]) C q_173 1 rfl rfl dX1_copy_61 ?_
  refine k_aload_n (pc := 64) C rfl 0 rfl dX1_copy_64 ?_
  refine k_aload_n (pc := 65) C rfl 1 rfl dX1_copy_65 ?_
  refine g_X1_8 (pc := 66) (x := (f_p0 8)) C q_175 0 rfl rfl dX1_copy_66 ?_
  refine p_X1_8 (pc := 69) (ws2 := [(h_p0, clE f_p0), (h_t, clE (upd (upd (upd (upd (upd (upd (upd (upd (upd f_t 0 (f_p0 0)) 1 (f_p0 1)) 2 (f_p0 2)) 3 (f_p0 3)) 4 (f_p0 4)) 5 (f_p0 5)) 6 (f_p0 6)) 7 (f_p0 7)) 8 (f_p0 8)))]) C q_175 1 rfl rfl dX1_copy_69 ?_
  refine k_aload_n (pc := 72) C rfl 0 rfl dX1_copy_72 ?_
  refine k_aload_n (pc := 73) C rfl 1 rfl dX1_copy_73 ?_
  refine g_X1_9 (pc := 74) (x := (f_p0 9)) C q_177 0 rfl rfl dX1_copy_74 ?_
  refine p_X1_9 (pc := 77) (ws2 := [(h_p0, clE f_p0), (h_t, clE (upd (upd (upd (upd (upd (upd (upd (upd (upd (upd f_t 0 (f_p0 0)) 1 (f_p0 1)) 2 (f_p0 2)) 3 (f_p0 3)) 4 (f_p0 4)) 5 (f_p0 5)) 6 (f_p0 6)) 7 (f_p0 7)) 8 (f_p0 8)) 9 (f_p0 9)))]) C q_177 1 rfl rfl dX1_copy_77 ?_
  refine k_aload_n (pc := 80) C rfl 0 rfl dX1_copy_80 ?_
  refine k_aload_n (pc := 81) C rfl 1 rfl dX1_copy_81 ?_
  refine g_X1_10 (pc := 82) (x := (f_p0 10)) C q_178 0 rfl rfl dX1_copy_82 ?_
  refine p_X1_10 (pc := 85) (ws2 := [(h_p0, clE f_p0), (h_t, clE (upd (upd (upd (upd (upd (upd (upd (upd (upd (upd (upd f_t 0 (f_p0 0)) 1 (f_p0 1)) 2 (f_p0 2)) 3 (f_p0 3)) 4 (f_p0 4)) 5 (f_p0 5)) 6 (f_p0 6)) 7 (f_p0 7)) 8 (f_p0 8)) 9 (f_p0 9)) 10 (f_p0 10)))]) C q_178 1 rfl rfl dX1_copy_85 ?_
  refine k_aload_n (pc := 88) C rfl 0 rfl dX1_copy_88 ?_
  refine k_aload_n (pc := 89) C rfl 1 rfl dX1_copy_89 ?_
  refine g_X1_11 (pc := 90) (x := (f_p0 11)) C q_179 0 rfl rfl dX1_copy_90 ?_
  refine p_X1_11 (pc := 93) (ws2 := [(h_p0, clE f_p0), (h_t, clE (upd (upd (upd (upd (upd (upd (upd (upd (upd (upd (upd (upd f_t 0 (f_p0 0)) 1 (f_p0 1)) 2 (f_p0 2)) 3 (f_p0 3)) 4 (f_p0 4)) 5 (f_p0 5)) 6 (f_p0 6)) 7 (f_p0 7)) 8 (f_p0 8)) 9 (f_p0 9)) 10 (f_p0 10)) 11 (f_p0 11)))]) C q_179 1 rfl rfl dX1_copy_93 ?_
  refine k_aload_n (pc := 96) C rfl 0 rfl dX1_copy_96 ?_
  refine k_aload_n (pc := 97) C rfl 1 rfl dX1_copy_97 ?_
  refine g_X1_12 (pc := 98) (x := (f_p0 12)) C q_180 0 rfl rfl dX1_copy_98 ?_
  refine p_X1_12 (pc := 101) (ws2 := [(h_p0, clE f_p0), (h_t, clE (upd (upd (upd (upd (upd (upd (upd (upd (upd (upd (upd (upd (upd f_t 0 (f_p0 0)) 1 (f_p0 1)) 2 (f_p0 2)) 3 (f_p0 3)) 4 (f_p0 4)) 5 (f_p0 5)) 6 (f_p0 6)) 7 (f_p0 7)) 8 (f_p0 8)) 9 (f_p0 9)) 10 (f_p0 10)) 11 (f_p0 11)) 12 (f_p0 12)))]) C q_180 1 rfl rfl dX1_copy_101 ?_
  refine k_aload_n (pc := 104) C rfl 0 rfl dX1_copy_104 ?_
  refine k_aload_n (pc := 105) C rfl 1 rfl dX1_copy_105 ?_
  refine g_X1_13 (pc := 106) (x := (f_p0 13)) C q_181 0 rfl rfl dX1_copy_106 ?_
  refine p_X1_13 (pc := 109) (ws2 := [(h_p0, clE f_p0), (h_t, clE (upd (upd (upd (upd (upd (upd (upd (upd (upd (upd (upd (upd (upd (upd f_t 0 (f_p0 0)) 1 (f_p0 1)) 2 (f_p0 2)) 3 (f_p0 3)) 4 (f_p0 4)) 5 (f_p0 5)) 6 (f_p0 6)) 7 (f_p0 7)) 8 (f_p0 8)) 9 (f_p0 9)) 10 (f_p0 10)) 11 (f_p0 11)) 12 (f_p0 12)) 13 (f_p0 13)))]) C q_181 1 rfl rfl dX1_copy_109 ?_
  have hs : (s_X1_copy f_p0 f_t) = (upd (upd (upd (upd (upd (upd (upd (upd (upd (upd (upd (upd (upd (upd f_t 0 (f_p0 0)) 1 (f_p0 1)) 2 (f_p0 2)) 3 (f_p0 3)) 4 (f_p0 4)) 5 (f_p0 5)) 6 (f_p0 6)) 7 (f_p0 7)) 8 (f_p0 8)) 9 (f_p0 9)) 10 (f_p0 10)) 11 (f_p0 11)) 12 (f_p0 12)) 13 (f_p0 13)) := rfl
  exact k_finV (pc := 112) hret (by rw [hs]) dX1_copy_112

theorem dX1_tally_0 : decode cX1_tally 0 = .ok (.iload_n 1, 1) := by decide +kernel
theorem dX1_tally_1 : decode cX1_tally 1 = .ok (.tableswitch 87 13 20 #[47, 52, 57, 62, 67, 72, 77, 82], 47) := by decide +kernel
theorem dX1_tally_48 : decode cX1_tally 48 = .ok (.aload_n 0, 1) := by decide +kernel
theorem dX1_tally_49 : decode cX1_tally 49 = .ok (.getfield 44, 3) := by decide +kernel
theorem dX1_tally_52 : decode cX1_tally 52 = .ok (.ireturn, 1) := by decide +kernel
theorem dX1_tally_53 : decode cX1_tally 53 = .ok (.aload_n 0, 1) := by decide +kernel
theorem dX1_tally_54 : decode cX1_tally 54 = .ok (.getfield 47, 3) := by decide +kernel
theorem dX1_tally_57 : decode cX1_tally 57 = .ok (.ireturn, 1) := by decide +kernel
theorem dX1_tally_58 : decode cX1_tally 58 = .ok (.aload_n 0, 1) := by decide +kernel
theorem dX1_tally_59 : decode cX1_tally 59 = .ok (.getfield 50, 3) := by decide +kernel
theorem dX1_tally_62 : decode cX1_tally 62 = .ok (.ireturn, 1) := by decide +kernel
theorem dX1_tally_63 : decode cX1_tally 63 = .ok (.aload_n 0, 1) := by decide +kernel
theorem dX1_tally_64 : decode cX1_tally 64 = .ok (.getfield 53, 3) := by decide +kernel
theorem dX1_tally_67 : decode cX1_tally 67 = .ok (.ireturn, 1) := by decide +kernel
theorem dX1_tally_68 : decode cX1_tally 68 = .ok (.aload_n 0, 1) := by decide +kernel
theorem dX1_tally_69 : decode cX1_tally 69 = .ok (.getfield 59, 3) := by decide +kernel
theorem dX1_tally_72 : decode cX1_tally 72 = .ok (.ireturn, 1) := by decide +kernel
theorem dX1_tally_73 : decode cX1_tally 73 = .ok (.aload_n 0, 1) := by decide +kernel
theorem dX1_tally_74 : decode cX1_tally 74 = .ok (.getfield 24, 3) := by decide +kernel
theorem dX1_tally_77 : decode cX1_tally 77 = .ok (.ireturn, 1) := by decide +kernel
theorem dX1_tally_78 : decode cX1_tally 78 = .ok (.aload_n 0, 1) := by decide +kernel
theorem dX1_tally_79 : decode cX1_tally 79 = .ok (.getfield 27, 3) := by decide +kernel
theorem dX1_tally_82 : decode cX1_tally 82 = .ok (.ireturn, 1) := by decide +kernel
theorem dX1_tally_83 : decode cX1_tally 83 = .ok (.aload_n 0, 1) := by decide +kernel
theorem dX1_tally_84 : decode cX1_tally 84 = .ok (.getfield 56, 3) := by decide +kernel
theorem dX1_tally_87 : decode cX1_tally 87 = .ok (.ireturn, 1) := by decide +kernel
theorem dX1_tally_88 : decode cX1_tally 88 = .ok (.sipush (-10000), 3) := by decide +kernel
theorem dX1_tally_91 : decode cX1_tally 91 = .ok (.ireturn, 1) := by decide +kernel
def s_X1_tally (f_t : Nat → Int32) (p0 : Int32) : Int32 :=
  (if p0 = 13 then (f_t 9) else (if p0 = 14 then (f_t 10) else (if p0 = 15 then (f_t 11) else (if p0 = 16 then (f_t 12) else (if p0 = 17 then (f_t 6) else (if p0 = 18 then (f_t 7) else (if p0 = 19 then (f_t 8) else (if p0 = 20 then (f_t 13) else (-10000)))))))))
set_option maxRecDepth 100000 in
set_option maxHeartbeats 4000000 in
theorem c_X1_tally (l : Launch) (D : va_G) (cI cJ cO : ClassId) (h_t : Nat) (f_t : Nat → Int32) (p0 : Int32) : kI l yX1_tally cX1_tally 2 .int 0 0 D (kT cI cJ cO) [.ref h_t, .int p0] [(h_t, clE f_t)] (s_X1_tally f_t p0) [(h_t, clE f_t)] := by
  refine kI_of (own := RX1) (lv := [(0, .ref h_t), (1, .int p0)]) rfl rfl (by decide) (Nat.le_of_ble_eq_true rfl) ?_
  intro p e s m args below meth c Q A C hret
  refine k_iload_n (pc := 0) C rfl 1 rfl dX1_tally_0 ?_
  by_cases c_1 : p0 = 13
  · refine k_tsIn (pc := 1) (tgt := 48) C 13 c_1 (by decide) (by decide) rfl (by decide) dX1_tally_1 ?_
    refine k_aload_n (pc := 48) C rfl 0 rfl dX1_tally_48 ?_
    refine g_X1_9 (pc := 49) (x := (f_t 9)) C q_177 0 rfl rfl dX1_tally_49 ?_
    have hs : (s_X1_tally f_t p0) = (f_t 9) := (if_pos c_1)
    exact k_finI (pc := 52) hret rfl (by rw [hs]) rfl dX1_tally_52
  · by_cases c_2 : p0 = 14
    · refine k_tsIn (pc := 1) (tgt := 53) C 14 c_2 (by decide) (by decide) rfl (by decide) dX1_tally_1 ?_
      refine k_aload_n (pc := 53) C rfl 0 rfl dX1_tally_53 ?_
      refine g_X1_10 (pc := 54) (x := (f_t 10)) C q_178 0 rfl rfl dX1_tally_54 ?_
      have hs : (s_X1_tally f_t p0) = (f_t 10) := ((if_neg c_1).trans (if_pos c_2))
      exact k_finI (pc := 57) hret rfl (by rw [hs]) rfl dX1_tally_57
    · by_cases c_3 : p0 = 15
      · refine k_tsIn (pc := 1) (tgt := 58) C 15 c_3 (by decide) (by decide) rfl (by decide) dX1_tally_1 ?_
        refine k_aload_n (pc := 58) C rfl 0 rfl dX1_tally_58 ?_
        refine g_X1_11 (pc := 59) (x := (f_t 11)) C q_179 0 rfl rfl dX1_tally_59 ?_
        have hs : (s_X1_tally f_t p0) = (f_t 11) := ((if_neg c_1).trans ((if_neg c_2).trans (if_pos c_3)))
        exact k_finI (pc := 62) hret rfl (by rw [hs]) rfl dX1_tally_62
      · by_cases c_4 : p0 = 16
        · refine k_tsIn (pc := 1) (tgt := 63) C 16 c_4 (by decide) (by decide) rfl (by decide) dX1_tally_1 ?_
          refine k_aload_n (pc := 63) C rfl 0 rfl dX1_tally_63 ?_
          refine g_X1_12 (pc := 64) (x := (f_t 12)) C q_180 0 rfl rfl dX1_tally_64 ?_
          have hs : (s_X1_tally f_t p0) = (f_t 12) := ((if_neg c_1).trans ((if_neg c_2).trans ((if_neg c_3).trans (if_pos c_4))))
          exact k_finI (pc := 67) hret rfl (by rw [hs]) rfl dX1_tally_67
        · by_cases c_5 : p0 = 17
          · refine k_tsIn (pc := 1) (tgt := 68) C 17 c_5 (by decide) (by decide) rfl (by decide) dX1_tally_1 ?_
            refine k_aload_n (pc := 68) C rfl 0 rfl dX1_tally_68 ?_
            refine g_X1_6 (pc := 69) (x := (f_t 6)) C q_172 0 rfl rfl dX1_tally_69 ?_
            have hs : (s_X1_tally f_t p0) = (f_t 6) := ((if_neg c_1).trans ((if_neg c_2).trans ((if_neg c_3).trans ((if_neg c_4).trans (if_pos c_5)))))
            exact k_finI (pc := 72) hret rfl (by rw [hs]) rfl dX1_tally_72
          · by_cases c_6 : p0 = 18
            · refine k_tsIn (pc := 1) (tgt := 73) C 18 c_6 (by decide) (by decide) rfl (by decide) dX1_tally_1 ?_
              refine k_aload_n (pc := 73) C rfl 0 rfl dX1_tally_73 ?_
              refine g_X1_7 (pc := 74) (x := (f_t 7)) C q_173 0 rfl rfl dX1_tally_74 ?_
              have hs : (s_X1_tally f_t p0) = (f_t 7) := ((if_neg c_1).trans ((if_neg c_2).trans ((if_neg c_3).trans ((if_neg c_4).trans ((if_neg c_5).trans (if_pos c_6))))))
              exact k_finI (pc := 77) hret rfl (by rw [hs]) rfl dX1_tally_77
            · by_cases c_7 : p0 = 19
              · refine k_tsIn (pc := 1) (tgt := 78) C 19 c_7 (by decide) (by decide) rfl (by decide) dX1_tally_1 ?_
                refine k_aload_n (pc := 78) C rfl 0 rfl dX1_tally_78 ?_
                refine g_X1_8 (pc := 79) (x := (f_t 8)) C q_175 0 rfl rfl dX1_tally_79 ?_
                have hs : (s_X1_tally f_t p0) = (f_t 8) := ((if_neg c_1).trans ((if_neg c_2).trans ((if_neg c_3).trans ((if_neg c_4).trans ((if_neg c_5).trans ((if_neg c_6).trans (if_pos c_7)))))))
                exact k_finI (pc := 82) hret rfl (by rw [hs]) rfl dX1_tally_82
              · by_cases c_8 : p0 = 20
                · refine k_tsIn (pc := 1) (tgt := 83) C 20 c_8 (by decide) (by decide) rfl (by decide) dX1_tally_1 ?_
                  refine k_aload_n (pc := 83) C rfl 0 rfl dX1_tally_83 ?_
                  refine g_X1_13 (pc := 84) (x := (f_t 13)) C q_181 0 rfl rfl dX1_tally_84 ?_
                  have hs : (s_X1_tally f_t p0) = (f_t 13) := ((if_neg c_1).trans ((if_neg c_2).trans ((if_neg c_3).trans ((if_neg c_4).trans ((if_neg c_5).trans ((if_neg c_6).trans ((if_neg c_7).trans (if_pos c_8))))))))
                  exact k_finI (pc := 87) hret rfl (by rw [hs]) rfl dX1_tally_87
                · refine k_tsOut (pc := 1) (tgt := 88) C (by have z0 := k_ne (k := 13) c_1 (by decide); have z1 := k_ne (k := 14) c_2 (by decide); have z2 := k_ne (k := 15) c_3 (by decide); have z3 := k_ne (k := 16) c_4 (by decide); have z4 := k_ne (k := 17) c_5 (by decide); have z5 := k_ne (k := 18) c_6 (by decide); have z6 := k_ne (k := 19) c_7 (by decide); have z7 := k_ne (k := 20) c_8 (by decide); omega) (by decide) dX1_tally_1 ?_
                  refine k_sipush (pc := 88) C sipush_m10000 dX1_tally_88 ?_
                  have hs : (s_X1_tally f_t p0) = (-10000) := ((if_neg c_1).trans ((if_neg c_2).trans ((if_neg c_3).trans ((if_neg c_4).trans ((if_neg c_5).trans ((if_neg c_6).trans ((if_neg c_7).trans (if_neg c_8))))))))
                  exact k_finI (pc := 91) hret rfl (by rw [hs]) rfl dX1_tally_91

theorem dX2_add_0 : decode cX2_add 0 = .ok (.aload_n 0, 1) := by decide +kernel
theorem dX2_add_1 : decode cX2_add 1 = .ok (.getfield 12, 3) := by decide +kernel
theorem dX2_add_4 : decode cX2_add 4 = .ok (.aload_n 1, 1) := by decide +kernel
theorem dX2_add_5 : decode cX2_add 5 = .ok (.getfield 27, 3) := by decide +kernel
theorem dX2_add_8 : decode cX2_add 8 = .ok (.invokevirtual 33, 3) := by decide +kernel
theorem dX2_add_11 : decode cX2_add 11 = .ok (.aload_n 0, 1) := by decide +kernel
theorem dX2_add_12 : decode cX2_add 12 = .ok (.getfield 18, 3) := by decide +kernel
theorem dX2_add_15 : decode cX2_add 15 = .ok (.aload_n 1, 1) := by decide +kernel
theorem dX2_add_16 : decode cX2_add 16 = .ok (.getfield 36, 3) := by decide +kernel
theorem dX2_add_19 : decode cX2_add 19 = .ok (.invokevirtual 33, 3) := by decide +kernel
theorem dX2_add_22 : decode cX2_add 22 = .ok (.aload_n 0, 1) := by decide +kernel
theorem dX2_add_23 : decode cX2_add 23 = .ok (.getfield 21, 3) := by decide +kernel
theorem dX2_add_26 : decode cX2_add 26 = .ok (.iload_n 2, 1) := by decide +kernel
theorem dX2_add_27 : decode cX2_add 27 = .ok (.aload_n 1, 1) := by decide +kernel
theorem dX2_add_28 : decode cX2_add 28 = .ok (.getfield 39, 3) := by decide +kernel
theorem dX2_add_31 : decode cX2_add 31 = .ok (.isub, 1) := by decide +kernel
theorem dX2_add_32 : decode cX2_add 32 = .ok (.invokevirtual 33, 3) := by decide +kernel
theorem dX2_add_35 : decode cX2_add 35 = .ok (.aload_n 0, 1) := by decide +kernel
theorem dX2_add_36 : decode cX2_add 36 = .ok (.getfield 24, 3) := by decide +kernel
theorem dX2_add_39 : decode cX2_add 39 = .ok (.aload_n 1, 1) := by decide +kernel
theorem dX2_add_40 : decode cX2_add 40 = .ok (.getfield 42, 3) := by decide +kernel
theorem dX2_add_43 : decode cX2_add 43 = .ok (.invokevirtual 33, 3) := by decide +kernel
theorem dX2_add_46 : decode cX2_add 46 = .ok (.return_, 1) := by decide +kernel
def s_X2_add_1 (u_1 : (Nat → Int32) × (Nat → Int32)) (u_2 : (Nat → Int32) × (Nat → Int32)) (u_3 : (Nat → Int32) × (Nat → Int32)) (u_4 : (Nat → Int32) × (Nat → Int32)) : (Nat → Int32) × (Nat → Int32) × (Nat → Int32) × (Nat → Int32) × (Nat → Int32) × (Nat → Int32) × (Nat → Int32) × (Nat → Int32) :=
  (u_1.1, u_1.2, u_2.1, u_2.2, u_3.1, u_3.2, u_4.1, u_4.2)
def s_X2_add_2 (u_1 : (Nat → Int32) × (Nat → Int32)) (u_2 : (Nat → Int32) × (Nat → Int32)) (f_t_pausedMinutes : Nat → Int32) (f_t_pausedMinutes_cells : Nat → Int32) (f_p0 : Nat → Int32) (u_3 : (Nat → Int32) × (Nat → Int32)) : (Nat → Int32) × (Nat → Int32) × (Nat → Int32) × (Nat → Int32) × (Nat → Int32) × (Nat → Int32) × (Nat → Int32) × (Nat → Int32) :=
  (s_X2_add_1 u_1 u_2 u_3 (s_X3_add 16 f_t_pausedMinutes f_t_pausedMinutes_cells (f_p0 6)))
def s_X2_add_3 (u_1 : (Nat → Int32) × (Nat → Int32)) (f_t_pausedMinutes : Nat → Int32) (f_t_pausedMinutes_cells : Nat → Int32) (f_p0 : Nat → Int32) (f_t_minutes : Nat → Int32) (f_t_minutes_cells : Nat → Int32) (p1 : Int32) (u_2 : (Nat → Int32) × (Nat → Int32)) : (Nat → Int32) × (Nat → Int32) × (Nat → Int32) × (Nat → Int32) × (Nat → Int32) × (Nat → Int32) × (Nat → Int32) × (Nat → Int32) :=
  (s_X2_add_2 u_1 u_2 f_t_pausedMinutes f_t_pausedMinutes_cells f_p0 (s_X3_add 16 f_t_minutes f_t_minutes_cells (p1 - (f_p0 7))))
def s_X2_add_4 (f_t_pausedMinutes : Nat → Int32) (f_t_pausedMinutes_cells : Nat → Int32) (f_p0 : Nat → Int32) (f_t_minutes : Nat → Int32) (f_t_minutes_cells : Nat → Int32) (p1 : Int32) (f_t_cycles : Nat → Int32) (f_t_cycles_cells : Nat → Int32) (u_1 : (Nat → Int32) × (Nat → Int32)) : (Nat → Int32) × (Nat → Int32) × (Nat → Int32) × (Nat → Int32) × (Nat → Int32) × (Nat → Int32) × (Nat → Int32) × (Nat → Int32) :=
  (s_X2_add_3 u_1 f_t_pausedMinutes f_t_pausedMinutes_cells f_p0 f_t_minutes f_t_minutes_cells p1 (s_X3_add 16 f_t_cycles f_t_cycles_cells (f_p0 3)))
def s_X2_add (f_p0 : Nat → Int32) (f_t_segments : Nat → Int32) (f_t_segments_cells : Nat → Int32) (f_t_cycles : Nat → Int32) (f_t_cycles_cells : Nat → Int32) (f_t_minutes : Nat → Int32) (f_t_minutes_cells : Nat → Int32) (f_t_pausedMinutes : Nat → Int32) (f_t_pausedMinutes_cells : Nat → Int32) (p1 : Int32) : (Nat → Int32) × (Nat → Int32) × (Nat → Int32) × (Nat → Int32) × (Nat → Int32) × (Nat → Int32) × (Nat → Int32) × (Nat → Int32) :=
  (s_X2_add_4 f_t_pausedMinutes f_t_pausedMinutes_cells f_p0 f_t_minutes f_t_minutes_cells p1 f_t_cycles f_t_cycles_cells (s_X3_add 16 f_t_segments f_t_segments_cells (f_p0 2)))
set_option maxRecDepth 100000 in
set_option maxHeartbeats 4000000 in
theorem c_X2_add (l : Launch) (D : va_G) (cI cJ cO : ClassId) (h_t : Nat) (h_p0 : Nat) (h_t_segments : Nat) (h_t_cycles : Nat) (h_t_minutes : Nat) (h_t_pausedMinutes : Nat) (h_t_segments_cells : Nat) (h_t_cycles_cells : Nat) (h_t_minutes_cells : Nat) (h_t_pausedMinutes_cells : Nat) (f_p0 : Nat → Int32) (f_t_segments : Nat → Int32) (f_t_segments_cells : Nat → Int32) (f_t_cycles : Nat → Int32) (f_t_cycles_cells : Nat → Int32) (f_t_minutes : Nat → Int32) (f_t_minutes_cells : Nat → Int32) (f_t_pausedMinutes : Nat → Int32) (f_t_pausedMinutes_cells : Nat → Int32) (p1 : Int32) : kV l yX2_add cX2_add 3 1 21 D (kT cI cJ cO) [.ref h_t, .ref h_p0, .int p1] [(h_t, rsE h_t_segments h_t_cycles h_t_minutes h_t_pausedMinutes), (h_p0, ruE f_p0), (h_t_segments, rgE f_t_segments h_t_segments_cells), (h_t_segments_cells, iA cI 16 f_t_segments_cells), (h_t_cycles, rgE f_t_cycles h_t_cycles_cells), (h_t_cycles_cells, iA cI 16 f_t_cycles_cells), (h_t_minutes, rgE f_t_minutes h_t_minutes_cells), (h_t_minutes_cells, iA cI 16 f_t_minutes_cells), (h_t_pausedMinutes, rgE f_t_pausedMinutes h_t_pausedMinutes_cells), (h_t_pausedMinutes_cells, iA cI 16 f_t_pausedMinutes_cells)] [(h_t, rsE h_t_segments h_t_cycles h_t_minutes h_t_pausedMinutes), (h_p0, ruE f_p0), (h_t_segments, rgE (s_X2_add f_p0 f_t_segments f_t_segments_cells f_t_cycles f_t_cycles_cells f_t_minutes f_t_minutes_cells f_t_pausedMinutes f_t_pausedMinutes_cells p1).1 h_t_segments_cells), (h_t_segments_cells, iA cI 16 (s_X2_add f_p0 f_t_segments f_t_segments_cells f_t_cycles f_t_cycles_cells f_t_minutes f_t_minutes_cells f_t_pausedMinutes f_t_pausedMinutes_cells p1).2.1), (h_t_cycles, rgE (s_X2_add f_p0 f_t_segments f_t_segments_cells f_t_cycles f_t_cycles_cells f_t_minutes f_t_minutes_cells f_t_pausedMinutes f_t_pausedMinutes_cells p1).2.2.1 h_t_cycles_cells), (h_t_cycles_cells, iA cI 16 (s_X2_add f_p0 f_t_segments f_t_segments_cells f_t_cycles f_t_cycles_cells f_t_minutes f_t_minutes_cells f_t_pausedMinutes f_t_pausedMinutes_cells p1).2.2.2.1), (h_t_minutes, rgE (s_X2_add f_p0 f_t_segments f_t_segments_cells f_t_cycles f_t_cycles_cells f_t_minutes f_t_minutes_cells f_t_pausedMinutes f_t_pausedMinutes_cells p1).2.2.2.2.1 h_t_minutes_cells), (h_t_minutes_cells, iA cI 16 (s_X2_add f_p0 f_t_segments f_t_segments_cells f_t_cycles f_t_cycles_cells f_t_minutes f_t_minutes_cells f_t_pausedMinutes f_t_pausedMinutes_cells p1).2.2.2.2.2.1), (h_t_pausedMinutes, rgE (s_X2_add f_p0 f_t_segments f_t_segments_cells f_t_cycles f_t_cycles_cells f_t_minutes f_t_minutes_cells f_t_pausedMinutes f_t_pausedMinutes_cells p1).2.2.2.2.2.2.1 h_t_pausedMinutes_cells), (h_t_pausedMinutes_cells, iA cI 16 (s_X2_add f_p0 f_t_segments f_t_segments_cells f_t_cycles f_t_cycles_cells f_t_minutes f_t_minutes_cells f_t_pausedMinutes f_t_pausedMinutes_cells p1).2.2.2.2.2.2.2)] := by
  refine kV_of (own := RX2) (lv := [(0, .ref h_t), (1, .ref h_p0), (2, .int p1)]) rfl rfl (by decide) (Nat.le_of_ble_eq_true rfl) ?_
  intro p e s m args below meth c Q A C hret
  refine k_aload_n (pc := 0) C rfl 0 rfl dX2_add_0 ?_
  refine g_X2_0 (pc := 1) C q_237 0 rfl dX2_add_1 ?_
  refine k_aload_n (pc := 4) C rfl 1 rfl dX2_add_4 ?_
  refine g_X4_2 (pc := 5) (x := (f_p0 2)) C q_106 1 rfl rfl dX2_add_5 ?_
  obtain ⟨u_1, eu_1⟩ : ∃ z : (Nat → Int32) × (Nat → Int32), z = (s_X3_add 16 f_t_segments f_t_segments_cells (f_p0 2)) := ⟨_, rfl⟩
  refine k_callVv (pc := 8) (As := [.int (f_p0 2)]) (rest := []) (wc := [(h_t_segments, rgE f_t_segments h_t_segments_cells), (h_t_segments_cells, iA cI 16 f_t_segments_cells)]) (wc2 := [(h_t_segments, rgE u_1.1 h_t_segments_cells), (h_t_segments_cells, iA cI 16 u_1.2)]) (ws2 := [(h_t, rsE h_t_segments h_t_cycles h_t_minutes h_t_pausedMinutes), (h_p0, ruE f_p0), (h_t_segments, rgE u_1.1 h_t_segments_cells), (h_t_segments_cells, iA cI 16 u_1.2), (h_t_cycles, rgE f_t_cycles h_t_cycles_cells), (h_t_cycles_cells, iA cI 16 f_t_cycles_cells), (h_t_minutes, rgE f_t_minutes h_t_minutes_cells), (h_t_minutes_cells, iA cI 16 f_t_minutes_cells), (h_t_pausedMinutes, rgE f_t_pausedMinutes h_t_pausedMinutes_cells), (h_t_pausedMinutes_cells, iA cI 16 f_t_pausedMinutes_cells)]) C (by rw [eu_1]; exact c_X3_add l D cI cJ cO h_t_segments h_t_segments_cells 16 f_t_segments f_t_segments_cells (f_p0 2) (by decide)) cwv_X3_add q_640 vX3 2 rfl [2, 3] rfl rfl (by decide) rfl rfl (Nat.le_of_ble_eq_true rfl) ⟨Nat.le_of_ble_eq_true rfl, Nat.le_of_ble_eq_true rfl⟩ rfl ⟨Nat.le_refl _, Nat.le_refl _⟩ dX2_add_8 ?_
  refine k_aload_n (pc := 11) C rfl 0 rfl dX2_add_11 ?_
  refine g_X2_1 (pc := 12) C q_238 0 rfl dX2_add_12 ?_
  refine k_aload_n (pc := 15) C rfl 1 rfl dX2_add_15 ?_
  refine g_X4_3 (pc := 16) (x := (f_p0 3)) C q_110 1 rfl rfl dX2_add_16 ?_
  obtain ⟨u_2, eu_2⟩ : ∃ z : (Nat → Int32) × (Nat → Int32), z = (s_X3_add 16 f_t_cycles f_t_cycles_cells (f_p0 3)) := ⟨_, rfl⟩
  refine k_callVv (pc := 19) (As := [.int (f_p0 3)]) (rest := []) (wc := [(h_t_cycles, rgE f_t_cycles h_t_cycles_cells), (h_t_cycles_cells, iA cI 16 f_t_cycles_cells)]) (wc2 := [(h_t_cycles, rgE u_2.1 h_t_cycles_cells), (h_t_cycles_cells, iA cI 16 u_2.2)]) (ws2 := [(h_t, rsE h_t_segments h_t_cycles h_t_minutes h_t_pausedMinutes), (h_p0, ruE f_p0), (h_t_segments, rgE u_1.1 h_t_segments_cells), (h_t_segments_cells, iA cI 16 u_1.2), (h_t_cycles, rgE u_2.1 h_t_cycles_cells), (h_t_cycles_cells, iA cI 16 u_2.2), (h_t_minutes, rgE f_t_minutes h_t_minutes_cells), (h_t_minutes_cells, iA cI 16 f_t_minutes_cells), (h_t_pausedMinutes, rgE f_t_pausedMinutes h_t_pausedMinutes_cells), (h_t_pausedMinutes_cells, iA cI 16 f_t_pausedMinutes_cells)]) C (by rw [eu_2]; exact c_X3_add l D cI cJ cO h_t_cycles h_t_cycles_cells 16 f_t_cycles f_t_cycles_cells (f_p0 3) (by decide)) cwv_X3_add q_640 vX3 4 rfl [4, 5] rfl rfl (by decide) rfl rfl (Nat.le_of_ble_eq_true rfl) ⟨Nat.le_of_ble_eq_true rfl, Nat.le_of_ble_eq_true rfl⟩ rfl ⟨Nat.le_refl _, Nat.le_refl _⟩ dX2_add_19 ?_
  refine k_aload_n (pc := 22) C rfl 0 rfl dX2_add_22 ?_
  refine g_X2_2 (pc := 23) C q_239 0 rfl dX2_add_23 ?_
  refine k_iload_n (pc := 26) C rfl 2 rfl dX2_add_26 ?_
  refine k_aload_n (pc := 27) C rfl 1 rfl dX2_add_27 ?_
  refine g_X4_7 (pc := 28) (x := (f_p0 7)) C q_120 1 rfl rfl dX2_add_28 ?_
  refine k_isub (pc := 31) C dX2_add_31 ?_
  obtain ⟨u_3, eu_3⟩ : ∃ z : (Nat → Int32) × (Nat → Int32), z = (s_X3_add 16 f_t_minutes f_t_minutes_cells (p1 - (f_p0 7))) := ⟨_, rfl⟩
  refine k_callVv (pc := 32) (As := [.int (p1 - (f_p0 7))]) (rest := []) (wc := [(h_t_minutes, rgE f_t_minutes h_t_minutes_cells), (h_t_minutes_cells, iA cI 16 f_t_minutes_cells)]) (wc2 := [(h_t_minutes, rgE u_3.1 h_t_minutes_cells), (h_t_minutes_cells, iA cI 16 u_3.2)]) (ws2 := [(h_t, rsE h_t_segments h_t_cycles h_t_minutes h_t_pausedMinutes), (h_p0, ruE f_p0), (h_t_segments, rgE u_1.1 h_t_segments_cells), (h_t_segments_cells, iA cI 16 u_1.2), (h_t_cycles, rgE u_2.1 h_t_cycles_cells), (h_t_cycles_cells, iA cI 16 u_2.2), (h_t_minutes, rgE u_3.1 h_t_minutes_cells), (h_t_minutes_cells, iA cI 16 u_3.2), (h_t_pausedMinutes, rgE f_t_pausedMinutes h_t_pausedMinutes_cells), (h_t_pausedMinutes_cells, iA cI 16 f_t_pausedMinutes_cells)]) C (by rw [eu_3]; exact c_X3_add l D cI cJ cO h_t_minutes h_t_minutes_cells 16 f_t_minutes f_t_minutes_cells (p1 - (f_p0 7)) (by decide)) cwv_X3_add q_640 vX3 6 rfl [6, 7] rfl rfl (by decide) rfl rfl (Nat.le_of_ble_eq_true rfl) ⟨Nat.le_of_ble_eq_true rfl, Nat.le_of_ble_eq_true rfl⟩ rfl ⟨Nat.le_refl _, Nat.le_refl _⟩ dX2_add_32 ?_
  refine k_aload_n (pc := 35) C rfl 0 rfl dX2_add_35 ?_
  refine g_X2_3 (pc := 36) C q_240 0 rfl dX2_add_36 ?_
  refine k_aload_n (pc := 39) C rfl 1 rfl dX2_add_39 ?_
  refine g_X4_6 (pc := 40) (x := (f_p0 6)) C q_117 1 rfl rfl dX2_add_40 ?_
  obtain ⟨u_4, eu_4⟩ : ∃ z : (Nat → Int32) × (Nat → Int32), z = (s_X3_add 16 f_t_pausedMinutes f_t_pausedMinutes_cells (f_p0 6)) := ⟨_, rfl⟩
  refine k_callVv (pc := 43) (As := [.int (f_p0 6)]) (rest := []) (wc := [(h_t_pausedMinutes, rgE f_t_pausedMinutes h_t_pausedMinutes_cells), (h_t_pausedMinutes_cells, iA cI 16 f_t_pausedMinutes_cells)]) (wc2 := [(h_t_pausedMinutes, rgE u_4.1 h_t_pausedMinutes_cells), (h_t_pausedMinutes_cells, iA cI 16 u_4.2)]) (ws2 := [(h_t, rsE h_t_segments h_t_cycles h_t_minutes h_t_pausedMinutes), (h_p0, ruE f_p0), (h_t_segments, rgE u_1.1 h_t_segments_cells), (h_t_segments_cells, iA cI 16 u_1.2), (h_t_cycles, rgE u_2.1 h_t_cycles_cells), (h_t_cycles_cells, iA cI 16 u_2.2), (h_t_minutes, rgE u_3.1 h_t_minutes_cells), (h_t_minutes_cells, iA cI 16 u_3.2), (h_t_pausedMinutes, rgE u_4.1 h_t_pausedMinutes_cells), (h_t_pausedMinutes_cells, iA cI 16 u_4.2)]) C (by rw [eu_4]; exact c_X3_add l D cI cJ cO h_t_pausedMinutes h_t_pausedMinutes_cells 16 f_t_pausedMinutes f_t_pausedMinutes_cells (f_p0 6) (by decide)) cwv_X3_add q_640 vX3 8 rfl [8, 9] rfl rfl (by decide) rfl rfl (Nat.le_of_ble_eq_true rfl) ⟨Nat.le_of_ble_eq_true rfl, Nat.le_of_ble_eq_true rfl⟩ rfl ⟨Nat.le_refl _, Nat.le_refl _⟩ dX2_add_43 ?_
  have hs : (s_X2_add f_p0 f_t_segments f_t_segments_cells f_t_cycles f_t_cycles_cells f_t_minutes f_t_minutes_cells f_t_pausedMinutes f_t_pausedMinutes_cells p1) = (u_1.1, u_1.2, u_2.1, u_2.2, u_3.1, u_3.2, u_4.1, u_4.2) := (k_st (g := s_X2_add_4 f_t_pausedMinutes f_t_pausedMinutes_cells f_p0 f_t_minutes f_t_minutes_cells p1 f_t_cycles f_t_cycles_cells) eu_1 rfl (k_st (g := s_X2_add_3 u_1 f_t_pausedMinutes f_t_pausedMinutes_cells f_p0 f_t_minutes f_t_minutes_cells p1) eu_2 rfl (k_st (g := s_X2_add_2 u_1 u_2 f_t_pausedMinutes f_t_pausedMinutes_cells f_p0) eu_3 rfl (k_st (g := s_X2_add_1 u_1 u_2 u_3) eu_4 rfl rfl))))
  exact k_finV (pc := 46) hret (by rw [hs]) dX2_add_46

theorem dX2_property_0 : decode cX2_property 0 = .ok (.iload_n 2, 1) := by decide +kernel
theorem dX2_property_1 : decode cX2_property 1 = .ok (.tableswitch 54 0 2 #[27, 36, 45], 27) := by decide +kernel
theorem dX2_property_28 : decode cX2_property 28 = .ok (.aload_n 0, 1) := by decide +kernel
theorem dX2_property_29 : decode cX2_property 29 = .ok (.getfield 12, 3) := by decide +kernel
theorem dX2_property_32 : decode cX2_property 32 = .ok (.iload_n 1, 1) := by decide +kernel
theorem dX2_property_33 : decode cX2_property 33 = .ok (.invokevirtual 44, 3) := by decide +kernel
theorem dX2_property_36 : decode cX2_property 36 = .ok (.ireturn, 1) := by decide +kernel
theorem dX2_property_37 : decode cX2_property 37 = .ok (.aload_n 0, 1) := by decide +kernel
theorem dX2_property_38 : decode cX2_property 38 = .ok (.getfield 18, 3) := by decide +kernel
theorem dX2_property_41 : decode cX2_property 41 = .ok (.iload_n 1, 1) := by decide +kernel
theorem dX2_property_42 : decode cX2_property 42 = .ok (.invokevirtual 44, 3) := by decide +kernel
theorem dX2_property_45 : decode cX2_property 45 = .ok (.ireturn, 1) := by decide +kernel
theorem dX2_property_46 : decode cX2_property 46 = .ok (.aload_n 0, 1) := by decide +kernel
theorem dX2_property_47 : decode cX2_property 47 = .ok (.getfield 21, 3) := by decide +kernel
theorem dX2_property_50 : decode cX2_property 50 = .ok (.iload_n 1, 1) := by decide +kernel
theorem dX2_property_51 : decode cX2_property 51 = .ok (.invokevirtual 44, 3) := by decide +kernel
theorem dX2_property_54 : decode cX2_property 54 = .ok (.ireturn, 1) := by decide +kernel
theorem dX2_property_55 : decode cX2_property 55 = .ok (.aload_n 0, 1) := by decide +kernel
theorem dX2_property_56 : decode cX2_property 56 = .ok (.getfield 24, 3) := by decide +kernel
theorem dX2_property_59 : decode cX2_property 59 = .ok (.iload_n 1, 1) := by decide +kernel
theorem dX2_property_60 : decode cX2_property 60 = .ok (.invokevirtual 44, 3) := by decide +kernel
theorem dX2_property_63 : decode cX2_property 63 = .ok (.ireturn, 1) := by decide +kernel
def s_X2_property (f_t_segments : Nat → Int32) (f_t_segments_cells : Nat → Int32) (f_t_cycles : Nat → Int32) (f_t_cycles_cells : Nat → Int32) (f_t_minutes : Nat → Int32) (f_t_minutes_cells : Nat → Int32) (f_t_pausedMinutes : Nat → Int32) (f_t_pausedMinutes_cells : Nat → Int32) (p0 : Int32) (p1 : Int32) : Int32 :=
  (if p1 = 0 then (s_X3_latest 16 f_t_segments f_t_segments_cells p0) else (if p1 = 1 then (s_X3_latest 16 f_t_cycles f_t_cycles_cells p0) else (if p1 = 2 then (s_X3_latest 16 f_t_minutes f_t_minutes_cells p0) else (s_X3_latest 16 f_t_pausedMinutes f_t_pausedMinutes_cells p0))))
set_option maxRecDepth 100000 in
set_option maxHeartbeats 4000000 in
theorem c_X2_property (l : Launch) (D : va_G) (cI cJ cO : ClassId) (h_t : Nat) (h_t_segments : Nat) (h_t_cycles : Nat) (h_t_minutes : Nat) (h_t_pausedMinutes : Nat) (h_t_segments_cells : Nat) (h_t_cycles_cells : Nat) (h_t_minutes_cells : Nat) (h_t_pausedMinutes_cells : Nat) (f_t_segments : Nat → Int32) (f_t_segments_cells : Nat → Int32) (f_t_cycles : Nat → Int32) (f_t_cycles_cells : Nat → Int32) (f_t_minutes : Nat → Int32) (f_t_minutes_cells : Nat → Int32) (f_t_pausedMinutes : Nat → Int32) (f_t_pausedMinutes_cells : Nat → Int32) (p0 : Int32) (p1 : Int32) : kI l yX2_property cX2_property 3 .int 2 43 D (kT cI cJ cO) [.ref h_t, .int p0, .int p1] [(h_t, rsE h_t_segments h_t_cycles h_t_minutes h_t_pausedMinutes), (h_t_segments, rgE f_t_segments h_t_segments_cells), (h_t_segments_cells, iA cI 16 f_t_segments_cells), (h_t_cycles, rgE f_t_cycles h_t_cycles_cells), (h_t_cycles_cells, iA cI 16 f_t_cycles_cells), (h_t_minutes, rgE f_t_minutes h_t_minutes_cells), (h_t_minutes_cells, iA cI 16 f_t_minutes_cells), (h_t_pausedMinutes, rgE f_t_pausedMinutes h_t_pausedMinutes_cells), (h_t_pausedMinutes_cells, iA cI 16 f_t_pausedMinutes_cells)] (s_X2_property f_t_segments f_t_segments_cells f_t_cycles f_t_cycles_cells f_t_minutes f_t_minutes_cells f_t_pausedMinutes f_t_pausedMinutes_cells p0 p1) [(h_t, rsE h_t_segments h_t_cycles h_t_minutes h_t_pausedMinutes), (h_t_segments, rgE f_t_segments h_t_segments_cells), (h_t_segments_cells, iA cI 16 f_t_segments_cells), (h_t_cycles, rgE f_t_cycles h_t_cycles_cells), (h_t_cycles_cells, iA cI 16 f_t_cycles_cells), (h_t_minutes, rgE f_t_minutes h_t_minutes_cells), (h_t_minutes_cells, iA cI 16 f_t_minutes_cells), (h_t_pausedMinutes, rgE f_t_pausedMinutes h_t_pausedMinutes_cells), (h_t_pausedMinutes_cells, iA cI 16 f_t_pausedMinutes_cells)] := by
  refine kI_of (own := RX2) (lv := [(0, .ref h_t), (1, .int p0), (2, .int p1)]) rfl rfl (by decide) (Nat.le_of_ble_eq_true rfl) ?_
  intro p e s m args below meth c Q A C hret
  refine k_iload_n (pc := 0) C rfl 2 rfl dX2_property_0 ?_
  by_cases c_1 : p1 = 0
  · refine k_tsIn (pc := 1) (tgt := 28) C 0 c_1 (by decide) (by decide) rfl (by decide) dX2_property_1 ?_
    refine k_aload_n (pc := 28) C rfl 0 rfl dX2_property_28 ?_
    refine g_X2_0 (pc := 29) C q_237 0 rfl dX2_property_29 ?_
    refine k_iload_n (pc := 32) C rfl 1 rfl dX2_property_32 ?_
    refine k_callVi (pc := 33) (As := [.int p0]) (rest := []) (r := (s_X3_latest 16 f_t_segments f_t_segments_cells p0)) (wc := [(h_t_segments, rgE f_t_segments h_t_segments_cells), (h_t_segments_cells, iA cI 16 f_t_segments_cells)]) (wc2 := [(h_t_segments, rgE f_t_segments h_t_segments_cells), (h_t_segments_cells, iA cI 16 f_t_segments_cells)]) (ws2 := [(h_t, rsE h_t_segments h_t_cycles h_t_minutes h_t_pausedMinutes), (h_t_segments, rgE f_t_segments h_t_segments_cells), (h_t_segments_cells, iA cI 16 f_t_segments_cells), (h_t_cycles, rgE f_t_cycles h_t_cycles_cells), (h_t_cycles_cells, iA cI 16 f_t_cycles_cells), (h_t_minutes, rgE f_t_minutes h_t_minutes_cells), (h_t_minutes_cells, iA cI 16 f_t_minutes_cells), (h_t_pausedMinutes, rgE f_t_pausedMinutes h_t_pausedMinutes_cells), (h_t_pausedMinutes_cells, iA cI 16 f_t_pausedMinutes_cells)]) C (c_X3_latest l D cI cJ cO h_t_segments h_t_segments_cells 16 f_t_segments f_t_segments_cells p0 (by decide)) cwv_X3_latest q_860 vX3 1 rfl [1, 2] rfl rfl (by decide) rfl rfl (Nat.le_of_ble_eq_true rfl) ⟨Nat.le_of_ble_eq_true rfl, Nat.le_of_ble_eq_true rfl⟩ rfl ⟨Nat.le_refl _, Nat.le_refl _⟩ dX2_property_33 ?_
    have hs : (s_X2_property f_t_segments f_t_segments_cells f_t_cycles f_t_cycles_cells f_t_minutes f_t_minutes_cells f_t_pausedMinutes f_t_pausedMinutes_cells p0 p1) = (s_X3_latest 16 f_t_segments f_t_segments_cells p0) := (if_pos c_1)
    exact k_finI (pc := 36) hret rfl (by rw [hs]) rfl dX2_property_36
  · by_cases c_2 : p1 = 1
    · refine k_tsIn (pc := 1) (tgt := 37) C 1 c_2 (by decide) (by decide) rfl (by decide) dX2_property_1 ?_
      refine k_aload_n (pc := 37) C rfl 0 rfl dX2_property_37 ?_
      refine g_X2_1 (pc := 38) C q_238 0 rfl dX2_property_38 ?_
      refine k_iload_n (pc := 41) C rfl 1 rfl dX2_property_41 ?_
      refine k_callVi (pc := 42) (As := [.int p0]) (rest := []) (r := (s_X3_latest 16 f_t_cycles f_t_cycles_cells p0)) (wc := [(h_t_cycles, rgE f_t_cycles h_t_cycles_cells), (h_t_cycles_cells, iA cI 16 f_t_cycles_cells)]) (wc2 := [(h_t_cycles, rgE f_t_cycles h_t_cycles_cells), (h_t_cycles_cells, iA cI 16 f_t_cycles_cells)]) (ws2 := [(h_t, rsE h_t_segments h_t_cycles h_t_minutes h_t_pausedMinutes), (h_t_segments, rgE f_t_segments h_t_segments_cells), (h_t_segments_cells, iA cI 16 f_t_segments_cells), (h_t_cycles, rgE f_t_cycles h_t_cycles_cells), (h_t_cycles_cells, iA cI 16 f_t_cycles_cells), (h_t_minutes, rgE f_t_minutes h_t_minutes_cells), (h_t_minutes_cells, iA cI 16 f_t_minutes_cells), (h_t_pausedMinutes, rgE f_t_pausedMinutes h_t_pausedMinutes_cells), (h_t_pausedMinutes_cells, iA cI 16 f_t_pausedMinutes_cells)]) C (c_X3_latest l D cI cJ cO h_t_cycles h_t_cycles_cells 16 f_t_cycles f_t_cycles_cells p0 (by decide)) cwv_X3_latest q_860 vX3 3 rfl [3, 4] rfl rfl (by decide) rfl rfl (Nat.le_of_ble_eq_true rfl) ⟨Nat.le_of_ble_eq_true rfl, Nat.le_of_ble_eq_true rfl⟩ rfl ⟨Nat.le_refl _, Nat.le_refl _⟩ dX2_property_42 ?_
      have hs : (s_X2_property f_t_segments f_t_segments_cells f_t_cycles f_t_cycles_cells f_t_minutes f_t_minutes_cells f_t_pausedMinutes f_t_pausedMinutes_cells p0 p1) = (s_X3_latest 16 f_t_cycles f_t_cycles_cells p0) := ((if_neg c_1).trans (if_pos c_2))
      exact k_finI (pc := 45) hret rfl (by rw [hs]) rfl dX2_property_45
    · by_cases c_3 : p1 = 2
      · refine k_tsIn (pc := 1) (tgt := 46) C 2 c_3 (by decide) (by decide) rfl (by decide) dX2_property_1 ?_
        refine k_aload_n (pc := 46) C rfl 0 rfl dX2_property_46 ?_
        refine g_X2_2 (pc := 47) C q_239 0 rfl dX2_property_47 ?_
        refine k_iload_n (pc := 50) C rfl 1 rfl dX2_property_50 ?_
        refine k_callVi (pc := 51) (As := [.int p0]) (rest := []) (r := (s_X3_latest 16 f_t_minutes f_t_minutes_cells p0)) (wc := [(h_t_minutes, rgE f_t_minutes h_t_minutes_cells), (h_t_minutes_cells, iA cI 16 f_t_minutes_cells)]) (wc2 := [(h_t_minutes, rgE f_t_minutes h_t_minutes_cells), (h_t_minutes_cells, iA cI 16 f_t_minutes_cells)]) (ws2 := [(h_t, rsE h_t_segments h_t_cycles h_t_minutes h_t_pausedMinutes), (h_t_segments, rgE f_t_segments h_t_segments_cells), (h_t_segments_cells, iA cI 16 f_t_segments_cells), (h_t_cycles, rgE f_t_cycles h_t_cycles_cells), (h_t_cycles_cells, iA cI 16 f_t_cycles_cells), (h_t_minutes, rgE f_t_minutes h_t_minutes_cells), (h_t_minutes_cells, iA cI 16 f_t_minutes_cells), (h_t_pausedMinutes, rgE f_t_pausedMinutes h_t_pausedMinutes_cells), (h_t_pausedMinutes_cells, iA cI 16 f_t_pausedMinutes_cells)]) C (c_X3_latest l D cI cJ cO h_t_minutes h_t_minutes_cells 16 f_t_minutes f_t_minutes_cells p0 (by decide)) cwv_X3_latest q_860 vX3 5 rfl [5, 6] rfl rfl (by decide) rfl rfl (Nat.le_of_ble_eq_true rfl) ⟨Nat.le_of_ble_eq_true rfl, Nat.le_of_ble_eq_true rfl⟩ rfl ⟨Nat.le_refl _, Nat.le_refl _⟩ dX2_property_51 ?_
        have hs : (s_X2_property f_t_segments f_t_segments_cells f_t_cycles f_t_cycles_cells f_t_minutes f_t_minutes_cells f_t_pausedMinutes f_t_pausedMinutes_cells p0 p1) = (s_X3_latest 16 f_t_minutes f_t_minutes_cells p0) := ((if_neg c_1).trans ((if_neg c_2).trans (if_pos c_3)))
        exact k_finI (pc := 54) hret rfl (by rw [hs]) rfl dX2_property_54
      · refine k_tsOut (pc := 1) (tgt := 55) C (by have z0 := k_ne (k := 0) c_1 (by decide); have z1 := k_ne (k := 1) c_2 (by decide); have z2 := k_ne (k := 2) c_3 (by decide); omega) (by decide) dX2_property_1 ?_
        refine k_aload_n (pc := 55) C rfl 0 rfl dX2_property_55 ?_
        refine g_X2_3 (pc := 56) C q_240 0 rfl dX2_property_56 ?_
        refine k_iload_n (pc := 59) C rfl 1 rfl dX2_property_59 ?_
        refine k_callVi (pc := 60) (As := [.int p0]) (rest := []) (r := (s_X3_latest 16 f_t_pausedMinutes f_t_pausedMinutes_cells p0)) (wc := [(h_t_pausedMinutes, rgE f_t_pausedMinutes h_t_pausedMinutes_cells), (h_t_pausedMinutes_cells, iA cI 16 f_t_pausedMinutes_cells)]) (wc2 := [(h_t_pausedMinutes, rgE f_t_pausedMinutes h_t_pausedMinutes_cells), (h_t_pausedMinutes_cells, iA cI 16 f_t_pausedMinutes_cells)]) (ws2 := [(h_t, rsE h_t_segments h_t_cycles h_t_minutes h_t_pausedMinutes), (h_t_segments, rgE f_t_segments h_t_segments_cells), (h_t_segments_cells, iA cI 16 f_t_segments_cells), (h_t_cycles, rgE f_t_cycles h_t_cycles_cells), (h_t_cycles_cells, iA cI 16 f_t_cycles_cells), (h_t_minutes, rgE f_t_minutes h_t_minutes_cells), (h_t_minutes_cells, iA cI 16 f_t_minutes_cells), (h_t_pausedMinutes, rgE f_t_pausedMinutes h_t_pausedMinutes_cells), (h_t_pausedMinutes_cells, iA cI 16 f_t_pausedMinutes_cells)]) C (c_X3_latest l D cI cJ cO h_t_pausedMinutes h_t_pausedMinutes_cells 16 f_t_pausedMinutes f_t_pausedMinutes_cells p0 (by decide)) cwv_X3_latest q_860 vX3 7 rfl [7, 8] rfl rfl (by decide) rfl rfl (Nat.le_of_ble_eq_true rfl) ⟨Nat.le_of_ble_eq_true rfl, Nat.le_of_ble_eq_true rfl⟩ rfl ⟨Nat.le_refl _, Nat.le_refl _⟩ dX2_property_60 ?_
        have hs : (s_X2_property f_t_segments f_t_segments_cells f_t_cycles f_t_cycles_cells f_t_minutes f_t_minutes_cells f_t_pausedMinutes f_t_pausedMinutes_cells p0 p1) = (s_X3_latest 16 f_t_pausedMinutes f_t_pausedMinutes_cells p0) := ((if_neg c_1).trans ((if_neg c_2).trans (if_neg c_3)))
        exact k_finI (pc := 63) hret rfl (by rw [hs]) rfl dX2_property_63

theorem dX2_copy_0 : decode cX2_copy 0 = .ok (.aload_n 0, 1) := by decide +kernel
theorem dX2_copy_1 : decode cX2_copy 1 = .ok (.getfield 12, 3) := by decide +kernel
theorem dX2_copy_4 : decode cX2_copy 4 = .ok (.aload_n 1, 1) := by decide +kernel
theorem dX2_copy_5 : decode cX2_copy 5 = .ok (.getfield 12, 3) := by decide +kernel
theorem dX2_copy_8 : decode cX2_copy 8 = .ok (.invokevirtual 48, 3) := by decide +kernel
theorem dX2_copy_11 : decode cX2_copy 11 = .ok (.aload_n 0, 1) := by decide +kernel
theorem dX2_copy_12 : decode cX2_copy 12 = .ok (.getfield 18, 3) := by decide +kernel
theorem dX2_copy_15 : decode cX2_copy 15 = .ok (.aload_n 1, 1) := by decide +kernel
theorem dX2_copy_16 : decode cX2_copy 16 = .ok (.getfield 18, 3) := by decide +kernel
theorem dX2_copy_19 : decode cX2_copy 19 = .ok (.invokevirtual 48, 3) := by decide +kernel
theorem dX2_copy_22 : decode cX2_copy 22 = .ok (.aload_n 0, 1) := by decide +kernel
theorem dX2_copy_23 : decode cX2_copy 23 = .ok (.getfield 21, 3) := by decide +kernel
theorem dX2_copy_26 : decode cX2_copy 26 = .ok (.aload_n 1, 1) := by decide +kernel
theorem dX2_copy_27 : decode cX2_copy 27 = .ok (.getfield 21, 3) := by decide +kernel
theorem dX2_copy_30 : decode cX2_copy 30 = .ok (.invokevirtual 48, 3) := by decide +kernel
theorem dX2_copy_33 : decode cX2_copy 33 = .ok (.aload_n 0, 1) := by decide +kernel
theorem dX2_copy_34 : decode cX2_copy 34 = .ok (.getfield 24, 3) := by decide +kernel
theorem dX2_copy_37 : decode cX2_copy 37 = .ok (.aload_n 1, 1) := by decide +kernel
theorem dX2_copy_38 : decode cX2_copy 38 = .ok (.getfield 24, 3) := by decide +kernel
theorem dX2_copy_41 : decode cX2_copy 41 = .ok (.invokevirtual 48, 3) := by decide +kernel
theorem dX2_copy_44 : decode cX2_copy 44 = .ok (.return_, 1) := by decide +kernel
def s_X2_copy_1 (u_1 : (Nat → Int32) × (Nat → Int32)) (u_2 : (Nat → Int32) × (Nat → Int32)) (u_3 : (Nat → Int32) × (Nat → Int32)) (u_4 : (Nat → Int32) × (Nat → Int32)) : (Nat → Int32) × (Nat → Int32) × (Nat → Int32) × (Nat → Int32) × (Nat → Int32) × (Nat → Int32) × (Nat → Int32) × (Nat → Int32) :=
  (u_1.1, u_1.2, u_2.1, u_2.2, u_3.1, u_3.2, u_4.1, u_4.2)
def s_X2_copy_2 (u_1 : (Nat → Int32) × (Nat → Int32)) (u_2 : (Nat → Int32) × (Nat → Int32)) (f_p0_pausedMinutes : Nat → Int32) (f_t_pausedMinutes : Nat → Int32) (f_p0_pausedMinutes_cells : Nat → Int32) (f_t_pausedMinutes_cells : Nat → Int32) (u_3 : (Nat → Int32) × (Nat → Int32)) : (Nat → Int32) × (Nat → Int32) × (Nat → Int32) × (Nat → Int32) × (Nat → Int32) × (Nat → Int32) × (Nat → Int32) × (Nat → Int32) :=
  (s_X2_copy_1 u_1 u_2 u_3 (s_X3_copy 16 f_p0_pausedMinutes f_t_pausedMinutes f_p0_pausedMinutes_cells f_t_pausedMinutes_cells))
def s_X2_copy_3 (u_1 : (Nat → Int32) × (Nat → Int32)) (f_p0_pausedMinutes : Nat → Int32) (f_t_pausedMinutes : Nat → Int32) (f_p0_pausedMinutes_cells : Nat → Int32) (f_t_pausedMinutes_cells : Nat → Int32) (f_p0_minutes : Nat → Int32) (f_t_minutes : Nat → Int32) (f_p0_minutes_cells : Nat → Int32) (f_t_minutes_cells : Nat → Int32) (u_2 : (Nat → Int32) × (Nat → Int32)) : (Nat → Int32) × (Nat → Int32) × (Nat → Int32) × (Nat → Int32) × (Nat → Int32) × (Nat → Int32) × (Nat → Int32) × (Nat → Int32) :=
  (s_X2_copy_2 u_1 u_2 f_p0_pausedMinutes f_t_pausedMinutes f_p0_pausedMinutes_cells f_t_pausedMinutes_cells (s_X3_copy 16 f_p0_minutes f_t_minutes f_p0_minutes_cells f_t_minutes_cells))
def s_X2_copy_4 (f_p0_pausedMinutes : Nat → Int32) (f_t_pausedMinutes : Nat → Int32) (f_p0_pausedMinutes_cells : Nat → Int32) (f_t_pausedMinutes_cells : Nat → Int32) (f_p0_minutes : Nat → Int32) (f_t_minutes : Nat → Int32) (f_p0_minutes_cells : Nat → Int32) (f_t_minutes_cells : Nat → Int32) (f_p0_cycles : Nat → Int32) (f_t_cycles : Nat → Int32) (f_p0_cycles_cells : Nat → Int32) (f_t_cycles_cells : Nat → Int32) (u_1 : (Nat → Int32) × (Nat → Int32)) : (Nat → Int32) × (Nat → Int32) × (Nat → Int32) × (Nat → Int32) × (Nat → Int32) × (Nat → Int32) × (Nat → Int32) × (Nat → Int32) :=
  (s_X2_copy_3 u_1 f_p0_pausedMinutes f_t_pausedMinutes f_p0_pausedMinutes_cells f_t_pausedMinutes_cells f_p0_minutes f_t_minutes f_p0_minutes_cells f_t_minutes_cells (s_X3_copy 16 f_p0_cycles f_t_cycles f_p0_cycles_cells f_t_cycles_cells))
def s_X2_copy (f_p0_segments : Nat → Int32) (f_t_segments : Nat → Int32) (f_p0_segments_cells : Nat → Int32) (f_t_segments_cells : Nat → Int32) (f_p0_cycles : Nat → Int32) (f_t_cycles : Nat → Int32) (f_p0_cycles_cells : Nat → Int32) (f_t_cycles_cells : Nat → Int32) (f_p0_minutes : Nat → Int32) (f_t_minutes : Nat → Int32) (f_p0_minutes_cells : Nat → Int32) (f_t_minutes_cells : Nat → Int32) (f_p0_pausedMinutes : Nat → Int32) (f_t_pausedMinutes : Nat → Int32) (f_p0_pausedMinutes_cells : Nat → Int32) (f_t_pausedMinutes_cells : Nat → Int32) : (Nat → Int32) × (Nat → Int32) × (Nat → Int32) × (Nat → Int32) × (Nat → Int32) × (Nat → Int32) × (Nat → Int32) × (Nat → Int32) :=
  (s_X2_copy_4 f_p0_pausedMinutes f_t_pausedMinutes f_p0_pausedMinutes_cells f_t_pausedMinutes_cells f_p0_minutes f_t_minutes f_p0_minutes_cells f_t_minutes_cells f_p0_cycles f_t_cycles f_p0_cycles_cells f_t_cycles_cells (s_X3_copy 16 f_p0_segments f_t_segments f_p0_segments_cells f_t_segments_cells))
set_option maxRecDepth 100000 in
set_option maxHeartbeats 4000000 in
theorem c_X2_copy (l : Launch) (D : va_G) (cI cJ cO : ClassId) (h_t : Nat) (h_p0 : Nat) (h_t_segments : Nat) (h_t_cycles : Nat) (h_t_minutes : Nat) (h_t_pausedMinutes : Nat) (h_p0_segments : Nat) (h_p0_cycles : Nat) (h_p0_minutes : Nat) (h_p0_pausedMinutes : Nat) (h_p0_segments_cells : Nat) (h_t_segments_cells : Nat) (h_p0_cycles_cells : Nat) (h_t_cycles_cells : Nat) (h_p0_minutes_cells : Nat) (h_t_minutes_cells : Nat) (h_p0_pausedMinutes_cells : Nat) (h_t_pausedMinutes_cells : Nat) (f_p0_segments : Nat → Int32) (f_t_segments : Nat → Int32) (f_p0_segments_cells : Nat → Int32) (f_t_segments_cells : Nat → Int32) (f_p0_cycles : Nat → Int32) (f_t_cycles : Nat → Int32) (f_p0_cycles_cells : Nat → Int32) (f_t_cycles_cells : Nat → Int32) (f_p0_minutes : Nat → Int32) (f_t_minutes : Nat → Int32) (f_p0_minutes_cells : Nat → Int32) (f_t_minutes_cells : Nat → Int32) (f_p0_pausedMinutes : Nat → Int32) (f_t_pausedMinutes : Nat → Int32) (f_p0_pausedMinutes_cells : Nat → Int32) (f_t_pausedMinutes_cells : Nat → Int32) : kV l yX2_copy cX2_copy 2 3 60 D (kT cI cJ cO) [.ref h_t, .ref h_p0] [(h_t, rsE h_t_segments h_t_cycles h_t_minutes h_t_pausedMinutes), (h_p0, rsE h_p0_segments h_p0_cycles h_p0_minutes h_p0_pausedMinutes), (h_p0_segments, rgE f_p0_segments h_p0_segments_cells), (h_t_segments, rgE f_t_segments h_t_segments_cells), (h_p0_segments_cells, iA cI 16 f_p0_segments_cells), (h_t_segments_cells, iA cI 16 f_t_segments_cells), (h_p0_cycles, rgE f_p0_cycles h_p0_cycles_cells), (h_t_cycles, rgE f_t_cycles h_t_cycles_cells), (h_p0_cycles_cells, iA cI 16 f_p0_cycles_cells), (h_t_cycles_cells, iA cI 16 f_t_cycles_cells), (h_p0_minutes, rgE f_p0_minutes h_p0_minutes_cells), (h_t_minutes, rgE f_t_minutes h_t_minutes_cells), (h_p0_minutes_cells, iA cI 16 f_p0_minutes_cells), (h_t_minutes_cells, iA cI 16 f_t_minutes_cells), (h_p0_pausedMinutes, rgE f_p0_pausedMinutes h_p0_pausedMinutes_cells), (h_t_pausedMinutes, rgE f_t_pausedMinutes h_t_pausedMinutes_cells), (h_p0_pausedMinutes_cells, iA cI 16 f_p0_pausedMinutes_cells), (h_t_pausedMinutes_cells, iA cI 16 f_t_pausedMinutes_cells)] [(h_t, rsE h_t_segments h_t_cycles h_t_minutes h_t_pausedMinutes), (h_p0, rsE h_p0_segments h_p0_cycles h_p0_minutes h_p0_pausedMinutes), (h_p0_segments, rgE f_p0_segments h_p0_segments_cells), (h_t_segments, rgE (s_X2_copy f_p0_segments f_t_segments f_p0_segments_cells f_t_segments_cells f_p0_cycles f_t_cycles f_p0_cycles_cells f_t_cycles_cells f_p0_minutes f_t_minutes f_p0_minutes_cells f_t_minutes_cells f_p0_pausedMinutes f_t_pausedMinutes f_p0_pausedMinutes_cells f_t_pausedMinutes_cells).1 h_t_segments_cells), (h_p0_segments_cells, iA cI 16 f_p0_segments_cells), (h_t_segments_cells, iA cI 16 (s_X2_copy f_p0_segments f_t_segments f_p0_segments_cells f_t_segments_cells f_p0_cycles f_t_cycles f_p0_cycles_cells f_t_cycles_cells f_p0_minutes f_t_minutes f_p0_minutes_cells f_t_minutes_cells f_p0_pausedMinutes f_t_pausedMinutes f_p0_pausedMinutes_cells f_t_pausedMinutes_cells).2.1), (h_p0_cycles, rgE f_p0_cycles h_p0_cycles_cells), (h_t_cycles, rgE (s_X2_copy f_p0_segments f_t_segments f_p0_segments_cells f_t_segments_cells f_p0_cycles f_t_cycles f_p0_cycles_cells f_t_cycles_cells f_p0_minutes f_t_minutes f_p0_minutes_cells f_t_minutes_cells f_p0_pausedMinutes f_t_pausedMinutes f_p0_pausedMinutes_cells f_t_pausedMinutes_cells).2.2.1 h_t_cycles_cells), (h_p0_cycles_cells, iA cI 16 f_p0_cycles_cells), (h_t_cycles_cells, iA cI 16 (s_X2_copy f_p0_segments f_t_segments f_p0_segments_cells f_t_segments_cells f_p0_cycles f_t_cycles f_p0_cycles_cells f_t_cycles_cells f_p0_minutes f_t_minutes f_p0_minutes_cells f_t_minutes_cells f_p0_pausedMinutes f_t_pausedMinutes f_p0_pausedMinutes_cells f_t_pausedMinutes_cells).2.2.2.1), (h_p0_minutes, rgE f_p0_minutes h_p0_minutes_cells), (h_t_minutes, rgE (s_X2_copy f_p0_segments f_t_segments f_p0_segments_cells f_t_segments_cells f_p0_cycles f_t_cycles f_p0_cycles_cells f_t_cycles_cells f_p0_minutes f_t_minutes f_p0_minutes_cells f_t_minutes_cells f_p0_pausedMinutes f_t_pausedMinutes f_p0_pausedMinutes_cells f_t_pausedMinutes_cells).2.2.2.2.1 h_t_minutes_cells), (h_p0_minutes_cells, iA cI 16 f_p0_minutes_cells), (h_t_minutes_cells, iA cI 16 (s_X2_copy f_p0_segments f_t_segments f_p0_segments_cells f_t_segments_cells f_p0_cycles f_t_cycles f_p0_cycles_cells f_t_cycles_cells f_p0_minutes f_t_minutes f_p0_minutes_cells f_t_minutes_cells f_p0_pausedMinutes f_t_pausedMinutes f_p0_pausedMinutes_cells f_t_pausedMinutes_cells).2.2.2.2.2.1), (h_p0_pausedMinutes, rgE f_p0_pausedMinutes h_p0_pausedMinutes_cells), (h_t_pausedMinutes, rgE (s_X2_copy f_p0_segments f_t_segments f_p0_segments_cells f_t_segments_cells f_p0_cycles f_t_cycles f_p0_cycles_cells f_t_cycles_cells f_p0_minutes f_t_minutes f_p0_minutes_cells f_t_minutes_cells f_p0_pausedMinutes f_t_pausedMinutes f_p0_pausedMinutes_cells f_t_pausedMinutes_cells).2.2.2.2.2.2.1 h_t_pausedMinutes_cells), (h_p0_pausedMinutes_cells, iA cI 16 f_p0_pausedMinutes_cells), (h_t_pausedMinutes_cells, iA cI 16 (s_X2_copy f_p0_segments f_t_segments f_p0_segments_cells f_t_segments_cells f_p0_cycles f_t_cycles f_p0_cycles_cells f_t_cycles_cells f_p0_minutes f_t_minutes f_p0_minutes_cells f_t_minutes_cells f_p0_pausedMinutes f_t_pausedMinutes f_p0_pausedMinutes_cells f_t_pausedMinutes_cells).2.2.2.2.2.2.2)] := by
  refine kV_of (own := RX2) (lv := [(0, .ref h_t), (1, .ref h_p0)]) rfl rfl (by decide) (Nat.le_of_ble_eq_true rfl) ?_
  intro p e s m args below meth c Q A C hret
  refine k_aload_n (pc := 0) C rfl 0 rfl dX2_copy_0 ?_
  refine g_X2_0 (pc := 1) C q_237 0 rfl dX2_copy_1 ?_
  refine k_aload_n (pc := 4) C rfl 1 rfl dX2_copy_4 ?_
  refine g_X2_0 (pc := 5) C q_237 1 rfl dX2_copy_5 ?_
  obtain ⟨u_1, eu_1⟩ : ∃ z : (Nat → Int32) × (Nat → Int32), z = (s_X3_copy 16 f_p0_segments f_t_segments f_p0_segments_cells f_t_segments_cells) := ⟨_, rfl⟩
  refine k_callVv (pc := 8) (As := [.ref h_p0_segments]) (rest := []) (wc := [(h_p0_segments, rgE f_p0_segments h_p0_segments_cells), (h_t_segments, rgE f_t_segments h_t_segments_cells), (h_p0_segments_cells, iA cI 16 f_p0_segments_cells), (h_t_segments_cells, iA cI 16 f_t_segments_cells)]) (wc2 := [(h_p0_segments, rgE f_p0_segments h_p0_segments_cells), (h_t_segments, rgE u_1.1 h_t_segments_cells), (h_p0_segments_cells, iA cI 16 f_p0_segments_cells), (h_t_segments_cells, iA cI 16 u_1.2)]) (ws2 := [(h_t, rsE h_t_segments h_t_cycles h_t_minutes h_t_pausedMinutes), (h_p0, rsE h_p0_segments h_p0_cycles h_p0_minutes h_p0_pausedMinutes), (h_p0_segments, rgE f_p0_segments h_p0_segments_cells), (h_t_segments, rgE u_1.1 h_t_segments_cells), (h_p0_segments_cells, iA cI 16 f_p0_segments_cells), (h_t_segments_cells, iA cI 16 u_1.2), (h_p0_cycles, rgE f_p0_cycles h_p0_cycles_cells), (h_t_cycles, rgE f_t_cycles h_t_cycles_cells), (h_p0_cycles_cells, iA cI 16 f_p0_cycles_cells), (h_t_cycles_cells, iA cI 16 f_t_cycles_cells), (h_p0_minutes, rgE f_p0_minutes h_p0_minutes_cells), (h_t_minutes, rgE f_t_minutes h_t_minutes_cells), (h_p0_minutes_cells, iA cI 16 f_p0_minutes_cells), (h_t_minutes_cells, iA cI 16 f_t_minutes_cells), (h_p0_pausedMinutes, rgE f_p0_pausedMinutes h_p0_pausedMinutes_cells), (h_t_pausedMinutes, rgE f_t_pausedMinutes h_t_pausedMinutes_cells), (h_p0_pausedMinutes_cells, iA cI 16 f_p0_pausedMinutes_cells), (h_t_pausedMinutes_cells, iA cI 16 f_t_pausedMinutes_cells)]) C (by rw [eu_1]; exact c_X3_copy l D cI cJ cO h_t_segments h_p0_segments h_p0_segments_cells h_t_segments_cells 16 f_p0_segments f_t_segments f_p0_segments_cells f_t_segments_cells (by decide)) cwv_X3_copy q_525 vX3 3 rfl [2, 3, 4, 5] rfl rfl (by decide) rfl rfl (Nat.le_of_ble_eq_true rfl) ⟨Nat.le_of_ble_eq_true rfl, Nat.le_of_ble_eq_true rfl⟩ rfl ⟨Nat.le_refl _, Nat.le_refl _⟩ dX2_copy_8 ?_
  refine k_aload_n (pc := 11) C rfl 0 rfl dX2_copy_11 ?_
  refine g_X2_1 (pc := 12) C q_238 0 rfl dX2_copy_12 ?_
  refine k_aload_n (pc := 15) C rfl 1 rfl dX2_copy_15 ?_
  refine g_X2_1 (pc := 16) C q_238 1 rfl dX2_copy_16 ?_
  obtain ⟨u_2, eu_2⟩ : ∃ z : (Nat → Int32) × (Nat → Int32), z = (s_X3_copy 16 f_p0_cycles f_t_cycles f_p0_cycles_cells f_t_cycles_cells) := ⟨_, rfl⟩
  refine k_callVv (pc := 19) (As := [.ref h_p0_cycles]) (rest := []) (wc := [(h_p0_cycles, rgE f_p0_cycles h_p0_cycles_cells), (h_t_cycles, rgE f_t_cycles h_t_cycles_cells), (h_p0_cycles_cells, iA cI 16 f_p0_cycles_cells), (h_t_cycles_cells, iA cI 16 f_t_cycles_cells)]) (wc2 := [(h_p0_cycles, rgE f_p0_cycles h_p0_cycles_cells), (h_t_cycles, rgE u_2.1 h_t_cycles_cells), (h_p0_cycles_cells, iA cI 16 f_p0_cycles_cells), (h_t_cycles_cells, iA cI 16 u_2.2)]) (ws2 := [(h_t, rsE h_t_segments h_t_cycles h_t_minutes h_t_pausedMinutes), (h_p0, rsE h_p0_segments h_p0_cycles h_p0_minutes h_p0_pausedMinutes), (h_p0_segments, rgE f_p0_segments h_p0_segments_cells), (h_t_segments, rgE u_1.1 h_t_segments_cells), (h_p0_segments_cells, iA cI 16 f_p0_segments_cells), (h_t_segments_cells, iA cI 16 u_1.2), (h_p0_cycles, rgE f_p0_cycles h_p0_cycles_cells), (h_t_cycles, rgE u_2.1 h_t_cycles_cells), (h_p0_cycles_cells, iA cI 16 f_p0_cycles_cells), (h_t_cycles_cells, iA cI 16 u_2.2), (h_p0_minutes, rgE f_p0_minutes h_p0_minutes_cells), (h_t_minutes, rgE f_t_minutes h_t_minutes_cells), (h_p0_minutes_cells, iA cI 16 f_p0_minutes_cells), (h_t_minutes_cells, iA cI 16 f_t_minutes_cells), (h_p0_pausedMinutes, rgE f_p0_pausedMinutes h_p0_pausedMinutes_cells), (h_t_pausedMinutes, rgE f_t_pausedMinutes h_t_pausedMinutes_cells), (h_p0_pausedMinutes_cells, iA cI 16 f_p0_pausedMinutes_cells), (h_t_pausedMinutes_cells, iA cI 16 f_t_pausedMinutes_cells)]) C (by rw [eu_2]; exact c_X3_copy l D cI cJ cO h_t_cycles h_p0_cycles h_p0_cycles_cells h_t_cycles_cells 16 f_p0_cycles f_t_cycles f_p0_cycles_cells f_t_cycles_cells (by decide)) cwv_X3_copy q_525 vX3 7 rfl [6, 7, 8, 9] rfl rfl (by decide) rfl rfl (Nat.le_of_ble_eq_true rfl) ⟨Nat.le_of_ble_eq_true rfl, Nat.le_of_ble_eq_true rfl⟩ rfl ⟨Nat.le_refl _, Nat.le_refl _⟩ dX2_copy_19 ?_
  refine k_aload_n (pc := 22) C rfl 0 rfl dX2_copy_22 ?_
  refine g_X2_2 (pc := 23) C q_239 0 rfl dX2_copy_23 ?_
  refine k_aload_n (pc := 26) C rfl 1 rfl dX2_copy_26 ?_
  refine g_X2_2 (pc := 27) C q_239 1 rfl dX2_copy_27 ?_
  obtain ⟨u_3, eu_3⟩ : ∃ z : (Nat → Int32) × (Nat → Int32), z = (s_X3_copy 16 f_p0_minutes f_t_minutes f_p0_minutes_cells f_t_minutes_cells) := ⟨_, rfl⟩
  refine k_callVv (pc := 30) (As := [.ref h_p0_minutes]) (rest := []) (wc := [(h_p0_minutes, rgE f_p0_minutes h_p0_minutes_cells), (h_t_minutes, rgE f_t_minutes h_t_minutes_cells), (h_p0_minutes_cells, iA cI 16 f_p0_minutes_cells), (h_t_minutes_cells, iA cI 16 f_t_minutes_cells)]) (wc2 := [(h_p0_minutes, rgE f_p0_minutes h_p0_minutes_cells), (h_t_minutes, rgE u_3.1 h_t_minutes_cells), (h_p0_minutes_cells, iA cI 16 f_p0_minutes_cells), (h_t_minutes_cells, iA cI 16 u_3.2)]) (ws2 := [(h_t, rsE h_t_segments h_t_cycles h_t_minutes h_t_pausedMinutes), (h_p0, rsE h_p0_segments h_p0_cycles h_p0_minutes h_p0_pausedMinutes), (h_p0_segments, rgE f_p0_segments h_p0_segments_cells), (h_t_segments, rgE u_1.1 h_t_segments_cells), (h_p0_segments_cells, iA cI 16 f_p0_segments_cells), (h_t_segments_cells, iA cI 16 u_1.2), (h_p0_cycles, rgE f_p0_cycles h_p0_cycles_cells), (h_t_cycles, rgE u_2.1 h_t_cycles_cells), (h_p0_cycles_cells, iA cI 16 f_p0_cycles_cells), (h_t_cycles_cells, iA cI 16 u_2.2), (h_p0_minutes, rgE f_p0_minutes h_p0_minutes_cells), (h_t_minutes, rgE u_3.1 h_t_minutes_cells), (h_p0_minutes_cells, iA cI 16 f_p0_minutes_cells), (h_t_minutes_cells, iA cI 16 u_3.2), (h_p0_pausedMinutes, rgE f_p0_pausedMinutes h_p0_pausedMinutes_cells), (h_t_pausedMinutes, rgE f_t_pausedMinutes h_t_pausedMinutes_cells), (h_p0_pausedMinutes_cells, iA cI 16 f_p0_pausedMinutes_cells), (h_t_pausedMinutes_cells, iA cI 16 f_t_pausedMinutes_cells)]) C (by rw [eu_3]; exact c_X3_copy l D cI cJ cO h_t_minutes h_p0_minutes h_p0_minutes_cells h_t_minutes_cells 16 f_p0_minutes f_t_minutes f_p0_minutes_cells f_t_minutes_cells (by decide)) cwv_X3_copy q_525 vX3 11 rfl [10, 11, 12, 13] rfl rfl (by decide) rfl rfl (Nat.le_of_ble_eq_true rfl) ⟨Nat.le_of_ble_eq_true rfl, Nat.le_of_ble_eq_true rfl⟩ rfl ⟨Nat.le_refl _, Nat.le_refl _⟩ dX2_copy_30 ?_
  refine k_aload_n (pc := 33) C rfl 0 rfl dX2_copy_33 ?_
  refine g_X2_3 (pc := 34) C q_240 0 rfl dX2_copy_34 ?_
  refine k_aload_n (pc := 37) C rfl 1 rfl dX2_copy_37 ?_
  refine g_X2_3 (pc := 38) C q_240 1 rfl dX2_copy_38 ?_
  obtain ⟨u_4, eu_4⟩ : ∃ z : (Nat → Int32) × (Nat → Int32), z = (s_X3_copy 16 f_p0_pausedMinutes f_t_pausedMinutes f_p0_pausedMinutes_cells f_t_pausedMinutes_cells) := ⟨_, rfl⟩
  refine k_callVv (pc := 41) (As := [.ref h_p0_pausedMinutes]) (rest := []) (wc := [(h_p0_pausedMinutes, rgE f_p0_pausedMinutes h_p0_pausedMinutes_cells), (h_t_pausedMinutes, rgE f_t_pausedMinutes h_t_pausedMinutes_cells), (h_p0_pausedMinutes_cells, iA cI 16 f_p0_pausedMinutes_cells), (h_t_pausedMinutes_cells, iA cI 16 f_t_pausedMinutes_cells)]) (wc2 := [(h_p0_pausedMinutes, rgE f_p0_pausedMinutes h_p0_pausedMinutes_cells), (h_t_pausedMinutes, rgE u_4.1 h_t_pausedMinutes_cells), (h_p0_pausedMinutes_cells, iA cI 16 f_p0_pausedMinutes_cells), (h_t_pausedMinutes_cells, iA cI 16 u_4.2)]) (ws2 := [(h_t, rsE h_t_segments h_t_cycles h_t_minutes h_t_pausedMinutes), (h_p0, rsE h_p0_segments h_p0_cycles h_p0_minutes h_p0_pausedMinutes), (h_p0_segments, rgE f_p0_segments h_p0_segments_cells), (h_t_segments, rgE u_1.1 h_t_segments_cells), (h_p0_segments_cells, iA cI 16 f_p0_segments_cells), (h_t_segments_cells, iA cI 16 u_1.2), (h_p0_cycles, rgE f_p0_cycles h_p0_cycles_cells), (h_t_cycles, rgE u_2.1 h_t_cycles_cells), (h_p0_cycles_cells, iA cI 16 f_p0_cycles_cells), (h_t_cycles_cells, iA cI 16 u_2.2), (h_p0_minutes, rgE f_p0_minutes h_p0_minutes_cells), (h_t_minutes, rgE u_3.1 h_t_minutes_cells), (h_p0_minutes_cells, iA cI 16 f_p0_minutes_cells), (h_t_minutes_cells, iA cI 16 u_3.2), (h_p0_pausedMinutes, rgE f_p0_pausedMinutes h_p0_pausedMinutes_cells), (h_t_pausedMinutes, rgE u_4.1 h_t_pausedMinutes_cells), (h_p0_pausedMinutes_cells, iA cI 16 f_p0_pausedMinutes_cells), (h_t_pausedMinutes_cells, iA cI 16 u_4.2)]) C (by rw [eu_4]; exact c_X3_copy l D cI cJ cO h_t_pausedMinutes h_p0_pausedMinutes h_p0_pausedMinutes_cells h_t_pausedMinutes_cells 16 f_p0_pausedMinutes f_t_pausedMinutes f_p0_pausedMinutes_cells f_t_pausedMinutes_cells (by decide)) cwv_X3_copy q_525 vX3 15 rfl [14, 15, 16, 17] rfl rfl (by decide) rfl rfl (Nat.le_of_ble_eq_true rfl) ⟨Nat.le_of_ble_eq_true rfl, Nat.le_of_ble_eq_true rfl⟩ rfl ⟨Nat.le_refl _, Nat.le_refl _⟩ dX2_copy_41 ?_
  have hs : (s_X2_copy f_p0_segments f_t_segments f_p0_segments_cells f_t_segments_cells f_p0_cycles f_t_cycles f_p0_cycles_cells f_t_cycles_cells f_p0_minutes f_t_minutes f_p0_minutes_cells f_t_minutes_cells f_p0_pausedMinutes f_t_pausedMinutes f_p0_pausedMinutes_cells f_t_pausedMinutes_cells) = (u_1.1, u_1.2, u_2.1, u_2.2, u_3.1, u_3.2, u_4.1, u_4.2) := (k_st (g := s_X2_copy_4 f_p0_pausedMinutes f_t_pausedMinutes f_p0_pausedMinutes_cells f_t_pausedMinutes_cells f_p0_minutes f_t_minutes f_p0_minutes_cells f_t_minutes_cells f_p0_cycles f_t_cycles f_p0_cycles_cells f_t_cycles_cells) eu_1 rfl (k_st (g := s_X2_copy_3 u_1 f_p0_pausedMinutes f_t_pausedMinutes f_p0_pausedMinutes_cells f_t_pausedMinutes_cells f_p0_minutes f_t_minutes f_p0_minutes_cells f_t_minutes_cells) eu_2 rfl (k_st (g := s_X2_copy_2 u_1 u_2 f_p0_pausedMinutes f_t_pausedMinutes f_p0_pausedMinutes_cells f_t_pausedMinutes_cells) eu_3 rfl (k_st (g := s_X2_copy_1 u_1 u_2 u_3) eu_4 rfl rfl))))
  exact k_finV (pc := 44) hret (by rw [hs]) dX2_copy_44

theorem dX9_write_0 : decode cX9_write 0 = .ok (.aload_n 0, 1) := by decide +kernel
theorem dX9_write_1 : decode cX9_write 1 = .ok (.getfield 12, 3) := by decide +kernel
theorem dX9_write_4 : decode cX9_write 4 = .ok (.iload_n 1, 1) := by decide +kernel
theorem dX9_write_5 : decode cX9_write 5 = .ok (.invokevirtual 30, 3) := by decide +kernel
theorem dX9_write_8 : decode cX9_write 8 = .ok (.aload_n 0, 1) := by decide +kernel
theorem dX9_write_9 : decode cX9_write 9 = .ok (.getfield 18, 3) := by decide +kernel
theorem dX9_write_12 : decode cX9_write 12 = .ok (.iload_n 2, 1) := by decide +kernel
theorem dX9_write_13 : decode cX9_write 13 = .ok (.invokevirtual 30, 3) := by decide +kernel
theorem dX9_write_16 : decode cX9_write 16 = .ok (.aload_n 0, 1) := by decide +kernel
theorem dX9_write_17 : decode cX9_write 17 = .ok (.getfield 21, 3) := by decide +kernel
theorem dX9_write_20 : decode cX9_write 20 = .ok (.iload_n 3, 1) := by decide +kernel
theorem dX9_write_21 : decode cX9_write 21 = .ok (.invokevirtual 30, 3) := by decide +kernel
theorem dX9_write_24 : decode cX9_write 24 = .ok (.aload_n 0, 1) := by decide +kernel
theorem dX9_write_25 : decode cX9_write 25 = .ok (.ldc2_w 33, 3) := by decide +kernel
theorem dX9_write_28 : decode cX9_write 28 = .ok (.aload_n 0, 1) := by decide +kernel
theorem dX9_write_29 : decode cX9_write 29 = .ok (.getfield 26, 3) := by decide +kernel
theorem dX9_write_32 : decode cX9_write 32 = .ok (.lmul, 1) := by decide +kernel
theorem dX9_write_33 : decode cX9_write 33 = .ok (.sipush 1000, 3) := by decide +kernel
theorem dX9_write_36 : decode cX9_write 36 = .ok (.iload_n 1, 1) := by decide +kernel
theorem dX9_write_37 : decode cX9_write 37 = .ok (.imul, 1) := by decide +kernel
theorem dX9_write_38 : decode cX9_write 38 = .ok (.i2l, 1) := by decide +kernel
theorem dX9_write_39 : decode cX9_write 39 = .ok (.ladd, 1) := by decide +kernel
theorem dX9_write_40 : decode cX9_write 40 = .ok (.iload_n 2, 1) := by decide +kernel
theorem dX9_write_41 : decode cX9_write 41 = .ok (.i2l, 1) := by decide +kernel
theorem dX9_write_42 : decode cX9_write 42 = .ok (.ladd, 1) := by decide +kernel
theorem dX9_write_43 : decode cX9_write 43 = .ok (.putfield 26, 3) := by decide +kernel
theorem dX9_write_46 : decode cX9_write 46 = .ok (.return_, 1) := by decide +kernel
def s_X9_write_1 (j_t : Int64) (p0 : Int32) (p1 : Int32) (u_1 : (Nat → Int32) × (Nat → Int32)) (u_2 : (Nat → Int32) × (Nat → Int32)) (u_3 : (Nat → Int32) × (Nat → Int32)) : Int64 × (Nat → Int32) × (Nat → Int32) × (Nat → Int32) × (Nat → Int32) × (Nat → Int32) × (Nat → Int32) :=
  ((((31 * j_t) + (Int32.toInt64 (1000 * p0))) + (Int32.toInt64 p1)), u_1.1, u_1.2, u_2.1, u_2.2, u_3.1, u_3.2)
def s_X9_write_2 (j_t : Int64) (p0 : Int32) (p1 : Int32) (u_1 : (Nat → Int32) × (Nat → Int32)) (f_t_times : Nat → Int32) (f_t_times_cells : Nat → Int32) (p2 : Int32) (u_2 : (Nat → Int32) × (Nat → Int32)) : Int64 × (Nat → Int32) × (Nat → Int32) × (Nat → Int32) × (Nat → Int32) × (Nat → Int32) × (Nat → Int32) :=
  (s_X9_write_1 j_t p0 p1 u_1 u_2 (s_X3_add 24 f_t_times f_t_times_cells p2))
def s_X9_write_3 (j_t : Int64) (p0 : Int32) (p1 : Int32) (f_t_times : Nat → Int32) (f_t_times_cells : Nat → Int32) (p2 : Int32) (f_t_numbers : Nat → Int32) (f_t_numbers_cells : Nat → Int32) (u_1 : (Nat → Int32) × (Nat → Int32)) : Int64 × (Nat → Int32) × (Nat → Int32) × (Nat → Int32) × (Nat → Int32) × (Nat → Int32) × (Nat → Int32) :=
  (s_X9_write_2 j_t p0 p1 u_1 f_t_times f_t_times_cells p2 (s_X3_add 24 f_t_numbers f_t_numbers_cells p1))
def s_X9_write (j_t : Int64) (f_t_kinds : Nat → Int32) (f_t_kinds_cells : Nat → Int32) (f_t_numbers : Nat → Int32) (f_t_numbers_cells : Nat → Int32) (f_t_times : Nat → Int32) (f_t_times_cells : Nat → Int32) (p0 : Int32) (p1 : Int32) (p2 : Int32) : Int64 × (Nat → Int32) × (Nat → Int32) × (Nat → Int32) × (Nat → Int32) × (Nat → Int32) × (Nat → Int32) :=
  (s_X9_write_3 j_t p0 p1 f_t_times f_t_times_cells p2 f_t_numbers f_t_numbers_cells (s_X3_add 24 f_t_kinds f_t_kinds_cells p0))
set_option maxRecDepth 100000 in
set_option maxHeartbeats 4000000 in
theorem c_X9_write (l : Launch) (D : va_G) (cI cJ cO : ClassId) (h_t : Nat) (h_t_kinds : Nat) (h_t_numbers : Nat) (h_t_times : Nat) (h_t_kinds_cells : Nat) (h_t_numbers_cells : Nat) (h_t_times_cells : Nat) (j_t : Int64) (f_t_kinds : Nat → Int32) (f_t_kinds_cells : Nat → Int32) (f_t_numbers : Nat → Int32) (f_t_numbers_cells : Nat → Int32) (f_t_times : Nat → Int32) (f_t_times_cells : Nat → Int32) (p0 : Int32) (p1 : Int32) (p2 : Int32) : kV l yX9_write cX9_write 4 1 21 D (kT cI cJ cO) [.ref h_t, .int p0, .int p1, .int p2] [(h_t, trE h_t_kinds h_t_numbers h_t_times j_t), (h_t_kinds, rgE f_t_kinds h_t_kinds_cells), (h_t_kinds_cells, iA cI 24 f_t_kinds_cells), (h_t_numbers, rgE f_t_numbers h_t_numbers_cells), (h_t_numbers_cells, iA cI 24 f_t_numbers_cells), (h_t_times, rgE f_t_times h_t_times_cells), (h_t_times_cells, iA cI 24 f_t_times_cells)] [(h_t, trE h_t_kinds h_t_numbers h_t_times (s_X9_write j_t f_t_kinds f_t_kinds_cells f_t_numbers f_t_numbers_cells f_t_times f_t_times_cells p0 p1 p2).1), (h_t_kinds, rgE (s_X9_write j_t f_t_kinds f_t_kinds_cells f_t_numbers f_t_numbers_cells f_t_times f_t_times_cells p0 p1 p2).2.1 h_t_kinds_cells), (h_t_kinds_cells, iA cI 24 (s_X9_write j_t f_t_kinds f_t_kinds_cells f_t_numbers f_t_numbers_cells f_t_times f_t_times_cells p0 p1 p2).2.2.1), (h_t_numbers, rgE (s_X9_write j_t f_t_kinds f_t_kinds_cells f_t_numbers f_t_numbers_cells f_t_times f_t_times_cells p0 p1 p2).2.2.2.1 h_t_numbers_cells), (h_t_numbers_cells, iA cI 24 (s_X9_write j_t f_t_kinds f_t_kinds_cells f_t_numbers f_t_numbers_cells f_t_times f_t_times_cells p0 p1 p2).2.2.2.2.1), (h_t_times, rgE (s_X9_write j_t f_t_kinds f_t_kinds_cells f_t_numbers f_t_numbers_cells f_t_times f_t_times_cells p0 p1 p2).2.2.2.2.2.1 h_t_times_cells), (h_t_times_cells, iA cI 24 (s_X9_write j_t f_t_kinds f_t_kinds_cells f_t_numbers f_t_numbers_cells f_t_times f_t_times_cells p0 p1 p2).2.2.2.2.2.2)] := by
  refine kV_of (own := RX9) (lv := [(0, .ref h_t), (1, .int p0), (2, .int p1), (3, .int p2)]) rfl rfl (by decide) (Nat.le_of_ble_eq_true rfl) ?_
  intro p e s m args below meth c Q A C hret
  refine k_aload_n (pc := 0) C rfl 0 rfl dX9_write_0 ?_
  refine g_X9_0 (pc := 1) C q_259 0 rfl dX9_write_1 ?_
  refine k_iload_n (pc := 4) C rfl 1 rfl dX9_write_4 ?_
  obtain ⟨u_1, eu_1⟩ : ∃ z : (Nat → Int32) × (Nat → Int32), z = (s_X3_add 24 f_t_kinds f_t_kinds_cells p0) := ⟨_, rfl⟩
  refine k_callVv (pc := 5) (As := [.int p0]) (rest := []) (wc := [(h_t_kinds, rgE f_t_kinds h_t_kinds_cells), (h_t_kinds_cells, iA cI 24 f_t_kinds_cells)]) (wc2 := [(h_t_kinds, rgE u_1.1 h_t_kinds_cells), (h_t_kinds_cells, iA cI 24 u_1.2)]) (ws2 := [(h_t, trE h_t_kinds h_t_numbers h_t_times j_t), (h_t_kinds, rgE u_1.1 h_t_kinds_cells), (h_t_kinds_cells, iA cI 24 u_1.2), (h_t_numbers, rgE f_t_numbers h_t_numbers_cells), (h_t_numbers_cells, iA cI 24 f_t_numbers_cells), (h_t_times, rgE f_t_times h_t_times_cells), (h_t_times_cells, iA cI 24 f_t_times_cells)]) C (by rw [eu_1]; exact c_X3_add l D cI cJ cO h_t_kinds h_t_kinds_cells 24 f_t_kinds f_t_kinds_cells p0 (by decide)) cwv_X3_add q_585 vX3 1 rfl [1, 2] rfl rfl (by decide) rfl rfl (Nat.le_of_ble_eq_true rfl) ⟨Nat.le_of_ble_eq_true rfl, Nat.le_of_ble_eq_true rfl⟩ rfl ⟨Nat.le_refl _, Nat.le_refl _⟩ dX9_write_5 ?_
  refine k_aload_n (pc := 8) C rfl 0 rfl dX9_write_8 ?_
  refine g_X9_1 (pc := 9) C q_260 0 rfl dX9_write_9 ?_
  refine k_iload_n (pc := 12) C rfl 2 rfl dX9_write_12 ?_
  obtain ⟨u_2, eu_2⟩ : ∃ z : (Nat → Int32) × (Nat → Int32), z = (s_X3_add 24 f_t_numbers f_t_numbers_cells p1) := ⟨_, rfl⟩
  refine k_callVv (pc := 13) (As := [.int p1]) (rest := []) (wc := [(h_t_numbers, rgE f_t_numbers h_t_numbers_cells), (h_t_numbers_cells, iA cI 24 f_t_numbers_cells)]) (wc2 := [(h_t_numbers, rgE u_2.1 h_t_numbers_cells), (h_t_numbers_cells, iA cI 24 u_2.2)]) (ws2 := [(h_t, trE h_t_kinds h_t_numbers h_t_times j_t), (h_t_kinds, rgE u_1.1 h_t_kinds_cells), (h_t_kinds_cells, iA cI 24 u_1.2), (h_t_numbers, rgE u_2.1 h_t_numbers_cells), (h_t_numbers_cells, iA cI 24 u_2.2), (h_t_times, rgE f_t_times h_t_times_cells), (h_t_times_cells, iA cI 24 f_t_times_cells)]) C (by rw [eu_2]; exact c_X3_add l D cI cJ cO h_t_numbers h_t_numbers_cells 24 f_t_numbers f_t_numbers_cells p1 (by decide)) cwv_X3_add q_585 vX3 3 rfl [3, 4] rfl rfl (by decide) rfl rfl (Nat.le_of_ble_eq_true rfl) ⟨Nat.le_of_ble_eq_true rfl, Nat.le_of_ble_eq_true rfl⟩ rfl ⟨Nat.le_refl _, Nat.le_refl _⟩ dX9_write_13 ?_
  refine k_aload_n (pc := 16) C rfl 0 rfl dX9_write_16 ?_
  refine g_X9_2 (pc := 17) C q_261 0 rfl dX9_write_17 ?_
  refine k_iload_n (pc := 20) C rfl 3 rfl dX9_write_20 ?_
  obtain ⟨u_3, eu_3⟩ : ∃ z : (Nat → Int32) × (Nat → Int32), z = (s_X3_add 24 f_t_times f_t_times_cells p2) := ⟨_, rfl⟩
  refine k_callVv (pc := 21) (As := [.int p2]) (rest := []) (wc := [(h_t_times, rgE f_t_times h_t_times_cells), (h_t_times_cells, iA cI 24 f_t_times_cells)]) (wc2 := [(h_t_times, rgE u_3.1 h_t_times_cells), (h_t_times_cells, iA cI 24 u_3.2)]) (ws2 := [(h_t, trE h_t_kinds h_t_numbers h_t_times j_t), (h_t_kinds, rgE u_1.1 h_t_kinds_cells), (h_t_kinds_cells, iA cI 24 u_1.2), (h_t_numbers, rgE u_2.1 h_t_numbers_cells), (h_t_numbers_cells, iA cI 24 u_2.2), (h_t_times, rgE u_3.1 h_t_times_cells), (h_t_times_cells, iA cI 24 u_3.2)]) C (by rw [eu_3]; exact c_X3_add l D cI cJ cO h_t_times h_t_times_cells 24 f_t_times f_t_times_cells p2 (by decide)) cwv_X3_add q_585 vX3 5 rfl [5, 6] rfl rfl (by decide) rfl rfl (Nat.le_of_ble_eq_true rfl) ⟨Nat.le_of_ble_eq_true rfl, Nat.le_of_ble_eq_true rfl⟩ rfl ⟨Nat.le_refl _, Nat.le_refl _⟩ dX9_write_21 ?_
  refine k_aload_n (pc := 24) C rfl 0 rfl dX9_write_24 ?_
  refine k_ldc2 (pc := 25) C q_589 dX9_write_25 ?_
  refine k_aload_n (pc := 28) C rfl 0 rfl dX9_write_28 ?_
  refine g_X9_3 (pc := 29) C q_262 0 rfl dX9_write_29 ?_
  refine k_lmul (pc := 32) C dX9_write_32 ?_
  refine k_sipush (pc := 33) C sipush_1000 dX9_write_33 ?_
  refine k_iload_n (pc := 36) C rfl 1 rfl dX9_write_36 ?_
  refine k_imul (pc := 37) C dX9_write_37 ?_
  refine k_i2l (pc := 38) C dX9_write_38 ?_
  refine k_ladd (pc := 39) C dX9_write_39 ?_
  refine k_iload_n (pc := 40) C rfl 2 rfl dX9_write_40 ?_
  refine k_i2l (pc := 41) C dX9_write_41 ?_
  refine k_ladd (pc := 42) C dX9_write_42 ?_
  refine p_X9_3 (pc := 43) (ws2 := [(h_t, trE h_t_kinds h_t_numbers h_t_times (((31 * j_t) + (Int32.toInt64 (1000 * p0))) + (Int32.toInt64 p1))), (h_t_kinds, rgE u_1.1 h_t_kinds_cells), (h_t_kinds_cells, iA cI 24 u_1.2), (h_t_numbers, rgE u_2.1 h_t_numbers_cells), (h_t_numbers_cells, iA cI 24 u_2.2), (h_t_times, rgE u_3.1 h_t_times_cells), (h_t_times_cells, iA cI 24 u_3.2)]) C q_262 0 rfl rfl dX9_write_43 ?_
  have hs : (s_X9_write j_t f_t_kinds f_t_kinds_cells f_t_numbers f_t_numbers_cells f_t_times f_t_times_cells p0 p1 p2) = ((((31 * j_t) + (Int32.toInt64 (1000 * p0))) + (Int32.toInt64 p1)), u_1.1, u_1.2, u_2.1, u_2.2, u_3.1, u_3.2) := (k_st (g := s_X9_write_3 j_t p0 p1 f_t_times f_t_times_cells p2 f_t_numbers f_t_numbers_cells) eu_1 rfl (k_st (g := s_X9_write_2 j_t p0 p1 u_1 f_t_times f_t_times_cells p2) eu_2 rfl (k_st (g := s_X9_write_1 j_t p0 p1 u_1 u_2) eu_3 rfl rfl)))
  exact k_finV (pc := 46) hret (by rw [hs]) dX9_write_46

theorem dX9_property_0 : decode cX9_property 0 = .ok (.iload_n 2, 1) := by decide +kernel
theorem dX9_property_1 : decode cX9_property 1 = .ok (.lookupswitch 45 #[(0, 27), (1, 36)], 27) := by decide +kernel
theorem dX9_property_28 : decode cX9_property 28 = .ok (.aload_n 0, 1) := by decide +kernel
theorem dX9_property_29 : decode cX9_property 29 = .ok (.getfield 12, 3) := by decide +kernel
theorem dX9_property_32 : decode cX9_property 32 = .ok (.iload_n 1, 1) := by decide +kernel
theorem dX9_property_33 : decode cX9_property 33 = .ok (.invokevirtual 35, 3) := by decide +kernel
theorem dX9_property_36 : decode cX9_property 36 = .ok (.ireturn, 1) := by decide +kernel
theorem dX9_property_37 : decode cX9_property 37 = .ok (.aload_n 0, 1) := by decide +kernel
theorem dX9_property_38 : decode cX9_property 38 = .ok (.getfield 18, 3) := by decide +kernel
theorem dX9_property_41 : decode cX9_property 41 = .ok (.iload_n 1, 1) := by decide +kernel
theorem dX9_property_42 : decode cX9_property 42 = .ok (.invokevirtual 35, 3) := by decide +kernel
theorem dX9_property_45 : decode cX9_property 45 = .ok (.ireturn, 1) := by decide +kernel
theorem dX9_property_46 : decode cX9_property 46 = .ok (.aload_n 0, 1) := by decide +kernel
theorem dX9_property_47 : decode cX9_property 47 = .ok (.getfield 21, 3) := by decide +kernel
theorem dX9_property_50 : decode cX9_property 50 = .ok (.iload_n 1, 1) := by decide +kernel
theorem dX9_property_51 : decode cX9_property 51 = .ok (.invokevirtual 35, 3) := by decide +kernel
theorem dX9_property_54 : decode cX9_property 54 = .ok (.ireturn, 1) := by decide +kernel
def s_X9_property (j_t : Int64) (f_t_kinds : Nat → Int32) (f_t_kinds_cells : Nat → Int32) (f_t_numbers : Nat → Int32) (f_t_numbers_cells : Nat → Int32) (f_t_times : Nat → Int32) (f_t_times_cells : Nat → Int32) (p0 : Int32) (p1 : Int32) : Int32 :=
  (if p1 = 0 then (s_X3_latest 24 f_t_kinds f_t_kinds_cells p0) else (if p1 = 1 then (s_X3_latest 24 f_t_numbers f_t_numbers_cells p0) else (s_X3_latest 24 f_t_times f_t_times_cells p0)))
set_option maxRecDepth 100000 in
set_option maxHeartbeats 4000000 in
theorem c_X9_property (l : Launch) (D : va_G) (cI cJ cO : ClassId) (h_t : Nat) (h_t_kinds : Nat) (h_t_numbers : Nat) (h_t_times : Nat) (h_t_kinds_cells : Nat) (h_t_numbers_cells : Nat) (h_t_times_cells : Nat) (j_t : Int64) (f_t_kinds : Nat → Int32) (f_t_kinds_cells : Nat → Int32) (f_t_numbers : Nat → Int32) (f_t_numbers_cells : Nat → Int32) (f_t_times : Nat → Int32) (f_t_times_cells : Nat → Int32) (p0 : Int32) (p1 : Int32) : kI l yX9_property cX9_property 3 .int 2 43 D (kT cI cJ cO) [.ref h_t, .int p0, .int p1] [(h_t, trE h_t_kinds h_t_numbers h_t_times j_t), (h_t_kinds, rgE f_t_kinds h_t_kinds_cells), (h_t_kinds_cells, iA cI 24 f_t_kinds_cells), (h_t_numbers, rgE f_t_numbers h_t_numbers_cells), (h_t_numbers_cells, iA cI 24 f_t_numbers_cells), (h_t_times, rgE f_t_times h_t_times_cells), (h_t_times_cells, iA cI 24 f_t_times_cells)] (s_X9_property j_t f_t_kinds f_t_kinds_cells f_t_numbers f_t_numbers_cells f_t_times f_t_times_cells p0 p1) [(h_t, trE h_t_kinds h_t_numbers h_t_times j_t), (h_t_kinds, rgE f_t_kinds h_t_kinds_cells), (h_t_kinds_cells, iA cI 24 f_t_kinds_cells), (h_t_numbers, rgE f_t_numbers h_t_numbers_cells), (h_t_numbers_cells, iA cI 24 f_t_numbers_cells), (h_t_times, rgE f_t_times h_t_times_cells), (h_t_times_cells, iA cI 24 f_t_times_cells)] := by
  refine kI_of (own := RX9) (lv := [(0, .ref h_t), (1, .int p0), (2, .int p1)]) rfl rfl (by decide) (Nat.le_of_ble_eq_true rfl) ?_
  intro p e s m args below meth c Q A C hret
  refine k_iload_n (pc := 0) C rfl 2 rfl dX9_property_0 ?_
  by_cases c_1 : p1 = 0
  · refine k_lsw (pc := 1) (off := 27) (tgt := 28) C (by decide) (by rw [c_1] <;> decide) (by decide) dX9_property_1 ?_
    refine k_aload_n (pc := 28) C rfl 0 rfl dX9_property_28 ?_
    refine g_X9_0 (pc := 29) C q_259 0 rfl dX9_property_29 ?_
    refine k_iload_n (pc := 32) C rfl 1 rfl dX9_property_32 ?_
    refine k_callVi (pc := 33) (As := [.int p0]) (rest := []) (r := (s_X3_latest 24 f_t_kinds f_t_kinds_cells p0)) (wc := [(h_t_kinds, rgE f_t_kinds h_t_kinds_cells), (h_t_kinds_cells, iA cI 24 f_t_kinds_cells)]) (wc2 := [(h_t_kinds, rgE f_t_kinds h_t_kinds_cells), (h_t_kinds_cells, iA cI 24 f_t_kinds_cells)]) (ws2 := [(h_t, trE h_t_kinds h_t_numbers h_t_times j_t), (h_t_kinds, rgE f_t_kinds h_t_kinds_cells), (h_t_kinds_cells, iA cI 24 f_t_kinds_cells), (h_t_numbers, rgE f_t_numbers h_t_numbers_cells), (h_t_numbers_cells, iA cI 24 f_t_numbers_cells), (h_t_times, rgE f_t_times h_t_times_cells), (h_t_times_cells, iA cI 24 f_t_times_cells)]) C (c_X3_latest l D cI cJ cO h_t_kinds h_t_kinds_cells 24 f_t_kinds f_t_kinds_cells p0 (by decide)) cwv_X3_latest q_932 vX3 1 rfl [1, 2] rfl rfl (by decide) rfl rfl (Nat.le_of_ble_eq_true rfl) ⟨Nat.le_of_ble_eq_true rfl, Nat.le_of_ble_eq_true rfl⟩ rfl ⟨Nat.le_refl _, Nat.le_refl _⟩ dX9_property_33 ?_
    have hs : (s_X9_property j_t f_t_kinds f_t_kinds_cells f_t_numbers f_t_numbers_cells f_t_times f_t_times_cells p0 p1) = (s_X3_latest 24 f_t_kinds f_t_kinds_cells p0) := (if_pos c_1)
    exact k_finI (pc := 36) hret rfl (by rw [hs]) rfl dX9_property_36
  · by_cases c_2 : p1 = 1
    · refine k_lsw (pc := 1) (off := 36) (tgt := 37) C (by decide) (by rw [c_2] <;> decide) (by decide) dX9_property_1 ?_
      refine k_aload_n (pc := 37) C rfl 0 rfl dX9_property_37 ?_
      refine g_X9_1 (pc := 38) C q_260 0 rfl dX9_property_38 ?_
      refine k_iload_n (pc := 41) C rfl 1 rfl dX9_property_41 ?_
      refine k_callVi (pc := 42) (As := [.int p0]) (rest := []) (r := (s_X3_latest 24 f_t_numbers f_t_numbers_cells p0)) (wc := [(h_t_numbers, rgE f_t_numbers h_t_numbers_cells), (h_t_numbers_cells, iA cI 24 f_t_numbers_cells)]) (wc2 := [(h_t_numbers, rgE f_t_numbers h_t_numbers_cells), (h_t_numbers_cells, iA cI 24 f_t_numbers_cells)]) (ws2 := [(h_t, trE h_t_kinds h_t_numbers h_t_times j_t), (h_t_kinds, rgE f_t_kinds h_t_kinds_cells), (h_t_kinds_cells, iA cI 24 f_t_kinds_cells), (h_t_numbers, rgE f_t_numbers h_t_numbers_cells), (h_t_numbers_cells, iA cI 24 f_t_numbers_cells), (h_t_times, rgE f_t_times h_t_times_cells), (h_t_times_cells, iA cI 24 f_t_times_cells)]) C (c_X3_latest l D cI cJ cO h_t_numbers h_t_numbers_cells 24 f_t_numbers f_t_numbers_cells p0 (by decide)) cwv_X3_latest q_932 vX3 3 rfl [3, 4] rfl rfl (by decide) rfl rfl (Nat.le_of_ble_eq_true rfl) ⟨Nat.le_of_ble_eq_true rfl, Nat.le_of_ble_eq_true rfl⟩ rfl ⟨Nat.le_refl _, Nat.le_refl _⟩ dX9_property_42 ?_
      have hs : (s_X9_property j_t f_t_kinds f_t_kinds_cells f_t_numbers f_t_numbers_cells f_t_times f_t_times_cells p0 p1) = (s_X3_latest 24 f_t_numbers f_t_numbers_cells p0) := ((if_neg c_1).trans (if_pos c_2))
      exact k_finI (pc := 45) hret rfl (by rw [hs]) rfl dX9_property_45
    · refine k_lsw (pc := 1) (off := 45) (tgt := 46) C (by decide) (by have z0 := k_ne (k := 0) c_1 (by decide); have z1 := k_ne (k := 1) c_2 (by decide); simp [Op.lookupswitch.offset, z0, z1, eq_comm]) (by decide) dX9_property_1 ?_
      refine k_aload_n (pc := 46) C rfl 0 rfl dX9_property_46 ?_
      refine g_X9_2 (pc := 47) C q_261 0 rfl dX9_property_47 ?_
      refine k_iload_n (pc := 50) C rfl 1 rfl dX9_property_50 ?_
      refine k_callVi (pc := 51) (As := [.int p0]) (rest := []) (r := (s_X3_latest 24 f_t_times f_t_times_cells p0)) (wc := [(h_t_times, rgE f_t_times h_t_times_cells), (h_t_times_cells, iA cI 24 f_t_times_cells)]) (wc2 := [(h_t_times, rgE f_t_times h_t_times_cells), (h_t_times_cells, iA cI 24 f_t_times_cells)]) (ws2 := [(h_t, trE h_t_kinds h_t_numbers h_t_times j_t), (h_t_kinds, rgE f_t_kinds h_t_kinds_cells), (h_t_kinds_cells, iA cI 24 f_t_kinds_cells), (h_t_numbers, rgE f_t_numbers h_t_numbers_cells), (h_t_numbers_cells, iA cI 24 f_t_numbers_cells), (h_t_times, rgE f_t_times h_t_times_cells), (h_t_times_cells, iA cI 24 f_t_times_cells)]) C (c_X3_latest l D cI cJ cO h_t_times h_t_times_cells 24 f_t_times f_t_times_cells p0 (by decide)) cwv_X3_latest q_932 vX3 5 rfl [5, 6] rfl rfl (by decide) rfl rfl (Nat.le_of_ble_eq_true rfl) ⟨Nat.le_of_ble_eq_true rfl, Nat.le_of_ble_eq_true rfl⟩ rfl ⟨Nat.le_refl _, Nat.le_refl _⟩ dX9_property_51 ?_
      have hs : (s_X9_property j_t f_t_kinds f_t_kinds_cells f_t_numbers f_t_numbers_cells f_t_times f_t_times_cells p0 p1) = (s_X3_latest 24 f_t_times f_t_times_cells p0) := ((if_neg c_1).trans (if_neg c_2))
      exact k_finI (pc := 54) hret rfl (by rw [hs]) rfl dX9_property_54

theorem dX9_copy_0 : decode cX9_copy 0 = .ok (.aload_n 0, 1) := by decide +kernel
theorem dX9_copy_1 : decode cX9_copy 1 = .ok (.getfield 12, 3) := by decide +kernel
theorem dX9_copy_4 : decode cX9_copy 4 = .ok (.aload_n 1, 1) := by decide +kernel
theorem dX9_copy_5 : decode cX9_copy 5 = .ok (.getfield 12, 3) := by decide +kernel
theorem dX9_copy_8 : decode cX9_copy 8 = .ok (.invokevirtual 39, 3) := by decide +kernel
theorem dX9_copy_11 : decode cX9_copy 11 = .ok (.aload_n 0, 1) := by decide +kernel
theorem dX9_copy_12 : decode cX9_copy 12 = .ok (.getfield 18, 3) := by decide +kernel
theorem dX9_copy_15 : decode cX9_copy 15 = .ok (.aload_n 1, 1) := by decide +kernel
theorem dX9_copy_16 : decode cX9_copy 16 = .ok (.getfield 18, 3) := by decide +kernel
theorem dX9_copy_19 : decode cX9_copy 19 = .ok (.invokevirtual 39, 3) := by decide +kernel
theorem dX9_copy_22 : decode cX9_copy 22 = .ok (.aload_n 0, 1) := by decide +kernel
theorem dX9_copy_23 : decode cX9_copy 23 = .ok (.getfield 21, 3) := by decide +kernel
theorem dX9_copy_26 : decode cX9_copy 26 = .ok (.aload_n 1, 1) := by decide +kernel
theorem dX9_copy_27 : decode cX9_copy 27 = .ok (.getfield 21, 3) := by decide +kernel
theorem dX9_copy_30 : decode cX9_copy 30 = .ok (.invokevirtual 39, 3) := by decide +kernel
theorem dX9_copy_33 : decode cX9_copy 33 = .ok (.aload_n 0, 1) := by decide +kernel
theorem dX9_copy_34 : decode cX9_copy 34 = .ok (.aload_n 1, 1) := by decide +kernel
theorem dX9_copy_35 : decode cX9_copy 35 = .ok (.getfield 26, 3) := by decide +kernel
theorem dX9_copy_38 : decode cX9_copy 38 = .ok (.putfield 26, 3) := by decide +kernel
theorem dX9_copy_41 : decode cX9_copy 41 = .ok (.return_, 1) := by decide +kernel
def s_X9_copy_1 (j_p0 : Int64) (u_1 : (Nat → Int32) × (Nat → Int32)) (u_2 : (Nat → Int32) × (Nat → Int32)) (u_3 : (Nat → Int32) × (Nat → Int32)) : Int64 × (Nat → Int32) × (Nat → Int32) × (Nat → Int32) × (Nat → Int32) × (Nat → Int32) × (Nat → Int32) :=
  (j_p0, u_1.1, u_1.2, u_2.1, u_2.2, u_3.1, u_3.2)
def s_X9_copy_2 (j_p0 : Int64) (u_1 : (Nat → Int32) × (Nat → Int32)) (f_p0_times : Nat → Int32) (f_t_times : Nat → Int32) (f_p0_times_cells : Nat → Int32) (f_t_times_cells : Nat → Int32) (u_2 : (Nat → Int32) × (Nat → Int32)) : Int64 × (Nat → Int32) × (Nat → Int32) × (Nat → Int32) × (Nat → Int32) × (Nat → Int32) × (Nat → Int32) :=
  (s_X9_copy_1 j_p0 u_1 u_2 (s_X3_copy 24 f_p0_times f_t_times f_p0_times_cells f_t_times_cells))
def s_X9_copy_3 (j_p0 : Int64) (f_p0_times : Nat → Int32) (f_t_times : Nat → Int32) (f_p0_times_cells : Nat → Int32) (f_t_times_cells : Nat → Int32) (f_p0_numbers : Nat → Int32) (f_t_numbers : Nat → Int32) (f_p0_numbers_cells : Nat → Int32) (f_t_numbers_cells : Nat → Int32) (u_1 : (Nat → Int32) × (Nat → Int32)) : Int64 × (Nat → Int32) × (Nat → Int32) × (Nat → Int32) × (Nat → Int32) × (Nat → Int32) × (Nat → Int32) :=
  (s_X9_copy_2 j_p0 u_1 f_p0_times f_t_times f_p0_times_cells f_t_times_cells (s_X3_copy 24 f_p0_numbers f_t_numbers f_p0_numbers_cells f_t_numbers_cells))
def s_X9_copy (j_t : Int64) (j_p0 : Int64) (f_p0_kinds : Nat → Int32) (f_t_kinds : Nat → Int32) (f_p0_kinds_cells : Nat → Int32) (f_t_kinds_cells : Nat → Int32) (f_p0_numbers : Nat → Int32) (f_t_numbers : Nat → Int32) (f_p0_numbers_cells : Nat → Int32) (f_t_numbers_cells : Nat → Int32) (f_p0_times : Nat → Int32) (f_t_times : Nat → Int32) (f_p0_times_cells : Nat → Int32) (f_t_times_cells : Nat → Int32) : Int64 × (Nat → Int32) × (Nat → Int32) × (Nat → Int32) × (Nat → Int32) × (Nat → Int32) × (Nat → Int32) :=
  (s_X9_copy_3 j_p0 f_p0_times f_t_times f_p0_times_cells f_t_times_cells f_p0_numbers f_t_numbers f_p0_numbers_cells f_t_numbers_cells (s_X3_copy 24 f_p0_kinds f_t_kinds f_p0_kinds_cells f_t_kinds_cells))
set_option maxRecDepth 100000 in
set_option maxHeartbeats 4000000 in
theorem c_X9_copy (l : Launch) (D : va_G) (cI cJ cO : ClassId) (h_t : Nat) (h_p0 : Nat) (h_t_kinds : Nat) (h_t_numbers : Nat) (h_t_times : Nat) (h_p0_kinds : Nat) (h_p0_numbers : Nat) (h_p0_times : Nat) (h_p0_kinds_cells : Nat) (h_t_kinds_cells : Nat) (h_p0_numbers_cells : Nat) (h_t_numbers_cells : Nat) (h_p0_times_cells : Nat) (h_t_times_cells : Nat) (j_t : Int64) (j_p0 : Int64) (f_p0_kinds : Nat → Int32) (f_t_kinds : Nat → Int32) (f_p0_kinds_cells : Nat → Int32) (f_t_kinds_cells : Nat → Int32) (f_p0_numbers : Nat → Int32) (f_t_numbers : Nat → Int32) (f_p0_numbers_cells : Nat → Int32) (f_t_numbers_cells : Nat → Int32) (f_p0_times : Nat → Int32) (f_t_times : Nat → Int32) (f_p0_times_cells : Nat → Int32) (f_t_times_cells : Nat → Int32) : kV l yX9_copy cX9_copy 2 3 60 D (kT cI cJ cO) [.ref h_t, .ref h_p0] [(h_t, trE h_t_kinds h_t_numbers h_t_times j_t), (h_p0, trE h_p0_kinds h_p0_numbers h_p0_times j_p0), (h_p0_kinds, rgE f_p0_kinds h_p0_kinds_cells), (h_t_kinds, rgE f_t_kinds h_t_kinds_cells), (h_p0_kinds_cells, iA cI 24 f_p0_kinds_cells), (h_t_kinds_cells, iA cI 24 f_t_kinds_cells), (h_p0_numbers, rgE f_p0_numbers h_p0_numbers_cells), (h_t_numbers, rgE f_t_numbers h_t_numbers_cells), (h_p0_numbers_cells, iA cI 24 f_p0_numbers_cells), (h_t_numbers_cells, iA cI 24 f_t_numbers_cells), (h_p0_times, rgE f_p0_times h_p0_times_cells), (h_t_times, rgE f_t_times h_t_times_cells), (h_p0_times_cells, iA cI 24 f_p0_times_cells), (h_t_times_cells, iA cI 24 f_t_times_cells)] [(h_t, trE h_t_kinds h_t_numbers h_t_times (s_X9_copy j_t j_p0 f_p0_kinds f_t_kinds f_p0_kinds_cells f_t_kinds_cells f_p0_numbers f_t_numbers f_p0_numbers_cells f_t_numbers_cells f_p0_times f_t_times f_p0_times_cells f_t_times_cells).1), (h_p0, trE h_p0_kinds h_p0_numbers h_p0_times j_p0), (h_p0_kinds, rgE f_p0_kinds h_p0_kinds_cells), (h_t_kinds, rgE (s_X9_copy j_t j_p0 f_p0_kinds f_t_kinds f_p0_kinds_cells f_t_kinds_cells f_p0_numbers f_t_numbers f_p0_numbers_cells f_t_numbers_cells f_p0_times f_t_times f_p0_times_cells f_t_times_cells).2.1 h_t_kinds_cells), (h_p0_kinds_cells, iA cI 24 f_p0_kinds_cells), (h_t_kinds_cells, iA cI 24 (s_X9_copy j_t j_p0 f_p0_kinds f_t_kinds f_p0_kinds_cells f_t_kinds_cells f_p0_numbers f_t_numbers f_p0_numbers_cells f_t_numbers_cells f_p0_times f_t_times f_p0_times_cells f_t_times_cells).2.2.1), (h_p0_numbers, rgE f_p0_numbers h_p0_numbers_cells), (h_t_numbers, rgE (s_X9_copy j_t j_p0 f_p0_kinds f_t_kinds f_p0_kinds_cells f_t_kinds_cells f_p0_numbers f_t_numbers f_p0_numbers_cells f_t_numbers_cells f_p0_times f_t_times f_p0_times_cells f_t_times_cells).2.2.2.1 h_t_numbers_cells), (h_p0_numbers_cells, iA cI 24 f_p0_numbers_cells), (h_t_numbers_cells, iA cI 24 (s_X9_copy j_t j_p0 f_p0_kinds f_t_kinds f_p0_kinds_cells f_t_kinds_cells f_p0_numbers f_t_numbers f_p0_numbers_cells f_t_numbers_cells f_p0_times f_t_times f_p0_times_cells f_t_times_cells).2.2.2.2.1), (h_p0_times, rgE f_p0_times h_p0_times_cells), (h_t_times, rgE (s_X9_copy j_t j_p0 f_p0_kinds f_t_kinds f_p0_kinds_cells f_t_kinds_cells f_p0_numbers f_t_numbers f_p0_numbers_cells f_t_numbers_cells f_p0_times f_t_times f_p0_times_cells f_t_times_cells).2.2.2.2.2.1 h_t_times_cells), (h_p0_times_cells, iA cI 24 f_p0_times_cells), (h_t_times_cells, iA cI 24 (s_X9_copy j_t j_p0 f_p0_kinds f_t_kinds f_p0_kinds_cells f_t_kinds_cells f_p0_numbers f_t_numbers f_p0_numbers_cells f_t_numbers_cells f_p0_times f_t_times f_p0_times_cells f_t_times_cells).2.2.2.2.2.2)] := by
  refine kV_of (own := RX9) (lv := [(0, .ref h_t), (1, .ref h_p0)]) rfl rfl (by decide) (Nat.le_of_ble_eq_true rfl) ?_
  intro p e s m args below meth c Q A C hret
  refine k_aload_n (pc := 0) C rfl 0 rfl dX9_copy_0 ?_
  refine g_X9_0 (pc := 1) C q_259 0 rfl dX9_copy_1 ?_
  refine k_aload_n (pc := 4) C rfl 1 rfl dX9_copy_4 ?_
  refine g_X9_0 (pc := 5) C q_259 1 rfl dX9_copy_5 ?_
  obtain ⟨u_1, eu_1⟩ : ∃ z : (Nat → Int32) × (Nat → Int32), z = (s_X3_copy 24 f_p0_kinds f_t_kinds f_p0_kinds_cells f_t_kinds_cells) := ⟨_, rfl⟩
  refine k_callVv (pc := 8) (As := [.ref h_p0_kinds]) (rest := []) (wc := [(h_p0_kinds, rgE f_p0_kinds h_p0_kinds_cells), (h_t_kinds, rgE f_t_kinds h_t_kinds_cells), (h_p0_kinds_cells, iA cI 24 f_p0_kinds_cells), (h_t_kinds_cells, iA cI 24 f_t_kinds_cells)]) (wc2 := [(h_p0_kinds, rgE f_p0_kinds h_p0_kinds_cells), (h_t_kinds, rgE u_1.1 h_t_kinds_cells), (h_p0_kinds_cells, iA cI 24 f_p0_kinds_cells), (h_t_kinds_cells, iA cI 24 u_1.2)]) (ws2 := [(h_t, trE h_t_kinds h_t_numbers h_t_times j_t), (h_p0, trE h_p0_kinds h_p0_numbers h_p0_times j_p0), (h_p0_kinds, rgE f_p0_kinds h_p0_kinds_cells), (h_t_kinds, rgE u_1.1 h_t_kinds_cells), (h_p0_kinds_cells, iA cI 24 f_p0_kinds_cells), (h_t_kinds_cells, iA cI 24 u_1.2), (h_p0_numbers, rgE f_p0_numbers h_p0_numbers_cells), (h_t_numbers, rgE f_t_numbers h_t_numbers_cells), (h_p0_numbers_cells, iA cI 24 f_p0_numbers_cells), (h_t_numbers_cells, iA cI 24 f_t_numbers_cells), (h_p0_times, rgE f_p0_times h_p0_times_cells), (h_t_times, rgE f_t_times h_t_times_cells), (h_p0_times_cells, iA cI 24 f_p0_times_cells), (h_t_times_cells, iA cI 24 f_t_times_cells)]) C (by rw [eu_1]; exact c_X3_copy l D cI cJ cO h_t_kinds h_p0_kinds h_p0_kinds_cells h_t_kinds_cells 24 f_p0_kinds f_t_kinds f_p0_kinds_cells f_t_kinds_cells (by decide)) cwv_X3_copy q_534 vX3 3 rfl [2, 3, 4, 5] rfl rfl (by decide) rfl rfl (Nat.le_of_ble_eq_true rfl) ⟨Nat.le_of_ble_eq_true rfl, Nat.le_of_ble_eq_true rfl⟩ rfl ⟨Nat.le_refl _, Nat.le_refl _⟩ dX9_copy_8 ?_
  refine k_aload_n (pc := 11) C rfl 0 rfl dX9_copy_11 ?_
  refine g_X9_1 (pc := 12) C q_260 0 rfl dX9_copy_12 ?_
  refine k_aload_n (pc := 15) C rfl 1 rfl dX9_copy_15 ?_
  refine g_X9_1 (pc := 16) C q_260 1 rfl dX9_copy_16 ?_
  obtain ⟨u_2, eu_2⟩ : ∃ z : (Nat → Int32) × (Nat → Int32), z = (s_X3_copy 24 f_p0_numbers f_t_numbers f_p0_numbers_cells f_t_numbers_cells) := ⟨_, rfl⟩
  refine k_callVv (pc := 19) (As := [.ref h_p0_numbers]) (rest := []) (wc := [(h_p0_numbers, rgE f_p0_numbers h_p0_numbers_cells), (h_t_numbers, rgE f_t_numbers h_t_numbers_cells), (h_p0_numbers_cells, iA cI 24 f_p0_numbers_cells), (h_t_numbers_cells, iA cI 24 f_t_numbers_cells)]) (wc2 := [(h_p0_numbers, rgE f_p0_numbers h_p0_numbers_cells), (h_t_numbers, rgE u_2.1 h_t_numbers_cells), (h_p0_numbers_cells, iA cI 24 f_p0_numbers_cells), (h_t_numbers_cells, iA cI 24 u_2.2)]) (ws2 := [(h_t, trE h_t_kinds h_t_numbers h_t_times j_t), (h_p0, trE h_p0_kinds h_p0_numbers h_p0_times j_p0), (h_p0_kinds, rgE f_p0_kinds h_p0_kinds_cells), (h_t_kinds, rgE u_1.1 h_t_kinds_cells), (h_p0_kinds_cells, iA cI 24 f_p0_kinds_cells), (h_t_kinds_cells, iA cI 24 u_1.2), (h_p0_numbers, rgE f_p0_numbers h_p0_numbers_cells), (h_t_numbers, rgE u_2.1 h_t_numbers_cells), (h_p0_numbers_cells, iA cI 24 f_p0_numbers_cells), (h_t_numbers_cells, iA cI 24 u_2.2), (h_p0_times, rgE f_p0_times h_p0_times_cells), (h_t_times, rgE f_t_times h_t_times_cells), (h_p0_times_cells, iA cI 24 f_p0_times_cells), (h_t_times_cells, iA cI 24 f_t_times_cells)]) C (by rw [eu_2]; exact c_X3_copy l D cI cJ cO h_t_numbers h_p0_numbers h_p0_numbers_cells h_t_numbers_cells 24 f_p0_numbers f_t_numbers f_p0_numbers_cells f_t_numbers_cells (by decide)) cwv_X3_copy q_534 vX3 7 rfl [6, 7, 8, 9] rfl rfl (by decide) rfl rfl (Nat.le_of_ble_eq_true rfl) ⟨Nat.le_of_ble_eq_true rfl, Nat.le_of_ble_eq_true rfl⟩ rfl ⟨Nat.le_refl _, Nat.le_refl _⟩ dX9_copy_19 ?_
  refine k_aload_n (pc := 22) C rfl 0 rfl dX9_copy_22 ?_
  refine g_X9_2 (pc := 23) C q_261 0 rfl dX9_copy_23 ?_
  refine k_aload_n (pc := 26) C rfl 1 rfl dX9_copy_26 ?_
  refine g_X9_2 (pc := 27) C q_261 1 rfl dX9_copy_27 ?_
  obtain ⟨u_3, eu_3⟩ : ∃ z : (Nat → Int32) × (Nat → Int32), z = (s_X3_copy 24 f_p0_times f_t_times f_p0_times_cells f_t_times_cells) := ⟨_, rfl⟩
  refine k_callVv (pc := 30) (As := [.ref h_p0_times]) (rest := []) (wc := [(h_p0_times, rgE f_p0_times h_p0_times_cells), (h_t_times, rgE f_t_times h_t_times_cells), (h_p0_times_cells, iA cI 24 f_p0_times_cells), (h_t_times_cells, iA cI 24 f_t_times_cells)]) (wc2 := [(h_p0_times, rgE f_p0_times h_p0_times_cells), (h_t_times, rgE u_3.1 h_t_times_cells), (h_p0_times_cells, iA cI 24 f_p0_times_cells), (h_t_times_cells, iA cI 24 u_3.2)]) (ws2 := [(h_t, trE h_t_kinds h_t_numbers h_t_times j_t), (h_p0, trE h_p0_kinds h_p0_numbers h_p0_times j_p0), (h_p0_kinds, rgE f_p0_kinds h_p0_kinds_cells), (h_t_kinds, rgE u_1.1 h_t_kinds_cells), (h_p0_kinds_cells, iA cI 24 f_p0_kinds_cells), (h_t_kinds_cells, iA cI 24 u_1.2), (h_p0_numbers, rgE f_p0_numbers h_p0_numbers_cells), (h_t_numbers, rgE u_2.1 h_t_numbers_cells), (h_p0_numbers_cells, iA cI 24 f_p0_numbers_cells), (h_t_numbers_cells, iA cI 24 u_2.2), (h_p0_times, rgE f_p0_times h_p0_times_cells), (h_t_times, rgE u_3.1 h_t_times_cells), (h_p0_times_cells, iA cI 24 f_p0_times_cells), (h_t_times_cells, iA cI 24 u_3.2)]) C (by rw [eu_3]; exact c_X3_copy l D cI cJ cO h_t_times h_p0_times h_p0_times_cells h_t_times_cells 24 f_p0_times f_t_times f_p0_times_cells f_t_times_cells (by decide)) cwv_X3_copy q_534 vX3 11 rfl [10, 11, 12, 13] rfl rfl (by decide) rfl rfl (Nat.le_of_ble_eq_true rfl) ⟨Nat.le_of_ble_eq_true rfl, Nat.le_of_ble_eq_true rfl⟩ rfl ⟨Nat.le_refl _, Nat.le_refl _⟩ dX9_copy_30 ?_
  refine k_aload_n (pc := 33) C rfl 0 rfl dX9_copy_33 ?_
  refine k_aload_n (pc := 34) C rfl 1 rfl dX9_copy_34 ?_
  refine g_X9_3 (pc := 35) C q_262 1 rfl dX9_copy_35 ?_
  refine p_X9_3 (pc := 38) (ws2 := [(h_t, trE h_t_kinds h_t_numbers h_t_times j_p0), (h_p0, trE h_p0_kinds h_p0_numbers h_p0_times j_p0), (h_p0_kinds, rgE f_p0_kinds h_p0_kinds_cells), (h_t_kinds, rgE u_1.1 h_t_kinds_cells), (h_p0_kinds_cells, iA cI 24 f_p0_kinds_cells), (h_t_kinds_cells, iA cI 24 u_1.2), (h_p0_numbers, rgE f_p0_numbers h_p0_numbers_cells), (h_t_numbers, rgE u_2.1 h_t_numbers_cells), (h_p0_numbers_cells, iA cI 24 f_p0_numbers_cells), (h_t_numbers_cells, iA cI 24 u_2.2), (h_p0_times, rgE f_p0_times h_p0_times_cells), (h_t_times, rgE u_3.1 h_t_times_cells), (h_p0_times_cells, iA cI 24 f_p0_times_cells), (h_t_times_cells, iA cI 24 u_3.2)]) C q_262 0 rfl rfl dX9_copy_38 ?_
  have hs : (s_X9_copy j_t j_p0 f_p0_kinds f_t_kinds f_p0_kinds_cells f_t_kinds_cells f_p0_numbers f_t_numbers f_p0_numbers_cells f_t_numbers_cells f_p0_times f_t_times f_p0_times_cells f_t_times_cells) = (j_p0, u_1.1, u_1.2, u_2.1, u_2.2, u_3.1, u_3.2) := (k_st (g := s_X9_copy_3 j_p0 f_p0_times f_t_times f_p0_times_cells f_t_times_cells f_p0_numbers f_t_numbers f_p0_numbers_cells f_t_numbers_cells) eu_1 rfl (k_st (g := s_X9_copy_2 j_p0 u_1 f_p0_times f_t_times f_p0_times_cells f_t_times_cells) eu_2 rfl (k_st (g := s_X9_copy_1 j_p0 u_1 u_2) eu_3 rfl rfl)))
  exact k_finV (pc := 41) hret (by rw [hs]) dX9_copy_41
