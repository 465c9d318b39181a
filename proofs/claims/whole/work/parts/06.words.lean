theorem q_7 : Cond.selects RX0 yX0_unlimitedDemand yX0_unlimitedDemand ∈ lw_all := kq 7 (by decide +kernel) (by decide +kernel)
theorem q_42 : Cond.initialized RX10 ∈ lw_all := kq 42 (by decide +kernel) (by decide +kernel)
theorem q_44 : Cond.initialized RX0 ∈ lw_all := kq 44 (by decide +kernel) (by decide +kernel)
theorem q_45 : Cond.initialized RX6 ∈ lw_all := kq 45 (by decide +kernel) (by decide +kernel)
theorem q_46 : Cond.initialized RX4 ∈ lw_all := kq 46 (by decide +kernel) (by decide +kernel)
theorem q_50 : Cond.initialized "java/lang/Math" ∈ lw_all := kq 50 (by decide +kernel) (by decide +kernel)
theorem q_91 : Cond.fieldLink RX0 7 "ClimateChamber$Channel" "mode" "I" ∈ lw_all := kq 91 (by decide +kernel) (by decide +kernel)
theorem q_93 : Cond.fieldLink RX0 13 "ClimateChamber$Channel" "gain" "I" ∈ lw_all := kq 93 (by decide +kernel) (by decide +kernel)
theorem q_95 : Cond.fieldLink RX0 16 "ClimateChamber$Channel" "band" "I" ∈ lw_all := kq 95 (by decide +kernel) (by decide +kernel)
theorem q_111 : Cond.fieldLink RX6 11 "ClimateChamber$Segments" "cells" "[I" ∈ lw_all := kq 111 (by decide +kernel) (by decide +kernel)
theorem q_112 : Cond.fieldLink RX6 15 "ClimateChamber$Segments" "count" "I" ∈ lw_all := kq 112 (by decide +kernel) (by decide +kernel)
theorem q_127 : Cond.fieldLink RX4 9 "ClimateChamber$Run" "phase" "I" ∈ lw_all := kq 127 (by decide +kernel) (by decide +kernel)
theorem q_130 : Cond.fieldLink RX4 19 "ClimateChamber$Run" "held" "Z" ∈ lw_all := kq 130 (by decide +kernel) (by decide +kernel)
theorem q_181 : Cond.fieldLink RX1 9 "ClimateChamber$Climate" "temperature" "I" ∈ lw_all := kq 181 (by decide +kernel) (by decide +kernel)
theorem q_184 : Cond.fieldLink RX1 15 "ClimateChamber$Climate" "humidity" "I" ∈ lw_all := kq 184 (by decide +kernel) (by decide +kernel)
theorem q_187 : Cond.fieldLink RX1 18 "ClimateChamber$Climate" "temperaturePoint" "I" ∈ lw_all := kq 187 (by decide +kernel) (by decide +kernel)
theorem q_200 : Cond.fieldLink RX1 24 "ClimateChamber$Climate" "heaterRest" "I" ∈ lw_all := kq 200 (by decide +kernel) (by decide +kernel)
theorem q_202 : Cond.fieldLink RX1 27 "ClimateChamber$Climate" "coolerRest" "I" ∈ lw_all := kq 202 (by decide +kernel) (by decide +kernel)
theorem q_204 : Cond.fieldLink RX1 44 "ClimateChamber$Climate" "heaterMinutes" "I" ∈ lw_all := kq 204 (by decide +kernel) (by decide +kernel)
theorem q_205 : Cond.fieldLink RX1 47 "ClimateChamber$Climate" "coolerMinutes" "I" ∈ lw_all := kq 205 (by decide +kernel) (by decide +kernel)
theorem q_206 : Cond.fieldLink RX1 50 "ClimateChamber$Climate" "humidifierMinutes" "I" ∈ lw_all := kq 206 (by decide +kernel) (by decide +kernel)
theorem q_207 : Cond.fieldLink RX1 53 "ClimateChamber$Climate" "dryerMinutes" "I" ∈ lw_all := kq 207 (by decide +kernel) (by decide +kernel)
theorem q_208 : Cond.fieldLink RX1 56 "ClimateChamber$Climate" "energy" "I" ∈ lw_all := kq 208 (by decide +kernel) (by decide +kernel)
theorem q_251 : Cond.static Lib.Math.max.name ∈ lw_all := kq 251 (by decide +kernel) (by decide +kernel)
theorem q_252 : Cond.code Lib.Math.max.name Lib.Math.max.code 2 (some .int) ∈ lw_all := kq 252 (by decide +kernel) (by decide +kernel)
theorem q_253 : Cond.fieldLink RX3 15 "ClimateChamber$Ring" "cells" "[I" ∈ lw_all := kq 253 (by decide +kernel) (by decide +kernel)
theorem q_254 : Cond.fieldLink RX3 21 "ClimateChamber$Ring" "next" "I" ∈ lw_all := kq 254 (by decide +kernel) (by decide +kernel)
theorem q_255 : Cond.fieldLink RX3 25 "ClimateChamber$Ring" "kept" "I" ∈ lw_all := kq 255 (by decide +kernel) (by decide +kernel)
theorem q_433 : Cond.static yX10_at ∈ lw_all := kq 433 (by decide +kernel) (by decide +kernel)
theorem q_434 : Cond.code yX10_at cX10_at 2 (some .int) ∈ lw_all := kq 434 (by decide +kernel) (by decide +kernel)
theorem q_456 : Cond.methodLink RX6 23 yX6_isFull ∈ lw_all := kq 456 (by decide +kernel) (by decide +kernel)
theorem q_457 : Cond.instanceMethod yX6_isFull ∈ lw_all := kq 457 (by decide +kernel) (by decide +kernel)
theorem q_458 : Cond.selects RX6 yX6_isFull yX6_isFull ∈ lw_all := kq 458 (by decide +kernel) (by decide +kernel)
theorem q_459 : Cond.code yX6_isFull cX6_isFull 1 (some .boolean) ∈ lw_all := kq 459 (by decide +kernel) (by decide +kernel)
theorem q_460 : Cond.methodLinkNest RX6 27 yX10_put RX10 ∈ lw_nest := kqn 460 (by decide +kernel) (by decide +kernel)
theorem q_461 : Cond.static yX10_put ∈ lw_all := kq 461 (by decide +kernel) (by decide +kernel)
theorem q_462 : Cond.code yX10_put cX10_put 3 none ∈ lw_all := kq 462 (by decide +kernel) (by decide +kernel)
theorem q_580 : Cond.methodLink RX10 225 Lib.Math.min.name ∈ lw_all := kq 580 (by decide +kernel) (by decide +kernel)
theorem q_581 : Cond.static Lib.Math.min.name ∈ lw_all := kq 581 (by decide +kernel) (by decide +kernel)
theorem q_582 : Cond.code Lib.Math.min.name Lib.Math.min.code 2 (some .int) ∈ lw_all := kq 582 (by decide +kernel) (by decide +kernel)
theorem q_636 : Cond.instanceMethod yX4_isRunning ∈ lw_all := kq 636 (by decide +kernel) (by decide +kernel)
theorem q_637 : Cond.selects RX4 yX4_isRunning yX4_isRunning ∈ lw_all := kq 637 (by decide +kernel) (by decide +kernel)
theorem q_638 : Cond.code yX4_isRunning cX4_isRunning 1 (some .boolean) ∈ lw_all := kq 638 (by decide +kernel) (by decide +kernel)
theorem q_673 : Cond.methodLink RX3 28 Lib.Math.min.name ∈ lw_all := kq 673 (by decide +kernel) (by decide +kernel)
theorem q_694 : Cond.methodLink RX4 15 yX4_isRunning ∈ lw_all := kq 694 (by decide +kernel) (by decide +kernel)
theorem q_699 : Cond.methodLinkNest RX6 19 yX10_at RX10 ∈ lw_nest := kqn 699 (by decide +kernel) (by decide +kernel)
theorem q_713 : Cond.methodLink RX0 19 yX0_unlimitedDemand ∈ lw_all := kq 713 (by decide +kernel) (by decide +kernel)
theorem q_715 : Cond.instanceMethod yX0_unlimitedDemand ∈ lw_all := kq 715 (by decide +kernel) (by decide +kernel)
theorem q_716 : Cond.code yX0_unlimitedDemand cX0_unlimitedDemand 2 (some .int) ∈ lw_all := kq 716 (by decide +kernel) (by decide +kernel)
theorem q_717 : Cond.methodLinkNest RX0 23 yX10_limit RX10 ∈ lw_nest := kqn 717 (by decide +kernel) (by decide +kernel)
theorem q_718 : Cond.static yX10_limit ∈ lw_all := kq 718 (by decide +kernel) (by decide +kernel)
theorem q_719 : Cond.code yX10_limit cX10_limit 3 (some .int) ∈ lw_all := kq 719 (by decide +kernel) (by decide +kernel)
theorem q_720 : Cond.methodLink RX10 230 Lib.Math.max.name ∈ lw_all := kq 720 (by decide +kernel) (by decide +kernel)
theorem q_734 : Cond.methodLinkNest RX1 36 yX10_limit RX10 ∈ lw_nest := kqn 734 (by decide +kernel) (by decide +kernel)
theorem q_739 : Cond.methodLink RX1 40 Lib.Math.min.name ∈ lw_all := kq 739 (by decide +kernel) (by decide +kernel)
theorem q_740 : Cond.methodLink RX1 30 Lib.Math.abs.name ∈ lw_all := kq 740 (by decide +kernel) (by decide +kernel)
theorem q_741 : Cond.static Lib.Math.abs.name ∈ lw_all := kq 741 (by decide +kernel) (by decide +kernel)
theorem q_742 : Cond.code Lib.Math.abs.name Lib.Math.abs.code 1 (some .int) ∈ lw_all := kq 742 (by decide +kernel) (by decide +kernel)
theorem q_892 : Cond.methodLinkNest RX3 31 yX10_at RX10 ∈ lw_nest := kqn 892 (by decide +kernel) (by decide +kernel)
theorem bipush_100 : (Int8.ofInt 100).toInt32 = 100 := by decide
theorem bipush_12 : (Int8.ofInt 12).toInt32 = 12 := by decide
theorem iconst_0 : Int32.ofInt 0 = 0 := by decide
theorem iconst_1 : Int32.ofInt 1 = 1 := by decide
theorem iconst_2 : Int32.ofInt 2 = 2 := by decide
theorem iconst_3 : Int32.ofInt 3 = 3 := by decide
theorem iconst_4 : Int32.ofInt 4 = 4 := by decide
theorem sipush_m1000 : (Int16.ofInt (-1000)).toInt32 = (-1000) := by decide
theorem sipush_m10000 : (Int16.ofInt (-10000)).toInt32 = (-10000) := by decide
theorem sipush_m700 : (Int16.ofInt (-700)).toInt32 = (-700) := by decide
theorem sipush_1000 : (Int16.ofInt 1000).toInt32 = 1000 := by decide
theorem sipush_2000 : (Int16.ofInt 2000).toInt32 = 2000 := by decide
theorem cwv_X0_unlimitedDemand : kCWv yX0_unlimitedDemand cX0_unlimitedDemand 2 (some .int) 1 := ⟨⟨q_716, q_44, by decide +kernel⟩, q_715, q_7⟩
theorem cws_X10_at : kCWs yX10_at cX10_at 2 (some .int) 2 := ⟨⟨q_434, q_42, by decide +kernel⟩, q_433⟩
theorem cws_X10_limit : kCWs yX10_limit cX10_limit 3 (some .int) 3 := ⟨⟨q_719, q_42, by decide +kernel⟩, q_718⟩
theorem cws_X10_put : kCWs yX10_put cX10_put 3 none 3 := ⟨⟨q_462, q_42, by decide +kernel⟩, q_461⟩
theorem cwv_X4_isRunning : kCWv yX4_isRunning cX4_isRunning 1 (some .boolean) 0 := ⟨⟨q_638, q_46, by decide +kernel⟩, q_636, q_637⟩
theorem cwv_X6_isFull : kCWv yX6_isFull cX6_isFull 1 (some .boolean) 0 := ⟨⟨q_459, q_45, by decide +kernel⟩, q_457, q_458⟩
