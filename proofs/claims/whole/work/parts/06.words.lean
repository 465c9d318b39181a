theorem q_0 : Cond.selects RX8 yX8_readSegment yX8_readSegment ∈ lw_all := kq 0 (by decide +kernel) (by decide +kernel)
theorem q_1 : Cond.selects RX8 yX8_readSign yX8_readSign ∈ lw_all := kq 1 (by decide +kernel) (by decide +kernel)
theorem q_2 : Cond.selects RX8 yX8_readNumber yX8_readNumber ∈ lw_all := kq 2 (by decide +kernel) (by decide +kernel)
theorem q_4 : Cond.selects RX7 yX7_moveSetPoints yX7_moveSetPoints ∈ lw_all := kq 4 (by decide +kernel) (by decide +kernel)
theorem q_5 : Cond.selects RX7 yX7_onRamp yX7_onRamp ∈ lw_all := kq 5 (by decide +kernel) (by decide +kernel)
theorem q_6 : Cond.selects RX7 yX7_allowedOutput yX7_allowedOutput ∈ lw_all := kq 6 (by decide +kernel) (by decide +kernel)
theorem q_7 : Cond.selects RX0 yX0_unlimitedDemand yX0_unlimitedDemand ∈ lw_all := kq 7 (by decide +kernel) (by decide +kernel)
theorem q_8 : Cond.selects RX7 yX7_moistureDemand yX7_moistureDemand ∈ lw_all := kq 8 (by decide +kernel) (by decide +kernel)
theorem q_9 : Cond.selects RX7 yX7_lost yX7_lost ∈ lw_all := kq 9 (by decide +kernel) (by decide +kernel)
theorem q_10 : Cond.selects RX7 yX7_followProgram yX7_followProgram ∈ lw_all := kq 10 (by decide +kernel) (by decide +kernel)
theorem q_11 : Cond.selects RX7 yX7_followRamp yX7_followRamp ∈ lw_all := kq 11 (by decide +kernel) (by decide +kernel)
theorem q_12 : Cond.selects RX7 yX7_followSoak yX7_followSoak ∈ lw_all := kq 12 (by decide +kernel) (by decide +kernel)
theorem q_13 : Cond.selects RX7 yX7_finishSegment yX7_finishSegment ∈ lw_all := kq 13 (by decide +kernel) (by decide +kernel)
theorem q_14 : Cond.selects RX7 yX7_beginSegment yX7_beginSegment ∈ lw_all := kq 14 (by decide +kernel) (by decide +kernel)
theorem q_18 : Cond.selects RX11 yX11_runs yX11_runs ∈ lw_all := kq 18 (by decide +kernel) (by decide +kernel)
theorem q_19 : Cond.selects RX11 yX11_enter yX11_enter ∈ lw_all := kq 19 (by decide +kernel) (by decide +kernel)
theorem q_23 : Cond.selects RX11 yX11_of yX11_of ∈ lw_all := kq 23 (by decide +kernel) (by decide +kernel)
theorem q_25 : Cond.selects RX11 yX11_demand yX11_demand ∈ lw_all := kq 25 (by decide +kernel) (by decide +kernel)
theorem q_42 : Cond.initialized RX10 ∈ lw_all := kq 42 (by decide +kernel) (by decide +kernel)
theorem q_43 : Cond.initialized RX7 ∈ lw_all := kq 43 (by decide +kernel) (by decide +kernel)
theorem q_44 : Cond.initialized RX0 ∈ lw_all := kq 44 (by decide +kernel) (by decide +kernel)
theorem q_45 : Cond.initialized RX6 ∈ lw_all := kq 45 (by decide +kernel) (by decide +kernel)
theorem q_46 : Cond.initialized RX4 ∈ lw_all := kq 46 (by decide +kernel) (by decide +kernel)
theorem q_47 : Cond.initialized RX1 ∈ lw_all := kq 47 (by decide +kernel) (by decide +kernel)
theorem q_48 : Cond.initialized RX2 ∈ lw_all := kq 48 (by decide +kernel) (by decide +kernel)
theorem q_49 : Cond.initialized RX3 ∈ lw_all := kq 49 (by decide +kernel) (by decide +kernel)
theorem q_50 : Cond.initialized "java/lang/Math" ∈ lw_all := kq 50 (by decide +kernel) (by decide +kernel)
theorem q_51 : Cond.initialized RX9 ∈ lw_all := kq 51 (by decide +kernel) (by decide +kernel)
theorem q_53 : Cond.initialized RX8 ∈ lw_all := kq 53 (by decide +kernel) (by decide +kernel)
theorem q_54 : Cond.initialized RX11 ∈ lw_all := kq 54 (by decide +kernel) (by decide +kernel)
theorem q_60 : Cond.initialized "java/lang/System" ∈ lw_all := kq 60 (by decide +kernel) (by decide +kernel)
theorem q_91 : Cond.fieldLink RX0 7 "ClimateChamber$Channel" "mode" "I" ∈ lw_all := kq 91 (by decide +kernel) (by decide +kernel)
theorem q_93 : Cond.fieldLink RX0 13 "ClimateChamber$Channel" "gain" "I" ∈ lw_all := kq 93 (by decide +kernel) (by decide +kernel)
theorem q_95 : Cond.fieldLink RX0 16 "ClimateChamber$Channel" "band" "I" ∈ lw_all := kq 95 (by decide +kernel) (by decide +kernel)
theorem q_111 : Cond.fieldLink RX6 11 "ClimateChamber$Segments" "cells" "[I" ∈ lw_all := kq 111 (by decide +kernel) (by decide +kernel)
theorem q_112 : Cond.fieldLink RX6 15 "ClimateChamber$Segments" "count" "I" ∈ lw_all := kq 112 (by decide +kernel) (by decide +kernel)
theorem q_113 : Cond.fieldLink RX8 30 "ClimateChamber$Segments" "count" "I" ∈ lw_all := kq 113 (by decide +kernel) (by decide +kernel)
theorem q_115 : Cond.fieldLink RX7 204 "ClimateChamber$Segments" "count" "I" ∈ lw_all := kq 115 (by decide +kernel) (by decide +kernel)
theorem q_127 : Cond.fieldLink RX4 9 "ClimateChamber$Run" "phase" "I" ∈ lw_all := kq 127 (by decide +kernel) (by decide +kernel)
theorem q_128 : Cond.fieldLink RX7 132 "ClimateChamber$Run" "phase" "I" ∈ lw_all := kq 128 (by decide +kernel) (by decide +kernel)
theorem q_130 : Cond.fieldLink RX4 19 "ClimateChamber$Run" "held" "Z" ∈ lw_all := kq 130 (by decide +kernel) (by decide +kernel)
theorem q_131 : Cond.fieldLink RX7 201 "ClimateChamber$Run" "held" "Z" ∈ lw_all := kq 131 (by decide +kernel) (by decide +kernel)
theorem q_133 : Cond.fieldLink RX2 27 "ClimateChamber$Run" "segment" "I" ∈ lw_all := kq 133 (by decide +kernel) (by decide +kernel)
theorem q_134 : Cond.fieldLink RX7 125 "ClimateChamber$Run" "segment" "I" ∈ lw_all := kq 134 (by decide +kernel) (by decide +kernel)
theorem q_135 : Cond.fieldLink RX4 23 "ClimateChamber$Run" "segment" "I" ∈ lw_all := kq 135 (by decide +kernel) (by decide +kernel)
theorem q_137 : Cond.fieldLink RX2 36 "ClimateChamber$Run" "cycle" "I" ∈ lw_all := kq 137 (by decide +kernel) (by decide +kernel)
theorem q_138 : Cond.fieldLink RX4 26 "ClimateChamber$Run" "cycle" "I" ∈ lw_all := kq 138 (by decide +kernel) (by decide +kernel)
theorem q_139 : Cond.fieldLink RX7 212 "ClimateChamber$Run" "cycle" "I" ∈ lw_all := kq 139 (by decide +kernel) (by decide +kernel)
theorem q_140 : Cond.fieldLink RX7 135 "ClimateChamber$Run" "rampClock" "I" ∈ lw_all := kq 140 (by decide +kernel) (by decide +kernel)
theorem q_141 : Cond.fieldLink RX4 29 "ClimateChamber$Run" "rampClock" "I" ∈ lw_all := kq 141 (by decide +kernel) (by decide +kernel)
theorem q_142 : Cond.fieldLink RX4 32 "ClimateChamber$Run" "soakClock" "I" ∈ lw_all := kq 142 (by decide +kernel) (by decide +kernel)
theorem q_143 : Cond.fieldLink RX7 198 "ClimateChamber$Run" "soakClock" "I" ∈ lw_all := kq 143 (by decide +kernel) (by decide +kernel)
theorem q_144 : Cond.fieldLink RX2 42 "ClimateChamber$Run" "pausedMinutes" "I" ∈ lw_all := kq 144 (by decide +kernel) (by decide +kernel)
theorem q_145 : Cond.fieldLink RX4 35 "ClimateChamber$Run" "pausedMinutes" "I" ∈ lw_all := kq 145 (by decide +kernel) (by decide +kernel)
theorem q_146 : Cond.fieldLink RX7 186 "ClimateChamber$Run" "pausedMinutes" "I" ∈ lw_all := kq 146 (by decide +kernel) (by decide +kernel)
theorem q_147 : Cond.fieldLink RX2 39 "ClimateChamber$Run" "beginning" "I" ∈ lw_all := kq 147 (by decide +kernel) (by decide +kernel)
theorem q_148 : Cond.fieldLink RX4 38 "ClimateChamber$Run" "beginning" "I" ∈ lw_all := kq 148 (by decide +kernel) (by decide +kernel)
theorem q_149 : Cond.fieldLink RX7 215 "ClimateChamber$Run" "beginning" "I" ∈ lw_all := kq 149 (by decide +kernel) (by decide +kernel)
theorem q_150 : Cond.fieldLink RX7 138 "ClimateChamber$Run" "startTemperature" "I" ∈ lw_all := kq 150 (by decide +kernel) (by decide +kernel)
theorem q_151 : Cond.fieldLink RX4 41 "ClimateChamber$Run" "startTemperature" "I" ∈ lw_all := kq 151 (by decide +kernel) (by decide +kernel)
theorem q_152 : Cond.fieldLink RX7 144 "ClimateChamber$Run" "startHumidity" "I" ∈ lw_all := kq 152 (by decide +kernel) (by decide +kernel)
theorem q_153 : Cond.fieldLink RX4 44 "ClimateChamber$Run" "startHumidity" "I" ∈ lw_all := kq 153 (by decide +kernel) (by decide +kernel)
theorem q_181 : Cond.fieldLink RX1 9 "ClimateChamber$Climate" "temperature" "I" ∈ lw_all := kq 181 (by decide +kernel) (by decide +kernel)
theorem q_182 : Cond.fieldLink RX7 96 "ClimateChamber$Climate" "temperature" "I" ∈ lw_all := kq 182 (by decide +kernel) (by decide +kernel)
theorem q_184 : Cond.fieldLink RX1 15 "ClimateChamber$Climate" "humidity" "I" ∈ lw_all := kq 184 (by decide +kernel) (by decide +kernel)
theorem q_185 : Cond.fieldLink RX7 102 "ClimateChamber$Climate" "humidity" "I" ∈ lw_all := kq 185 (by decide +kernel) (by decide +kernel)
theorem q_187 : Cond.fieldLink RX1 18 "ClimateChamber$Climate" "temperaturePoint" "I" ∈ lw_all := kq 187 (by decide +kernel) (by decide +kernel)
theorem q_188 : Cond.fieldLink RX7 147 "ClimateChamber$Climate" "temperaturePoint" "I" ∈ lw_all := kq 188 (by decide +kernel) (by decide +kernel)
theorem q_190 : Cond.fieldLink RX1 21 "ClimateChamber$Climate" "humidityPoint" "I" ∈ lw_all := kq 190 (by decide +kernel) (by decide +kernel)
theorem q_191 : Cond.fieldLink RX7 150 "ClimateChamber$Climate" "humidityPoint" "I" ∈ lw_all := kq 191 (by decide +kernel) (by decide +kernel)
theorem q_193 : Cond.fieldLink RX7 153 "ClimateChamber$Climate" "doorOpen" "Z" ∈ lw_all := kq 193 (by decide +kernel) (by decide +kernel)
theorem q_195 : Cond.fieldLink RX1 62 "ClimateChamber$Climate" "doorOpen" "Z" ∈ lw_all := kq 195 (by decide +kernel) (by decide +kernel)
theorem q_196 : Cond.fieldLink RX7 157 "ClimateChamber$Climate" "wasBlocked" "Z" ∈ lw_all := kq 196 (by decide +kernel) (by decide +kernel)
theorem q_197 : Cond.fieldLink RX1 66 "ClimateChamber$Climate" "wasBlocked" "Z" ∈ lw_all := kq 197 (by decide +kernel) (by decide +kernel)
theorem q_198 : Cond.fieldLink RX7 170 "ClimateChamber$Climate" "blockedMinutes" "I" ∈ lw_all := kq 198 (by decide +kernel) (by decide +kernel)
theorem q_199 : Cond.fieldLink RX1 59 "ClimateChamber$Climate" "blockedMinutes" "I" ∈ lw_all := kq 199 (by decide +kernel) (by decide +kernel)
theorem q_200 : Cond.fieldLink RX1 24 "ClimateChamber$Climate" "heaterRest" "I" ∈ lw_all := kq 200 (by decide +kernel) (by decide +kernel)
theorem q_201 : Cond.fieldLink RX7 167 "ClimateChamber$Climate" "heaterRest" "I" ∈ lw_all := kq 201 (by decide +kernel) (by decide +kernel)
theorem q_202 : Cond.fieldLink RX1 27 "ClimateChamber$Climate" "coolerRest" "I" ∈ lw_all := kq 202 (by decide +kernel) (by decide +kernel)
theorem q_203 : Cond.fieldLink RX7 164 "ClimateChamber$Climate" "coolerRest" "I" ∈ lw_all := kq 203 (by decide +kernel) (by decide +kernel)
theorem q_204 : Cond.fieldLink RX1 44 "ClimateChamber$Climate" "heaterMinutes" "I" ∈ lw_all := kq 204 (by decide +kernel) (by decide +kernel)
theorem q_205 : Cond.fieldLink RX1 47 "ClimateChamber$Climate" "coolerMinutes" "I" ∈ lw_all := kq 205 (by decide +kernel) (by decide +kernel)
theorem q_206 : Cond.fieldLink RX1 50 "ClimateChamber$Climate" "humidifierMinutes" "I" ∈ lw_all := kq 206 (by decide +kernel) (by decide +kernel)
theorem q_207 : Cond.fieldLink RX1 53 "ClimateChamber$Climate" "dryerMinutes" "I" ∈ lw_all := kq 207 (by decide +kernel) (by decide +kernel)
theorem q_208 : Cond.fieldLink RX1 56 "ClimateChamber$Climate" "energy" "I" ∈ lw_all := kq 208 (by decide +kernel) (by decide +kernel)
theorem q_251 : Cond.static Lib.Math.max.name ∈ lw_all := kq 251 (by decide +kernel) (by decide +kernel)
theorem q_252 : Cond.code Lib.Math.max.name Lib.Math.max.code 2 (some .int) ∈ lw_all := kq 252 (by decide +kernel) (by decide +kernel)
theorem q_253 : Cond.fieldLink RX3 15 "ClimateChamber$Ring" "cells" "[I" ∈ lw_all := kq 253 (by decide +kernel) (by decide +kernel)
theorem q_254 : Cond.fieldLink RX3 21 "ClimateChamber$Ring" "next" "I" ∈ lw_all := kq 254 (by decide +kernel) (by decide +kernel)
theorem q_255 : Cond.fieldLink RX3 25 "ClimateChamber$Ring" "kept" "I" ∈ lw_all := kq 255 (by decide +kernel) (by decide +kernel)
theorem q_264 : Cond.fieldLink RX2 12 "ClimateChamber$Results" "segments" "LClimateChamber$Ring;" ∈ lw_all := kq 264 (by decide +kernel) (by decide +kernel)
theorem q_265 : Cond.fieldLink RX2 18 "ClimateChamber$Results" "cycles" "LClimateChamber$Ring;" ∈ lw_all := kq 265 (by decide +kernel) (by decide +kernel)
theorem q_266 : Cond.fieldLink RX2 21 "ClimateChamber$Results" "minutes" "LClimateChamber$Ring;" ∈ lw_all := kq 266 (by decide +kernel) (by decide +kernel)
theorem q_267 : Cond.fieldLink RX2 24 "ClimateChamber$Results" "pausedMinutes" "LClimateChamber$Ring;" ∈ lw_all := kq 267 (by decide +kernel) (by decide +kernel)
theorem q_286 : Cond.fieldLink RX9 12 "ClimateChamber$Trail" "kinds" "LClimateChamber$Ring;" ∈ lw_all := kq 286 (by decide +kernel) (by decide +kernel)
theorem q_287 : Cond.fieldLink RX9 18 "ClimateChamber$Trail" "numbers" "LClimateChamber$Ring;" ∈ lw_all := kq 287 (by decide +kernel) (by decide +kernel)
theorem q_288 : Cond.fieldLink RX9 21 "ClimateChamber$Trail" "times" "LClimateChamber$Ring;" ∈ lw_all := kq 288 (by decide +kernel) (by decide +kernel)
theorem q_289 : Cond.fieldLink RX9 26 "ClimateChamber$Trail" "code" "J" ∈ lw_all := kq 289 (by decide +kernel) (by decide +kernel)
theorem q_302 : Cond.fieldLink RX7 118 "ClimateChamber$State" "time" "I" ∈ lw_all := kq 302 (by decide +kernel) (by decide +kernel)
theorem q_304 : Cond.fieldLink RX7 9 "ClimateChamber$State" "cycles" "I" ∈ lw_all := kq 304 (by decide +kernel) (by decide +kernel)
theorem q_306 : Cond.fieldLink RX7 24 "ClimateChamber$State" "settings" "[I" ∈ lw_all := kq 306 (by decide +kernel) (by decide +kernel)
theorem q_308 : Cond.fieldLink RX7 30 "ClimateChamber$State" "temperatureChannel" "LClimateChamber$Channel;" ∈ lw_all := kq 308 (by decide +kernel) (by decide +kernel)
theorem q_310 : Cond.fieldLink RX7 34 "ClimateChamber$State" "humidityChannel" "LClimateChamber$Channel;" ∈ lw_all := kq 310 (by decide +kernel) (by decide +kernel)
theorem q_312 : Cond.fieldLink RX7 40 "ClimateChamber$State" "segments" "LClimateChamber$Segments;" ∈ lw_all := kq 312 (by decide +kernel) (by decide +kernel)
theorem q_314 : Cond.fieldLink RX7 47 "ClimateChamber$State" "run" "LClimateChamber$Run;" ∈ lw_all := kq 314 (by decide +kernel) (by decide +kernel)
theorem q_316 : Cond.fieldLink RX7 54 "ClimateChamber$State" "climate" "LClimateChamber$Climate;" ∈ lw_all := kq 316 (by decide +kernel) (by decide +kernel)
theorem q_318 : Cond.fieldLink RX7 61 "ClimateChamber$State" "results" "LClimateChamber$Results;" ∈ lw_all := kq 318 (by decide +kernel) (by decide +kernel)
theorem q_320 : Cond.fieldLink RX7 68 "ClimateChamber$State" "trail" "LClimateChamber$Trail;" ∈ lw_all := kq 320 (by decide +kernel) (by decide +kernel)
theorem q_322 : Cond.fieldLink RX7 77 "ClimateChamber$State" "temperatures" "LClimateChamber$Ring;" ∈ lw_all := kq 322 (by decide +kernel) (by decide +kernel)
theorem q_374 : Cond.fieldLink RX8 11 "ClimateChamber$Text" "codes" "[I" ∈ lw_all := kq 374 (by decide +kernel) (by decide +kernel)
theorem q_375 : Cond.fieldLink RX8 22 "ClimateChamber$Text" "length" "I" ∈ lw_all := kq 375 (by decide +kernel) (by decide +kernel)
theorem q_377 : Cond.fieldLink RX8 18 "ClimateChamber$Text" "segments" "LClimateChamber$Segments;" ∈ lw_all := kq 377 (by decide +kernel) (by decide +kernel)
theorem q_379 : Cond.fieldLink RX8 33 "ClimateChamber$Text" "place" "I" ∈ lw_all := kq 379 (by decide +kernel) (by decide +kernel)
theorem q_380 : Cond.fieldLink RX8 50 "ClimateChamber$Text" "number" "I" ∈ lw_all := kq 380 (by decide +kernel) (by decide +kernel)
theorem q_381 : Cond.fieldLink RX8 36 "ClimateChamber$Text" "firstOutOfRange" "I" ∈ lw_all := kq 381 (by decide +kernel) (by decide +kernel)
theorem q_424 : Cond.methodLink RX8 39 yX8_readSegment ∈ lw_all := kq 424 (by decide +kernel) (by decide +kernel)
theorem q_426 : Cond.instanceMethod yX8_readSegment ∈ lw_all := kq 426 (by decide +kernel) (by decide +kernel)
theorem q_427 : Cond.code yX8_readSegment cX8_readSegment 6 (some .boolean) ∈ lw_all := kq 427 (by decide +kernel) (by decide +kernel)
theorem q_428 : Cond.methodLink RX8 43 yX8_readSign ∈ lw_all := kq 428 (by decide +kernel) (by decide +kernel)
theorem q_430 : Cond.instanceMethod yX8_readSign ∈ lw_all := kq 430 (by decide +kernel) (by decide +kernel)
theorem q_431 : Cond.code yX8_readSign cX8_readSign 2 (some .boolean) ∈ lw_all := kq 431 (by decide +kernel) (by decide +kernel)
theorem q_432 : Cond.methodLinkNest RX8 61 yX10_at RX10 ∈ lw_nest := kqn 432 (by decide +kernel) (by decide +kernel)
theorem q_433 : Cond.static yX10_at ∈ lw_all := kq 433 (by decide +kernel) (by decide +kernel)
theorem q_434 : Cond.code yX10_at cX10_at 2 (some .int) ∈ lw_all := kq 434 (by decide +kernel) (by decide +kernel)
theorem q_435 : Cond.methodLink RX8 47 yX8_readNumber ∈ lw_all := kq 435 (by decide +kernel) (by decide +kernel)
theorem q_437 : Cond.instanceMethod yX8_readNumber ∈ lw_all := kq 437 (by decide +kernel) (by decide +kernel)
theorem q_438 : Cond.code yX8_readNumber cX8_readNumber 2 (some .boolean) ∈ lw_all := kq 438 (by decide +kernel) (by decide +kernel)
theorem q_439 : Cond.methodLinkNest RX8 65 yX10_isWithin RX10 ∈ lw_nest := kqn 439 (by decide +kernel) (by decide +kernel)
theorem q_440 : Cond.static yX10_isWithin ∈ lw_all := kq 440 (by decide +kernel) (by decide +kernel)
theorem q_441 : Cond.code yX10_isWithin cX10_isWithin 3 (some .boolean) ∈ lw_all := kq 441 (by decide +kernel) (by decide +kernel)
theorem q_442 : Cond.methodLinkNest RX8 53 yX10_isSegment RX10 ∈ lw_nest := kqn 442 (by decide +kernel) (by decide +kernel)
theorem q_443 : Cond.static yX10_isSegment ∈ lw_all := kq 443 (by decide +kernel) (by decide +kernel)
theorem q_444 : Cond.code yX10_isSegment cX10_isSegment 4 (some .boolean) ∈ lw_all := kq 444 (by decide +kernel) (by decide +kernel)
theorem q_445 : Cond.methodLink RX10 89 yX10_isTarget ∈ lw_all := kq 445 (by decide +kernel) (by decide +kernel)
theorem q_446 : Cond.static yX10_isTarget ∈ lw_all := kq 446 (by decide +kernel) (by decide +kernel)
theorem q_447 : Cond.code yX10_isTarget cX10_isTarget 2 (some .boolean) ∈ lw_all := kq 447 (by decide +kernel) (by decide +kernel)
theorem q_448 : Cond.methodLink RX10 242 yX10_isTargetTemperature ∈ lw_all := kq 448 (by decide +kernel) (by decide +kernel)
theorem q_449 : Cond.static yX10_isTargetTemperature ∈ lw_all := kq 449 (by decide +kernel) (by decide +kernel)
theorem q_450 : Cond.code yX10_isTargetTemperature cX10_isTargetTemperature 1 (some .boolean) ∈ lw_all := kq 450 (by decide +kernel) (by decide +kernel)
theorem q_451 : Cond.methodLink RX10 51 yX10_isWithin ∈ lw_all := kq 451 (by decide +kernel) (by decide +kernel)
theorem q_452 : Cond.methodLink RX8 57 yX6_add ∈ lw_all := kq 452 (by decide +kernel) (by decide +kernel)
theorem q_453 : Cond.instanceMethod yX6_add ∈ lw_all := kq 453 (by decide +kernel) (by decide +kernel)
theorem q_454 : Cond.selects RX6 yX6_add yX6_add ∈ lw_all := kq 454 (by decide +kernel) (by decide +kernel)
theorem q_455 : Cond.code yX6_add cX6_add 6 none ∈ lw_all := kq 455 (by decide +kernel) (by decide +kernel)
theorem q_456 : Cond.methodLink RX6 23 yX6_isFull ∈ lw_all := kq 456 (by decide +kernel) (by decide +kernel)
theorem q_457 : Cond.instanceMethod yX6_isFull ∈ lw_all := kq 457 (by decide +kernel) (by decide +kernel)
theorem q_458 : Cond.selects RX6 yX6_isFull yX6_isFull ∈ lw_all := kq 458 (by decide +kernel) (by decide +kernel)
theorem q_459 : Cond.code yX6_isFull cX6_isFull 1 (some .boolean) ∈ lw_all := kq 459 (by decide +kernel) (by decide +kernel)
theorem q_460 : Cond.methodLinkNest RX6 27 yX10_put RX10 ∈ lw_nest := kqn 460 (by decide +kernel) (by decide +kernel)
theorem q_461 : Cond.static yX10_put ∈ lw_all := kq 461 (by decide +kernel) (by decide +kernel)
theorem q_462 : Cond.code yX10_put cX10_put 3 none ∈ lw_all := kq 462 (by decide +kernel) (by decide +kernel)
theorem q_577 : Cond.methodLinkNest RX7 221 yX10_copyRow RX10 ∈ lw_nest := kqn 577 (by decide +kernel) (by decide +kernel)
theorem q_578 : Cond.static yX10_copyRow ∈ lw_all := kq 578 (by decide +kernel) (by decide +kernel)
theorem q_579 : Cond.code yX10_copyRow cX10_copyRow 2 none ∈ lw_all := kq 579 (by decide +kernel) (by decide +kernel)
theorem q_580 : Cond.methodLink RX10 225 Lib.Math.min.name ∈ lw_all := kq 580 (by decide +kernel) (by decide +kernel)
theorem q_581 : Cond.static Lib.Math.min.name ∈ lw_all := kq 581 (by decide +kernel) (by decide +kernel)
theorem q_582 : Cond.code Lib.Math.min.name Lib.Math.min.code 2 (some .int) ∈ lw_all := kq 582 (by decide +kernel) (by decide +kernel)
theorem q_583 : Cond.methodLink RX10 280 arraycopyName ∈ lw_all := kq 583 (by decide +kernel) (by decide +kernel)
theorem q_584 : Cond.static arraycopyName ∈ lw_all := kq 584 (by decide +kernel) (by decide +kernel)
theorem q_585 : Cond.native arraycopyName ∈ lw_all := kq 585 (by decide +kernel) (by decide +kernel)
theorem q_586 : Cond.methodLink RX7 225 yX0_copy ∈ lw_all := kq 586 (by decide +kernel) (by decide +kernel)
theorem q_587 : Cond.instanceMethod yX0_copy ∈ lw_all := kq 587 (by decide +kernel) (by decide +kernel)
theorem q_588 : Cond.selects RX0 yX0_copy yX0_copy ∈ lw_all := kq 588 (by decide +kernel) (by decide +kernel)
theorem q_589 : Cond.code yX0_copy cX0_copy 2 none ∈ lw_all := kq 589 (by decide +kernel) (by decide +kernel)
theorem q_590 : Cond.methodLink RX7 229 yX6_copy ∈ lw_all := kq 590 (by decide +kernel) (by decide +kernel)
theorem q_591 : Cond.instanceMethod yX6_copy ∈ lw_all := kq 591 (by decide +kernel) (by decide +kernel)
theorem q_592 : Cond.selects RX6 yX6_copy yX6_copy ∈ lw_all := kq 592 (by decide +kernel) (by decide +kernel)
theorem q_593 : Cond.code yX6_copy cX6_copy 2 none ∈ lw_all := kq 593 (by decide +kernel) (by decide +kernel)
theorem q_594 : Cond.methodLinkNest RX6 31 yX10_copyRow RX10 ∈ lw_nest := kqn 594 (by decide +kernel) (by decide +kernel)
theorem q_595 : Cond.methodLink RX7 232 yX4_copy ∈ lw_all := kq 595 (by decide +kernel) (by decide +kernel)
theorem q_596 : Cond.instanceMethod yX4_copy ∈ lw_all := kq 596 (by decide +kernel) (by decide +kernel)
theorem q_597 : Cond.selects RX4 yX4_copy yX4_copy ∈ lw_all := kq 597 (by decide +kernel) (by decide +kernel)
theorem q_598 : Cond.code yX4_copy cX4_copy 2 none ∈ lw_all := kq 598 (by decide +kernel) (by decide +kernel)
theorem q_599 : Cond.methodLink RX7 235 yX1_copy ∈ lw_all := kq 599 (by decide +kernel) (by decide +kernel)
theorem q_600 : Cond.instanceMethod yX1_copy ∈ lw_all := kq 600 (by decide +kernel) (by decide +kernel)
theorem q_601 : Cond.selects RX1 yX1_copy yX1_copy ∈ lw_all := kq 601 (by decide +kernel) (by decide +kernel)
theorem q_602 : Cond.code yX1_copy cX1_copy 2 none ∈ lw_all := kq 602 (by decide +kernel) (by decide +kernel)
theorem q_603 : Cond.methodLink RX7 238 yX2_copy ∈ lw_all := kq 603 (by decide +kernel) (by decide +kernel)
theorem q_604 : Cond.instanceMethod yX2_copy ∈ lw_all := kq 604 (by decide +kernel) (by decide +kernel)
theorem q_605 : Cond.selects RX2 yX2_copy yX2_copy ∈ lw_all := kq 605 (by decide +kernel) (by decide +kernel)
theorem q_606 : Cond.code yX2_copy cX2_copy 2 none ∈ lw_all := kq 606 (by decide +kernel) (by decide +kernel)
theorem q_607 : Cond.methodLink RX2 48 yX3_copy ∈ lw_all := kq 607 (by decide +kernel) (by decide +kernel)
theorem q_608 : Cond.instanceMethod yX3_copy ∈ lw_all := kq 608 (by decide +kernel) (by decide +kernel)
theorem q_609 : Cond.selects RX3 yX3_copy yX3_copy ∈ lw_all := kq 609 (by decide +kernel) (by decide +kernel)
theorem q_610 : Cond.code yX3_copy cX3_copy 2 none ∈ lw_all := kq 610 (by decide +kernel) (by decide +kernel)
theorem q_611 : Cond.methodLinkNest RX3 35 yX10_copyRow RX10 ∈ lw_nest := kqn 611 (by decide +kernel) (by decide +kernel)
theorem q_612 : Cond.methodLink RX7 241 yX9_copy ∈ lw_all := kq 612 (by decide +kernel) (by decide +kernel)
theorem q_613 : Cond.instanceMethod yX9_copy ∈ lw_all := kq 613 (by decide +kernel) (by decide +kernel)
theorem q_614 : Cond.selects RX9 yX9_copy yX9_copy ∈ lw_all := kq 614 (by decide +kernel) (by decide +kernel)
theorem q_615 : Cond.code yX9_copy cX9_copy 2 none ∈ lw_all := kq 615 (by decide +kernel) (by decide +kernel)
theorem q_616 : Cond.methodLink RX9 39 yX3_copy ∈ lw_all := kq 616 (by decide +kernel) (by decide +kernel)
theorem q_617 : Cond.methodLink RX7 244 yX3_copy ∈ lw_all := kq 617 (by decide +kernel) (by decide +kernel)
theorem q_636 : Cond.instanceMethod yX4_isRunning ∈ lw_all := kq 636 (by decide +kernel) (by decide +kernel)
theorem q_637 : Cond.selects RX4 yX4_isRunning yX4_isRunning ∈ lw_all := kq 637 (by decide +kernel) (by decide +kernel)
theorem q_638 : Cond.code yX4_isRunning cX4_isRunning 1 (some .boolean) ∈ lw_all := kq 638 (by decide +kernel) (by decide +kernel)
theorem q_666 : Cond.instanceMethod yX9_write ∈ lw_all := kq 666 (by decide +kernel) (by decide +kernel)
theorem q_667 : Cond.selects RX9 yX9_write yX9_write ∈ lw_all := kq 667 (by decide +kernel) (by decide +kernel)
theorem q_668 : Cond.code yX9_write cX9_write 4 none ∈ lw_all := kq 668 (by decide +kernel) (by decide +kernel)
theorem q_669 : Cond.methodLink RX9 30 yX3_add ∈ lw_all := kq 669 (by decide +kernel) (by decide +kernel)
theorem q_670 : Cond.instanceMethod yX3_add ∈ lw_all := kq 670 (by decide +kernel) (by decide +kernel)
theorem q_671 : Cond.selects RX3 yX3_add yX3_add ∈ lw_all := kq 671 (by decide +kernel) (by decide +kernel)
theorem q_672 : Cond.code yX3_add cX3_add 2 none ∈ lw_all := kq 672 (by decide +kernel) (by decide +kernel)
theorem q_673 : Cond.methodLink RX3 28 Lib.Math.min.name ∈ lw_all := kq 673 (by decide +kernel) (by decide +kernel)
theorem q_674 : Cond.constantLong RX9 33 (31) ∈ lw_all := kq 674 (by decide +kernel) (by decide +kernel)
theorem q_686 : Cond.methodLink RX7 81 yX7_moveSetPoints ∈ lw_all := kq 686 (by decide +kernel) (by decide +kernel)
theorem q_688 : Cond.instanceMethod yX7_moveSetPoints ∈ lw_all := kq 688 (by decide +kernel) (by decide +kernel)
theorem q_689 : Cond.code yX7_moveSetPoints cX7_moveSetPoints 3 none ∈ lw_all := kq 689 (by decide +kernel) (by decide +kernel)
theorem q_690 : Cond.methodLink RX7 121 yX4_goesOn ∈ lw_all := kq 690 (by decide +kernel) (by decide +kernel)
theorem q_691 : Cond.instanceMethod yX4_goesOn ∈ lw_all := kq 691 (by decide +kernel) (by decide +kernel)
theorem q_692 : Cond.selects RX4 yX4_goesOn yX4_goesOn ∈ lw_all := kq 692 (by decide +kernel) (by decide +kernel)
theorem q_693 : Cond.code yX4_goesOn cX4_goesOn 1 (some .boolean) ∈ lw_all := kq 693 (by decide +kernel) (by decide +kernel)
theorem q_694 : Cond.methodLink RX4 15 yX4_isRunning ∈ lw_all := kq 694 (by decide +kernel) (by decide +kernel)
theorem q_695 : Cond.methodLink RX7 128 yX6_property ∈ lw_all := kq 695 (by decide +kernel) (by decide +kernel)
theorem q_696 : Cond.instanceMethod yX6_property ∈ lw_all := kq 696 (by decide +kernel) (by decide +kernel)
theorem q_697 : Cond.selects RX6 yX6_property yX6_property ∈ lw_all := kq 697 (by decide +kernel) (by decide +kernel)
theorem q_698 : Cond.code yX6_property cX6_property 3 (some .int) ∈ lw_all := kq 698 (by decide +kernel) (by decide +kernel)
theorem q_699 : Cond.methodLinkNest RX6 19 yX10_at RX10 ∈ lw_nest := kqn 699 (by decide +kernel) (by decide +kernel)
theorem q_700 : Cond.methodLink RX7 141 yX7_onRamp ∈ lw_all := kq 700 (by decide +kernel) (by decide +kernel)
theorem q_702 : Cond.instanceMethod yX7_onRamp ∈ lw_all := kq 702 (by decide +kernel) (by decide +kernel)
theorem q_703 : Cond.code yX7_onRamp cX7_onRamp 4 (some .int) ∈ lw_all := kq 703 (by decide +kernel) (by decide +kernel)
theorem q_704 : Cond.methodLink RX7 84 yX7_allowedOutput ∈ lw_all := kq 704 (by decide +kernel) (by decide +kernel)
theorem q_706 : Cond.instanceMethod yX7_allowedOutput ∈ lw_all := kq 706 (by decide +kernel) (by decide +kernel)
theorem q_707 : Cond.code yX7_allowedOutput cX7_allowedOutput 6 (some .int) ∈ lw_all := kq 707 (by decide +kernel) (by decide +kernel)
theorem q_708 : Cond.methodLinkNest RX7 88 yX10_at RX10 ∈ lw_nest := kqn 708 (by decide +kernel) (by decide +kernel)
theorem q_709 : Cond.methodLink RX7 160 yX0_demand ∈ lw_all := kq 709 (by decide +kernel) (by decide +kernel)
theorem q_710 : Cond.instanceMethod yX0_demand ∈ lw_all := kq 710 (by decide +kernel) (by decide +kernel)
theorem q_711 : Cond.selects RX0 yX0_demand yX0_demand ∈ lw_all := kq 711 (by decide +kernel) (by decide +kernel)
theorem q_712 : Cond.code yX0_demand cX0_demand 4 (some .int) ∈ lw_all := kq 712 (by decide +kernel) (by decide +kernel)
theorem q_713 : Cond.methodLink RX0 19 yX0_unlimitedDemand ∈ lw_all := kq 713 (by decide +kernel) (by decide +kernel)
theorem q_715 : Cond.instanceMethod yX0_unlimitedDemand ∈ lw_all := kq 715 (by decide +kernel) (by decide +kernel)
theorem q_716 : Cond.code yX0_unlimitedDemand cX0_unlimitedDemand 2 (some .int) ∈ lw_all := kq 716 (by decide +kernel) (by decide +kernel)
theorem q_717 : Cond.methodLinkNest RX0 23 yX10_limit RX10 ∈ lw_nest := kqn 717 (by decide +kernel) (by decide +kernel)
theorem q_718 : Cond.static yX10_limit ∈ lw_all := kq 718 (by decide +kernel) (by decide +kernel)
theorem q_719 : Cond.code yX10_limit cX10_limit 3 (some .int) ∈ lw_all := kq 719 (by decide +kernel) (by decide +kernel)
theorem q_720 : Cond.methodLink RX10 230 Lib.Math.max.name ∈ lw_all := kq 720 (by decide +kernel) (by decide +kernel)
theorem q_721 : Cond.methodLink RX7 173 yX9_write ∈ lw_all := kq 721 (by decide +kernel) (by decide +kernel)
theorem q_722 : Cond.methodLink RX7 92 yX7_moistureDemand ∈ lw_all := kq 722 (by decide +kernel) (by decide +kernel)
theorem q_724 : Cond.instanceMethod yX7_moistureDemand ∈ lw_all := kq 724 (by decide +kernel) (by decide +kernel)
theorem q_725 : Cond.code yX7_moistureDemand cX7_moistureDemand 3 (some .int) ∈ lw_all := kq 725 (by decide +kernel) (by decide +kernel)
theorem q_726 : Cond.methodLink RX7 99 yX7_lost ∈ lw_all := kq 726 (by decide +kernel) (by decide +kernel)
theorem q_728 : Cond.instanceMethod yX7_lost ∈ lw_all := kq 728 (by decide +kernel) (by decide +kernel)
theorem q_729 : Cond.code yX7_lost cX7_lost 3 (some .int) ∈ lw_all := kq 729 (by decide +kernel) (by decide +kernel)
theorem q_730 : Cond.methodLink RX7 105 yX1_change ∈ lw_all := kq 730 (by decide +kernel) (by decide +kernel)
theorem q_731 : Cond.instanceMethod yX1_change ∈ lw_all := kq 731 (by decide +kernel) (by decide +kernel)
theorem q_732 : Cond.selects RX1 yX1_change yX1_change ∈ lw_all := kq 732 (by decide +kernel) (by decide +kernel)
theorem q_733 : Cond.code yX1_change cX1_change 3 none ∈ lw_all := kq 733 (by decide +kernel) (by decide +kernel)
theorem q_734 : Cond.methodLinkNest RX1 36 yX10_limit RX10 ∈ lw_nest := kqn 734 (by decide +kernel) (by decide +kernel)
theorem q_735 : Cond.methodLink RX7 109 yX1_count ∈ lw_all := kq 735 (by decide +kernel) (by decide +kernel)
theorem q_736 : Cond.instanceMethod yX1_count ∈ lw_all := kq 736 (by decide +kernel) (by decide +kernel)
theorem q_737 : Cond.selects RX1 yX1_count yX1_count ∈ lw_all := kq 737 (by decide +kernel) (by decide +kernel)
theorem q_738 : Cond.code yX1_count cX1_count 3 none ∈ lw_all := kq 738 (by decide +kernel) (by decide +kernel)
theorem q_739 : Cond.methodLink RX1 40 Lib.Math.min.name ∈ lw_all := kq 739 (by decide +kernel) (by decide +kernel)
theorem q_740 : Cond.methodLink RX1 30 Lib.Math.abs.name ∈ lw_all := kq 740 (by decide +kernel) (by decide +kernel)
theorem q_741 : Cond.static Lib.Math.abs.name ∈ lw_all := kq 741 (by decide +kernel) (by decide +kernel)
theorem q_742 : Cond.code Lib.Math.abs.name Lib.Math.abs.code 1 (some .int) ∈ lw_all := kq 742 (by decide +kernel) (by decide +kernel)
theorem q_743 : Cond.methodLink RX7 112 yX3_add ∈ lw_all := kq 743 (by decide +kernel) (by decide +kernel)
theorem q_744 : Cond.methodLink RX7 115 yX7_followProgram ∈ lw_all := kq 744 (by decide +kernel) (by decide +kernel)
theorem q_746 : Cond.instanceMethod yX7_followProgram ∈ lw_all := kq 746 (by decide +kernel) (by decide +kernel)
theorem q_747 : Cond.code yX7_followProgram cX7_followProgram 2 none ∈ lw_all := kq 747 (by decide +kernel) (by decide +kernel)
theorem q_748 : Cond.methodLink RX7 177 yX7_followRamp ∈ lw_all := kq 748 (by decide +kernel) (by decide +kernel)
theorem q_750 : Cond.instanceMethod yX7_followRamp ∈ lw_all := kq 750 (by decide +kernel) (by decide +kernel)
theorem q_751 : Cond.code yX7_followRamp cX7_followRamp 1 (some .boolean) ∈ lw_all := kq 751 (by decide +kernel) (by decide +kernel)
theorem q_752 : Cond.methodLink RX7 180 yX7_followSoak ∈ lw_all := kq 752 (by decide +kernel) (by decide +kernel)
theorem q_754 : Cond.instanceMethod yX7_followSoak ∈ lw_all := kq 754 (by decide +kernel) (by decide +kernel)
theorem q_755 : Cond.code yX7_followSoak cX7_followSoak 2 (some .boolean) ∈ lw_all := kq 755 (by decide +kernel) (by decide +kernel)
theorem q_756 : Cond.methodLink RX7 192 yX1_temperatureOffset ∈ lw_all := kq 756 (by decide +kernel) (by decide +kernel)
theorem q_757 : Cond.instanceMethod yX1_temperatureOffset ∈ lw_all := kq 757 (by decide +kernel) (by decide +kernel)
theorem q_758 : Cond.selects RX1 yX1_temperatureOffset yX1_temperatureOffset ∈ lw_all := kq 758 (by decide +kernel) (by decide +kernel)
theorem q_759 : Cond.code yX1_temperatureOffset cX1_temperatureOffset 1 (some .int) ∈ lw_all := kq 759 (by decide +kernel) (by decide +kernel)
theorem q_760 : Cond.methodLink RX7 195 yX1_humidityOffset ∈ lw_all := kq 760 (by decide +kernel) (by decide +kernel)
theorem q_761 : Cond.instanceMethod yX1_humidityOffset ∈ lw_all := kq 761 (by decide +kernel) (by decide +kernel)
theorem q_762 : Cond.selects RX1 yX1_humidityOffset yX1_humidityOffset ∈ lw_all := kq 762 (by decide +kernel) (by decide +kernel)
theorem q_763 : Cond.code yX1_humidityOffset cX1_humidityOffset 1 (some .int) ∈ lw_all := kq 763 (by decide +kernel) (by decide +kernel)
theorem q_764 : Cond.methodLink RX7 183 yX7_finishSegment ∈ lw_all := kq 764 (by decide +kernel) (by decide +kernel)
theorem q_766 : Cond.instanceMethod yX7_finishSegment ∈ lw_all := kq 766 (by decide +kernel) (by decide +kernel)
theorem q_767 : Cond.code yX7_finishSegment cX7_finishSegment 1 none ∈ lw_all := kq 767 (by decide +kernel) (by decide +kernel)
theorem q_768 : Cond.methodLink RX7 209 yX2_add ∈ lw_all := kq 768 (by decide +kernel) (by decide +kernel)
theorem q_769 : Cond.instanceMethod yX2_add ∈ lw_all := kq 769 (by decide +kernel) (by decide +kernel)
theorem q_770 : Cond.selects RX2 yX2_add yX2_add ∈ lw_all := kq 770 (by decide +kernel) (by decide +kernel)
theorem q_771 : Cond.code yX2_add cX2_add 3 none ∈ lw_all := kq 771 (by decide +kernel) (by decide +kernel)
theorem q_772 : Cond.methodLink RX2 33 yX3_add ∈ lw_all := kq 772 (by decide +kernel) (by decide +kernel)
theorem q_773 : Cond.methodLink RX7 206 yX7_beginSegment ∈ lw_all := kq 773 (by decide +kernel) (by decide +kernel)
theorem q_775 : Cond.instanceMethod yX7_beginSegment ∈ lw_all := kq 775 (by decide +kernel) (by decide +kernel)
theorem q_776 : Cond.code yX7_beginSegment cX7_beginSegment 4 none ∈ lw_all := kq 776 (by decide +kernel) (by decide +kernel)
theorem q_777 : Cond.methodLink RX7 189 yX4_end ∈ lw_all := kq 777 (by decide +kernel) (by decide +kernel)
theorem q_778 : Cond.instanceMethod yX4_end ∈ lw_all := kq 778 (by decide +kernel) (by decide +kernel)
theorem q_779 : Cond.selects RX4 yX4_end yX4_end ∈ lw_all := kq 779 (by decide +kernel) (by decide +kernel)
theorem q_780 : Cond.code yX4_end cX4_end 2 none ∈ lw_all := kq 780 (by decide +kernel) (by decide +kernel)
theorem q_861 : Cond.methodLink RX7 218 yX4_isRunning ∈ lw_all := kq 861 (by decide +kernel) (by decide +kernel)
theorem q_888 : Cond.methodLink RX2 44 yX3_latest ∈ lw_all := kq 888 (by decide +kernel) (by decide +kernel)
theorem q_889 : Cond.instanceMethod yX3_latest ∈ lw_all := kq 889 (by decide +kernel) (by decide +kernel)
theorem q_890 : Cond.selects RX3 yX3_latest yX3_latest ∈ lw_all := kq 890 (by decide +kernel) (by decide +kernel)
theorem q_891 : Cond.code yX3_latest cX3_latest 3 (some .int) ∈ lw_all := kq 891 (by decide +kernel) (by decide +kernel)
theorem q_892 : Cond.methodLinkNest RX3 31 yX10_at RX10 ∈ lw_nest := kqn 892 (by decide +kernel) (by decide +kernel)
theorem q_904 : Cond.methodLink RX9 35 yX3_latest ∈ lw_all := kq 904 (by decide +kernel) (by decide +kernel)
theorem q_977 : Cond.methodLinkNest RX8 26 yX10_put RX10 ∈ lw_nest := kqn 977 (by decide +kernel) (by decide +kernel)
theorem q_995 : Cond.constantLong RX11 32 (2) ∈ lw_all := kq 995 (by decide +kernel) (by decide +kernel)
theorem q_1002 : Cond.constantLong RX11 46 (1000) ∈ lw_all := kq 1002 (by decide +kernel) (by decide +kernel)
theorem q_1004 : Cond.fieldLink RX11 7 "ClimateChamberModel" "w" "[J" ∈ lw_all := kq 1004 (by decide +kernel) (by decide +kernel)
theorem q_1011 : Cond.fieldLink RX11 50 "ClimateChamberModel" "thrown" "I" ∈ lw_all := kq 1011 (by decide +kernel) (by decide +kernel)
theorem q_1057 : Cond.methodLink RX11 63 yX11_in ∈ lw_all := kq 1057 (by decide +kernel) (by decide +kernel)
theorem q_1058 : Cond.static yX11_in ∈ lw_all := kq 1058 (by decide +kernel) (by decide +kernel)
theorem q_1059 : Cond.code yX11_in cX11_in 6 (some .boolean) ∈ lw_all := kq 1059 (by decide +kernel) (by decide +kernel)
theorem q_1078 : Cond.constantLong RX11 80 (100) ∈ lw_all := kq 1078 (by decide +kernel) (by decide +kernel)
theorem q_1083 : Cond.methodLink RX11 86 yX11_isTemperature ∈ lw_all := kq 1083 (by decide +kernel) (by decide +kernel)
theorem q_1084 : Cond.static yX11_isTemperature ∈ lw_all := kq 1084 (by decide +kernel) (by decide +kernel)
theorem q_1085 : Cond.code yX11_isTemperature cX11_isTemperature 1 (some .boolean) ∈ lw_all := kq 1085 (by decide +kernel) (by decide +kernel)
theorem q_1086 : Cond.constantLong RX11 82 (-400) ∈ lw_all := kq 1086 (by decide +kernel) (by decide +kernel)
theorem q_1087 : Cond.constantLong RX11 84 (1800) ∈ lw_all := kq 1087 (by decide +kernel) (by decide +kernel)
theorem q_1088 : Cond.methodLink RX11 90 yX11_isHumidity ∈ lw_all := kq 1088 (by decide +kernel) (by decide +kernel)
theorem q_1089 : Cond.static yX11_isHumidity ∈ lw_all := kq 1089 (by decide +kernel) (by decide +kernel)
theorem q_1090 : Cond.code yX11_isHumidity cX11_isHumidity 1 (some .boolean) ∈ lw_all := kq 1090 (by decide +kernel) (by decide +kernel)
theorem q_1091 : Cond.methodLink RX11 93 yX11_runs ∈ lw_all := kq 1091 (by decide +kernel) (by decide +kernel)
theorem q_1093 : Cond.instanceMethod yX11_runs ∈ lw_all := kq 1093 (by decide +kernel) (by decide +kernel)
theorem q_1094 : Cond.code yX11_runs cX11_runs 1 (some .boolean) ∈ lw_all := kq 1094 (by decide +kernel) (by decide +kernel)
theorem q_1099 : Cond.methodLink RX11 97 yX11_enter ∈ lw_all := kq 1099 (by decide +kernel) (by decide +kernel)
theorem q_1101 : Cond.instanceMethod yX11_enter ∈ lw_all := kq 1101 (by decide +kernel) (by decide +kernel)
theorem q_1102 : Cond.code yX11_enter cX11_enter 5 none ∈ lw_all := kq 1102 (by decide +kernel) (by decide +kernel)
theorem q_1103 : Cond.constantLong RX11 57 (24) ∈ lw_all := kq 1103 (by decide +kernel) (by decide +kernel)
theorem q_1104 : Cond.constantLong RX11 59 (31) ∈ lw_all := kq 1104 (by decide +kernel) (by decide +kernel)
theorem q_1109 : Cond.constantLong RX11 158 (500) ∈ lw_all := kq 1109 (by decide +kernel) (by decide +kernel)
theorem q_1123 : Cond.methodLink RX11 114 yX11_of ∈ lw_all := kq 1123 (by decide +kernel) (by decide +kernel)
theorem q_1125 : Cond.instanceMethod yX11_of ∈ lw_all := kq 1125 (by decide +kernel) (by decide +kernel)
theorem q_1126 : Cond.code yX11_of cX11_of 2 (some .long) ∈ lw_all := kq 1126 (by decide +kernel) (by decide +kernel)
theorem q_1131 : Cond.methodLink RX11 118 yX11_demand ∈ lw_all := kq 1131 (by decide +kernel) (by decide +kernel)
theorem q_1133 : Cond.instanceMethod yX11_demand ∈ lw_all := kq 1133 (by decide +kernel) (by decide +kernel)
theorem q_1134 : Cond.code yX11_demand cX11_demand 6 (some .long) ∈ lw_all := kq 1134 (by decide +kernel) (by decide +kernel)
theorem q_1135 : Cond.methodLink RX11 101 yX11_size ∈ lw_all := kq 1135 (by decide +kernel) (by decide +kernel)
theorem q_1136 : Cond.static yX11_size ∈ lw_all := kq 1136 (by decide +kernel) (by decide +kernel)
theorem q_1137 : Cond.code yX11_size cX11_size 2 (some .long) ∈ lw_all := kq 1137 (by decide +kernel) (by decide +kernel)
theorem q_1138 : Cond.constantLong RX11 105 (-1000) ∈ lw_all := kq 1138 (by decide +kernel) (by decide +kernel)
theorem q_1139 : Cond.methodLink RX11 107 yX11_within ∈ lw_all := kq 1139 (by decide +kernel) (by decide +kernel)
theorem q_1140 : Cond.static yX11_within ∈ lw_all := kq 1140 (by decide +kernel) (by decide +kernel)
theorem q_1141 : Cond.code yX11_within cX11_within 6 (some .long) ∈ lw_all := kq 1141 (by decide +kernel) (by decide +kernel)
theorem q_1161 : Cond.constantLong RX11 122 (16) ∈ lw_all := kq 1161 (by decide +kernel) (by decide +kernel)
theorem bipush_10 : (Int8.ofInt 10).toInt32 = 10 := by decide
theorem bipush_100 : (Int8.ofInt 100).toInt32 = 100 := by decide
theorem bipush_104 : (Int8.ofInt 104).toInt32 = 104 := by decide
theorem bipush_11 : (Int8.ofInt 11).toInt32 = 11 := by decide
theorem bipush_114 : (Int8.ofInt 114).toInt32 = 114 := by decide
theorem bipush_115 : (Int8.ofInt 115).toInt32 = 115 := by decide
theorem bipush_116 : (Int8.ofInt 116).toInt32 = 116 := by decide
theorem bipush_12 : (Int8.ofInt 12).toInt32 = 12 := by decide
theorem bipush_13 : (Int8.ofInt 13).toInt32 = 13 := by decide
theorem bipush_14 : (Int8.ofInt 14).toInt32 = 14 := by decide
theorem bipush_15 : (Int8.ofInt 15).toInt32 = 15 := by decide
theorem bipush_16 : (Int8.ofInt 16).toInt32 = 16 := by decide
theorem bipush_17 : (Int8.ofInt 17).toInt32 = 17 := by decide
theorem bipush_19 : (Int8.ofInt 19).toInt32 = 19 := by decide
theorem bipush_20 : (Int8.ofInt 20).toInt32 = 20 := by decide
theorem bipush_21 : (Int8.ofInt 21).toInt32 = 21 := by decide
theorem bipush_23 : (Int8.ofInt 23).toInt32 = 23 := by decide
theorem bipush_24 : (Int8.ofInt 24).toInt32 = 24 := by decide
theorem bipush_25 : (Int8.ofInt 25).toInt32 = 25 := by decide
theorem bipush_29 : (Int8.ofInt 29).toInt32 = 29 := by decide
theorem bipush_30 : (Int8.ofInt 30).toInt32 = 30 := by decide
theorem bipush_32 : (Int8.ofInt 32).toInt32 = 32 := by decide
theorem bipush_33 : (Int8.ofInt 33).toInt32 = 33 := by decide
theorem bipush_34 : (Int8.ofInt 34).toInt32 = 34 := by decide
theorem bipush_35 : (Int8.ofInt 35).toInt32 = 35 := by decide
theorem bipush_36 : (Int8.ofInt 36).toInt32 = 36 := by decide
theorem bipush_37 : (Int8.ofInt 37).toInt32 = 37 := by decide
theorem bipush_38 : (Int8.ofInt 38).toInt32 = 38 := by decide
theorem bipush_39 : (Int8.ofInt 39).toInt32 = 39 := by decide
theorem bipush_40 : (Int8.ofInt 40).toInt32 = 40 := by decide
theorem bipush_41 : (Int8.ofInt 41).toInt32 = 41 := by decide
theorem bipush_42 : (Int8.ofInt 42).toInt32 = 42 := by decide
theorem bipush_45 : (Int8.ofInt 45).toInt32 = 45 := by decide
theorem bipush_46 : (Int8.ofInt 46).toInt32 = 46 := by decide
theorem bipush_47 : (Int8.ofInt 47).toInt32 = 47 := by decide
theorem bipush_48 : (Int8.ofInt 48).toInt32 = 48 := by decide
theorem bipush_50 : (Int8.ofInt 50).toInt32 = 50 := by decide
theorem bipush_57 : (Int8.ofInt 57).toInt32 = 57 := by decide
theorem bipush_59 : (Int8.ofInt 59).toInt32 = 59 := by decide
theorem bipush_6 : (Int8.ofInt 6).toInt32 = 6 := by decide
theorem bipush_60 : (Int8.ofInt 60).toInt32 = 60 := by decide
theorem bipush_69 : (Int8.ofInt 69).toInt32 = 69 := by decide
theorem bipush_7 : (Int8.ofInt 7).toInt32 = 7 := by decide
theorem bipush_8 : (Int8.ofInt 8).toInt32 = 8 := by decide
theorem bipush_9 : (Int8.ofInt 9).toInt32 = 9 := by decide
theorem bipush_90 : (Int8.ofInt 90).toInt32 = 90 := by decide
theorem bipush_98 : (Int8.ofInt 98).toInt32 = 98 := by decide
theorem cl_0 : Int32.toNatClampNeg 0 = 0 := by decide
theorem cl_1 : Int32.toNatClampNeg 1 = 1 := by decide
theorem cl_102 : Int32.toNatClampNeg 102 = 102 := by decide
theorem cl_12 : Int32.toNatClampNeg 12 = 12 := by decide
theorem cl_13 : Int32.toNatClampNeg 13 = 13 := by decide
theorem cl_14 : Int32.toNatClampNeg 14 = 14 := by decide
theorem cl_15 : Int32.toNatClampNeg 15 = 15 := by decide
theorem cl_16 : Int32.toNatClampNeg 16 = 16 := by decide
theorem cl_162 : Int32.toNatClampNeg 162 = 162 := by decide
theorem cl_165 : Int32.toNatClampNeg 165 = 165 := by decide
theorem cl_17 : Int32.toNatClampNeg 17 = 17 := by decide
theorem cl_18 : Int32.toNatClampNeg 18 = 18 := by decide
theorem cl_19 : Int32.toNatClampNeg 19 = 19 := by decide
theorem cl_2 : Int32.toNatClampNeg 2 = 2 := by decide
theorem cl_20 : Int32.toNatClampNeg 20 = 20 := by decide
theorem cl_21 : Int32.toNatClampNeg 21 = 21 := by decide
theorem cl_22 : Int32.toNatClampNeg 22 = 22 := by decide
theorem cl_23 : Int32.toNatClampNeg 23 = 23 := by decide
theorem cl_24 : Int32.toNatClampNeg 24 = 24 := by decide
theorem cl_29 : Int32.toNatClampNeg 29 = 29 := by decide
theorem cl_3 : Int32.toNatClampNeg 3 = 3 := by decide
theorem cl_30 : Int32.toNatClampNeg 30 = 30 := by decide
theorem cl_32 : Int32.toNatClampNeg 32 = 32 := by decide
theorem cl_33 : Int32.toNatClampNeg 33 = 33 := by decide
theorem cl_34 : Int32.toNatClampNeg 34 = 34 := by decide
theorem cl_35 : Int32.toNatClampNeg 35 = 35 := by decide
theorem cl_36 : Int32.toNatClampNeg 36 = 36 := by decide
theorem cl_37 : Int32.toNatClampNeg 37 = 37 := by decide
theorem cl_38 : Int32.toNatClampNeg 38 = 38 := by decide
theorem cl_39 : Int32.toNatClampNeg 39 = 39 := by decide
theorem cl_40 : Int32.toNatClampNeg 40 = 40 := by decide
theorem cl_41 : Int32.toNatClampNeg 41 = 41 := by decide
theorem cl_42 : Int32.toNatClampNeg 42 = 42 := by decide
theorem cl_45 : Int32.toNatClampNeg 45 = 45 := by decide
theorem cl_46 : Int32.toNatClampNeg 46 = 46 := by decide
theorem cl_47 : Int32.toNatClampNeg 47 = 47 := by decide
theorem cl_6 : Int32.toNatClampNeg 6 = 6 := by decide
theorem cl_7 : Int32.toNatClampNeg 7 = 7 := by decide
theorem cl_8 : Int32.toNatClampNeg 8 = 8 := by decide
theorem cl_98 : Int32.toNatClampNeg 98 = 98 := by decide
theorem iconst_0 : Int32.ofInt 0 = 0 := by decide
theorem iconst_1 : Int32.ofInt 1 = 1 := by decide
theorem iconst_2 : Int32.ofInt 2 = 2 := by decide
theorem iconst_3 : Int32.ofInt 3 = 3 := by decide
theorem iconst_4 : Int32.ofInt 4 = 4 := by decide
theorem iconst_5 : Int32.ofInt 5 = 5 := by decide
theorem lconst_0 : Int64.ofNat (((0 : Fin 2)) : Nat) = 0 := by decide
theorem lconst_1 : Int64.ofNat (((1 : Fin 2)) : Nat) = 1 := by decide
theorem sipush_m1000 : (Int16.ofInt (-1000)).toInt32 = (-1000) := by decide
theorem sipush_m10000 : (Int16.ofInt (-10000)).toInt32 = (-10000) := by decide
theorem sipush_m200 : (Int16.ofInt (-200)).toInt32 = (-200) := by decide
theorem sipush_m400 : (Int16.ofInt (-400)).toInt32 = (-400) := by decide
theorem sipush_m700 : (Int16.ofInt (-700)).toInt32 = (-700) := by decide
theorem sipush_1000 : (Int16.ofInt 1000).toInt32 = 1000 := by decide
theorem sipush_162 : (Int16.ofInt 162).toInt32 = 162 := by decide
theorem sipush_1800 : (Int16.ofInt 1800).toInt32 = 1800 := by decide
theorem sipush_200 : (Int16.ofInt 200).toInt32 = 200 := by decide
theorem sipush_2000 : (Int16.ofInt 2000).toInt32 = 2000 := by decide
theorem sipush_500 : (Int16.ofInt 500).toInt32 = 500 := by decide
theorem cwv_X0_copy : kCWv yX0_copy cX0_copy 2 none 1 := ⟨⟨q_589, q_44, by decide +kernel⟩, q_587, q_588⟩
theorem cwv_X0_demand : kCWv yX0_demand cX0_demand 4 (some .int) 3 := ⟨⟨q_712, q_44, by decide +kernel⟩, q_710, q_711⟩
theorem cwv_X0_unlimitedDemand : kCWv yX0_unlimitedDemand cX0_unlimitedDemand 2 (some .int) 1 := ⟨⟨q_716, q_44, by decide +kernel⟩, q_715, q_7⟩
theorem cws_X10_at : kCWs yX10_at cX10_at 2 (some .int) 2 := ⟨⟨q_434, q_42, by decide +kernel⟩, q_433⟩
theorem cws_X10_copyRow : kCWs yX10_copyRow cX10_copyRow 2 none 2 := ⟨⟨q_579, q_42, by decide +kernel⟩, q_578⟩
theorem cws_X10_isSegment : kCWs yX10_isSegment cX10_isSegment 4 (some .boolean) 4 := ⟨⟨q_444, q_42, by decide +kernel⟩, q_443⟩
theorem cws_X10_isTarget : kCWs yX10_isTarget cX10_isTarget 2 (some .boolean) 2 := ⟨⟨q_447, q_42, by decide +kernel⟩, q_446⟩
theorem cws_X10_isTargetTemperature : kCWs yX10_isTargetTemperature cX10_isTargetTemperature 1 (some .boolean) 1 := ⟨⟨q_450, q_42, by decide +kernel⟩, q_449⟩
theorem cws_X10_isWithin : kCWs yX10_isWithin cX10_isWithin 3 (some .boolean) 3 := ⟨⟨q_441, q_42, by decide +kernel⟩, q_440⟩
theorem cws_X10_limit : kCWs yX10_limit cX10_limit 3 (some .int) 3 := ⟨⟨q_719, q_42, by decide +kernel⟩, q_718⟩
theorem cws_X10_put : kCWs yX10_put cX10_put 3 none 3 := ⟨⟨q_462, q_42, by decide +kernel⟩, q_461⟩
theorem cwv_X11_demand : kCWv yX11_demand cX11_demand 6 (some .long) 2 := ⟨⟨q_1134, q_54, by decide +kernel⟩, q_1133, q_25⟩
theorem cwv_X11_enter : kCWv yX11_enter cX11_enter 5 none 2 := ⟨⟨q_1102, q_54, by decide +kernel⟩, q_1101, q_19⟩
theorem cws_X11_in : kCWs yX11_in cX11_in 6 (some .boolean) 3 := ⟨⟨q_1059, q_54, by decide +kernel⟩, q_1058⟩
theorem cws_X11_isHumidity : kCWs yX11_isHumidity cX11_isHumidity 1 (some .boolean) 1 := ⟨⟨q_1090, q_54, by decide +kernel⟩, q_1089⟩
theorem cws_X11_isTemperature : kCWs yX11_isTemperature cX11_isTemperature 1 (some .boolean) 1 := ⟨⟨q_1085, q_54, by decide +kernel⟩, q_1084⟩
theorem cwv_X11_of : kCWv yX11_of cX11_of 2 (some .long) 1 := ⟨⟨q_1126, q_54, by decide +kernel⟩, q_1125, q_23⟩
theorem cwv_X11_runs : kCWv yX11_runs cX11_runs 1 (some .boolean) 0 := ⟨⟨q_1094, q_54, by decide +kernel⟩, q_1093, q_18⟩
theorem cws_X11_size : kCWs yX11_size cX11_size 2 (some .long) 1 := ⟨⟨q_1137, q_54, by decide +kernel⟩, q_1136⟩
theorem cws_X11_within : kCWs yX11_within cX11_within 6 (some .long) 3 := ⟨⟨q_1141, q_54, by decide +kernel⟩, q_1140⟩
theorem cwv_X1_change : kCWv yX1_change cX1_change 3 none 2 := ⟨⟨q_733, q_47, by decide +kernel⟩, q_731, q_732⟩
theorem cwv_X1_copy : kCWv yX1_copy cX1_copy 2 none 1 := ⟨⟨q_602, q_47, by decide +kernel⟩, q_600, q_601⟩
theorem cwv_X1_count : kCWv yX1_count cX1_count 3 none 2 := ⟨⟨q_738, q_47, by decide +kernel⟩, q_736, q_737⟩
theorem cwv_X1_humidityOffset : kCWv yX1_humidityOffset cX1_humidityOffset 1 (some .int) 0 := ⟨⟨q_763, q_47, by decide +kernel⟩, q_761, q_762⟩
theorem cwv_X1_temperatureOffset : kCWv yX1_temperatureOffset cX1_temperatureOffset 1 (some .int) 0 := ⟨⟨q_759, q_47, by decide +kernel⟩, q_757, q_758⟩
theorem cwv_X2_add : kCWv yX2_add cX2_add 3 none 2 := ⟨⟨q_771, q_48, by decide +kernel⟩, q_769, q_770⟩
theorem cwv_X2_copy : kCWv yX2_copy cX2_copy 2 none 1 := ⟨⟨q_606, q_48, by decide +kernel⟩, q_604, q_605⟩
theorem cwv_X3_add : kCWv yX3_add cX3_add 2 none 1 := ⟨⟨q_672, q_49, by decide +kernel⟩, q_670, q_671⟩
theorem cwv_X3_copy : kCWv yX3_copy cX3_copy 2 none 1 := ⟨⟨q_610, q_49, by decide +kernel⟩, q_608, q_609⟩
theorem cwv_X3_latest : kCWv yX3_latest cX3_latest 3 (some .int) 1 := ⟨⟨q_891, q_49, by decide +kernel⟩, q_889, q_890⟩
theorem cwv_X4_copy : kCWv yX4_copy cX4_copy 2 none 1 := ⟨⟨q_598, q_46, by decide +kernel⟩, q_596, q_597⟩
theorem cwv_X4_end : kCWv yX4_end cX4_end 2 none 1 := ⟨⟨q_780, q_46, by decide +kernel⟩, q_778, q_779⟩
theorem cwv_X4_goesOn : kCWv yX4_goesOn cX4_goesOn 1 (some .boolean) 0 := ⟨⟨q_693, q_46, by decide +kernel⟩, q_691, q_692⟩
theorem cwv_X4_isRunning : kCWv yX4_isRunning cX4_isRunning 1 (some .boolean) 0 := ⟨⟨q_638, q_46, by decide +kernel⟩, q_636, q_637⟩
theorem cwv_X6_add : kCWv yX6_add cX6_add 6 none 4 := ⟨⟨q_455, q_45, by decide +kernel⟩, q_453, q_454⟩
theorem cwv_X6_copy : kCWv yX6_copy cX6_copy 2 none 1 := ⟨⟨q_593, q_45, by decide +kernel⟩, q_591, q_592⟩
theorem cwv_X6_isFull : kCWv yX6_isFull cX6_isFull 1 (some .boolean) 0 := ⟨⟨q_459, q_45, by decide +kernel⟩, q_457, q_458⟩
theorem cwv_X6_property : kCWv yX6_property cX6_property 3 (some .int) 2 := ⟨⟨q_698, q_45, by decide +kernel⟩, q_696, q_697⟩
theorem cwv_X7_allowedOutput : kCWv yX7_allowedOutput cX7_allowedOutput 6 (some .int) 0 := ⟨⟨q_707, q_43, by decide +kernel⟩, q_706, q_6⟩
theorem cwv_X7_beginSegment : kCWv yX7_beginSegment cX7_beginSegment 4 none 3 := ⟨⟨q_776, q_43, by decide +kernel⟩, q_775, q_14⟩
theorem cwv_X7_finishSegment : kCWv yX7_finishSegment cX7_finishSegment 1 none 0 := ⟨⟨q_767, q_43, by decide +kernel⟩, q_766, q_13⟩
theorem cwv_X7_followProgram : kCWv yX7_followProgram cX7_followProgram 2 none 0 := ⟨⟨q_747, q_43, by decide +kernel⟩, q_746, q_10⟩
theorem cwv_X7_followRamp : kCWv yX7_followRamp cX7_followRamp 1 (some .boolean) 0 := ⟨⟨q_751, q_43, by decide +kernel⟩, q_750, q_11⟩
theorem cwv_X7_followSoak : kCWv yX7_followSoak cX7_followSoak 2 (some .boolean) 0 := ⟨⟨q_755, q_43, by decide +kernel⟩, q_754, q_12⟩
theorem cwv_X7_lost : kCWv yX7_lost cX7_lost 3 (some .int) 1 := ⟨⟨q_729, q_43, by decide +kernel⟩, q_728, q_9⟩
theorem cwv_X7_moistureDemand : kCWv yX7_moistureDemand cX7_moistureDemand 3 (some .int) 1 := ⟨⟨q_725, q_43, by decide +kernel⟩, q_724, q_8⟩
theorem cwv_X7_moveSetPoints : kCWv yX7_moveSetPoints cX7_moveSetPoints 3 none 0 := ⟨⟨q_689, q_43, by decide +kernel⟩, q_688, q_4⟩
theorem cwv_X7_onRamp : kCWv yX7_onRamp cX7_onRamp 4 (some .int) 2 := ⟨⟨q_703, q_43, by decide +kernel⟩, q_702, q_5⟩
theorem cwv_X8_readNumber : kCWv yX8_readNumber cX8_readNumber 2 (some .boolean) 0 := ⟨⟨q_438, q_53, by decide +kernel⟩, q_437, q_2⟩
theorem cwv_X8_readSegment : kCWv yX8_readSegment cX8_readSegment 6 (some .boolean) 0 := ⟨⟨q_427, q_53, by decide +kernel⟩, q_426, q_0⟩
theorem cwv_X8_readSign : kCWv yX8_readSign cX8_readSign 2 (some .boolean) 1 := ⟨⟨q_431, q_53, by decide +kernel⟩, q_430, q_1⟩
theorem cwv_X9_copy : kCWv yX9_copy cX9_copy 2 none 1 := ⟨⟨q_615, q_51, by decide +kernel⟩, q_613, q_614⟩
theorem cwv_X9_write : kCWv yX9_write cX9_write 4 none 3 := ⟨⟨q_668, q_51, by decide +kernel⟩, q_666, q_667⟩
