def NF : Nat := 1000000
theorem Fx0 : Fk 0 RX0 TX0 2 tyX0 := ⟨rfl, fxw0, tyX0_ok, nmX0⟩
theorem fsok_0 : ∀ v ∈ ([.null, .null] : List Value), v = .null ∨ ∃ x, v = .int x := by simp
theorem Fx1 : Fk 1 RX1 TX1 5 tyX1 := ⟨rfl, fxw1, tyX1_ok, nmX1⟩
theorem fsok_1 : ∀ v ∈ ([.int 0, .int 0, .int 0, .null, .null] : List Value), v = .null ∨ ∃ x, v = .int x := by simp
theorem Fx2 : Fk 2 RX2 TX2 2 tyX2 := ⟨rfl, fxw2, tyX2_ok, nmX2⟩
theorem fsok_2 : ∀ v ∈ ([.int 0, .null] : List Value), v = .null ∨ ∃ x, v = .int x := by simp
theorem Fx3 : Fk 3 RX3 TX3 14 tyX3 := ⟨rfl, fxw3, tyX3_ok, nmX3⟩
theorem fsok_3 : ∀ v ∈ ([.null, .int 0, .null, .int 0, .int 0, .int 0, .null, .int 0, .int 0, .int 0, .int 0, .int 0, .int 0, .int 0] : List Value), v = .null ∨ ∃ x, v = .int x := by simp
theorem Fx4 : Fk 4 RX4 TX4 3 tyX4 := ⟨rfl, fxw4, tyX4_ok, nmX4⟩
theorem fsok_4 : ∀ v ∈ ([.null, .null, .null] : List Value), v = .null ∨ ∃ x, v = .int x := by simp
theorem Fx5 : Fk 5 RX5 TX5 3 tyX5 := ⟨rfl, fxw5, tyX5_ok, nmX5⟩
theorem fsok_5 : ∀ v ∈ ([.int 0, .int 0, .null] : List Value), v = .null ∨ ∃ x, v = .int x := by simp
theorem Fx6 : Fk 6 RX6 TX6 10 tyX6 := ⟨rfl, fxw6, tyX6_ok, nmX6⟩
theorem fsok_6 : ∀ v ∈ ([.null, .null, .null, .null, .null, .null, .int 0, .int 0, .null, .null] : List Value), v = .null ∨ ∃ x, v = .int x := by simp
theorem Fx7 : Fk 7 RX7 TX7 10 tyX7 := ⟨rfl, fxw7, tyX7_ok, nmX7⟩
theorem fsok_7 : ∀ v ∈ ([.null, .null, .null, .null, .null, .int 0, .int 0, .null, .null, .null] : List Value), v = .null ∨ ∃ x, v = .int x := by simp
theorem Fx8 : Fk 8 RX8 TX8 19 tyX8 := ⟨rfl, fxw8, tyX8_ok, nmX8⟩
theorem fsok_8 : ∀ v ∈ ([.null, .null, .null, .null, .null, .null, .null, .null, .null, .int 0, .int 0, .null, .int 0, .int 0, .int 0, .int 0, .int 0, .null, .null] : List Value), v = .null ∨ ∃ x, v = .int x := by simp
theorem Xk_xA_307_311 : Xk xA 307 311 := ⟨by decide +kernel, ws_t (by decide +kernel) (by decide +kernel), ws_t (by decide +kernel) (by decide +kernel), xkA1, xkA2, by decide +kernel⟩
theorem Xk_xI_300_304 : Xk xI 300 304 := ⟨by decide +kernel, ws_t (by decide +kernel) (by decide +kernel), ws_t (by decide +kernel) (by decide +kernel), xkI1, xkI2, by decide +kernel⟩
theorem Xk_xS_314_318 : Xk xS 314 318 := ⟨by decide +kernel, ws_t (by decide +kernel) (by decide +kernel), ws_t (by decide +kernel) (by decide +kernel), xkS1, xkS2, by decide +kernel⟩
theorem wOc : Cond.code objectInit ⟨#[0xb1]⟩ 1 none ∈ WS := ws_t (List.mem_of_getElem? (i := 31) (by decide +kernel)) (by decide +kernel)
theorem wAbs : Cond.code Lib.Math.abs.name Lib.Math.abs.code 1 (some .int) ∈ WS := ws_t (List.mem_of_getElem? (i := 1016) (by decide +kernel)) (by decide +kernel)
theorem w1 : Cond.initialized RX7 ∈ WS := ws_t (tm1 (List.mem_of_getElem? (i := 1) rfl)) rfl
theorem w2 : Cond.initialized RX6 ∈ WS := ws_t (tm1 (List.mem_of_getElem? (i := 2) rfl)) rfl
theorem w3 : Cond.initialized RX1 ∈ WS := ws_t (tm1 (List.mem_of_getElem? (i := 3) rfl)) rfl
theorem w4 : Cond.initialized RX2 ∈ WS := ws_t (tm1 (List.mem_of_getElem? (i := 4) rfl)) rfl
theorem w5 : Cond.initialized RX5 ∈ WS := ws_t (tm1 (List.mem_of_getElem? (i := 5) rfl)) rfl
theorem w6 : Cond.initialized RX0 ∈ WS := ws_t (tm1 (List.mem_of_getElem? (i := 6) rfl)) rfl
theorem w7 : Cond.initialized RX4 ∈ WS := ws_t (tm1 (List.mem_of_getElem? (i := 7) rfl)) rfl
theorem w8 : Cond.initialized RX3 ∈ WS := ws_t (tm1 (List.mem_of_getElem? (i := 8) rfl)) rfl
theorem w9 : Cond.initialized RJ7 ∈ WS := ws_t (tm1 (List.mem_of_getElem? (i := 9) rfl)) rfl
theorem w14 : Cond.initialized RJ6 ∈ WS := ws_t (tm1 (List.mem_of_getElem? (i := 14) rfl)) rfl
theorem w15 : Cond.initialized RJ10 ∈ WS := ws_t (tm1 (List.mem_of_getElem? (i := 15) rfl)) rfl
theorem w16 : Cond.initialized RX8 ∈ WS := ws_t (tm1 (List.mem_of_getElem? (i := 16) rfl)) rfl
theorem w23 : Cond.initialized RJ9 ∈ WS := ws_t (tm1 (List.mem_of_getElem? (i := 23) rfl)) rfl
theorem w28 : Cond.code yX7_init cX7_init 2 none ∈ WS := ws_t (tm1 (List.mem_of_getElem? (i := 28) rfl)) rfl
theorem w29 : Cond.methodLink RX7 3 objectInit ∈ WS := ws_t (tm1 (List.mem_of_getElem? (i := 29) rfl)) rfl
theorem w30 : Cond.instanceMethod objectInit ∈ WS := ws_t (tm1 (List.mem_of_getElem? (i := 30) rfl)) rfl
theorem w32 : Cond.classLink RX7 9 RX6 ∈ WS := ws_t (tm1 (List.mem_of_getElem? (i := 32) rfl)) rfl
theorem w33 : Cond.instantiable RX6 10 ∈ WS := ws_t (tm1 (List.mem_of_getElem? (i := 33) rfl)) rfl
theorem w34 : Cond.methodLinkNest RX7 11 yX6_init RX7 ∈ WN := wn_t (tm1 (List.mem_of_getElem? (i := 34) rfl)) rfl
theorem w35 : Cond.instanceMethod yX6_init ∈ WS := ws_t (tm1 (List.mem_of_getElem? (i := 35) rfl)) rfl
theorem w36 : Cond.code yX6_init cX6_init 1 none ∈ WS := ws_t (tm1 (List.mem_of_getElem? (i := 36) rfl)) rfl
theorem w37 : Cond.methodLink RX6 3 objectInit ∈ WS := ws_t (tm1 (List.mem_of_getElem? (i := 37) rfl)) rfl
theorem w38 : Cond.classLink RX6 9 RX1 ∈ WS := ws_t (tm1 (List.mem_of_getElem? (i := 38) rfl)) rfl
theorem w39 : Cond.instantiable RX1 5 ∈ WS := ws_t (tm1 (List.mem_of_getElem? (i := 39) rfl)) rfl
theorem w40 : Cond.methodLinkNest RX6 11 yX1_init RX7 ∈ WN := wn_t (tm1 (List.mem_of_getElem? (i := 40) rfl)) rfl
theorem w41 : Cond.instanceMethod yX1_init ∈ WS := ws_t (tm1 (List.mem_of_getElem? (i := 41) rfl)) rfl
theorem w42 : Cond.code yX1_init cX1_init 1 none ∈ WS := ws_t (tm1 (List.mem_of_getElem? (i := 42) rfl)) rfl
theorem w43 : Cond.methodLink RX1 3 objectInit ∈ WS := ws_t (tm1 (List.mem_of_getElem? (i := 43) rfl)) rfl
theorem w44 : Cond.fieldLink RX1 18 RX1 "width" "I" ∈ WS := ws_t (tm1 (List.mem_of_getElem? (i := 44) rfl)) rfl
theorem w45 : Cond.fieldLink RX7 206 RX1 "width" "I" ∈ WS := ws_t (tm1 (List.mem_of_getElem? (i := 45) rfl)) rfl
theorem w46 : Cond.fieldLink RX1 22 RX1 "height" "I" ∈ WS := ws_t (tm1 (List.mem_of_getElem? (i := 46) rfl)) rfl
theorem w47 : Cond.fieldLink RX6 128 RX1 "height" "I" ∈ WS := ws_t (tm1 (List.mem_of_getElem? (i := 47) rfl)) rfl
theorem w48 : Cond.fieldLink RX4 141 RX1 "height" "I" ∈ WS := ws_t (tm1 (List.mem_of_getElem? (i := 48) rfl)) rfl
theorem w49 : Cond.fieldLink RX7 246 RX1 "height" "I" ∈ WS := ws_t (tm1 (List.mem_of_getElem? (i := 49) rfl)) rfl
theorem w50 : Cond.fieldLink RX1 29 RX1 "allColumns" "I" ∈ WS := ws_t (tm1 (List.mem_of_getElem? (i := 50) rfl)) rfl
theorem w51 : Cond.fieldLink RX1 9 RX1 "particles" "[I" ∈ WS := ws_t (tm1 (List.mem_of_getElem? (i := 51) rfl)) rfl
theorem w52 : Cond.fieldLink RX4 55 RX1 "particles" "[I" ∈ WS := ws_t (tm1 (List.mem_of_getElem? (i := 52) rfl)) rfl
theorem w53 : Cond.fieldLink RX6 115 RX1 "particles" "[I" ∈ WS := ws_t (tm1 (List.mem_of_getElem? (i := 53) rfl)) rfl
theorem w54 : Cond.fieldLink RX7 288 RX1 "particles" "[I" ∈ WS := ws_t (tm1 (List.mem_of_getElem? (i := 54) rfl)) rfl
theorem w55 : Cond.fieldLink RX1 15 RX1 "bodies" "[I" ∈ WS := ws_t (tm1 (List.mem_of_getElem? (i := 55) rfl)) rfl
theorem w56 : Cond.fieldLink RX4 198 RX1 "bodies" "[I" ∈ WS := ws_t (tm1 (List.mem_of_getElem? (i := 56) rfl)) rfl
theorem w68 : Cond.arrayClass .int ∈ WS := ws_t (tm1 (List.mem_of_getElem? (i := 68) rfl)) rfl
theorem w69 : Cond.classLink RX6 18 RX2 ∈ WS := ws_t (tm1 (List.mem_of_getElem? (i := 69) rfl)) rfl
theorem w70 : Cond.instantiable RX2 2 ∈ WS := ws_t (tm1 (List.mem_of_getElem? (i := 70) rfl)) rfl
theorem w71 : Cond.methodLinkNest RX6 20 yX2_init RX7 ∈ WN := wn_t (tm1 (List.mem_of_getElem? (i := 71) rfl)) rfl
theorem w72 : Cond.instanceMethod yX2_init ∈ WS := ws_t (tm1 (List.mem_of_getElem? (i := 72) rfl)) rfl
theorem w73 : Cond.code yX2_init cX2_init 1 none ∈ WS := ws_t (tm1 (List.mem_of_getElem? (i := 73) rfl)) rfl
theorem w74 : Cond.methodLink RX2 3 objectInit ∈ WS := ws_t (tm1 (List.mem_of_getElem? (i := 74) rfl)) rfl
theorem w75 : Cond.fieldLink RX2 15 RX2 "size" "I" ∈ WS := ws_t (tm1 (List.mem_of_getElem? (i := 75) rfl)) rfl
theorem w76 : Cond.fieldLink RX6 56 RX2 "size" "I" ∈ WS := ws_t (tm1 (List.mem_of_getElem? (i := 76) rfl)) rfl
theorem w77 : Cond.fieldLink RX4 92 RX2 "size" "I" ∈ WS := ws_t (tm1 (List.mem_of_getElem? (i := 77) rfl)) rfl
theorem w78 : Cond.fieldLink RX7 155 RX2 "size" "I" ∈ WS := ws_t (tm1 (List.mem_of_getElem? (i := 78) rfl)) rfl
theorem w79 : Cond.fieldLink RX2 11 RX2 "numbers" "[I" ∈ WS := ws_t (tm1 (List.mem_of_getElem? (i := 79) rfl)) rfl
theorem w80 : Cond.fieldLink RX4 101 RX2 "numbers" "[I" ∈ WS := ws_t (tm1 (List.mem_of_getElem? (i := 80) rfl)) rfl
theorem w81 : Cond.fieldLink RX7 216 RX2 "numbers" "[I" ∈ WS := ws_t (tm1 (List.mem_of_getElem? (i := 81) rfl)) rfl
theorem w87 : Cond.classLink RX6 25 RX5 ∈ WS := ws_t (tm1 (List.mem_of_getElem? (i := 87) rfl)) rfl
theorem w88 : Cond.instantiable RX5 3 ∈ WS := ws_t (tm1 (List.mem_of_getElem? (i := 88) rfl)) rfl
theorem w89 : Cond.methodLinkNest RX6 27 yX5_init RX7 ∈ WN := wn_t (tm1 (List.mem_of_getElem? (i := 89) rfl)) rfl
theorem w90 : Cond.instanceMethod yX5_init ∈ WS := ws_t (tm1 (List.mem_of_getElem? (i := 90) rfl)) rfl
theorem w91 : Cond.code yX5_init cX5_init 1 none ∈ WS := ws_t (tm1 (List.mem_of_getElem? (i := 91) rfl)) rfl
theorem w92 : Cond.methodLink RX5 3 objectInit ∈ WS := ws_t (tm1 (List.mem_of_getElem? (i := 92) rfl)) rfl
theorem w93 : Cond.fieldLink RX5 15 RX5 "size" "I" ∈ WS := ws_t (tm1 (List.mem_of_getElem? (i := 93) rfl)) rfl
theorem w94 : Cond.fieldLink RX7 264 RX5 "size" "I" ∈ WS := ws_t (tm1 (List.mem_of_getElem? (i := 94) rfl)) rfl
theorem w95 : Cond.fieldLink RX5 19 RX5 "latest" "I" ∈ WS := ws_t (tm1 (List.mem_of_getElem? (i := 95) rfl)) rfl
theorem w96 : Cond.fieldLink RX5 11 RX5 "rows" "[I" ∈ WS := ws_t (tm1 (List.mem_of_getElem? (i := 96) rfl)) rfl
theorem w104 : Cond.classLink RX6 32 RX0 ∈ WS := ws_t (tm1 (List.mem_of_getElem? (i := 104) rfl)) rfl
theorem w105 : Cond.instantiable RX0 2 ∈ WS := ws_t (tm1 (List.mem_of_getElem? (i := 105) rfl)) rfl
theorem w106 : Cond.methodLinkNest RX6 34 yX0_init RX7 ∈ WN := wn_t (tm1 (List.mem_of_getElem? (i := 106) rfl)) rfl
theorem w107 : Cond.instanceMethod yX0_init ∈ WS := ws_t (tm1 (List.mem_of_getElem? (i := 107) rfl)) rfl
theorem w108 : Cond.code yX0_init cX0_init 1 none ∈ WS := ws_t (tm1 (List.mem_of_getElem? (i := 108) rfl)) rfl
theorem w109 : Cond.methodLink RX0 3 objectInit ∈ WS := ws_t (tm1 (List.mem_of_getElem? (i := 109) rfl)) rfl
theorem w110 : Cond.fieldLink RX0 9 RX0 "particles" "[I" ∈ WS := ws_t (tm1 (List.mem_of_getElem? (i := 110) rfl)) rfl
theorem w111 : Cond.fieldLink RX4 127 RX0 "particles" "[I" ∈ WS := ws_t (tm1 (List.mem_of_getElem? (i := 111) rfl)) rfl
theorem w112 : Cond.fieldLink RX6 123 RX0 "particles" "[I" ∈ WS := ws_t (tm1 (List.mem_of_getElem? (i := 112) rfl)) rfl
theorem w113 : Cond.fieldLink RX7 253 RX0 "particles" "[I" ∈ WS := ws_t (tm1 (List.mem_of_getElem? (i := 113) rfl)) rfl
theorem w114 : Cond.fieldLink RX0 15 RX0 "momentum" "[I" ∈ WS := ws_t (tm1 (List.mem_of_getElem? (i := 114) rfl)) rfl
theorem w115 : Cond.fieldLink RX4 207 RX0 "momentum" "[I" ∈ WS := ws_t (tm1 (List.mem_of_getElem? (i := 115) rfl)) rfl
theorem w116 : Cond.fieldLink RX7 258 RX0 "momentum" "[I" ∈ WS := ws_t (tm1 (List.mem_of_getElem? (i := 116) rfl)) rfl
theorem w122 : Cond.fieldLink RX6 12 RX6 "cells" "LLatticeTunnel$Cells;" ∈ WS := ws_t (tm1 (List.mem_of_getElem? (i := 122) rfl)) rfl
theorem w123 : Cond.fieldLink RX4 51 RX6 "cells" "LLatticeTunnel$Cells;" ∈ WS := ws_t (tm1 (List.mem_of_getElem? (i := 123) rfl)) rfl
theorem w124 : Cond.fieldLink RX7 96 RX6 "cells" "LLatticeTunnel$Cells;" ∈ WS := ws_t (tm1 (List.mem_of_getElem? (i := 124) rfl)) rfl
theorem w125 : Cond.fieldLink RX6 21 RX6 "gusts" "LLatticeTunnel$Gusts;" ∈ WS := ws_t (tm1 (List.mem_of_getElem? (i := 125) rfl)) rfl
theorem w126 : Cond.fieldLink RX4 88 RX6 "gusts" "LLatticeTunnel$Gusts;" ∈ WS := ws_t (tm1 (List.mem_of_getElem? (i := 126) rfl)) rfl
theorem w127 : Cond.fieldLink RX7 151 RX6 "gusts" "LLatticeTunnel$Gusts;" ∈ WS := ws_t (tm1 (List.mem_of_getElem? (i := 127) rfl)) rfl
theorem w128 : Cond.fieldLink RX6 28 RX6 "record" "LLatticeTunnel$TickRecord;" ∈ WS := ws_t (tm1 (List.mem_of_getElem? (i := 128) rfl)) rfl
theorem w129 : Cond.fieldLink RX4 35 RX6 "record" "LLatticeTunnel$TickRecord;" ∈ WS := ws_t (tm1 (List.mem_of_getElem? (i := 129) rfl)) rfl
theorem w130 : Cond.fieldLink RX7 234 RX6 "record" "LLatticeTunnel$TickRecord;" ∈ WS := ws_t (tm1 (List.mem_of_getElem? (i := 130) rfl)) rfl
theorem w131 : Cond.fieldLink RX6 35 RX6 "accounts" "LLatticeTunnel$Accounts;" ∈ WS := ws_t (tm1 (List.mem_of_getElem? (i := 131) rfl)) rfl
theorem w132 : Cond.fieldLink RX4 123 RX6 "accounts" "LLatticeTunnel$Accounts;" ∈ WS := ws_t (tm1 (List.mem_of_getElem? (i := 132) rfl)) rfl
theorem w133 : Cond.fieldLink RX7 249 RX6 "accounts" "LLatticeTunnel$Accounts;" ∈ WS := ws_t (tm1 (List.mem_of_getElem? (i := 133) rfl)) rfl
theorem w134 : Cond.fieldLink RX6 39 RX6 "fittings" "[I" ∈ WS := ws_t (tm1 (List.mem_of_getElem? (i := 134) rfl)) rfl
theorem w135 : Cond.fieldLink RX7 85 RX6 "fittings" "[I" ∈ WS := ws_t (tm1 (List.mem_of_getElem? (i := 135) rfl)) rfl
theorem w136 : Cond.fieldLink RX4 163 RX6 "fittings" "[I" ∈ WS := ws_t (tm1 (List.mem_of_getElem? (i := 136) rfl)) rfl
theorem w137 : Cond.fieldLink RX6 43 RX6 "book" "[I" ∈ WS := ws_t (tm1 (List.mem_of_getElem? (i := 137) rfl)) rfl
theorem w138 : Cond.fieldLink RX4 134 RX6 "book" "[I" ∈ WS := ws_t (tm1 (List.mem_of_getElem? (i := 138) rfl)) rfl
theorem w139 : Cond.fieldLink RX7 183 RX6 "book" "[I" ∈ WS := ws_t (tm1 (List.mem_of_getElem? (i := 139) rfl)) rfl
theorem w140 : Cond.fieldLink RX6 94 RX6 "ruleCount" "I" ∈ WS := ws_t (tm1 (List.mem_of_getElem? (i := 140) rfl)) rfl
theorem w141 : Cond.fieldLink RX7 182 RX6 "ruleCount" "I" ∈ WS := ws_t (tm1 (List.mem_of_getElem? (i := 141) rfl)) rfl
theorem w142 : Cond.fieldLink RX6 66 RX6 "time" "I" ∈ WS := ws_t (tm1 (List.mem_of_getElem? (i := 142) rfl)) rfl
theorem w143 : Cond.fieldLink RX4 47 RX6 "time" "I" ∈ WS := ws_t (tm1 (List.mem_of_getElem? (i := 143) rfl)) rfl
theorem w144 : Cond.fieldLink RX7 190 RX6 "time" "I" ∈ WS := ws_t (tm1 (List.mem_of_getElem? (i := 144) rfl)) rfl
theorem w145 : Cond.fieldLink RX6 46 RX6 "sums" "[I" ∈ WS := ws_t (tm1 (List.mem_of_getElem? (i := 145) rfl)) rfl
theorem w146 : Cond.fieldLink RX4 210 RX6 "sums" "[I" ∈ WS := ws_t (tm1 (List.mem_of_getElem? (i := 146) rfl)) rfl
theorem w147 : Cond.fieldLink RX7 219 RX6 "sums" "[I" ∈ WS := ws_t (tm1 (List.mem_of_getElem? (i := 147) rfl)) rfl
theorem w148 : Cond.fieldLink RX6 49 RX6 "crossings" "[I" ∈ WS := ws_t (tm1 (List.mem_of_getElem? (i := 148) rfl)) rfl
theorem w149 : Cond.fieldLink RX4 76 RX6 "crossings" "[I" ∈ WS := ws_t (tm1 (List.mem_of_getElem? (i := 149) rfl)) rfl
theorem w171 : Cond.classLink RX7 19 RX4 ∈ WS := ws_t (tm1 (List.mem_of_getElem? (i := 171) rfl)) rfl
theorem w172 : Cond.instantiable RX4 3 ∈ WS := ws_t (tm1 (List.mem_of_getElem? (i := 172) rfl)) rfl
theorem w173 : Cond.methodLinkNest RX7 21 yX4_init RX7 ∈ WN := wn_t (tm1 (List.mem_of_getElem? (i := 173) rfl)) rfl
theorem w174 : Cond.instanceMethod yX4_init ∈ WS := ws_t (tm1 (List.mem_of_getElem? (i := 174) rfl)) rfl
theorem w175 : Cond.code yX4_init cX4_init 1 none ∈ WS := ws_t (tm1 (List.mem_of_getElem? (i := 175) rfl)) rfl
theorem w176 : Cond.methodLink RX4 3 objectInit ∈ WS := ws_t (tm1 (List.mem_of_getElem? (i := 176) rfl)) rfl
theorem w177 : Cond.fieldLink RX4 9 RX4 "ready" "[I" ∈ WS := ws_t (tm1 (List.mem_of_getElem? (i := 177) rfl)) rfl
theorem w178 : Cond.fieldLink RX4 15 RX4 "takenByBodies" "[I" ∈ WS := ws_t (tm1 (List.mem_of_getElem? (i := 178) rfl)) rfl
theorem w179 : Cond.fieldLink RX4 18 RX4 "takenByWalls" "[I" ∈ WS := ws_t (tm1 (List.mem_of_getElem? (i := 179) rfl)) rfl
theorem w187 : Cond.classLink RX7 26 RX3 ∈ WS := ws_t (tm1 (List.mem_of_getElem? (i := 187) rfl)) rfl
theorem w188 : Cond.instantiable RX3 14 ∈ WS := ws_t (tm1 (List.mem_of_getElem? (i := 188) rfl)) rfl
theorem w189 : Cond.methodLinkNest RX7 28 yX3_init RX7 ∈ WN := wn_t (tm1 (List.mem_of_getElem? (i := 189) rfl)) rfl
theorem w190 : Cond.instanceMethod yX3_init ∈ WS := ws_t (tm1 (List.mem_of_getElem? (i := 190) rfl)) rfl
theorem w191 : Cond.code yX3_init cX3_init 1 none ∈ WS := ws_t (tm1 (List.mem_of_getElem? (i := 191) rfl)) rfl
theorem w192 : Cond.methodLink RX3 3 objectInit ∈ WS := ws_t (tm1 (List.mem_of_getElem? (i := 192) rfl)) rfl
theorem w193 : Cond.fieldLink RX3 9 RX3 "text" "[C" ∈ WS := ws_t (tm1 (List.mem_of_getElem? (i := 193) rfl)) rfl
theorem w194 : Cond.fieldLink RX7 75 RX3 "length" "I" ∈ WS := ws_t (tm1 (List.mem_of_getElem? (i := 194) rfl)) rfl
theorem w195 : Cond.fieldLink RX3 23 RX3 "length" "I" ∈ WS := ws_t (tm1 (List.mem_of_getElem? (i := 195) rfl)) rfl
theorem w196 : Cond.fieldLink RX3 15 RX3 "book" "[I" ∈ WS := ws_t (tm1 (List.mem_of_getElem? (i := 196) rfl)) rfl
theorem w197 : Cond.fieldLink RX6 97 RX3 "book" "[I" ∈ WS := ws_t (tm1 (List.mem_of_getElem? (i := 197) rfl)) rfl
theorem w198 : Cond.fieldLink RX3 27 RX3 "ruleCount" "I" ∈ WS := ws_t (tm1 (List.mem_of_getElem? (i := 198) rfl)) rfl
theorem w199 : Cond.fieldLink RX6 100 RX3 "ruleCount" "I" ∈ WS := ws_t (tm1 (List.mem_of_getElem? (i := 199) rfl)) rfl
theorem w200 : Cond.fieldLink RX7 179 RX3 "ruleCount" "I" ∈ WS := ws_t (tm1 (List.mem_of_getElem? (i := 200) rfl)) rfl
theorem w201 : Cond.fieldLink RX3 30 RX3 "faultKind" "I" ∈ WS := ws_t (tm1 (List.mem_of_getElem? (i := 201) rfl)) rfl
theorem w202 : Cond.fieldLink RX7 173 RX3 "faultKind" "I" ∈ WS := ws_t (tm1 (List.mem_of_getElem? (i := 202) rfl)) rfl
theorem w203 : Cond.fieldLink RX3 72 RX3 "faultPosition" "I" ∈ WS := ws_t (tm1 (List.mem_of_getElem? (i := 203) rfl)) rfl
theorem w204 : Cond.fieldLink RX7 176 RX3 "faultPosition" "I" ∈ WS := ws_t (tm1 (List.mem_of_getElem? (i := 204) rfl)) rfl
theorem w205 : Cond.fieldLink RX3 19 RX3 "named" "[Z" ∈ WS := ws_t (tm1 (List.mem_of_getElem? (i := 205) rfl)) rfl
theorem w206 : Cond.fieldLink RX3 33 RX3 "position" "I" ∈ WS := ws_t (tm1 (List.mem_of_getElem? (i := 206) rfl)) rfl
theorem w207 : Cond.fieldLink RX3 79 RX3 "starred" "Z" ∈ WS := ws_t (tm1 (List.mem_of_getElem? (i := 207) rfl)) rfl
theorem w208 : Cond.fieldLink RX3 53 RX3 "from" "I" ∈ WS := ws_t (tm1 (List.mem_of_getElem? (i := 208) rfl)) rfl
theorem w209 : Cond.fieldLink RX3 56 RX3 "even" "I" ∈ WS := ws_t (tm1 (List.mem_of_getElem? (i := 209) rfl)) rfl
theorem w210 : Cond.fieldLink RX3 63 RX3 "evenPosition" "I" ∈ WS := ws_t (tm1 (List.mem_of_getElem? (i := 210) rfl)) rfl
theorem w211 : Cond.fieldLink RX3 66 RX3 "odd" "I" ∈ WS := ws_t (tm1 (List.mem_of_getElem? (i := 211) rfl)) rfl
theorem w212 : Cond.fieldLink RX3 69 RX3 "oddPosition" "I" ∈ WS := ws_t (tm1 (List.mem_of_getElem? (i := 212) rfl)) rfl
theorem w242 : Cond.arrayClass .char ∈ WS := ws_t (tm2 (List.mem_of_getElem? (i := 2) rfl)) rfl
theorem w243 : Cond.arrayClass .boolean ∈ WS := ws_t (tm2 (List.mem_of_getElem? (i := 3) rfl)) rfl
theorem w245 : Cond.methodLink RX7 48 yX6_buildAnew ∈ WS := ws_t (tm2 (List.mem_of_getElem? (i := 5) rfl)) rfl
theorem w246 : Cond.instanceMethod yX6_buildAnew ∈ WS := ws_t (tm2 (List.mem_of_getElem? (i := 6) rfl)) rfl
theorem w247 : Cond.selects RX6 yX6_buildAnew yX6_buildAnew ∈ WS := ws_t (tm2 (List.mem_of_getElem? (i := 7) rfl)) rfl
theorem w248 : Cond.code yX6_buildAnew cX6_buildAnew 3 none ∈ WS := ws_t (tm2 (List.mem_of_getElem? (i := 8) rfl)) rfl
theorem w249 : Cond.methodLink RX6 52 yX1_makeFree ∈ WS := ws_t (tm2 (List.mem_of_getElem? (i := 9) rfl)) rfl
theorem w250 : Cond.instanceMethod yX1_makeFree ∈ WS := ws_t (tm2 (List.mem_of_getElem? (i := 10) rfl)) rfl
theorem w251 : Cond.selects RX1 yX1_makeFree yX1_makeFree ∈ WS := ws_t (tm2 (List.mem_of_getElem? (i := 11) rfl)) rfl
theorem w252 : Cond.code yX1_makeFree cX1_makeFree 3 none ∈ WS := ws_t (tm2 (List.mem_of_getElem? (i := 12) rfl)) rfl
theorem w253 : Cond.methodLinkNest RX1 25 yX7_columnsBetween RX7 ∈ WN := wn_t (tm2 (List.mem_of_getElem? (i := 13) rfl)) rfl
theorem w254 : Cond.static yX7_columnsBetween ∈ WS := ws_t (tm2 (List.mem_of_getElem? (i := 14) rfl)) rfl
theorem w255 : Cond.code yX7_columnsBetween cX7_columnsBetween 2 (some .int) ∈ WS := ws_t (tm2 (List.mem_of_getElem? (i := 15) rfl)) rfl
theorem w256 : Cond.methodLink RX1 32 yJ7_fill_53178 ∈ WS := ws_t (tm2 (List.mem_of_getElem? (i := 16) rfl)) rfl
theorem w257 : Cond.static yJ7_fill_53178 ∈ WS := ws_t (tm2 (List.mem_of_getElem? (i := 17) rfl)) rfl
theorem w258 : Cond.code yJ7_fill_53178 cJ7_fill_53178 4 none ∈ WS := ws_t (tm2 (List.mem_of_getElem? (i := 18) rfl)) rfl
theorem w259 : Cond.methodLink RX6 60 yX5_forget ∈ WS := ws_t (tm2 (List.mem_of_getElem? (i := 19) rfl)) rfl
theorem w260 : Cond.instanceMethod yX5_forget ∈ WS := ws_t (tm2 (List.mem_of_getElem? (i := 20) rfl)) rfl
theorem w261 : Cond.selects RX5 yX5_forget yX5_forget ∈ WS := ws_t (tm2 (List.mem_of_getElem? (i := 21) rfl)) rfl
theorem w262 : Cond.code yX5_forget cX5_forget 1 none ∈ WS := ws_t (tm2 (List.mem_of_getElem? (i := 22) rfl)) rfl
theorem w263 : Cond.methodLink RX6 63 yX0_close ∈ WS := ws_t (tm2 (List.mem_of_getElem? (i := 23) rfl)) rfl
theorem w264 : Cond.instanceMethod yX0_close ∈ WS := ws_t (tm2 (List.mem_of_getElem? (i := 24) rfl)) rfl
theorem w265 : Cond.selects RX0 yX0_close yX0_close ∈ WS := ws_t (tm2 (List.mem_of_getElem? (i := 25) rfl)) rfl
theorem w266 : Cond.code yX0_close cX0_close 1 none ∈ WS := ws_t (tm2 (List.mem_of_getElem? (i := 26) rfl)) rfl
theorem w267 : Cond.methodLink RX0 18 yJ7_fill_53178 ∈ WS := ws_t (tm2 (List.mem_of_getElem? (i := 27) rfl)) rfl
theorem w268 : Cond.methodLink RX6 69 yJ7_fill_53178 ∈ WS := ws_t (tm2 (List.mem_of_getElem? (i := 28) rfl)) rfl
theorem w270 : Cond.methodLink RX7 54 yJ0_length_8abf5 ∈ WS := ws_t (tm2 (List.mem_of_getElem? (i := 30) rfl)) rfl
theorem w280 : Cond.methodLink RX7 60 yJ0_charAt_5068e ∈ WS := ws_t (tm2 (List.mem_of_getElem? (i := 40) rfl)) rfl
theorem w318 : Cond.methodLink RX7 64 yX3_append ∈ WS := ws_t (tm2 (List.mem_of_getElem? (i := 78) rfl)) rfl
theorem w319 : Cond.instanceMethod yX3_append ∈ WS := ws_t (tm2 (List.mem_of_getElem? (i := 79) rfl)) rfl
theorem w320 : Cond.selects RX3 yX3_append yX3_append ∈ WS := ws_t (tm2 (List.mem_of_getElem? (i := 80) rfl)) rfl
theorem w321 : Cond.code yX3_append cX3_append 2 none ∈ WS := ws_t (tm2 (List.mem_of_getElem? (i := 81) rfl)) rfl
theorem w322 : Cond.methodLink RX7 68 yX3_readBook ∈ WS := ws_t (tm2 (List.mem_of_getElem? (i := 82) rfl)) rfl
theorem w323 : Cond.instanceMethod yX3_readBook ∈ WS := ws_t (tm2 (List.mem_of_getElem? (i := 83) rfl)) rfl
theorem w324 : Cond.selects RX3 yX3_readBook yX3_readBook ∈ WS := ws_t (tm2 (List.mem_of_getElem? (i := 84) rfl)) rfl
theorem w325 : Cond.code yX3_readBook cX3_readBook 3 none ∈ WS := ws_t (tm2 (List.mem_of_getElem? (i := 85) rfl)) rfl
theorem w326 : Cond.methodLink RX3 36 yX3_readRule ∈ WS := ws_t (tm2 (List.mem_of_getElem? (i := 86) rfl)) rfl
theorem w328 : Cond.instanceMethod yX3_readRule ∈ WS := ws_t (tm2 (List.mem_of_getElem? (i := 88) rfl)) rfl
theorem w329 : Cond.code yX3_readRule cX3_readRule 2 none ∈ WS := ws_t (tm2 (List.mem_of_getElem? (i := 89) rfl)) rfl
theorem w330 : Cond.methodLink RX3 42 yX3_readForm ∈ WS := ws_t (tm2 (List.mem_of_getElem? (i := 90) rfl)) rfl
theorem w332 : Cond.instanceMethod yX3_readForm ∈ WS := ws_t (tm2 (List.mem_of_getElem? (i := 92) rfl)) rfl
theorem w333 : Cond.code yX3_readForm cX3_readForm 1 (some .boolean) ∈ WS := ws_t (tm2 (List.mem_of_getElem? (i := 93) rfl)) rfl
theorem w334 : Cond.methodLink RX3 75 yX3_skip ∈ WS := ws_t (tm2 (List.mem_of_getElem? (i := 94) rfl)) rfl
theorem w336 : Cond.instanceMethod yX3_skip ∈ WS := ws_t (tm2 (List.mem_of_getElem? (i := 96) rfl)) rfl
theorem w337 : Cond.code yX3_skip cX3_skip 2 (some .boolean) ∈ WS := ws_t (tm2 (List.mem_of_getElem? (i := 97) rfl)) rfl
theorem w338 : Cond.methodLink RX3 83 yX3_readState ∈ WS := ws_t (tm2 (List.mem_of_getElem? (i := 98) rfl)) rfl
theorem w340 : Cond.instanceMethod yX3_readState ∈ WS := ws_t (tm2 (List.mem_of_getElem? (i := 100) rfl)) rfl
theorem w341 : Cond.code yX3_readState cX3_readState 4 (some .int) ∈ WS := ws_t (tm2 (List.mem_of_getElem? (i := 101) rfl)) rfl
theorem w342 : Cond.methodLink RX3 46 yX3_tell ∈ WS := ws_t (tm2 (List.mem_of_getElem? (i := 102) rfl)) rfl
theorem w344 : Cond.instanceMethod yX3_tell ∈ WS := ws_t (tm2 (List.mem_of_getElem? (i := 104) rfl)) rfl
theorem w345 : Cond.code yX3_tell cX3_tell 3 none ∈ WS := ws_t (tm2 (List.mem_of_getElem? (i := 105) rfl)) rfl
theorem w346 : Cond.methodLink RX3 50 yX3_isNamedBefore ∈ WS := ws_t (tm2 (List.mem_of_getElem? (i := 106) rfl)) rfl
theorem w348 : Cond.instanceMethod yX3_isNamedBefore ∈ WS := ws_t (tm2 (List.mem_of_getElem? (i := 108) rfl)) rfl
theorem w349 : Cond.code yX3_isNamedBefore cX3_isNamedBefore 2 (some .boolean) ∈ WS := ws_t (tm2 (List.mem_of_getElem? (i := 109) rfl)) rfl
theorem w350 : Cond.methodLink RX3 87 yX3_turns ∈ WS := ws_t (tm2 (List.mem_of_getElem? (i := 110) rfl)) rfl
theorem w352 : Cond.instanceMethod yX3_turns ∈ WS := ws_t (tm2 (List.mem_of_getElem? (i := 112) rfl)) rfl
theorem w353 : Cond.code yX3_turns cX3_turns 1 (some .int) ∈ WS := ws_t (tm2 (List.mem_of_getElem? (i := 113) rfl)) rfl
theorem w354 : Cond.methodLink RX3 90 yX3_turned ∈ WS := ws_t (tm2 (List.mem_of_getElem? (i := 114) rfl)) rfl
theorem w355 : Cond.static yX3_turned ∈ WS := ws_t (tm2 (List.mem_of_getElem? (i := 115) rfl)) rfl
theorem w356 : Cond.code yX3_turned cX3_turned 2 (some .int) ∈ WS := ws_t (tm2 (List.mem_of_getElem? (i := 116) rfl)) rfl
theorem w357 : Cond.methodLink RX3 59 yX3_isBalanced ∈ WS := ws_t (tm2 (List.mem_of_getElem? (i := 117) rfl)) rfl
theorem w358 : Cond.static yX3_isBalanced ∈ WS := ws_t (tm2 (List.mem_of_getElem? (i := 118) rfl)) rfl
theorem w359 : Cond.code yX3_isBalanced cX3_isBalanced 6 (some .boolean) ∈ WS := ws_t (tm2 (List.mem_of_getElem? (i := 119) rfl)) rfl
theorem w360 : Cond.methodLink RX3 94 yJ6_bitCount_0f7a4 ∈ WS := ws_t (tm2 (List.mem_of_getElem? (i := 120) rfl)) rfl
theorem w361 : Cond.static yJ6_bitCount_0f7a4 ∈ WS := ws_t (tm2 (List.mem_of_getElem? (i := 121) rfl)) rfl
theorem w362 : Cond.code yJ6_bitCount_0f7a4 cJ6_bitCount_0f7a4 1 (some .int) ∈ WS := ws_t (tm2 (List.mem_of_getElem? (i := 122) rfl)) rfl
theorem w363 : Cond.constant RJ6 265 (1431655765) ∈ WS := ws_t (tm2 (List.mem_of_getElem? (i := 123) rfl)) rfl
theorem w364 : Cond.constant RJ6 266 (858993459) ∈ WS := ws_t (tm2 (List.mem_of_getElem? (i := 124) rfl)) rfl
theorem w365 : Cond.constant RJ6 267 (252645135) ∈ WS := ws_t (tm2 (List.mem_of_getElem? (i := 125) rfl)) rfl
theorem w366 : Cond.methodLinkNest RX3 100 yX7_momentumOf RX7 ∈ WN := wn_t (tm2 (List.mem_of_getElem? (i := 126) rfl)) rfl
theorem w367 : Cond.static yX7_momentumOf ∈ WS := ws_t (tm2 (List.mem_of_getElem? (i := 127) rfl)) rfl
theorem w368 : Cond.code yX7_momentumOf cX7_momentumOf 2 (some .int) ∈ WS := ws_t (tm2 (List.mem_of_getElem? (i := 128) rfl)) rfl
theorem w369 : Cond.fieldLink RX7 319 RX7 "ALONG" "[I" ∈ WS := ws_t (tm2 (List.mem_of_getElem? (i := 129) rfl)) rfl
theorem w371 : Cond.fieldLink RX7 322 RX7 "ACROSS" "[I" ∈ WS := ws_t (tm2 (List.mem_of_getElem? (i := 131) rfl)) rfl
theorem w373 : Cond.methodLink RX3 39 yX3_enterRule ∈ WS := ws_t (tm2 (List.mem_of_getElem? (i := 133) rfl)) rfl
theorem w375 : Cond.instanceMethod yX3_enterRule ∈ WS := ws_t (tm2 (List.mem_of_getElem? (i := 135) rfl)) rfl
theorem w376 : Cond.code yX3_enterRule cX3_enterRule 3 none ∈ WS := ws_t (tm2 (List.mem_of_getElem? (i := 136) rfl)) rfl
theorem w377 : Cond.methodLink RX7 71 yX6_takeBook ∈ WS := ws_t (tm2 (List.mem_of_getElem? (i := 137) rfl)) rfl
theorem w378 : Cond.instanceMethod yX6_takeBook ∈ WS := ws_t (tm2 (List.mem_of_getElem? (i := 138) rfl)) rfl
theorem w379 : Cond.selects RX6 yX6_takeBook yX6_takeBook ∈ WS := ws_t (tm2 (List.mem_of_getElem? (i := 139) rfl)) rfl
theorem w380 : Cond.code yX6_takeBook cX6_takeBook 2 none ∈ WS := ws_t (tm2 (List.mem_of_getElem? (i := 140) rfl)) rfl
theorem w381 : Cond.methodLink RX6 88 arraycopyName ∈ WS := ws_t (tm2 (List.mem_of_getElem? (i := 141) rfl)) rfl
theorem w382 : Cond.static arraycopyName ∈ WS := ws_t (tm2 (List.mem_of_getElem? (i := 142) rfl)) rfl
theorem w383 : Cond.native arraycopyName ∈ WS := ws_t (tm2 (List.mem_of_getElem? (i := 143) rfl)) rfl
theorem w384 : Cond.fieldLink RX7 12 RX7 "now" "LLatticeTunnel$Tunnel;" ∈ WS := ws_t (tm2 (List.mem_of_getElem? (i := 144) rfl)) rfl
theorem w385 : Cond.fieldLink RX7 16 RX7 "later" "LLatticeTunnel$Tunnel;" ∈ WS := ws_t (tm2 (List.mem_of_getElem? (i := 145) rfl)) rfl
theorem w386 : Cond.fieldLink RX7 22 RX7 "stepper" "LLatticeTunnel$Stepper;" ∈ WS := ws_t (tm2 (List.mem_of_getElem? (i := 146) rfl)) rfl
theorem w387 : Cond.fieldLink RX7 29 RX7 "pad" "LLatticeTunnel$Pad;" ∈ WS := ws_t (tm2 (List.mem_of_getElem? (i := 147) rfl)) rfl
theorem w388 : Cond.fieldLink RX7 33 RX7 "history" "[LLatticeTunnel$Tunnel;" ∈ WS := ws_t (tm2 (List.mem_of_getElem? (i := 148) rfl)) rfl
theorem w389 : Cond.fieldLink RX7 297 RX7 "historyFirst" "I" ∈ WS := ws_t (tm2 (List.mem_of_getElem? (i := 149) rfl)) rfl
theorem w390 : Cond.fieldLink RX7 265 RX7 "historySize" "I" ∈ WS := ws_t (tm2 (List.mem_of_getElem? (i := 150) rfl)) rfl
theorem w391 : Cond.fieldLink RX7 37 RX7 "slots" "[LLatticeTunnel$Tunnel;" ∈ WS := ws_t (tm2 (List.mem_of_getElem? (i := 151) rfl)) rfl
theorem w392 : Cond.fieldLink RX7 40 RX7 "saved" "[Z" ∈ WS := ws_t (tm2 (List.mem_of_getElem? (i := 152) rfl)) rfl
theorem w393 : Cond.fieldLink RX7 44 RX7 "trail" "[J" ∈ WS := ws_t (tm2 (List.mem_of_getElem? (i := 153) rfl)) rfl
theorem w415 : Cond.arrayClass .long ∈ WS := ws_t (tm2 (List.mem_of_getElem? (i := 175) rfl)) rfl
theorem w420 : Cond.code yX7_wipe cX7_wipe 2 (some .int) ∈ WS := ws_t (tm2 (List.mem_of_getElem? (i := 180) rfl)) rfl
theorem w424 : Cond.code yX7_reversible cX7_reversible 1 (some .boolean) ∈ WS := ws_t (tm2 (List.mem_of_getElem? (i := 184) rfl)) rfl
theorem w425 : Cond.methodLink RX7 193 yX6_canGoBack ∈ WS := ws_t (tm2 (List.mem_of_getElem? (i := 185) rfl)) rfl
theorem w426 : Cond.instanceMethod yX6_canGoBack ∈ WS := ws_t (tm2 (List.mem_of_getElem? (i := 186) rfl)) rfl
theorem w427 : Cond.selects RX6 yX6_canGoBack yX6_canGoBack ∈ WS := ws_t (tm2 (List.mem_of_getElem? (i := 187) rfl)) rfl
theorem w428 : Cond.code yX6_canGoBack cX6_canGoBack 1 (some .boolean) ∈ WS := ws_t (tm2 (List.mem_of_getElem? (i := 188) rfl)) rfl
theorem w429 : Cond.methodLink RX6 101 yX6_isRing ∈ WS := ws_t (tm2 (List.mem_of_getElem? (i := 189) rfl)) rfl
theorem w430 : Cond.instanceMethod yX6_isRing ∈ WS := ws_t (tm2 (List.mem_of_getElem? (i := 190) rfl)) rfl
theorem w431 : Cond.selects RX6 yX6_isRing yX6_isRing ∈ WS := ws_t (tm2 (List.mem_of_getElem? (i := 191) rfl)) rfl
theorem w432 : Cond.code yX6_isRing cX6_isRing 1 (some .boolean) ∈ WS := ws_t (tm2 (List.mem_of_getElem? (i := 192) rfl)) rfl
theorem w433 : Cond.methodLink RX6 105 yX6_isOneToOne ∈ WS := ws_t (tm2 (List.mem_of_getElem? (i := 193) rfl)) rfl
theorem w435 : Cond.instanceMethod yX6_isOneToOne ∈ WS := ws_t (tm2 (List.mem_of_getElem? (i := 195) rfl)) rfl
theorem w436 : Cond.code yX6_isOneToOne cX6_isOneToOne 5 (some .boolean) ∈ WS := ws_t (tm2 (List.mem_of_getElem? (i := 196) rfl)) rfl
theorem w437 : Cond.constantLong RX6 109 (-1) ∈ WS := ws_t (tm2 (List.mem_of_getElem? (i := 197) rfl)) rfl
theorem w445 : Cond.code yX7_build cX7_build 3 (some .int) ∈ WS := ws_t (tm2 (List.mem_of_getElem? (i := 205) rfl)) rfl
theorem w446 : Cond.methodLink RX7 78 yX7_needRange ∈ WS := ws_t (tm2 (List.mem_of_getElem? (i := 206) rfl)) rfl
theorem w447 : Cond.static yX7_needRange ∈ WS := ws_t (tm2 (List.mem_of_getElem? (i := 207) rfl)) rfl
theorem w448 : Cond.code yX7_needRange cX7_needRange 3 none ∈ WS := ws_t (tm2 (List.mem_of_getElem? (i := 208) rfl)) rfl
theorem w516 : Cond.methodLink RX7 82 yX7_recordChange ∈ WS := ws_t (tm3 (List.mem_of_getElem? (i := 36) rfl)) rfl
theorem w518 : Cond.instanceMethod yX7_recordChange ∈ WS := ws_t (tm3 (List.mem_of_getElem? (i := 38) rfl)) rfl
theorem w519 : Cond.code yX7_recordChange cX7_recordChange 1 none ∈ WS := ws_t (tm3 (List.mem_of_getElem? (i := 39) rfl)) rfl
theorem w520 : Cond.methodLink RX7 268 yX6_copyFrom ∈ WS := ws_t (tm3 (List.mem_of_getElem? (i := 40) rfl)) rfl
theorem w521 : Cond.instanceMethod yX6_copyFrom ∈ WS := ws_t (tm3 (List.mem_of_getElem? (i := 41) rfl)) rfl
theorem w522 : Cond.selects RX6 yX6_copyFrom yX6_copyFrom ∈ WS := ws_t (tm3 (List.mem_of_getElem? (i := 42) rfl)) rfl
theorem w523 : Cond.code yX6_copyFrom cX6_copyFrom 2 none ∈ WS := ws_t (tm3 (List.mem_of_getElem? (i := 43) rfl)) rfl
theorem w524 : Cond.methodLink RX6 75 yX1_copyFrom ∈ WS := ws_t (tm3 (List.mem_of_getElem? (i := 44) rfl)) rfl
theorem w525 : Cond.instanceMethod yX1_copyFrom ∈ WS := ws_t (tm3 (List.mem_of_getElem? (i := 45) rfl)) rfl
theorem w526 : Cond.selects RX1 yX1_copyFrom yX1_copyFrom ∈ WS := ws_t (tm3 (List.mem_of_getElem? (i := 46) rfl)) rfl
theorem w527 : Cond.code yX1_copyFrom cX1_copyFrom 2 none ∈ WS := ws_t (tm3 (List.mem_of_getElem? (i := 47) rfl)) rfl
theorem w528 : Cond.methodLink RX1 38 arraycopyName ∈ WS := ws_t (tm3 (List.mem_of_getElem? (i := 48) rfl)) rfl
theorem w529 : Cond.methodLink RX6 79 yX2_copyFrom ∈ WS := ws_t (tm3 (List.mem_of_getElem? (i := 49) rfl)) rfl
theorem w530 : Cond.instanceMethod yX2_copyFrom ∈ WS := ws_t (tm3 (List.mem_of_getElem? (i := 50) rfl)) rfl
theorem w531 : Cond.selects RX2 yX2_copyFrom yX2_copyFrom ∈ WS := ws_t (tm3 (List.mem_of_getElem? (i := 51) rfl)) rfl
theorem w532 : Cond.code yX2_copyFrom cX2_copyFrom 2 none ∈ WS := ws_t (tm3 (List.mem_of_getElem? (i := 52) rfl)) rfl
theorem w533 : Cond.methodLink RX2 19 arraycopyName ∈ WS := ws_t (tm3 (List.mem_of_getElem? (i := 53) rfl)) rfl
theorem w534 : Cond.methodLink RX6 82 yX5_copyFrom ∈ WS := ws_t (tm3 (List.mem_of_getElem? (i := 54) rfl)) rfl
theorem w535 : Cond.instanceMethod yX5_copyFrom ∈ WS := ws_t (tm3 (List.mem_of_getElem? (i := 55) rfl)) rfl
theorem w536 : Cond.selects RX5 yX5_copyFrom yX5_copyFrom ∈ WS := ws_t (tm3 (List.mem_of_getElem? (i := 56) rfl)) rfl
theorem w537 : Cond.code yX5_copyFrom cX5_copyFrom 2 none ∈ WS := ws_t (tm3 (List.mem_of_getElem? (i := 57) rfl)) rfl
theorem w538 : Cond.methodLink RX5 22 arraycopyName ∈ WS := ws_t (tm3 (List.mem_of_getElem? (i := 58) rfl)) rfl
theorem w539 : Cond.methodLink RX6 85 yX0_copyFrom ∈ WS := ws_t (tm3 (List.mem_of_getElem? (i := 59) rfl)) rfl
theorem w540 : Cond.instanceMethod yX0_copyFrom ∈ WS := ws_t (tm3 (List.mem_of_getElem? (i := 60) rfl)) rfl
theorem w541 : Cond.selects RX0 yX0_copyFrom yX0_copyFrom ∈ WS := ws_t (tm3 (List.mem_of_getElem? (i := 61) rfl)) rfl
theorem w542 : Cond.code yX0_copyFrom cX0_copyFrom 2 none ∈ WS := ws_t (tm3 (List.mem_of_getElem? (i := 62) rfl)) rfl
theorem w543 : Cond.methodLink RX0 24 arraycopyName ∈ WS := ws_t (tm3 (List.mem_of_getElem? (i := 63) rfl)) rfl
theorem w550 : Cond.code yX7_set cX7_set 4 (some .int) ∈ WS := ws_t (tm3 (List.mem_of_getElem? (i := 70) rfl)) rfl
theorem w559 : Cond.code yX7_solid cX7_solid 4 (some .int) ∈ WS := ws_t (tm3 (List.mem_of_getElem? (i := 79) rfl)) rfl
theorem w560 : Cond.methodLink RX7 89 yX7_needBody ∈ WS := ws_t (tm3 (List.mem_of_getElem? (i := 80) rfl)) rfl
theorem w561 : Cond.static yX7_needBody ∈ WS := ws_t (tm3 (List.mem_of_getElem? (i := 81) rfl)) rfl
theorem w562 : Cond.code yX7_needBody cX7_needBody 1 none ∈ WS := ws_t (tm3 (List.mem_of_getElem? (i := 82) rfl)) rfl
theorem w563 : Cond.methodLink RX7 160 yX7_needIndex ∈ WS := ws_t (tm3 (List.mem_of_getElem? (i := 83) rfl)) rfl
theorem w564 : Cond.static yX7_needIndex ∈ WS := ws_t (tm3 (List.mem_of_getElem? (i := 84) rfl)) rfl
theorem w565 : Cond.code yX7_needIndex cX7_needIndex 2 none ∈ WS := ws_t (tm3 (List.mem_of_getElem? (i := 85) rfl)) rfl
theorem w582 : Cond.methodLink RX7 93 yX7_needCell ∈ WS := ws_t (tm3 (List.mem_of_getElem? (i := 102) rfl)) rfl
theorem w584 : Cond.instanceMethod yX7_needCell ∈ WS := ws_t (tm3 (List.mem_of_getElem? (i := 104) rfl)) rfl
theorem w585 : Cond.code yX7_needCell cX7_needCell 3 none ∈ WS := ws_t (tm3 (List.mem_of_getElem? (i := 105) rfl)) rfl
theorem w586 : Cond.methodLink RX7 100 yX1_bodyAt ∈ WS := ws_t (tm3 (List.mem_of_getElem? (i := 106) rfl)) rfl
theorem w587 : Cond.instanceMethod yX1_bodyAt ∈ WS := ws_t (tm3 (List.mem_of_getElem? (i := 107) rfl)) rfl
theorem w588 : Cond.selects RX1 yX1_bodyAt yX1_bodyAt ∈ WS := ws_t (tm3 (List.mem_of_getElem? (i := 108) rfl)) rfl
theorem w589 : Cond.code yX1_bodyAt cX1_bodyAt 4 (some .int) ∈ WS := ws_t (tm3 (List.mem_of_getElem? (i := 109) rfl)) rfl
theorem w590 : Cond.methodLink RX7 106 yX1_particlesAt ∈ WS := ws_t (tm3 (List.mem_of_getElem? (i := 110) rfl)) rfl
theorem w591 : Cond.instanceMethod yX1_particlesAt ∈ WS := ws_t (tm3 (List.mem_of_getElem? (i := 111) rfl)) rfl
theorem w592 : Cond.selects RX1 yX1_particlesAt yX1_particlesAt ∈ WS := ws_t (tm3 (List.mem_of_getElem? (i := 112) rfl)) rfl
theorem w593 : Cond.code yX1_particlesAt cX1_particlesAt 5 (some .int) ∈ WS := ws_t (tm3 (List.mem_of_getElem? (i := 113) rfl)) rfl
theorem w594 : Cond.methodLink RX7 109 yX7_needState ∈ WS := ws_t (tm3 (List.mem_of_getElem? (i := 114) rfl)) rfl
theorem w595 : Cond.static yX7_needState ∈ WS := ws_t (tm3 (List.mem_of_getElem? (i := 115) rfl)) rfl
theorem w596 : Cond.code yX7_needState cX7_needState 1 none ∈ WS := ws_t (tm3 (List.mem_of_getElem? (i := 116) rfl)) rfl
theorem w613 : Cond.methodLink RX7 113 yX1_harden ∈ WS := ws_t (tm3 (List.mem_of_getElem? (i := 133) rfl)) rfl
theorem w614 : Cond.instanceMethod yX1_harden ∈ WS := ws_t (tm3 (List.mem_of_getElem? (i := 134) rfl)) rfl
theorem w615 : Cond.selects RX1 yX1_harden yX1_harden ∈ WS := ws_t (tm3 (List.mem_of_getElem? (i := 135) rfl)) rfl
theorem w616 : Cond.code yX1_harden cX1_harden 5 (some .int) ∈ WS := ws_t (tm3 (List.mem_of_getElem? (i := 136) rfl)) rfl
theorem w617 : Cond.methodLink RX1 53 yX1_solidColumns ∈ WS := ws_t (tm3 (List.mem_of_getElem? (i := 137) rfl)) rfl
theorem w618 : Cond.instanceMethod yX1_solidColumns ∈ WS := ws_t (tm3 (List.mem_of_getElem? (i := 138) rfl)) rfl
theorem w619 : Cond.selects RX1 yX1_solidColumns yX1_solidColumns ∈ WS := ws_t (tm3 (List.mem_of_getElem? (i := 139) rfl)) rfl
theorem w620 : Cond.code yX1_solidColumns cX1_solidColumns 4 (some .int) ∈ WS := ws_t (tm3 (List.mem_of_getElem? (i := 140) rfl)) rfl
theorem w621 : Cond.methodLink RX1 59 yX1_occupiedColumns ∈ WS := ws_t (tm3 (List.mem_of_getElem? (i := 141) rfl)) rfl
theorem w622 : Cond.instanceMethod yX1_occupiedColumns ∈ WS := ws_t (tm3 (List.mem_of_getElem? (i := 142) rfl)) rfl
theorem w623 : Cond.selects RX1 yX1_occupiedColumns yX1_occupiedColumns ∈ WS := ws_t (tm3 (List.mem_of_getElem? (i := 143) rfl)) rfl
theorem w624 : Cond.code yX1_occupiedColumns cX1_occupiedColumns 4 (some .int) ∈ WS := ws_t (tm3 (List.mem_of_getElem? (i := 144) rfl)) rfl
theorem w625 : Cond.methodLink RX1 44 yJ6_bitCount_0f7a4 ∈ WS := ws_t (tm3 (List.mem_of_getElem? (i := 145) rfl)) rfl
theorem w626 : Cond.methodLink RX7 117 yX1_sizeOf ∈ WS := ws_t (tm3 (List.mem_of_getElem? (i := 146) rfl)) rfl
theorem w627 : Cond.instanceMethod yX1_sizeOf ∈ WS := ws_t (tm3 (List.mem_of_getElem? (i := 147) rfl)) rfl
theorem w628 : Cond.selects RX1 yX1_sizeOf yX1_sizeOf ∈ WS := ws_t (tm3 (List.mem_of_getElem? (i := 148) rfl)) rfl
theorem w629 : Cond.code yX1_sizeOf cX1_sizeOf 4 (some .int) ∈ WS := ws_t (tm3 (List.mem_of_getElem? (i := 149) rfl)) rfl
theorem w636 : Cond.code yX7_block cX7_block 9 (some .int) ∈ WS := ws_t (tm3 (List.mem_of_getElem? (i := 156) rfl)) rfl
theorem w637 : Cond.methodLink RX7 121 yX7_needCells ∈ WS := ws_t (tm3 (List.mem_of_getElem? (i := 157) rfl)) rfl
theorem w639 : Cond.instanceMethod yX7_needCells ∈ WS := ws_t (tm3 (List.mem_of_getElem? (i := 159) rfl)) rfl
theorem w640 : Cond.code yX7_needCells cX7_needCells 5 none ∈ WS := ws_t (tm3 (List.mem_of_getElem? (i := 160) rfl)) rfl
theorem w641 : Cond.methodLink RX7 125 yX7_needOrder ∈ WS := ws_t (tm3 (List.mem_of_getElem? (i := 161) rfl)) rfl
theorem w642 : Cond.static yX7_needOrder ∈ WS := ws_t (tm3 (List.mem_of_getElem? (i := 162) rfl)) rfl
theorem w643 : Cond.code yX7_needOrder cX7_needOrder 4 none ∈ WS := ws_t (tm3 (List.mem_of_getElem? (i := 163) rfl)) rfl
theorem w645 : Cond.methodLink RX7 128 yX7_columnsBetween ∈ WS := ws_t (tm3 (List.mem_of_getElem? (i := 165) rfl)) rfl
theorem w652 : Cond.code yX7_clear cX7_clear 4 (some .int) ∈ WS := ws_t (tm3 (List.mem_of_getElem? (i := 172) rfl)) rfl
theorem w653 : Cond.methodLink RX7 131 yX1_soften ∈ WS := ws_t (tm3 (List.mem_of_getElem? (i := 173) rfl)) rfl
theorem w654 : Cond.instanceMethod yX1_soften ∈ WS := ws_t (tm3 (List.mem_of_getElem? (i := 174) rfl)) rfl
theorem w655 : Cond.selects RX1 yX1_soften yX1_soften ∈ WS := ws_t (tm3 (List.mem_of_getElem? (i := 175) rfl)) rfl
theorem w656 : Cond.code yX1_soften cX1_soften 4 none ∈ WS := ws_t (tm3 (List.mem_of_getElem? (i := 176) rfl)) rfl
theorem w663 : Cond.code yX7_shift cX7_shift 4 (some .int) ∈ WS := ws_t (tm3 (List.mem_of_getElem? (i := 183) rfl)) rfl
theorem w664 : Cond.methodLink RX7 134 yX1_canMoveBody ∈ WS := ws_t (tm3 (List.mem_of_getElem? (i := 184) rfl)) rfl
theorem w665 : Cond.instanceMethod yX1_canMoveBody ∈ WS := ws_t (tm3 (List.mem_of_getElem? (i := 185) rfl)) rfl
theorem w666 : Cond.selects RX1 yX1_canMoveBody yX1_canMoveBody ∈ WS := ws_t (tm3 (List.mem_of_getElem? (i := 186) rfl)) rfl
theorem w667 : Cond.code yX1_canMoveBody cX1_canMoveBody 8 (some .boolean) ∈ WS := ws_t (tm3 (List.mem_of_getElem? (i := 187) rfl)) rfl
theorem w668 : Cond.methodLink RX1 62 yX1_sizeOf ∈ WS := ws_t (tm3 (List.mem_of_getElem? (i := 188) rfl)) rfl
theorem w669 : Cond.methodLink RX1 65 yX1_firstColumnOf ∈ WS := ws_t (tm3 (List.mem_of_getElem? (i := 189) rfl)) rfl
theorem w670 : Cond.instanceMethod yX1_firstColumnOf ∈ WS := ws_t (tm3 (List.mem_of_getElem? (i := 190) rfl)) rfl
theorem w671 : Cond.selects RX1 yX1_firstColumnOf yX1_firstColumnOf ∈ WS := ws_t (tm3 (List.mem_of_getElem? (i := 191) rfl)) rfl
theorem w672 : Cond.code yX1_firstColumnOf cX1_firstColumnOf 4 (some .int) ∈ WS := ws_t (tm3 (List.mem_of_getElem? (i := 192) rfl)) rfl
theorem w673 : Cond.methodLink RX1 56 yX1_allColumnsOf ∈ WS := ws_t (tm3 (List.mem_of_getElem? (i := 193) rfl)) rfl
theorem w675 : Cond.instanceMethod yX1_allColumnsOf ∈ WS := ws_t (tm3 (List.mem_of_getElem? (i := 195) rfl)) rfl
theorem w676 : Cond.code yX1_allColumnsOf cX1_allColumnsOf 4 (some .int) ∈ WS := ws_t (tm3 (List.mem_of_getElem? (i := 196) rfl)) rfl
theorem w677 : Cond.methodLink RX1 68 yX1_lastColumnOf ∈ WS := ws_t (tm3 (List.mem_of_getElem? (i := 197) rfl)) rfl
theorem w678 : Cond.instanceMethod yX1_lastColumnOf ∈ WS := ws_t (tm3 (List.mem_of_getElem? (i := 198) rfl)) rfl
theorem w679 : Cond.selects RX1 yX1_lastColumnOf yX1_lastColumnOf ∈ WS := ws_t (tm3 (List.mem_of_getElem? (i := 199) rfl)) rfl
theorem w680 : Cond.code yX1_lastColumnOf cX1_lastColumnOf 4 (some .int) ∈ WS := ws_t (tm3 (List.mem_of_getElem? (i := 200) rfl)) rfl
theorem w681 : Cond.methodLink RX1 71 yX1_firstRowOf ∈ WS := ws_t (tm3 (List.mem_of_getElem? (i := 201) rfl)) rfl
theorem w682 : Cond.instanceMethod yX1_firstRowOf ∈ WS := ws_t (tm3 (List.mem_of_getElem? (i := 202) rfl)) rfl
theorem w683 : Cond.selects RX1 yX1_firstRowOf yX1_firstRowOf ∈ WS := ws_t (tm3 (List.mem_of_getElem? (i := 203) rfl)) rfl
theorem w684 : Cond.code yX1_firstRowOf cX1_firstRowOf 3 (some .int) ∈ WS := ws_t (tm3 (List.mem_of_getElem? (i := 204) rfl)) rfl
theorem w685 : Cond.methodLink RX1 74 yX1_lastRowOf ∈ WS := ws_t (tm3 (List.mem_of_getElem? (i := 205) rfl)) rfl
theorem w686 : Cond.instanceMethod yX1_lastRowOf ∈ WS := ws_t (tm3 (List.mem_of_getElem? (i := 206) rfl)) rfl
theorem w687 : Cond.selects RX1 yX1_lastRowOf yX1_lastRowOf ∈ WS := ws_t (tm3 (List.mem_of_getElem? (i := 207) rfl)) rfl
theorem w688 : Cond.code yX1_lastRowOf cX1_lastRowOf 3 (some .int) ∈ WS := ws_t (tm3 (List.mem_of_getElem? (i := 208) rfl)) rfl
theorem w689 : Cond.methodLink RX1 77 yX1_pushed ∈ WS := ws_t (tm3 (List.mem_of_getElem? (i := 209) rfl)) rfl
theorem w690 : Cond.static yX1_pushed ∈ WS := ws_t (tm3 (List.mem_of_getElem? (i := 210) rfl)) rfl
theorem w691 : Cond.code yX1_pushed cX1_pushed 2 (some .int) ∈ WS := ws_t (tm3 (List.mem_of_getElem? (i := 211) rfl)) rfl
theorem w692 : Cond.methodLink RX7 138 yX1_moveBody ∈ WS := ws_t (tm3 (List.mem_of_getElem? (i := 212) rfl)) rfl
theorem w693 : Cond.instanceMethod yX1_moveBody ∈ WS := ws_t (tm3 (List.mem_of_getElem? (i := 213) rfl)) rfl
theorem w694 : Cond.selects RX1 yX1_moveBody yX1_moveBody ∈ WS := ws_t (tm3 (List.mem_of_getElem? (i := 214) rfl)) rfl
theorem w695 : Cond.code yX1_moveBody cX1_moveBody 8 none ∈ WS := ws_t (tm3 (List.mem_of_getElem? (i := 215) rfl)) rfl
theorem w702 : Cond.code yX7_put cX7_put 4 (some .int) ∈ WS := ws_t (tm3 (List.mem_of_getElem? (i := 222) rfl)) rfl
theorem w703 : Cond.methodLink RX7 141 yX6_addParticles ∈ WS := ws_t (tm3 (List.mem_of_getElem? (i := 223) rfl)) rfl
theorem w704 : Cond.instanceMethod yX6_addParticles ∈ WS := ws_t (tm3 (List.mem_of_getElem? (i := 224) rfl)) rfl
theorem w705 : Cond.selects RX6 yX6_addParticles yX6_addParticles ∈ WS := ws_t (tm3 (List.mem_of_getElem? (i := 225) rfl)) rfl
theorem w706 : Cond.code yX6_addParticles cX6_addParticles 7 (some .int) ∈ WS := ws_t (tm3 (List.mem_of_getElem? (i := 226) rfl)) rfl
theorem w707 : Cond.methodLink RX6 111 yX1_solidColumns ∈ WS := ws_t (tm3 (List.mem_of_getElem? (i := 227) rfl)) rfl
theorem w708 : Cond.methodLink RX6 118 yJ6_bitCount_0f7a4 ∈ WS := ws_t (tm3 (List.mem_of_getElem? (i := 228) rfl)) rfl
theorem w709 : Cond.methodLink RX6 124 yX0_credit ∈ WS := ws_t (tm3 (List.mem_of_getElem? (i := 229) rfl)) rfl
theorem w710 : Cond.instanceMethod yX0_credit ∈ WS := ws_t (tm3 (List.mem_of_getElem? (i := 230) rfl)) rfl
theorem w711 : Cond.selects RX0 yX0_credit yX0_credit ∈ WS := ws_t (tm3 (List.mem_of_getElem? (i := 231) rfl)) rfl
theorem w712 : Cond.code yX0_credit cX0_credit 4 none ∈ WS := ws_t (tm3 (List.mem_of_getElem? (i := 232) rfl)) rfl
theorem w713 : Cond.fieldLinkNest RX0 30 RX7 "ALONG" "[I" RX7 ∈ WN := wn_t (tm3 (List.mem_of_getElem? (i := 233) rfl)) rfl
theorem w714 : Cond.fieldLinkNest RX0 33 RX7 "ACROSS" "[I" RX7 ∈ WN := wn_t (tm3 (List.mem_of_getElem? (i := 234) rfl)) rfl
theorem w721 : Cond.code yX7_fill cX7_fill 10 (some .int) ∈ WS := ws_t (tm4 (List.mem_of_getElem? (i := 1) rfl)) rfl
theorem w728 : Cond.code yX7_empty cX7_empty 8 (some .int) ∈ WS := ws_t (tm4 (List.mem_of_getElem? (i := 8) rfl)) rfl
theorem w729 : Cond.methodLink RX7 144 yX6_removeParticles ∈ WS := ws_t (tm4 (List.mem_of_getElem? (i := 9) rfl)) rfl
theorem w730 : Cond.instanceMethod yX6_removeParticles ∈ WS := ws_t (tm4 (List.mem_of_getElem? (i := 10) rfl)) rfl
theorem w731 : Cond.selects RX6 yX6_removeParticles yX6_removeParticles ∈ WS := ws_t (tm4 (List.mem_of_getElem? (i := 11) rfl)) rfl
theorem w732 : Cond.code yX6_removeParticles cX6_removeParticles 7 (some .int) ∈ WS := ws_t (tm4 (List.mem_of_getElem? (i := 12) rfl)) rfl
theorem w739 : Cond.code yX7_inlet cX7_inlet 6 (some .int) ∈ WS := ws_t (tm4 (List.mem_of_getElem? (i := 19) rfl)) rfl
theorem w740 : Cond.methodLink RX7 147 yX7_addGust ∈ WS := ws_t (tm4 (List.mem_of_getElem? (i := 20) rfl)) rfl
theorem w742 : Cond.instanceMethod yX7_addGust ∈ WS := ws_t (tm4 (List.mem_of_getElem? (i := 22) rfl)) rfl
theorem w743 : Cond.code yX7_addGust cX7_addGust 9 (some .int) ∈ WS := ws_t (tm4 (List.mem_of_getElem? (i := 23) rfl)) rfl
theorem w744 : Cond.methodLink RX7 166 yX2_addPlace ∈ WS := ws_t (tm4 (List.mem_of_getElem? (i := 24) rfl)) rfl
theorem w745 : Cond.instanceMethod yX2_addPlace ∈ WS := ws_t (tm4 (List.mem_of_getElem? (i := 25) rfl)) rfl
theorem w746 : Cond.selects RX2 yX2_addPlace yX2_addPlace ∈ WS := ws_t (tm4 (List.mem_of_getElem? (i := 26) rfl)) rfl
theorem w747 : Cond.code yX2_addPlace cX2_addPlace 6 (some .int) ∈ WS := ws_t (tm4 (List.mem_of_getElem? (i := 27) rfl)) rfl
theorem w748 : Cond.methodLink RX7 170 yX2_setTimes ∈ WS := ws_t (tm4 (List.mem_of_getElem? (i := 28) rfl)) rfl
theorem w749 : Cond.instanceMethod yX2_setTimes ∈ WS := ws_t (tm4 (List.mem_of_getElem? (i := 29) rfl)) rfl
theorem w750 : Cond.selects RX2 yX2_setTimes yX2_setTimes ∈ WS := ws_t (tm4 (List.mem_of_getElem? (i := 30) rfl)) rfl
theorem w751 : Cond.code yX2_setTimes cX2_setTimes 5 none ∈ WS := ws_t (tm4 (List.mem_of_getElem? (i := 31) rfl)) rfl
theorem w758 : Cond.code yX7_fan cX7_fan 7 (some .int) ∈ WS := ws_t (tm4 (List.mem_of_getElem? (i := 38) rfl)) rfl
theorem w765 : Cond.code yX7_drain cX7_drain 7 (some .int) ∈ WS := ws_t (tm4 (List.mem_of_getElem? (i := 45) rfl)) rfl
theorem w772 : Cond.code yX7_drop cX7_drop 2 (some .int) ∈ WS := ws_t (tm4 (List.mem_of_getElem? (i := 52) rfl)) rfl
theorem w773 : Cond.methodLink RX7 163 yX2_remove ∈ WS := ws_t (tm4 (List.mem_of_getElem? (i := 53) rfl)) rfl
theorem w774 : Cond.instanceMethod yX2_remove ∈ WS := ws_t (tm4 (List.mem_of_getElem? (i := 54) rfl)) rfl
theorem w775 : Cond.selects RX2 yX2_remove yX2_remove ∈ WS := ws_t (tm4 (List.mem_of_getElem? (i := 55) rfl)) rfl
theorem w776 : Cond.code yX2_remove cX2_remove 3 none ∈ WS := ws_t (tm4 (List.mem_of_getElem? (i := 56) rfl)) rfl
theorem w783 : Cond.code yX7_type cX7_type 2 (some .int) ∈ WS := ws_t (tm4 (List.mem_of_getElem? (i := 63) rfl)) rfl
theorem w790 : Cond.code yX7_fault cX7_fault 2 (some .int) ∈ WS := ws_t (tm4 (List.mem_of_getElem? (i := 70) rfl)) rfl
theorem w797 : Cond.code yX7_rules cX7_rules 1 (some .int) ∈ WS := ws_t (tm4 (List.mem_of_getElem? (i := 77) rfl)) rfl
theorem w804 : Cond.code yX7_becomes cX7_becomes 3 (some .int) ∈ WS := ws_t (tm4 (List.mem_of_getElem? (i := 84) rfl)) rfl
theorem w811 : Cond.code yX7_run cX7_run 3 (some .int) ∈ WS := ws_t (tm4 (List.mem_of_getElem? (i := 91) rfl)) rfl
theorem w812 : Cond.methodLink RX7 186 yX4_tick ∈ WS := ws_t (tm4 (List.mem_of_getElem? (i := 92) rfl)) rfl
theorem w813 : Cond.instanceMethod yX4_tick ∈ WS := ws_t (tm4 (List.mem_of_getElem? (i := 93) rfl)) rfl
theorem w814 : Cond.selects RX4 yX4_tick yX4_tick ∈ WS := ws_t (tm4 (List.mem_of_getElem? (i := 94) rfl)) rfl
theorem w815 : Cond.code yX4_tick cX4_tick 2 none ∈ WS := ws_t (tm4 (List.mem_of_getElem? (i := 95) rfl)) rfl
theorem w816 : Cond.methodLink RX4 21 yX4_blowGusts ∈ WS := ws_t (tm4 (List.mem_of_getElem? (i := 96) rfl)) rfl
theorem w817 : Cond.static yX4_blowGusts ∈ WS := ws_t (tm4 (List.mem_of_getElem? (i := 97) rfl)) rfl
theorem w818 : Cond.code yX4_blowGusts cX4_blowGusts 9 none ∈ WS := ws_t (tm4 (List.mem_of_getElem? (i := 98) rfl)) rfl
theorem w819 : Cond.methodLink RX4 97 yX2_isBlowing ∈ WS := ws_t (tm4 (List.mem_of_getElem? (i := 99) rfl)) rfl
theorem w820 : Cond.instanceMethod yX2_isBlowing ∈ WS := ws_t (tm4 (List.mem_of_getElem? (i := 100) rfl)) rfl
theorem w821 : Cond.selects RX2 yX2_isBlowing yX2_isBlowing ∈ WS := ws_t (tm4 (List.mem_of_getElem? (i := 101) rfl)) rfl
theorem w822 : Cond.code yX2_isBlowing cX2_isBlowing 5 (some .boolean) ∈ WS := ws_t (tm4 (List.mem_of_getElem? (i := 102) rfl)) rfl
theorem w823 : Cond.methodLink RX4 104 yX4_blow ∈ WS := ws_t (tm4 (List.mem_of_getElem? (i := 103) rfl)) rfl
theorem w824 : Cond.static yX4_blow ∈ WS := ws_t (tm4 (List.mem_of_getElem? (i := 104) rfl)) rfl
theorem w825 : Cond.code yX4_blow cX4_blow 4 (some .int) ∈ WS := ws_t (tm4 (List.mem_of_getElem? (i := 105) rfl)) rfl
theorem w826 : Cond.methodLink RX4 108 yX4_blowIn ∈ WS := ws_t (tm4 (List.mem_of_getElem? (i := 106) rfl)) rfl
theorem w827 : Cond.static yX4_blowIn ∈ WS := ws_t (tm4 (List.mem_of_getElem? (i := 107) rfl)) rfl
theorem w828 : Cond.code yX4_blowIn cX4_blowIn 6 (some .int) ∈ WS := ws_t (tm4 (List.mem_of_getElem? (i := 108) rfl)) rfl
theorem w829 : Cond.methodLink RX4 119 yX1_solidColumns ∈ WS := ws_t (tm4 (List.mem_of_getElem? (i := 109) rfl)) rfl
theorem w830 : Cond.methodLink RX4 130 yX0_credit ∈ WS := ws_t (tm4 (List.mem_of_getElem? (i := 110) rfl)) rfl
theorem w831 : Cond.methodLink RX4 112 yX4_turnEast ∈ WS := ws_t (tm4 (List.mem_of_getElem? (i := 111) rfl)) rfl
theorem w832 : Cond.static yX4_turnEast ∈ WS := ws_t (tm4 (List.mem_of_getElem? (i := 112) rfl)) rfl
theorem w833 : Cond.code yX4_turnEast cX4_turnEast 7 (some .int) ∈ WS := ws_t (tm4 (List.mem_of_getElem? (i := 113) rfl)) rfl
theorem w834 : Cond.methodLink RX4 115 yX6_removeParticles ∈ WS := ws_t (tm4 (List.mem_of_getElem? (i := 114) rfl)) rfl
theorem w835 : Cond.methodLink RX4 25 yX4_collide ∈ WS := ws_t (tm4 (List.mem_of_getElem? (i := 115) rfl)) rfl
theorem w837 : Cond.instanceMethod yX4_collide ∈ WS := ws_t (tm4 (List.mem_of_getElem? (i := 117) rfl)) rfl
theorem w838 : Cond.code yX4_collide cX4_collide 3 none ∈ WS := ws_t (tm4 (List.mem_of_getElem? (i := 118) rfl)) rfl
theorem w839 : Cond.methodLink RX4 64 arraycopyName ∈ WS := ws_t (tm4 (List.mem_of_getElem? (i := 119) rfl)) rfl
theorem w840 : Cond.methodLink RX4 137 yX4_exchange ∈ WS := ws_t (tm4 (List.mem_of_getElem? (i := 120) rfl)) rfl
theorem w842 : Cond.instanceMethod yX4_exchange ∈ WS := ws_t (tm4 (List.mem_of_getElem? (i := 122) rfl)) rfl
theorem w843 : Cond.code yX4_exchange cX4_exchange 8 none ∈ WS := ws_t (tm4 (List.mem_of_getElem? (i := 123) rfl)) rfl
theorem w844 : Cond.methodLink RX4 144 yX1_columnsWithState ∈ WS := ws_t (tm4 (List.mem_of_getElem? (i := 124) rfl)) rfl
theorem w845 : Cond.instanceMethod yX1_columnsWithState ∈ WS := ws_t (tm4 (List.mem_of_getElem? (i := 125) rfl)) rfl
theorem w846 : Cond.selects RX1 yX1_columnsWithState yX1_columnsWithState ∈ WS := ws_t (tm4 (List.mem_of_getElem? (i := 126) rfl)) rfl
theorem w847 : Cond.code yX1_columnsWithState cX1_columnsWithState 6 (some .int) ∈ WS := ws_t (tm4 (List.mem_of_getElem? (i := 127) rfl)) rfl
theorem w848 : Cond.methodLink RX4 148 yX4_columnsOfParity ∈ WS := ws_t (tm4 (List.mem_of_getElem? (i := 128) rfl)) rfl
theorem w849 : Cond.static yX4_columnsOfParity ∈ WS := ws_t (tm4 (List.mem_of_getElem? (i := 129) rfl)) rfl
theorem w850 : Cond.code yX4_columnsOfParity cX4_columnsOfParity 1 (some .int) ∈ WS := ws_t (tm4 (List.mem_of_getElem? (i := 130) rfl)) rfl
theorem w851 : Cond.constant RX4 151 (1431655765) ∈ WS := ws_t (tm4 (List.mem_of_getElem? (i := 131) rfl)) rfl
theorem w852 : Cond.constant RX4 152 (-1431655766) ∈ WS := ws_t (tm4 (List.mem_of_getElem? (i := 132) rfl)) rfl
theorem w853 : Cond.methodLink RX4 28 yX4_moveReady ∈ WS := ws_t (tm4 (List.mem_of_getElem? (i := 133) rfl)) rfl
theorem w855 : Cond.instanceMethod yX4_moveReady ∈ WS := ws_t (tm4 (List.mem_of_getElem? (i := 135) rfl)) rfl
theorem w856 : Cond.code yX4_moveReady cX4_moveReady 6 none ∈ WS := ws_t (tm4 (List.mem_of_getElem? (i := 136) rfl)) rfl
theorem w857 : Cond.methodLink RX4 79 yJ7_fill_53178 ∈ WS := ws_t (tm4 (List.mem_of_getElem? (i := 137) rfl)) rfl
theorem w858 : Cond.fieldLinkNest RX4 153 RX7 "ROW_STEP" "[I" RX7 ∈ WN := wn_t (tm4 (List.mem_of_getElem? (i := 138) rfl)) rfl
theorem w860 : Cond.methodLink RX4 156 yX4_bounceOffWall ∈ WS := ws_t (tm4 (List.mem_of_getElem? (i := 140) rfl)) rfl
theorem w862 : Cond.instanceMethod yX4_bounceOffWall ∈ WS := ws_t (tm4 (List.mem_of_getElem? (i := 142) rfl)) rfl
theorem w863 : Cond.code yX4_bounceOffWall cX4_bounceOffWall 9 none ∈ WS := ws_t (tm4 (List.mem_of_getElem? (i := 143) rfl)) rfl
theorem w864 : Cond.fieldLinkNest RX4 166 RX7 "MIRRORED" "[I" RX7 ∈ WN := wn_t (tm4 (List.mem_of_getElem? (i := 144) rfl)) rfl
theorem w866 : Cond.fieldLinkNest RX4 85 RX7 "OPPOSITE" "[I" RX7 ∈ WN := wn_t (tm4 (List.mem_of_getElem? (i := 146) rfl)) rfl
theorem w868 : Cond.methodLinkNest RX4 169 yX7_momentumOf RX7 ∈ WN := wn_t (tm4 (List.mem_of_getElem? (i := 148) rfl)) rfl
theorem w869 : Cond.methodLink RX4 172 yJ6_bitCount_0f7a4 ∈ WS := ws_t (tm4 (List.mem_of_getElem? (i := 149) rfl)) rfl
theorem w870 : Cond.methodLink RX4 160 yX4_moveToRow ∈ WS := ws_t (tm4 (List.mem_of_getElem? (i := 150) rfl)) rfl
theorem w872 : Cond.instanceMethod yX4_moveToRow ∈ WS := ws_t (tm4 (List.mem_of_getElem? (i := 152) rfl)) rfl
theorem w873 : Cond.code yX4_moveToRow cX4_moveToRow 12 none ∈ WS := ws_t (tm4 (List.mem_of_getElem? (i := 153) rfl)) rfl
theorem w874 : Cond.fieldLinkNest RX4 177 RX7 "COLUMN_STEP_IN_EVEN_ROW" "[I" RX7 ∈ WN := wn_t (tm4 (List.mem_of_getElem? (i := 154) rfl)) rfl
theorem w876 : Cond.fieldLinkNest RX4 180 RX7 "COLUMN_STEP_IN_ODD_ROW" "[I" RX7 ∈ WN := wn_t (tm4 (List.mem_of_getElem? (i := 156) rfl)) rfl
theorem w878 : Cond.methodLink RX4 183 yX6_isRing ∈ WS := ws_t (tm4 (List.mem_of_getElem? (i := 158) rfl)) rfl
theorem w879 : Cond.methodLink RX4 187 yX1_endColumn ∈ WS := ws_t (tm4 (List.mem_of_getElem? (i := 159) rfl)) rfl
theorem w880 : Cond.instanceMethod yX1_endColumn ∈ WS := ws_t (tm4 (List.mem_of_getElem? (i := 160) rfl)) rfl
theorem w881 : Cond.selects RX1 yX1_endColumn yX1_endColumn ∈ WS := ws_t (tm4 (List.mem_of_getElem? (i := 161) rfl)) rfl
theorem w882 : Cond.code yX1_endColumn cX1_endColumn 2 (some .int) ∈ WS := ws_t (tm4 (List.mem_of_getElem? (i := 162) rfl)) rfl
theorem w883 : Cond.methodLink RX4 190 yX1_stepped ∈ WS := ws_t (tm4 (List.mem_of_getElem? (i := 163) rfl)) rfl
theorem w884 : Cond.instanceMethod yX1_stepped ∈ WS := ws_t (tm4 (List.mem_of_getElem? (i := 164) rfl)) rfl
theorem w885 : Cond.selects RX1 yX1_stepped yX1_stepped ∈ WS := ws_t (tm4 (List.mem_of_getElem? (i := 165) rfl)) rfl
theorem w886 : Cond.code yX1_stepped cX1_stepped 5 (some .int) ∈ WS := ws_t (tm4 (List.mem_of_getElem? (i := 166) rfl)) rfl
theorem w887 : Cond.methodLink RX4 194 yX4_giveToBodies ∈ WS := ws_t (tm4 (List.mem_of_getElem? (i := 167) rfl)) rfl
theorem w889 : Cond.instanceMethod yX4_giveToBodies ∈ WS := ws_t (tm4 (List.mem_of_getElem? (i := 169) rfl)) rfl
theorem w890 : Cond.code yX4_giveToBodies cX4_giveToBodies 10 none ∈ WS := ws_t (tm4 (List.mem_of_getElem? (i := 170) rfl)) rfl
theorem w891 : Cond.fieldLinkNest RX4 201 RX7 "ALONG" "[I" RX7 ∈ WN := wn_t (tm4 (List.mem_of_getElem? (i := 171) rfl)) rfl
theorem w892 : Cond.fieldLinkNest RX4 204 RX7 "ACROSS" "[I" RX7 ∈ WN := wn_t (tm4 (List.mem_of_getElem? (i := 172) rfl)) rfl
theorem w893 : Cond.methodLink RX4 31 yX4_accountTaken ∈ WS := ws_t (tm4 (List.mem_of_getElem? (i := 173) rfl)) rfl
theorem w895 : Cond.instanceMethod yX4_accountTaken ∈ WS := ws_t (tm4 (List.mem_of_getElem? (i := 175) rfl)) rfl
theorem w896 : Cond.code yX4_accountTaken cX4_accountTaken 7 none ∈ WS := ws_t (tm4 (List.mem_of_getElem? (i := 176) rfl)) rfl
theorem w897 : Cond.methodLink RX4 41 yX5_add ∈ WS := ws_t (tm4 (List.mem_of_getElem? (i := 177) rfl)) rfl
theorem w898 : Cond.instanceMethod yX5_add ∈ WS := ws_t (tm4 (List.mem_of_getElem? (i := 178) rfl)) rfl
theorem w899 : Cond.selects RX5 yX5_add yX5_add ∈ WS := ws_t (tm4 (List.mem_of_getElem? (i := 179) rfl)) rfl
theorem w900 : Cond.code yX5_add cX5_add 2 none ∈ WS := ws_t (tm4 (List.mem_of_getElem? (i := 180) rfl)) rfl
theorem w907 : Cond.code yX7_back cX7_back 3 (some .int) ∈ WS := ws_t (tm4 (List.mem_of_getElem? (i := 187) rfl)) rfl
theorem w908 : Cond.methodLink RX7 197 yX4_tickBack ∈ WS := ws_t (tm4 (List.mem_of_getElem? (i := 188) rfl)) rfl
theorem w909 : Cond.instanceMethod yX4_tickBack ∈ WS := ws_t (tm4 (List.mem_of_getElem? (i := 189) rfl)) rfl
theorem w910 : Cond.selects RX4 yX4_tickBack yX4_tickBack ∈ WS := ws_t (tm4 (List.mem_of_getElem? (i := 190) rfl)) rfl
theorem w911 : Cond.code yX4_tickBack cX4_tickBack 3 none ∈ WS := ws_t (tm4 (List.mem_of_getElem? (i := 191) rfl)) rfl
theorem w912 : Cond.methodLink RX4 60 yX4_copyTurnedRound ∈ WS := ws_t (tm4 (List.mem_of_getElem? (i := 192) rfl)) rfl
theorem w913 : Cond.static yX4_copyTurnedRound ∈ WS := ws_t (tm4 (List.mem_of_getElem? (i := 193) rfl)) rfl
theorem w914 : Cond.code yX4_copyTurnedRound cX4_copyTurnedRound 4 none ∈ WS := ws_t (tm4 (List.mem_of_getElem? (i := 194) rfl)) rfl
theorem w915 : Cond.methodLink RX4 70 yX4_undoCollisions ∈ WS := ws_t (tm4 (List.mem_of_getElem? (i := 195) rfl)) rfl
theorem w917 : Cond.instanceMethod yX4_undoCollisions ∈ WS := ws_t (tm4 (List.mem_of_getElem? (i := 197) rfl)) rfl
theorem w918 : Cond.code yX4_undoCollisions cX4_undoCollisions 3 none ∈ WS := ws_t (tm4 (List.mem_of_getElem? (i := 198) rfl)) rfl
theorem w919 : Cond.methodLink RX4 73 yX5_removeLatest ∈ WS := ws_t (tm4 (List.mem_of_getElem? (i := 199) rfl)) rfl
theorem w920 : Cond.instanceMethod yX5_removeLatest ∈ WS := ws_t (tm4 (List.mem_of_getElem? (i := 200) rfl)) rfl
theorem w921 : Cond.selects RX5 yX5_removeLatest yX5_removeLatest ∈ WS := ws_t (tm4 (List.mem_of_getElem? (i := 201) rfl)) rfl
theorem w922 : Cond.code yX5_removeLatest cX5_removeLatest 1 none ∈ WS := ws_t (tm4 (List.mem_of_getElem? (i := 202) rfl)) rfl
theorem w929 : Cond.code yX7_cell cX7_cell 4 (some .int) ∈ WS := ws_t (tm4 (List.mem_of_getElem? (i := 209) rfl)) rfl
theorem w936 : Cond.code yX7_density cX7_density 5 (some .int) ∈ WS := ws_t (tm4 (List.mem_of_getElem? (i := 216) rfl)) rfl
theorem w937 : Cond.methodLink RX7 200 yX1_numberIn ∈ WS := ws_t (tm4 (List.mem_of_getElem? (i := 217) rfl)) rfl
theorem w938 : Cond.instanceMethod yX1_numberIn ∈ WS := ws_t (tm4 (List.mem_of_getElem? (i := 218) rfl)) rfl
theorem w939 : Cond.selects RX1 yX1_numberIn yX1_numberIn ∈ WS := ws_t (tm4 (List.mem_of_getElem? (i := 219) rfl)) rfl
theorem w940 : Cond.code yX1_numberIn cX1_numberIn 6 (some .int) ∈ WS := ws_t (tm4 (List.mem_of_getElem? (i := 220) rfl)) rfl
theorem w947 : Cond.code yX7_wind cX7_wind 6 (some .int) ∈ WS := ws_t (tm4 (List.mem_of_getElem? (i := 227) rfl)) rfl
theorem w948 : Cond.methodLink RX7 203 yX1_momentumIn ∈ WS := ws_t (tm4 (List.mem_of_getElem? (i := 228) rfl)) rfl
theorem w949 : Cond.instanceMethod yX1_momentumIn ∈ WS := ws_t (tm4 (List.mem_of_getElem? (i := 229) rfl)) rfl
theorem w950 : Cond.selects RX1 yX1_momentumIn yX1_momentumIn ∈ WS := ws_t (tm4 (List.mem_of_getElem? (i := 230) rfl)) rfl
theorem w951 : Cond.code yX1_momentumIn cX1_momentumIn 8 (some .int) ∈ WS := ws_t (tm4 (List.mem_of_getElem? (i := 231) rfl)) rfl
theorem w952 : Cond.methodLinkNest RX1 50 yX7_momentumOf RX7 ∈ WN := wn_t (tm4 (List.mem_of_getElem? (i := 232) rfl)) rfl
theorem w959 : Cond.code yX7_crossed cX7_crossed 2 (some .int) ∈ WS := ws_t (tm4 (List.mem_of_getElem? (i := 239) rfl)) rfl
theorem w960 : Cond.methodLink RX7 209 yX6_crossingsOf ∈ WS := ws_t (tm5 (List.mem_of_getElem? (i := 0) rfl)) rfl
theorem w961 : Cond.instanceMethod yX6_crossingsOf ∈ WS := ws_t (tm5 (List.mem_of_getElem? (i := 1) rfl)) rfl
theorem w962 : Cond.selects RX6 yX6_crossingsOf yX6_crossingsOf ∈ WS := ws_t (tm5 (List.mem_of_getElem? (i := 2) rfl)) rfl
theorem w963 : Cond.code yX6_crossingsOf cX6_crossingsOf 6 (some .int) ∈ WS := ws_t (tm5 (List.mem_of_getElem? (i := 3) rfl)) rfl
theorem w964 : Cond.fieldLinkNest RX6 131 RX7 "ALONG" "[I" RX7 ∈ WN := wn_t (tm5 (List.mem_of_getElem? (i := 4) rfl)) rfl
theorem w971 : Cond.code yX7_gust cX7_gust 3 (some .int) ∈ WS := ws_t (tm5 (List.mem_of_getElem? (i := 11) rfl)) rfl
theorem w972 : Cond.methodLink RX7 212 yX2_isBlowing ∈ WS := ws_t (tm5 (List.mem_of_getElem? (i := 12) rfl)) rfl
theorem w979 : Cond.code yX7_body cX7_body 3 (some .int) ∈ WS := ws_t (tm5 (List.mem_of_getElem? (i := 19) rfl)) rfl
theorem w980 : Cond.methodLink RX7 222 yX1_firstColumnOf ∈ WS := ws_t (tm5 (List.mem_of_getElem? (i := 20) rfl)) rfl
theorem w981 : Cond.methodLink RX7 225 yX1_lastColumnOf ∈ WS := ws_t (tm5 (List.mem_of_getElem? (i := 21) rfl)) rfl
theorem w982 : Cond.methodLink RX7 228 yX1_firstRowOf ∈ WS := ws_t (tm5 (List.mem_of_getElem? (i := 22) rfl)) rfl
theorem w983 : Cond.methodLink RX7 231 yX1_lastRowOf ∈ WS := ws_t (tm5 (List.mem_of_getElem? (i := 23) rfl)) rfl
theorem w990 : Cond.code yX7_zero cX7_zero 3 (some .int) ∈ WS := ws_t (tm5 (List.mem_of_getElem? (i := 30) rfl)) rfl
theorem w997 : Cond.code yX7_recent cX7_recent 4 (some .int) ∈ WS := ws_t (tm5 (List.mem_of_getElem? (i := 37) rfl)) rfl
theorem w998 : Cond.methodLink RX7 238 yX5_sumOf ∈ WS := ws_t (tm5 (List.mem_of_getElem? (i := 38) rfl)) rfl
theorem w999 : Cond.instanceMethod yX5_sumOf ∈ WS := ws_t (tm5 (List.mem_of_getElem? (i := 39) rfl)) rfl
theorem w1000 : Cond.selects RX5 yX5_sumOf yX5_sumOf ∈ WS := ws_t (tm5 (List.mem_of_getElem? (i := 40) rfl)) rfl
theorem w1001 : Cond.code yX5_sumOf cX5_sumOf 8 (some .int) ∈ WS := ws_t (tm5 (List.mem_of_getElem? (i := 41) rfl)) rfl
theorem w1008 : Cond.code yX7_steady cX7_steady 4 (some .boolean) ∈ WS := ws_t (tm5 (List.mem_of_getElem? (i := 48) rfl)) rfl
theorem w1009 : Cond.methodLink RX7 243 yX5_isSteady ∈ WS := ws_t (tm5 (List.mem_of_getElem? (i := 49) rfl)) rfl
theorem w1010 : Cond.instanceMethod yX5_isSteady ∈ WS := ws_t (tm5 (List.mem_of_getElem? (i := 50) rfl)) rfl
theorem w1011 : Cond.selects RX5 yX5_isSteady yX5_isSteady ∈ WS := ws_t (tm5 (List.mem_of_getElem? (i := 51) rfl)) rfl
theorem w1012 : Cond.code yX5_isSteady cX5_isSteady 6 (some .boolean) ∈ WS := ws_t (tm5 (List.mem_of_getElem? (i := 52) rfl)) rfl
theorem w1013 : Cond.methodLink RX5 28 yX5_sumOf ∈ WS := ws_t (tm5 (List.mem_of_getElem? (i := 53) rfl)) rfl
theorem w1014 : Cond.methodLink RX5 32 Lib.Math.abs.name ∈ WS := ws_t (tm5 (List.mem_of_getElem? (i := 54) rfl)) rfl
theorem w1015 : Cond.static Lib.Math.abs.name ∈ WS := ws_t (tm5 (List.mem_of_getElem? (i := 55) rfl)) rfl
theorem w1023 : Cond.code yX7_particles cX7_particles 2 (some .int) ∈ WS := ws_t (tm5 (List.mem_of_getElem? (i := 63) rfl)) rfl
theorem w1030 : Cond.code yX7_momentum cX7_momentum 3 (some .int) ∈ WS := ws_t (tm5 (List.mem_of_getElem? (i := 70) rfl)) rfl
theorem w1037 : Cond.code yX7_count cX7_count 2 (some .int) ∈ WS := ws_t (tm5 (List.mem_of_getElem? (i := 77) rfl)) rfl
theorem w1038 : Cond.methodLink RX7 261 yX1_solidNumber ∈ WS := ws_t (tm5 (List.mem_of_getElem? (i := 78) rfl)) rfl
theorem w1039 : Cond.instanceMethod yX1_solidNumber ∈ WS := ws_t (tm5 (List.mem_of_getElem? (i := 79) rfl)) rfl
theorem w1040 : Cond.selects RX1 yX1_solidNumber yX1_solidNumber ∈ WS := ws_t (tm5 (List.mem_of_getElem? (i := 80) rfl)) rfl
theorem w1041 : Cond.code yX1_solidNumber cX1_solidNumber 3 (some .int) ∈ WS := ws_t (tm5 (List.mem_of_getElem? (i := 81) rfl)) rfl
theorem w1048 : Cond.code yX7_ahead cX7_ahead 4 (some .int) ∈ WS := ws_t (tm5 (List.mem_of_getElem? (i := 88) rfl)) rfl
theorem w1049 : Cond.methodLink RX7 271 yX7_takenLater ∈ WS := ws_t (tm5 (List.mem_of_getElem? (i := 89) rfl)) rfl
theorem w1051 : Cond.instanceMethod yX7_takenLater ∈ WS := ws_t (tm5 (List.mem_of_getElem? (i := 91) rfl)) rfl
theorem w1052 : Cond.code yX7_takenLater cX7_takenLater 6 (some .int) ∈ WS := ws_t (tm5 (List.mem_of_getElem? (i := 92) rfl)) rfl
theorem w1059 : Cond.code yX7_cycle cX7_cycle 5 (some .int) ∈ WS := ws_t (tm5 (List.mem_of_getElem? (i := 99) rfl)) rfl
theorem w1060 : Cond.methodLink RX7 274 yX7_layTrail ∈ WS := ws_t (tm5 (List.mem_of_getElem? (i := 100) rfl)) rfl
theorem w1062 : Cond.instanceMethod yX7_layTrail ∈ WS := ws_t (tm5 (List.mem_of_getElem? (i := 102) rfl)) rfl
theorem w1063 : Cond.code yX7_layTrail cX7_layTrail 5 none ∈ WS := ws_t (tm5 (List.mem_of_getElem? (i := 103) rfl)) rfl
theorem w1064 : Cond.constantLong RX7 289 (4294967295) ∈ WS := ws_t (tm5 (List.mem_of_getElem? (i := 104) rfl)) rfl
theorem w1065 : Cond.methodLink RX7 277 yX2_haveStarted ∈ WS := ws_t (tm5 (List.mem_of_getElem? (i := 105) rfl)) rfl
theorem w1066 : Cond.instanceMethod yX2_haveStarted ∈ WS := ws_t (tm5 (List.mem_of_getElem? (i := 106) rfl)) rfl
theorem w1067 : Cond.selects RX2 yX2_haveStarted yX2_haveStarted ∈ WS := ws_t (tm5 (List.mem_of_getElem? (i := 107) rfl)) rfl
theorem w1068 : Cond.code yX2_haveStarted cX2_haveStarted 3 (some .boolean) ∈ WS := ws_t (tm5 (List.mem_of_getElem? (i := 108) rfl)) rfl
theorem w1069 : Cond.methodLink RX7 281 yX7_periodAfter ∈ WS := ws_t (tm5 (List.mem_of_getElem? (i := 109) rfl)) rfl
theorem w1071 : Cond.instanceMethod yX7_periodAfter ∈ WS := ws_t (tm5 (List.mem_of_getElem? (i := 111) rfl)) rfl
theorem w1072 : Cond.code yX7_periodAfter cX7_periodAfter 4 (some .int) ∈ WS := ws_t (tm5 (List.mem_of_getElem? (i := 112) rfl)) rfl
theorem w1073 : Cond.methodLink RX7 291 yX2_repeatAfter ∈ WS := ws_t (tm5 (List.mem_of_getElem? (i := 113) rfl)) rfl
theorem w1074 : Cond.instanceMethod yX2_repeatAfter ∈ WS := ws_t (tm5 (List.mem_of_getElem? (i := 114) rfl)) rfl
theorem w1075 : Cond.selects RX2 yX2_repeatAfter yX2_repeatAfter ∈ WS := ws_t (tm5 (List.mem_of_getElem? (i := 115) rfl)) rfl
theorem w1076 : Cond.code yX2_repeatAfter cX2_repeatAfter 4 (some .boolean) ∈ WS := ws_t (tm5 (List.mem_of_getElem? (i := 116) rfl)) rfl
theorem w1077 : Cond.methodLink RX7 294 yX7_isTrailSame ∈ WS := ws_t (tm5 (List.mem_of_getElem? (i := 117) rfl)) rfl
theorem w1079 : Cond.instanceMethod yX7_isTrailSame ∈ WS := ws_t (tm5 (List.mem_of_getElem? (i := 119) rfl)) rfl
theorem w1080 : Cond.code yX7_isTrailSame cX7_isTrailSame 4 (some .boolean) ∈ WS := ws_t (tm5 (List.mem_of_getElem? (i := 120) rfl)) rfl
theorem w1087 : Cond.code yX7_settles cX7_settles 6 (some .int) ∈ WS := ws_t (tm5 (List.mem_of_getElem? (i := 127) rfl)) rfl
theorem w1094 : Cond.code yX7_bestShift cX7_bestShift 10 (some .int) ∈ WS := ws_t (tm5 (List.mem_of_getElem? (i := 134) rfl)) rfl
theorem w1095 : Cond.constant RX7 284 (-1000000) ∈ WS := ws_t (tm5 (List.mem_of_getElem? (i := 135) rfl)) rfl
theorem w1096 : Cond.fieldLink RX7 285 RX7 "SHIFTS_TRIED" "[I" ∈ WS := ws_t (tm5 (List.mem_of_getElem? (i := 136) rfl)) rfl
theorem w1104 : Cond.code yX7_bestStart cX7_bestStart 9 (some .int) ∈ WS := ws_t (tm5 (List.mem_of_getElem? (i := 144) rfl)) rfl
theorem w1111 : Cond.code yX7_undo cX7_undo 1 (some .int) ∈ WS := ws_t (tm5 (List.mem_of_getElem? (i := 151) rfl)) rfl
theorem w1118 : Cond.code yX7_save cX7_save 2 (some .int) ∈ WS := ws_t (tm5 (List.mem_of_getElem? (i := 158) rfl)) rfl
theorem w1125 : Cond.code yX7_restore cX7_restore 2 (some .int) ∈ WS := ws_t (tm5 (List.mem_of_getElem? (i := 165) rfl)) rfl
theorem w1130 : Cond.code yX8_init cX8_init 2 none ∈ WS := ws_t (tm5 (List.mem_of_getElem? (i := 170) rfl)) rfl
theorem w1131 : Cond.methodLink RX8 1 objectInit ∈ WS := ws_t (tm5 (List.mem_of_getElem? (i := 171) rfl)) rfl
theorem w1132 : Cond.methodLink RX8 47 yX8_plain ∈ WS := ws_t (tm5 (List.mem_of_getElem? (i := 172) rfl)) rfl
theorem w1134 : Cond.instanceMethod yX8_plain ∈ WS := ws_t (tm5 (List.mem_of_getElem? (i := 174) rfl)) rfl
theorem w1135 : Cond.code yX8_plain cX8_plain 2 none ∈ WS := ws_t (tm5 (List.mem_of_getElem? (i := 175) rfl)) rfl
theorem w1136 : Cond.methodLink RX8 50 yX8_names ∈ WS := ws_t (tm5 (List.mem_of_getElem? (i := 176) rfl)) rfl
theorem w1138 : Cond.instanceMethod yX8_names ∈ WS := ws_t (tm5 (List.mem_of_getElem? (i := 178) rfl)) rfl
theorem w1139 : Cond.code yX8_names cX8_names 5 none ∈ WS := ws_t (tm5 (List.mem_of_getElem? (i := 179) rfl)) rfl
theorem w1140 : Cond.methodLink RX8 140 yX8_turned ∈ WS := ws_t (tm5 (List.mem_of_getElem? (i := 180) rfl)) rfl
theorem w1141 : Cond.static yX8_turned ∈ WS := ws_t (tm5 (List.mem_of_getElem? (i := 181) rfl)) rfl
theorem w1142 : Cond.code yX8_turned cX8_turned 2 (some .int) ∈ WS := ws_t (tm5 (List.mem_of_getElem? (i := 182) rfl)) rfl
theorem w1143 : Cond.fieldLink RX8 7 RX8 "s" "[I" ∈ WS := ws_t (tm5 (List.mem_of_getElem? (i := 183) rfl)) rfl
theorem w1144 : Cond.fieldLink RX8 13 RX8 "past" "[I" ∈ WS := ws_t (tm5 (List.mem_of_getElem? (i := 184) rfl)) rfl
theorem w1145 : Cond.fieldLink RX8 16 RX8 "slots" "[I" ∈ WS := ws_t (tm5 (List.mem_of_getElem? (i := 185) rfl)) rfl
theorem w1146 : Cond.fieldLink RX8 19 RX8 "isSaved" "[Z" ∈ WS := ws_t (tm5 (List.mem_of_getElem? (i := 186) rfl)) rfl
theorem w1147 : Cond.fieldLink RX8 23 RX8 "before" "[I" ∈ WS := ws_t (tm5 (List.mem_of_getElem? (i := 187) rfl)) rfl
theorem w1148 : Cond.fieldLink RX8 26 RX8 "aside" "[I" ∈ WS := ws_t (tm5 (List.mem_of_getElem? (i := 188) rfl)) rfl
theorem w1149 : Cond.fieldLink RX8 29 RX8 "seen" "[I" ∈ WS := ws_t (tm5 (List.mem_of_getElem? (i := 189) rfl)) rfl
theorem w1150 : Cond.fieldLink RX8 32 RX8 "next" "[I" ∈ WS := ws_t (tm5 (List.mem_of_getElem? (i := 190) rfl)) rfl
theorem w1151 : Cond.fieldLink RX8 35 RX8 "took" "[I" ∈ WS := ws_t (tm5 (List.mem_of_getElem? (i := 191) rfl)) rfl
theorem w1152 : Cond.fieldLink RX8 58 RX8 "pasts" "I" ∈ WS := ws_t (tm5 (List.mem_of_getElem? (i := 192) rfl)) rfl
theorem w1153 : Cond.fieldLink RX8 54 RX8 "thrown" "I" ∈ WS := ws_t (tm5 (List.mem_of_getElem? (i := 193) rfl)) rfl
theorem w1154 : Cond.fieldLink RX8 38 RX8 "pad" "[I" ∈ WS := ws_t (tm5 (List.mem_of_getElem? (i := 194) rfl)) rfl
theorem w1155 : Cond.fieldLink RX8 137 RX8 "typed" "I" ∈ WS := ws_t (tm5 (List.mem_of_getElem? (i := 195) rfl)) rfl
theorem w1156 : Cond.fieldLink RX8 143 RX8 "at" "I" ∈ WS := ws_t (tm5 (List.mem_of_getElem? (i := 196) rfl)) rfl
theorem w1157 : Cond.fieldLink RX8 169 RX8 "rule" "I" ∈ WS := ws_t (tm5 (List.mem_of_getElem? (i := 197) rfl)) rfl
theorem w1158 : Cond.fieldLink RX8 149 RX8 "wrongAt" "I" ∈ WS := ws_t (tm5 (List.mem_of_getElem? (i := 198) rfl)) rfl
theorem w1159 : Cond.fieldLink RX8 146 RX8 "wrong" "I" ∈ WS := ws_t (tm5 (List.mem_of_getElem? (i := 199) rfl)) rfl
theorem w1160 : Cond.fieldLink RX8 41 RX8 "book" "[I" ∈ WS := ws_t (tm5 (List.mem_of_getElem? (i := 200) rfl)) rfl
theorem w1161 : Cond.fieldLink RX8 44 RX8 "isNamed" "[Z" ∈ WS := ws_t (tm5 (List.mem_of_getElem? (i := 201) rfl)) rfl
theorem w1204 : Cond.code yX8_thrown cX8_thrown 1 (some .int) ∈ WS := ws_t (tm6 (List.mem_of_getElem? (i := 4) rfl)) rfl
theorem w1208 : Cond.code yX8_build cX8_build 3 (some .int) ∈ WS := ws_t (tm6 (List.mem_of_getElem? (i := 8) rfl)) rfl
theorem w1209 : Cond.methodLink RX8 65 yX8_in ∈ WS := ws_t (tm6 (List.mem_of_getElem? (i := 9) rfl)) rfl
theorem w1210 : Cond.static yX8_in ∈ WS := ws_t (tm6 (List.mem_of_getElem? (i := 10) rfl)) rfl
theorem w1211 : Cond.code yX8_in cX8_in 3 (some .boolean) ∈ WS := ws_t (tm6 (List.mem_of_getElem? (i := 11) rfl)) rfl
theorem w1212 : Cond.methodLink RX8 89 yX8_fails ∈ WS := ws_t (tm6 (List.mem_of_getElem? (i := 12) rfl)) rfl
theorem w1214 : Cond.instanceMethod yX8_fails ∈ WS := ws_t (tm6 (List.mem_of_getElem? (i := 14) rfl)) rfl
theorem w1215 : Cond.code yX8_fails cX8_fails 2 (some .int) ∈ WS := ws_t (tm6 (List.mem_of_getElem? (i := 15) rfl)) rfl
theorem w1216 : Cond.methodLink RX8 92 yX8_holds ∈ WS := ws_t (tm6 (List.mem_of_getElem? (i := 16) rfl)) rfl
theorem w1218 : Cond.instanceMethod yX8_holds ∈ WS := ws_t (tm6 (List.mem_of_getElem? (i := 18) rfl)) rfl
theorem w1219 : Cond.code yX8_holds cX8_holds 2 none ∈ WS := ws_t (tm6 (List.mem_of_getElem? (i := 19) rfl)) rfl
theorem w1220 : Cond.methodLink RX8 95 yX8_clears ∈ WS := ws_t (tm6 (List.mem_of_getElem? (i := 20) rfl)) rfl
theorem w1222 : Cond.instanceMethod yX8_clears ∈ WS := ws_t (tm6 (List.mem_of_getElem? (i := 22) rfl)) rfl
theorem w1223 : Cond.code yX8_clears cX8_clears 2 none ∈ WS := ws_t (tm6 (List.mem_of_getElem? (i := 23) rfl)) rfl
theorem w1224 : Cond.methodLink RX8 98 yX8_saves ∈ WS := ws_t (tm6 (List.mem_of_getElem? (i := 24) rfl)) rfl
theorem w1226 : Cond.instanceMethod yX8_saves ∈ WS := ws_t (tm6 (List.mem_of_getElem? (i := 26) rfl)) rfl
theorem w1227 : Cond.code yX8_saves cX8_saves 3 (some .int) ∈ WS := ws_t (tm6 (List.mem_of_getElem? (i := 27) rfl)) rfl
theorem w1228 : Cond.methodLink RX8 61 yX8_tells ∈ WS := ws_t (tm6 (List.mem_of_getElem? (i := 28) rfl)) rfl
theorem w1230 : Cond.instanceMethod yX8_tells ∈ WS := ws_t (tm6 (List.mem_of_getElem? (i := 30) rfl)) rfl
theorem w1231 : Cond.code yX8_tells cX8_tells 2 (some .int) ∈ WS := ws_t (tm6 (List.mem_of_getElem? (i := 31) rfl)) rfl
theorem w1235 : Cond.code yX8_set cX8_set 4 (some .int) ∈ WS := ws_t (tm6 (List.mem_of_getElem? (i := 35) rfl)) rfl
theorem w1239 : Cond.code yX8_solid cX8_solid 4 (some .int) ∈ WS := ws_t (tm6 (List.mem_of_getElem? (i := 39) rfl)) rfl
theorem w1240 : Cond.methodLink RX8 101 yX8_isBody ∈ WS := ws_t (tm6 (List.mem_of_getElem? (i := 40) rfl)) rfl
theorem w1241 : Cond.static yX8_isBody ∈ WS := ws_t (tm6 (List.mem_of_getElem? (i := 41) rfl)) rfl
theorem w1242 : Cond.code yX8_isBody cX8_isBody 1 (some .boolean) ∈ WS := ws_t (tm6 (List.mem_of_getElem? (i := 42) rfl)) rfl
theorem w1243 : Cond.methodLink RX8 104 yX8_isCell ∈ WS := ws_t (tm6 (List.mem_of_getElem? (i := 43) rfl)) rfl
theorem w1245 : Cond.instanceMethod yX8_isCell ∈ WS := ws_t (tm6 (List.mem_of_getElem? (i := 45) rfl)) rfl
theorem w1246 : Cond.code yX8_isCell cX8_isCell 3 (some .boolean) ∈ WS := ws_t (tm6 (List.mem_of_getElem? (i := 46) rfl)) rfl
theorem w1247 : Cond.methodLink RX8 69 yX8_isColumn ∈ WS := ws_t (tm6 (List.mem_of_getElem? (i := 47) rfl)) rfl
theorem w1249 : Cond.instanceMethod yX8_isColumn ∈ WS := ws_t (tm6 (List.mem_of_getElem? (i := 49) rfl)) rfl
theorem w1250 : Cond.code yX8_isColumn cX8_isColumn 2 (some .boolean) ∈ WS := ws_t (tm6 (List.mem_of_getElem? (i := 50) rfl)) rfl
theorem w1251 : Cond.methodLink RX8 73 yX8_isRow ∈ WS := ws_t (tm6 (List.mem_of_getElem? (i := 51) rfl)) rfl
theorem w1253 : Cond.instanceMethod yX8_isRow ∈ WS := ws_t (tm6 (List.mem_of_getElem? (i := 53) rfl)) rfl
theorem w1254 : Cond.code yX8_isRow cX8_isRow 2 (some .boolean) ∈ WS := ws_t (tm6 (List.mem_of_getElem? (i := 54) rfl)) rfl
theorem w1255 : Cond.methodLink RX8 108 yX8_had ∈ WS := ws_t (tm6 (List.mem_of_getElem? (i := 55) rfl)) rfl
theorem w1257 : Cond.instanceMethod yX8_had ∈ WS := ws_t (tm6 (List.mem_of_getElem? (i := 57) rfl)) rfl
theorem w1258 : Cond.code yX8_had cX8_had 3 (some .int) ∈ WS := ws_t (tm6 (List.mem_of_getElem? (i := 58) rfl)) rfl
theorem w1259 : Cond.methodLink RX8 76 yX8_place ∈ WS := ws_t (tm6 (List.mem_of_getElem? (i := 59) rfl)) rfl
theorem w1260 : Cond.static yX8_place ∈ WS := ws_t (tm6 (List.mem_of_getElem? (i := 60) rfl)) rfl
theorem w1261 : Cond.code yX8_place cX8_place 2 (some .int) ∈ WS := ws_t (tm6 (List.mem_of_getElem? (i := 61) rfl)) rfl
theorem w1262 : Cond.methodLink RX8 111 yX8_cellsOf ∈ WS := ws_t (tm6 (List.mem_of_getElem? (i := 62) rfl)) rfl
theorem w1264 : Cond.instanceMethod yX8_cellsOf ∈ WS := ws_t (tm6 (List.mem_of_getElem? (i := 64) rfl)) rfl
theorem w1265 : Cond.code yX8_cellsOf cX8_cellsOf 4 (some .int) ∈ WS := ws_t (tm6 (List.mem_of_getElem? (i := 65) rfl)) rfl
theorem w1269 : Cond.code yX8_block cX8_block 9 (some .int) ∈ WS := ws_t (tm6 (List.mem_of_getElem? (i := 69) rfl)) rfl
theorem w1273 : Cond.code yX8_clear cX8_clear 4 (some .int) ∈ WS := ws_t (tm6 (List.mem_of_getElem? (i := 73) rfl)) rfl
theorem w1277 : Cond.code yX8_shift cX8_shift 4 (some .int) ∈ WS := ws_t (tm6 (List.mem_of_getElem? (i := 77) rfl)) rfl
theorem w1278 : Cond.methodLink RX8 114 yX8_canShift ∈ WS := ws_t (tm6 (List.mem_of_getElem? (i := 78) rfl)) rfl
theorem w1280 : Cond.instanceMethod yX8_canShift ∈ WS := ws_t (tm6 (List.mem_of_getElem? (i := 80) rfl)) rfl
theorem w1281 : Cond.code yX8_canShift cX8_canShift 7 (some .boolean) ∈ WS := ws_t (tm6 (List.mem_of_getElem? (i := 81) rfl)) rfl
theorem w1282 : Cond.methodLink RX8 117 yX8_shifts ∈ WS := ws_t (tm6 (List.mem_of_getElem? (i := 82) rfl)) rfl
theorem w1284 : Cond.instanceMethod yX8_shifts ∈ WS := ws_t (tm6 (List.mem_of_getElem? (i := 84) rfl)) rfl
theorem w1285 : Cond.code yX8_shifts cX8_shifts 5 none ∈ WS := ws_t (tm6 (List.mem_of_getElem? (i := 85) rfl)) rfl
theorem w1289 : Cond.code yX8_put cX8_put 5 (some .int) ∈ WS := ws_t (tm6 (List.mem_of_getElem? (i := 89) rfl)) rfl
theorem w1290 : Cond.methodLink RX8 121 yX8_books ∈ WS := ws_t (tm6 (List.mem_of_getElem? (i := 90) rfl)) rfl
theorem w1292 : Cond.instanceMethod yX8_books ∈ WS := ws_t (tm6 (List.mem_of_getElem? (i := 92) rfl)) rfl
theorem w1293 : Cond.code yX8_books cX8_books 5 none ∈ WS := ws_t (tm6 (List.mem_of_getElem? (i := 93) rfl)) rfl
theorem w1294 : Cond.methodLink RX8 86 yX8_pushes ∈ WS := ws_t (tm6 (List.mem_of_getElem? (i := 94) rfl)) rfl
theorem w1295 : Cond.static yX8_pushes ∈ WS := ws_t (tm6 (List.mem_of_getElem? (i := 95) rfl)) rfl
theorem w1296 : Cond.code yX8_pushes cX8_pushes 4 (some .int) ∈ WS := ws_t (tm6 (List.mem_of_getElem? (i := 96) rfl)) rfl
theorem w1297 : Cond.methodLink RX8 83 yX8_push ∈ WS := ws_t (tm6 (List.mem_of_getElem? (i := 97) rfl)) rfl
theorem w1298 : Cond.static yX8_push ∈ WS := ws_t (tm6 (List.mem_of_getElem? (i := 98) rfl)) rfl
theorem w1299 : Cond.code yX8_push cX8_push 2 (some .int) ∈ WS := ws_t (tm6 (List.mem_of_getElem? (i := 99) rfl)) rfl
theorem w1300 : Cond.methodLink RX8 80 yX8_down ∈ WS := ws_t (tm6 (List.mem_of_getElem? (i := 100) rfl)) rfl
theorem w1301 : Cond.static yX8_down ∈ WS := ws_t (tm6 (List.mem_of_getElem? (i := 101) rfl)) rfl
theorem w1302 : Cond.code yX8_down cX8_down 1 (some .int) ∈ WS := ws_t (tm6 (List.mem_of_getElem? (i := 102) rfl)) rfl
theorem w1306 : Cond.code yX8_fill cX8_fill 10 (some .int) ∈ WS := ws_t (tm6 (List.mem_of_getElem? (i := 106) rfl)) rfl
theorem w1307 : Cond.methodLink RX8 124 yX8_ones ∈ WS := ws_t (tm6 (List.mem_of_getElem? (i := 107) rfl)) rfl
theorem w1308 : Cond.static yX8_ones ∈ WS := ws_t (tm6 (List.mem_of_getElem? (i := 108) rfl)) rfl
theorem w1309 : Cond.code yX8_ones cX8_ones 3 (some .int) ∈ WS := ws_t (tm6 (List.mem_of_getElem? (i := 109) rfl)) rfl
theorem w1313 : Cond.code yX8_empty cX8_empty 8 (some .int) ∈ WS := ws_t (tm6 (List.mem_of_getElem? (i := 113) rfl)) rfl
theorem w1317 : Cond.code yX8_inlet cX8_inlet 6 (some .int) ∈ WS := ws_t (tm6 (List.mem_of_getElem? (i := 117) rfl)) rfl
theorem w1318 : Cond.methodLink RX8 127 yX8_blowsFrom ∈ WS := ws_t (tm6 (List.mem_of_getElem? (i := 118) rfl)) rfl
theorem w1320 : Cond.instanceMethod yX8_blowsFrom ∈ WS := ws_t (tm6 (List.mem_of_getElem? (i := 120) rfl)) rfl
theorem w1321 : Cond.code yX8_blowsFrom cX8_blowsFrom 9 (some .int) ∈ WS := ws_t (tm6 (List.mem_of_getElem? (i := 121) rfl)) rfl
theorem w1325 : Cond.code yX8_fan cX8_fan 7 (some .int) ∈ WS := ws_t (tm6 (List.mem_of_getElem? (i := 125) rfl)) rfl
theorem w1329 : Cond.code yX8_drain cX8_drain 7 (some .int) ∈ WS := ws_t (tm6 (List.mem_of_getElem? (i := 129) rfl)) rfl
theorem w1333 : Cond.code yX8_drop cX8_drop 3 (some .int) ∈ WS := ws_t (tm6 (List.mem_of_getElem? (i := 133) rfl)) rfl
theorem w1334 : Cond.methodLink RX8 131 yX8_isGust ∈ WS := ws_t (tm6 (List.mem_of_getElem? (i := 134) rfl)) rfl
theorem w1336 : Cond.instanceMethod yX8_isGust ∈ WS := ws_t (tm6 (List.mem_of_getElem? (i := 136) rfl)) rfl
theorem w1337 : Cond.code yX8_isGust cX8_isGust 2 (some .boolean) ∈ WS := ws_t (tm6 (List.mem_of_getElem? (i := 137) rfl)) rfl
theorem w1341 : Cond.code yX8_type cX8_type 2 (some .int) ∈ WS := ws_t (tm6 (List.mem_of_getElem? (i := 141) rfl)) rfl
theorem w1345 : Cond.code yX8_wipe cX8_wipe 2 (some .int) ∈ WS := ws_t (tm6 (List.mem_of_getElem? (i := 145) rfl)) rfl
theorem w1349 : Cond.code yX8_fault cX8_fault 2 (some .int) ∈ WS := ws_t (tm6 (List.mem_of_getElem? (i := 149) rfl)) rfl
theorem w1350 : Cond.methodLink RX8 175 yX8_readsAll ∈ WS := ws_t (tm6 (List.mem_of_getElem? (i := 150) rfl)) rfl
theorem w1352 : Cond.instanceMethod yX8_readsAll ∈ WS := ws_t (tm6 (List.mem_of_getElem? (i := 152) rfl)) rfl
theorem w1353 : Cond.code yX8_readsAll cX8_readsAll 2 none ∈ WS := ws_t (tm6 (List.mem_of_getElem? (i := 153) rfl)) rfl
theorem w1354 : Cond.methodLink RX8 172 yX8_reads ∈ WS := ws_t (tm6 (List.mem_of_getElem? (i := 154) rfl)) rfl
theorem w1356 : Cond.instanceMethod yX8_reads ∈ WS := ws_t (tm6 (List.mem_of_getElem? (i := 156) rfl)) rfl
theorem w1357 : Cond.code yX8_reads cX8_reads 9 none ∈ WS := ws_t (tm6 (List.mem_of_getElem? (i := 157) rfl)) rfl
theorem w1358 : Cond.methodLink RX8 160 yX8_takes ∈ WS := ws_t (tm6 (List.mem_of_getElem? (i := 158) rfl)) rfl
theorem w1360 : Cond.instanceMethod yX8_takes ∈ WS := ws_t (tm6 (List.mem_of_getElem? (i := 160) rfl)) rfl
theorem w1361 : Cond.code yX8_takes cX8_takes 3 (some .boolean) ∈ WS := ws_t (tm6 (List.mem_of_getElem? (i := 161) rfl)) rfl
theorem w1362 : Cond.methodLink RX8 152 yX8_padAt ∈ WS := ws_t (tm6 (List.mem_of_getElem? (i := 162) rfl)) rfl
theorem w1364 : Cond.instanceMethod yX8_padAt ∈ WS := ws_t (tm6 (List.mem_of_getElem? (i := 164) rfl)) rfl
theorem w1365 : Cond.code yX8_padAt cX8_padAt 1 (some .int) ∈ WS := ws_t (tm6 (List.mem_of_getElem? (i := 165) rfl)) rfl
theorem w1366 : Cond.methodLink RX8 163 yX8_state ∈ WS := ws_t (tm6 (List.mem_of_getElem? (i := 166) rfl)) rfl
theorem w1368 : Cond.instanceMethod yX8_state ∈ WS := ws_t (tm6 (List.mem_of_getElem? (i := 168) rfl)) rfl
theorem w1369 : Cond.code yX8_state cX8_state 3 (some .int) ∈ WS := ws_t (tm6 (List.mem_of_getElem? (i := 169) rfl)) rfl
theorem w1370 : Cond.methodLink RX8 156 yX8_faults ∈ WS := ws_t (tm6 (List.mem_of_getElem? (i := 170) rfl)) rfl
theorem w1372 : Cond.instanceMethod yX8_faults ∈ WS := ws_t (tm6 (List.mem_of_getElem? (i := 172) rfl)) rfl
theorem w1373 : Cond.code yX8_faults cX8_faults 3 none ∈ WS := ws_t (tm6 (List.mem_of_getElem? (i := 173) rfl)) rfl
theorem w1374 : Cond.methodLink RX8 166 yX8_isLike ∈ WS := ws_t (tm6 (List.mem_of_getElem? (i := 174) rfl)) rfl
theorem w1375 : Cond.static yX8_isLike ∈ WS := ws_t (tm6 (List.mem_of_getElem? (i := 175) rfl)) rfl
theorem w1376 : Cond.code yX8_isLike cX8_isLike 2 (some .boolean) ∈ WS := ws_t (tm6 (List.mem_of_getElem? (i := 176) rfl)) rfl
theorem w1380 : Cond.code yX8_rules cX8_rules 2 (some .int) ∈ WS := ws_t (tm6 (List.mem_of_getElem? (i := 180) rfl)) rfl
theorem w1384 : Cond.code yX8_becomes cX8_becomes 3 (some .int) ∈ WS := ws_t (tm6 (List.mem_of_getElem? (i := 184) rfl)) rfl
theorem w1388 : Cond.code yX8_run cX8_run 2 (some .int) ∈ WS := ws_t (tm6 (List.mem_of_getElem? (i := 188) rfl)) rfl
theorem w1389 : Cond.methodLink RX8 212 yX8_ticks ∈ WS := ws_t (tm6 (List.mem_of_getElem? (i := 189) rfl)) rfl
theorem w1391 : Cond.instanceMethod yX8_ticks ∈ WS := ws_t (tm6 (List.mem_of_getElem? (i := 191) rfl)) rfl
theorem w1392 : Cond.code yX8_ticks cX8_ticks 3 none ∈ WS := ws_t (tm6 (List.mem_of_getElem? (i := 192) rfl)) rfl
theorem w1393 : Cond.methodLink RX8 209 yX8_tick ∈ WS := ws_t (tm6 (List.mem_of_getElem? (i := 193) rfl)) rfl
theorem w1395 : Cond.instanceMethod yX8_tick ∈ WS := ws_t (tm6 (List.mem_of_getElem? (i := 195) rfl)) rfl
theorem w1396 : Cond.code yX8_tick cX8_tick 4 none ∈ WS := ws_t (tm6 (List.mem_of_getElem? (i := 196) rfl)) rfl
theorem w1397 : Cond.methodLink RX8 190 yX8_isBlowing ∈ WS := ws_t (tm6 (List.mem_of_getElem? (i := 197) rfl)) rfl
theorem w1399 : Cond.instanceMethod yX8_isBlowing ∈ WS := ws_t (tm6 (List.mem_of_getElem? (i := 199) rfl)) rfl
theorem w1400 : Cond.code yX8_isBlowing cX8_isBlowing 3 (some .boolean) ∈ WS := ws_t (tm6 (List.mem_of_getElem? (i := 200) rfl)) rfl
theorem w1401 : Cond.methodLink RX8 134 yX8_gustOf ∈ WS := ws_t (tm6 (List.mem_of_getElem? (i := 201) rfl)) rfl
theorem w1403 : Cond.instanceMethod yX8_gustOf ∈ WS := ws_t (tm6 (List.mem_of_getElem? (i := 203) rfl)) rfl
theorem w1404 : Cond.code yX8_gustOf cX8_gustOf 3 (some .int) ∈ WS := ws_t (tm6 (List.mem_of_getElem? (i := 204) rfl)) rfl
theorem w1405 : Cond.methodLink RX8 193 yX8_blows ∈ WS := ws_t (tm6 (List.mem_of_getElem? (i := 205) rfl)) rfl
theorem w1407 : Cond.instanceMethod yX8_blows ∈ WS := ws_t (tm6 (List.mem_of_getElem? (i := 207) rfl)) rfl
theorem w1408 : Cond.code yX8_blows cX8_blows 7 none ∈ WS := ws_t (tm6 (List.mem_of_getElem? (i := 208) rfl)) rfl
theorem w1409 : Cond.methodLink RX8 197 yX8_begins ∈ WS := ws_t (tm6 (List.mem_of_getElem? (i := 209) rfl)) rfl
theorem w1411 : Cond.instanceMethod yX8_begins ∈ WS := ws_t (tm6 (List.mem_of_getElem? (i := 211) rfl)) rfl
theorem w1412 : Cond.code yX8_begins cX8_begins 2 none ∈ WS := ws_t (tm6 (List.mem_of_getElem? (i := 212) rfl)) rfl
theorem w1413 : Cond.methodLink RX8 200 yX8_step ∈ WS := ws_t (tm6 (List.mem_of_getElem? (i := 213) rfl)) rfl
theorem w1415 : Cond.instanceMethod yX8_step ∈ WS := ws_t (tm6 (List.mem_of_getElem? (i := 215) rfl)) rfl
theorem w1416 : Cond.code yX8_step cX8_step 7 none ∈ WS := ws_t (tm6 (List.mem_of_getElem? (i := 216) rfl)) rfl
theorem w1417 : Cond.methodLink RX8 178 yX8_right ∈ WS := ws_t (tm6 (List.mem_of_getElem? (i := 217) rfl)) rfl
theorem w1418 : Cond.static yX8_right ∈ WS := ws_t (tm6 (List.mem_of_getElem? (i := 218) rfl)) rfl
theorem w1419 : Cond.code yX8_right cX8_right 3 (some .int) ∈ WS := ws_t (tm6 (List.mem_of_getElem? (i := 219) rfl)) rfl
theorem w1420 : Cond.methodLink RX8 181 yX8_beside ∈ WS := ws_t (tm6 (List.mem_of_getElem? (i := 220) rfl)) rfl
theorem w1422 : Cond.instanceMethod yX8_beside ∈ WS := ws_t (tm6 (List.mem_of_getElem? (i := 222) rfl)) rfl
theorem w1423 : Cond.code yX8_beside cX8_beside 3 (some .int) ∈ WS := ws_t (tm6 (List.mem_of_getElem? (i := 223) rfl)) rfl
theorem w1424 : Cond.methodLink RX8 184 yX8_round ∈ WS := ws_t (tm6 (List.mem_of_getElem? (i := 224) rfl)) rfl
theorem w1425 : Cond.static yX8_round ∈ WS := ws_t (tm6 (List.mem_of_getElem? (i := 225) rfl)) rfl
theorem w1426 : Cond.code yX8_round cX8_round 2 (some .int) ∈ WS := ws_t (tm6 (List.mem_of_getElem? (i := 226) rfl)) rfl
theorem w1427 : Cond.methodLink RX8 187 yX8_gives ∈ WS := ws_t (tm6 (List.mem_of_getElem? (i := 227) rfl)) rfl
theorem w1429 : Cond.instanceMethod yX8_gives ∈ WS := ws_t (tm6 (List.mem_of_getElem? (i := 229) rfl)) rfl
theorem w1430 : Cond.code yX8_gives cX8_gives 4 none ∈ WS := ws_t (tm6 (List.mem_of_getElem? (i := 230) rfl)) rfl
theorem w1431 : Cond.methodLink RX8 203 yX8_becomesNext ∈ WS := ws_t (tm6 (List.mem_of_getElem? (i := 231) rfl)) rfl
theorem w1433 : Cond.instanceMethod yX8_becomesNext ∈ WS := ws_t (tm6 (List.mem_of_getElem? (i := 233) rfl)) rfl
theorem w1434 : Cond.code yX8_becomesNext cX8_becomesNext 3 none ∈ WS := ws_t (tm6 (List.mem_of_getElem? (i := 234) rfl)) rfl
theorem w1435 : Cond.methodLink RX8 206 yX8_records ∈ WS := ws_t (tm6 (List.mem_of_getElem? (i := 235) rfl)) rfl
theorem w1437 : Cond.instanceMethod yX8_records ∈ WS := ws_t (tm6 (List.mem_of_getElem? (i := 237) rfl)) rfl
theorem w1438 : Cond.code yX8_records cX8_records 2 none ∈ WS := ws_t (tm6 (List.mem_of_getElem? (i := 238) rfl)) rfl
theorem w1442 : Cond.code yX8_reversible cX8_reversible 1 (some .boolean) ∈ WS := ws_t (tm7 (List.mem_of_getElem? (i := 2) rfl)) rfl
theorem w1443 : Cond.methodLink RX8 215 yX8_isReversible ∈ WS := ws_t (tm7 (List.mem_of_getElem? (i := 3) rfl)) rfl
theorem w1445 : Cond.instanceMethod yX8_isReversible ∈ WS := ws_t (tm7 (List.mem_of_getElem? (i := 5) rfl)) rfl
theorem w1446 : Cond.code yX8_isReversible cX8_isReversible 5 (some .boolean) ∈ WS := ws_t (tm7 (List.mem_of_getElem? (i := 6) rfl)) rfl
theorem w1450 : Cond.code yX8_back cX8_back 3 (some .int) ∈ WS := ws_t (tm7 (List.mem_of_getElem? (i := 10) rfl)) rfl
theorem w1451 : Cond.methodLink RX8 225 yX8_tickBack ∈ WS := ws_t (tm7 (List.mem_of_getElem? (i := 11) rfl)) rfl
theorem w1453 : Cond.instanceMethod yX8_tickBack ∈ WS := ws_t (tm7 (List.mem_of_getElem? (i := 13) rfl)) rfl
theorem w1454 : Cond.code yX8_tickBack cX8_tickBack 4 none ∈ WS := ws_t (tm7 (List.mem_of_getElem? (i := 14) rfl)) rfl
theorem w1455 : Cond.methodLink RX8 219 yX8_stepBack ∈ WS := ws_t (tm7 (List.mem_of_getElem? (i := 15) rfl)) rfl
theorem w1457 : Cond.instanceMethod yX8_stepBack ∈ WS := ws_t (tm7 (List.mem_of_getElem? (i := 17) rfl)) rfl
theorem w1458 : Cond.code yX8_stepBack cX8_stepBack 8 none ∈ WS := ws_t (tm7 (List.mem_of_getElem? (i := 18) rfl)) rfl
theorem w1459 : Cond.methodLink RX8 222 yX8_comesOf ∈ WS := ws_t (tm7 (List.mem_of_getElem? (i := 19) rfl)) rfl
theorem w1461 : Cond.instanceMethod yX8_comesOf ∈ WS := ws_t (tm7 (List.mem_of_getElem? (i := 21) rfl)) rfl
theorem w1462 : Cond.code yX8_comesOf cX8_comesOf 4 (some .int) ∈ WS := ws_t (tm7 (List.mem_of_getElem? (i := 22) rfl)) rfl
theorem w1466 : Cond.code yX8_cell cX8_cell 3 (some .int) ∈ WS := ws_t (tm7 (List.mem_of_getElem? (i := 26) rfl)) rfl
theorem w1470 : Cond.code yX8_density cX8_density 5 (some .int) ∈ WS := ws_t (tm7 (List.mem_of_getElem? (i := 30) rfl)) rfl
theorem w1471 : Cond.methodLink RX8 228 yX8_sumOf ∈ WS := ws_t (tm7 (List.mem_of_getElem? (i := 31) rfl)) rfl
theorem w1473 : Cond.instanceMethod yX8_sumOf ∈ WS := ws_t (tm7 (List.mem_of_getElem? (i := 33) rfl)) rfl
theorem w1474 : Cond.code yX8_sumOf cX8_sumOf 10 (some .int) ∈ WS := ws_t (tm7 (List.mem_of_getElem? (i := 34) rfl)) rfl
theorem w1478 : Cond.code yX8_wind cX8_wind 6 (some .int) ∈ WS := ws_t (tm7 (List.mem_of_getElem? (i := 38) rfl)) rfl
theorem w1482 : Cond.code yX8_crossed cX8_crossed 2 (some .int) ∈ WS := ws_t (tm7 (List.mem_of_getElem? (i := 42) rfl)) rfl
theorem w1486 : Cond.code yX8_gust cX8_gust 3 (some .int) ∈ WS := ws_t (tm7 (List.mem_of_getElem? (i := 46) rfl)) rfl
theorem w1490 : Cond.code yX8_body cX8_body 8 (some .int) ∈ WS := ws_t (tm7 (List.mem_of_getElem? (i := 50) rfl)) rfl
theorem w1494 : Cond.code yX8_zero cX8_zero 3 (some .int) ∈ WS := ws_t (tm7 (List.mem_of_getElem? (i := 54) rfl)) rfl
theorem w1498 : Cond.code yX8_recent cX8_recent 4 (some .int) ∈ WS := ws_t (tm7 (List.mem_of_getElem? (i := 58) rfl)) rfl
theorem w1499 : Cond.methodLink RX8 232 yX8_recorded ∈ WS := ws_t (tm7 (List.mem_of_getElem? (i := 59) rfl)) rfl
theorem w1501 : Cond.instanceMethod yX8_recorded ∈ WS := ws_t (tm7 (List.mem_of_getElem? (i := 61) rfl)) rfl
theorem w1502 : Cond.code yX8_recorded cX8_recorded 7 (some .int) ∈ WS := ws_t (tm7 (List.mem_of_getElem? (i := 62) rfl)) rfl
theorem w1506 : Cond.code yX8_steady cX8_steady 4 (some .boolean) ∈ WS := ws_t (tm7 (List.mem_of_getElem? (i := 66) rfl)) rfl
theorem w1507 : Cond.methodLink RX8 236 yX8_isSteady ∈ WS := ws_t (tm7 (List.mem_of_getElem? (i := 67) rfl)) rfl
theorem w1509 : Cond.instanceMethod yX8_isSteady ∈ WS := ws_t (tm7 (List.mem_of_getElem? (i := 69) rfl)) rfl
theorem w1510 : Cond.code yX8_isSteady cX8_isSteady 7 (some .boolean) ∈ WS := ws_t (tm7 (List.mem_of_getElem? (i := 70) rfl)) rfl
theorem w1514 : Cond.code yX8_particles cX8_particles 2 (some .int) ∈ WS := ws_t (tm7 (List.mem_of_getElem? (i := 74) rfl)) rfl
theorem w1518 : Cond.code yX8_momentum cX8_momentum 3 (some .int) ∈ WS := ws_t (tm7 (List.mem_of_getElem? (i := 78) rfl)) rfl
theorem w1522 : Cond.code yX8_count cX8_count 4 (some .int) ∈ WS := ws_t (tm7 (List.mem_of_getElem? (i := 82) rfl)) rfl
theorem w1526 : Cond.code yX8_ahead cX8_ahead 5 (some .int) ∈ WS := ws_t (tm7 (List.mem_of_getElem? (i := 86) rfl)) rfl
theorem w1527 : Cond.methodLink RX8 239 yX8_lays ∈ WS := ws_t (tm7 (List.mem_of_getElem? (i := 87) rfl)) rfl
theorem w1529 : Cond.instanceMethod yX8_lays ∈ WS := ws_t (tm7 (List.mem_of_getElem? (i := 89) rfl)) rfl
theorem w1530 : Cond.code yX8_lays cX8_lays 2 none ∈ WS := ws_t (tm7 (List.mem_of_getElem? (i := 90) rfl)) rfl
theorem w1531 : Cond.methodLink RX8 242 yX8_takesIn ∈ WS := ws_t (tm7 (List.mem_of_getElem? (i := 91) rfl)) rfl
theorem w1533 : Cond.instanceMethod yX8_takesIn ∈ WS := ws_t (tm7 (List.mem_of_getElem? (i := 93) rfl)) rfl
theorem w1534 : Cond.code yX8_takesIn cX8_takesIn 5 (some .int) ∈ WS := ws_t (tm7 (List.mem_of_getElem? (i := 94) rfl)) rfl
theorem w1535 : Cond.methodLink RX8 246 yX8_restores ∈ WS := ws_t (tm7 (List.mem_of_getElem? (i := 95) rfl)) rfl
theorem w1537 : Cond.instanceMethod yX8_restores ∈ WS := ws_t (tm7 (List.mem_of_getElem? (i := 97) rfl)) rfl
theorem w1538 : Cond.code yX8_restores cX8_restores 2 none ∈ WS := ws_t (tm7 (List.mem_of_getElem? (i := 98) rfl)) rfl
theorem w1542 : Cond.code yX8_cycle cX8_cycle 5 (some .int) ∈ WS := ws_t (tm7 (List.mem_of_getElem? (i := 102) rfl)) rfl
theorem w1543 : Cond.methodLink RX8 252 yX8_isCycle ∈ WS := ws_t (tm7 (List.mem_of_getElem? (i := 103) rfl)) rfl
theorem w1545 : Cond.instanceMethod yX8_isCycle ∈ WS := ws_t (tm7 (List.mem_of_getElem? (i := 105) rfl)) rfl
theorem w1546 : Cond.code yX8_isCycle cX8_isCycle 5 (some .boolean) ∈ WS := ws_t (tm7 (List.mem_of_getElem? (i := 106) rfl)) rfl
theorem w1547 : Cond.methodLink RX8 249 yX8_isLikeThen ∈ WS := ws_t (tm7 (List.mem_of_getElem? (i := 107) rfl)) rfl
theorem w1549 : Cond.instanceMethod yX8_isLikeThen ∈ WS := ws_t (tm7 (List.mem_of_getElem? (i := 109) rfl)) rfl
theorem w1550 : Cond.code yX8_isLikeThen cX8_isLikeThen 5 (some .boolean) ∈ WS := ws_t (tm7 (List.mem_of_getElem? (i := 110) rfl)) rfl
theorem w1554 : Cond.code yX8_settles cX8_settles 6 (some .int) ∈ WS := ws_t (tm7 (List.mem_of_getElem? (i := 114) rfl)) rfl
theorem w1558 : Cond.code yX8_bestShift cX8_bestShift 8 (some .int) ∈ WS := ws_t (tm7 (List.mem_of_getElem? (i := 118) rfl)) rfl
theorem w1562 : Cond.code yX8_bestStart cX8_bestStart 8 (some .int) ∈ WS := ws_t (tm7 (List.mem_of_getElem? (i := 122) rfl)) rfl
theorem w1566 : Cond.code yX8_undo cX8_undo 2 (some .int) ∈ WS := ws_t (tm7 (List.mem_of_getElem? (i := 126) rfl)) rfl
theorem w1570 : Cond.code yX8_save cX8_save 3 (some .int) ∈ WS := ws_t (tm7 (List.mem_of_getElem? (i := 130) rfl)) rfl
theorem w1574 : Cond.code yX8_restore cX8_restore 3 (some .int) ∈ WS := ws_t (tm7 (List.mem_of_getElem? (i := 134) rfl)) rfl
theorem wp0 : Cond.selects RX3 yX3_readRule yX3_readRule ∈ WS := ws_p (List.mem_of_getElem? (i := 0) (by decide +kernel)) (by decide +kernel)
theorem wp1 : Cond.selects RX3 yX3_readForm yX3_readForm ∈ WS := ws_p (List.mem_of_getElem? (i := 1) (by decide +kernel)) (by decide +kernel)
theorem wp2 : Cond.selects RX3 yX3_skip yX3_skip ∈ WS := ws_p (List.mem_of_getElem? (i := 2) (by decide +kernel)) (by decide +kernel)
theorem wp3 : Cond.selects RX3 yX3_readState yX3_readState ∈ WS := ws_p (List.mem_of_getElem? (i := 3) (by decide +kernel)) (by decide +kernel)
theorem wp4 : Cond.selects RX3 yX3_tell yX3_tell ∈ WS := ws_p (List.mem_of_getElem? (i := 4) (by decide +kernel)) (by decide +kernel)
theorem wp5 : Cond.selects RX3 yX3_isNamedBefore yX3_isNamedBefore ∈ WS := ws_p (List.mem_of_getElem? (i := 5) (by decide +kernel)) (by decide +kernel)
theorem wp6 : Cond.selects RX3 yX3_turns yX3_turns ∈ WS := ws_p (List.mem_of_getElem? (i := 6) (by decide +kernel)) (by decide +kernel)
theorem wp7 : Cond.selects RX3 yX3_enterRule yX3_enterRule ∈ WS := ws_p (List.mem_of_getElem? (i := 7) (by decide +kernel)) (by decide +kernel)
theorem wp8 : Cond.selects RX6 yX6_isOneToOne yX6_isOneToOne ∈ WS := ws_p (List.mem_of_getElem? (i := 8) (by decide +kernel)) (by decide +kernel)
theorem wp10 : Cond.selects RX7 yX7_recordChange yX7_recordChange ∈ WS := ws_p (List.mem_of_getElem? (i := 10) (by decide +kernel)) (by decide +kernel)
theorem wp11 : Cond.selects RX7 yX7_needCell yX7_needCell ∈ WS := ws_p (List.mem_of_getElem? (i := 11) (by decide +kernel)) (by decide +kernel)
theorem wp12 : Cond.selects RX7 yX7_needCells yX7_needCells ∈ WS := ws_p (List.mem_of_getElem? (i := 12) (by decide +kernel)) (by decide +kernel)
theorem wp13 : Cond.selects RX1 yX1_allColumnsOf yX1_allColumnsOf ∈ WS := ws_p (List.mem_of_getElem? (i := 13) (by decide +kernel)) (by decide +kernel)
theorem wp14 : Cond.selects RX7 yX7_addGust yX7_addGust ∈ WS := ws_p (List.mem_of_getElem? (i := 14) (by decide +kernel)) (by decide +kernel)
theorem wp15 : Cond.selects RX4 yX4_collide yX4_collide ∈ WS := ws_p (List.mem_of_getElem? (i := 15) (by decide +kernel)) (by decide +kernel)
theorem wp16 : Cond.selects RX4 yX4_exchange yX4_exchange ∈ WS := ws_p (List.mem_of_getElem? (i := 16) (by decide +kernel)) (by decide +kernel)
theorem wp17 : Cond.selects RX4 yX4_moveReady yX4_moveReady ∈ WS := ws_p (List.mem_of_getElem? (i := 17) (by decide +kernel)) (by decide +kernel)
theorem wp18 : Cond.selects RX4 yX4_bounceOffWall yX4_bounceOffWall ∈ WS := ws_p (List.mem_of_getElem? (i := 18) (by decide +kernel)) (by decide +kernel)
theorem wp19 : Cond.selects RX4 yX4_moveToRow yX4_moveToRow ∈ WS := ws_p (List.mem_of_getElem? (i := 19) (by decide +kernel)) (by decide +kernel)
theorem wp20 : Cond.selects RX4 yX4_giveToBodies yX4_giveToBodies ∈ WS := ws_p (List.mem_of_getElem? (i := 20) (by decide +kernel)) (by decide +kernel)
theorem wp21 : Cond.selects RX4 yX4_accountTaken yX4_accountTaken ∈ WS := ws_p (List.mem_of_getElem? (i := 21) (by decide +kernel)) (by decide +kernel)
theorem wp22 : Cond.selects RX4 yX4_undoCollisions yX4_undoCollisions ∈ WS := ws_p (List.mem_of_getElem? (i := 22) (by decide +kernel)) (by decide +kernel)
theorem wp23 : Cond.selects RX7 yX7_takenLater yX7_takenLater ∈ WS := ws_p (List.mem_of_getElem? (i := 23) (by decide +kernel)) (by decide +kernel)
theorem wp24 : Cond.selects RX7 yX7_layTrail yX7_layTrail ∈ WS := ws_p (List.mem_of_getElem? (i := 24) (by decide +kernel)) (by decide +kernel)
theorem wp25 : Cond.selects RX7 yX7_periodAfter yX7_periodAfter ∈ WS := ws_p (List.mem_of_getElem? (i := 25) (by decide +kernel)) (by decide +kernel)
theorem wp26 : Cond.selects RX7 yX7_isTrailSame yX7_isTrailSame ∈ WS := ws_p (List.mem_of_getElem? (i := 26) (by decide +kernel)) (by decide +kernel)
theorem wp27 : Cond.selects RX8 yX8_plain yX8_plain ∈ WS := ws_p (List.mem_of_getElem? (i := 27) (by decide +kernel)) (by decide +kernel)
theorem wp28 : Cond.selects RX8 yX8_names yX8_names ∈ WS := ws_p (List.mem_of_getElem? (i := 28) (by decide +kernel)) (by decide +kernel)
theorem wp29 : Cond.selects RX8 yX8_fails yX8_fails ∈ WS := ws_p (List.mem_of_getElem? (i := 29) (by decide +kernel)) (by decide +kernel)
theorem wp30 : Cond.selects RX8 yX8_holds yX8_holds ∈ WS := ws_p (List.mem_of_getElem? (i := 30) (by decide +kernel)) (by decide +kernel)
theorem wp31 : Cond.selects RX8 yX8_clears yX8_clears ∈ WS := ws_p (List.mem_of_getElem? (i := 31) (by decide +kernel)) (by decide +kernel)
theorem wp32 : Cond.selects RX8 yX8_saves yX8_saves ∈ WS := ws_p (List.mem_of_getElem? (i := 32) (by decide +kernel)) (by decide +kernel)
theorem wp33 : Cond.selects RX8 yX8_tells yX8_tells ∈ WS := ws_p (List.mem_of_getElem? (i := 33) (by decide +kernel)) (by decide +kernel)
theorem wp34 : Cond.selects RX8 yX8_isCell yX8_isCell ∈ WS := ws_p (List.mem_of_getElem? (i := 34) (by decide +kernel)) (by decide +kernel)
theorem wp35 : Cond.selects RX8 yX8_isColumn yX8_isColumn ∈ WS := ws_p (List.mem_of_getElem? (i := 35) (by decide +kernel)) (by decide +kernel)
theorem wp36 : Cond.selects RX8 yX8_isRow yX8_isRow ∈ WS := ws_p (List.mem_of_getElem? (i := 36) (by decide +kernel)) (by decide +kernel)
theorem wp37 : Cond.selects RX8 yX8_had yX8_had ∈ WS := ws_p (List.mem_of_getElem? (i := 37) (by decide +kernel)) (by decide +kernel)
theorem wp38 : Cond.selects RX8 yX8_cellsOf yX8_cellsOf ∈ WS := ws_p (List.mem_of_getElem? (i := 38) (by decide +kernel)) (by decide +kernel)
theorem wp39 : Cond.selects RX8 yX8_canShift yX8_canShift ∈ WS := ws_p (List.mem_of_getElem? (i := 39) (by decide +kernel)) (by decide +kernel)
theorem wp40 : Cond.selects RX8 yX8_shifts yX8_shifts ∈ WS := ws_p (List.mem_of_getElem? (i := 40) (by decide +kernel)) (by decide +kernel)
theorem wp41 : Cond.selects RX8 yX8_books yX8_books ∈ WS := ws_p (List.mem_of_getElem? (i := 41) (by decide +kernel)) (by decide +kernel)
theorem wp42 : Cond.selects RX8 yX8_blowsFrom yX8_blowsFrom ∈ WS := ws_p (List.mem_of_getElem? (i := 42) (by decide +kernel)) (by decide +kernel)
theorem wp43 : Cond.selects RX8 yX8_isGust yX8_isGust ∈ WS := ws_p (List.mem_of_getElem? (i := 43) (by decide +kernel)) (by decide +kernel)
theorem wp44 : Cond.selects RX8 yX8_readsAll yX8_readsAll ∈ WS := ws_p (List.mem_of_getElem? (i := 44) (by decide +kernel)) (by decide +kernel)
theorem wp45 : Cond.selects RX8 yX8_reads yX8_reads ∈ WS := ws_p (List.mem_of_getElem? (i := 45) (by decide +kernel)) (by decide +kernel)
theorem wp46 : Cond.selects RX8 yX8_takes yX8_takes ∈ WS := ws_p (List.mem_of_getElem? (i := 46) (by decide +kernel)) (by decide +kernel)
theorem wp47 : Cond.selects RX8 yX8_padAt yX8_padAt ∈ WS := ws_p (List.mem_of_getElem? (i := 47) (by decide +kernel)) (by decide +kernel)
theorem wp48 : Cond.selects RX8 yX8_state yX8_state ∈ WS := ws_p (List.mem_of_getElem? (i := 48) (by decide +kernel)) (by decide +kernel)
theorem wp49 : Cond.selects RX8 yX8_faults yX8_faults ∈ WS := ws_p (List.mem_of_getElem? (i := 49) (by decide +kernel)) (by decide +kernel)
theorem wp50 : Cond.selects RX8 yX8_ticks yX8_ticks ∈ WS := ws_p (List.mem_of_getElem? (i := 50) (by decide +kernel)) (by decide +kernel)
theorem wp51 : Cond.selects RX8 yX8_tick yX8_tick ∈ WS := ws_p (List.mem_of_getElem? (i := 51) (by decide +kernel)) (by decide +kernel)
theorem wp52 : Cond.selects RX8 yX8_isBlowing yX8_isBlowing ∈ WS := ws_p (List.mem_of_getElem? (i := 52) (by decide +kernel)) (by decide +kernel)
theorem wp53 : Cond.selects RX8 yX8_gustOf yX8_gustOf ∈ WS := ws_p (List.mem_of_getElem? (i := 53) (by decide +kernel)) (by decide +kernel)
theorem wp54 : Cond.selects RX8 yX8_blows yX8_blows ∈ WS := ws_p (List.mem_of_getElem? (i := 54) (by decide +kernel)) (by decide +kernel)
theorem wp55 : Cond.selects RX8 yX8_begins yX8_begins ∈ WS := ws_p (List.mem_of_getElem? (i := 55) (by decide +kernel)) (by decide +kernel)
theorem wp56 : Cond.selects RX8 yX8_step yX8_step ∈ WS := ws_p (List.mem_of_getElem? (i := 56) (by decide +kernel)) (by decide +kernel)
theorem wp57 : Cond.selects RX8 yX8_beside yX8_beside ∈ WS := ws_p (List.mem_of_getElem? (i := 57) (by decide +kernel)) (by decide +kernel)
theorem wp58 : Cond.selects RX8 yX8_gives yX8_gives ∈ WS := ws_p (List.mem_of_getElem? (i := 58) (by decide +kernel)) (by decide +kernel)
theorem wp59 : Cond.selects RX8 yX8_becomesNext yX8_becomesNext ∈ WS := ws_p (List.mem_of_getElem? (i := 59) (by decide +kernel)) (by decide +kernel)
theorem wp60 : Cond.selects RX8 yX8_records yX8_records ∈ WS := ws_p (List.mem_of_getElem? (i := 60) (by decide +kernel)) (by decide +kernel)
theorem wp61 : Cond.selects RX8 yX8_isReversible yX8_isReversible ∈ WS := ws_p (List.mem_of_getElem? (i := 61) (by decide +kernel)) (by decide +kernel)
theorem wp62 : Cond.selects RX8 yX8_tickBack yX8_tickBack ∈ WS := ws_p (List.mem_of_getElem? (i := 62) (by decide +kernel)) (by decide +kernel)
theorem wp63 : Cond.selects RX8 yX8_stepBack yX8_stepBack ∈ WS := ws_p (List.mem_of_getElem? (i := 63) (by decide +kernel)) (by decide +kernel)
theorem wp64 : Cond.selects RX8 yX8_comesOf yX8_comesOf ∈ WS := ws_p (List.mem_of_getElem? (i := 64) (by decide +kernel)) (by decide +kernel)
theorem wp65 : Cond.selects RX8 yX8_sumOf yX8_sumOf ∈ WS := ws_p (List.mem_of_getElem? (i := 65) (by decide +kernel)) (by decide +kernel)
theorem wp66 : Cond.selects RX8 yX8_recorded yX8_recorded ∈ WS := ws_p (List.mem_of_getElem? (i := 66) (by decide +kernel)) (by decide +kernel)
theorem wp67 : Cond.selects RX8 yX8_isSteady yX8_isSteady ∈ WS := ws_p (List.mem_of_getElem? (i := 67) (by decide +kernel)) (by decide +kernel)
theorem wp68 : Cond.selects RX8 yX8_lays yX8_lays ∈ WS := ws_p (List.mem_of_getElem? (i := 68) (by decide +kernel)) (by decide +kernel)
theorem wp69 : Cond.selects RX8 yX8_takesIn yX8_takesIn ∈ WS := ws_p (List.mem_of_getElem? (i := 69) (by decide +kernel)) (by decide +kernel)
theorem wp70 : Cond.selects RX8 yX8_restores yX8_restores ∈ WS := ws_p (List.mem_of_getElem? (i := 70) (by decide +kernel)) (by decide +kernel)
theorem wp71 : Cond.selects RX8 yX8_isCycle yX8_isCycle ∈ WS := ws_p (List.mem_of_getElem? (i := 71) (by decide +kernel)) (by decide +kernel)
theorem wp72 : Cond.selects RX8 yX8_isLikeThen yX8_isLikeThen ∈ WS := ws_p (List.mem_of_getElem? (i := 72) (by decide +kernel)) (by decide +kernel)
