theorem w0 : Cond.initialized RL ∈ WS := ws_t (tm1 (List.mem_of_getElem? (i := 0) rfl)) rfl
theorem w1004 : Cond.codeWith yL_steady cL_steady 6 (some .int) [(0, 19, 22, 22), (0, 19, 26, 13)] ∈ WS := ws_t (tm5 (List.mem_of_getElem? (i := 44) rfl)) rfl
theorem w1005 : Cond.methodLink RL 104 yX7_steady ∈ WS := ws_t (tm5 (List.mem_of_getElem? (i := 45) rfl)) rfl
theorem w1006 : Cond.instanceMethod yX7_steady ∈ WS := ws_t (tm5 (List.mem_of_getElem? (i := 46) rfl)) rfl
theorem w1007 : Cond.selects RX7 yX7_steady yX7_steady ∈ WS := ws_t (tm5 (List.mem_of_getElem? (i := 47) rfl)) rfl
theorem w1019 : Cond.codeWith yL_particles cL_particles 4 (some .int) [(0, 9, 12, 13)] ∈ WS := ws_t (tm5 (List.mem_of_getElem? (i := 59) rfl)) rfl
theorem w1020 : Cond.methodLink RL 108 yX7_particles ∈ WS := ws_t (tm5 (List.mem_of_getElem? (i := 60) rfl)) rfl
theorem w1021 : Cond.instanceMethod yX7_particles ∈ WS := ws_t (tm5 (List.mem_of_getElem? (i := 61) rfl)) rfl
theorem w1022 : Cond.selects RX7 yX7_particles yX7_particles ∈ WS := ws_t (tm5 (List.mem_of_getElem? (i := 62) rfl)) rfl
theorem w1026 : Cond.codeWith yL_momentum cL_momentum 5 (some .int) [(0, 10, 13, 13)] ∈ WS := ws_t (tm5 (List.mem_of_getElem? (i := 66) rfl)) rfl
theorem w1027 : Cond.methodLink RL 111 yX7_momentum ∈ WS := ws_t (tm5 (List.mem_of_getElem? (i := 67) rfl)) rfl
theorem w1028 : Cond.instanceMethod yX7_momentum ∈ WS := ws_t (tm5 (List.mem_of_getElem? (i := 68) rfl)) rfl
theorem w1029 : Cond.selects RX7 yX7_momentum yX7_momentum ∈ WS := ws_t (tm5 (List.mem_of_getElem? (i := 69) rfl)) rfl
theorem w1033 : Cond.codeWith yL_count cL_count 4 (some .int) [(0, 9, 12, 13)] ∈ WS := ws_t (tm5 (List.mem_of_getElem? (i := 73) rfl)) rfl
theorem w1034 : Cond.methodLink RL 114 yX7_count ∈ WS := ws_t (tm5 (List.mem_of_getElem? (i := 74) rfl)) rfl
theorem w1035 : Cond.instanceMethod yX7_count ∈ WS := ws_t (tm5 (List.mem_of_getElem? (i := 75) rfl)) rfl
theorem w1036 : Cond.selects RX7 yX7_count yX7_count ∈ WS := ws_t (tm5 (List.mem_of_getElem? (i := 76) rfl)) rfl
theorem w1044 : Cond.codeWith yL_ahead cL_ahead 6 (some .int) [(0, 12, 15, 22), (0, 12, 19, 13)] ∈ WS := ws_t (tm5 (List.mem_of_getElem? (i := 84) rfl)) rfl
theorem w1045 : Cond.methodLink RL 117 yX7_ahead ∈ WS := ws_t (tm5 (List.mem_of_getElem? (i := 85) rfl)) rfl
theorem w1046 : Cond.instanceMethod yX7_ahead ∈ WS := ws_t (tm5 (List.mem_of_getElem? (i := 86) rfl)) rfl
theorem w1047 : Cond.selects RX7 yX7_ahead yX7_ahead ∈ WS := ws_t (tm5 (List.mem_of_getElem? (i := 87) rfl)) rfl
theorem w1055 : Cond.codeWith yL_cycle cL_cycle 5 (some .int) [(0, 10, 13, 13)] ∈ WS := ws_t (tm5 (List.mem_of_getElem? (i := 95) rfl)) rfl
theorem w1056 : Cond.methodLink RL 120 yX7_cycle ∈ WS := ws_t (tm5 (List.mem_of_getElem? (i := 96) rfl)) rfl
theorem w1057 : Cond.instanceMethod yX7_cycle ∈ WS := ws_t (tm5 (List.mem_of_getElem? (i := 97) rfl)) rfl
theorem w1058 : Cond.selects RX7 yX7_cycle yX7_cycle ∈ WS := ws_t (tm5 (List.mem_of_getElem? (i := 98) rfl)) rfl
theorem w1083 : Cond.codeWith yL_settles cL_settles 7 (some .int) [(0, 14, 17, 22), (0, 14, 21, 13)] ∈ WS := ws_t (tm5 (List.mem_of_getElem? (i := 123) rfl)) rfl
theorem w1084 : Cond.methodLink RL 123 yX7_settles ∈ WS := ws_t (tm5 (List.mem_of_getElem? (i := 124) rfl)) rfl
theorem w1085 : Cond.instanceMethod yX7_settles ∈ WS := ws_t (tm5 (List.mem_of_getElem? (i := 125) rfl)) rfl
theorem w1086 : Cond.selects RX7 yX7_settles yX7_settles ∈ WS := ws_t (tm5 (List.mem_of_getElem? (i := 126) rfl)) rfl
theorem w1090 : Cond.codeWith yL_bestShift cL_bestShift 5 (some .int) [(0, 10, 13, 22), (0, 10, 17, 13), (0, 10, 21, 24)] ∈ WS := ws_t (tm5 (List.mem_of_getElem? (i := 130) rfl)) rfl
theorem w1091 : Cond.methodLink RL 126 yX7_bestShift ∈ WS := ws_t (tm5 (List.mem_of_getElem? (i := 131) rfl)) rfl
theorem w1092 : Cond.instanceMethod yX7_bestShift ∈ WS := ws_t (tm5 (List.mem_of_getElem? (i := 132) rfl)) rfl
theorem w1093 : Cond.selects RX7 yX7_bestShift yX7_bestShift ∈ WS := ws_t (tm5 (List.mem_of_getElem? (i := 133) rfl)) rfl
theorem w1100 : Cond.codeWith yL_bestStart cL_bestStart 6 (some .int) [(0, 12, 15, 22), (0, 12, 19, 13)] ∈ WS := ws_t (tm5 (List.mem_of_getElem? (i := 140) rfl)) rfl
theorem w1101 : Cond.methodLink RL 129 yX7_bestStart ∈ WS := ws_t (tm5 (List.mem_of_getElem? (i := 141) rfl)) rfl
theorem w1102 : Cond.instanceMethod yX7_bestStart ∈ WS := ws_t (tm5 (List.mem_of_getElem? (i := 142) rfl)) rfl
theorem w1103 : Cond.selects RX7 yX7_bestStart yX7_bestStart ∈ WS := ws_t (tm5 (List.mem_of_getElem? (i := 143) rfl)) rfl
theorem w1107 : Cond.codeWith yL_undo cL_undo 3 (some .int) [(0, 8, 11, 24)] ∈ WS := ws_t (tm5 (List.mem_of_getElem? (i := 147) rfl)) rfl
theorem w1108 : Cond.methodLink RL 132 yX7_undo ∈ WS := ws_t (tm5 (List.mem_of_getElem? (i := 148) rfl)) rfl
theorem w1109 : Cond.instanceMethod yX7_undo ∈ WS := ws_t (tm5 (List.mem_of_getElem? (i := 149) rfl)) rfl
theorem w1110 : Cond.selects RX7 yX7_undo yX7_undo ∈ WS := ws_t (tm5 (List.mem_of_getElem? (i := 150) rfl)) rfl
theorem w1114 : Cond.codeWith yL_save cL_save 4 (some .int) [(0, 9, 12, 22)] ∈ WS := ws_t (tm5 (List.mem_of_getElem? (i := 154) rfl)) rfl
theorem w1115 : Cond.methodLink RL 135 yX7_save ∈ WS := ws_t (tm5 (List.mem_of_getElem? (i := 155) rfl)) rfl
theorem w1116 : Cond.instanceMethod yX7_save ∈ WS := ws_t (tm5 (List.mem_of_getElem? (i := 156) rfl)) rfl
theorem w1117 : Cond.selects RX7 yX7_save yX7_save ∈ WS := ws_t (tm5 (List.mem_of_getElem? (i := 157) rfl)) rfl
theorem w1121 : Cond.codeWith yL_restore cL_restore 4 (some .int) [(0, 9, 12, 22), (0, 9, 15, 24)] ∈ WS := ws_t (tm5 (List.mem_of_getElem? (i := 161) rfl)) rfl
theorem w1122 : Cond.methodLink RL 138 yX7_restore ∈ WS := ws_t (tm5 (List.mem_of_getElem? (i := 162) rfl)) rfl
theorem w1123 : Cond.instanceMethod yX7_restore ∈ WS := ws_t (tm5 (List.mem_of_getElem? (i := 163) rfl)) rfl
theorem w1124 : Cond.selects RX7 yX7_restore yX7_restore ∈ WS := ws_t (tm5 (List.mem_of_getElem? (i := 164) rfl)) rfl
theorem w440 : Cond.codeWith yL_build cL_build 5 (some .int) [(0, 10, 13, 13)] ∈ WS := ws_t (tm2 (List.mem_of_getElem? (i := 200) rfl)) rfl
theorem w441 : Cond.classLink RL 13 "java/lang/IllegalArgumentException" ∈ WS := ws_t (tm2 (List.mem_of_getElem? (i := 201) rfl)) rfl
theorem w442 : Cond.methodLink RL 7 yX7_build ∈ WS := ws_t (tm2 (List.mem_of_getElem? (i := 202) rfl)) rfl
theorem w443 : Cond.instanceMethod yX7_build ∈ WS := ws_t (tm2 (List.mem_of_getElem? (i := 203) rfl)) rfl
theorem w444 : Cond.selects RX7 yX7_build yX7_build ∈ WS := ws_t (tm2 (List.mem_of_getElem? (i := 204) rfl)) rfl
theorem w451 : Cond.castable "java/lang/IllegalArgumentException" "java/lang/IllegalArgumentException" ∈ WN := wn_t (tm2 (List.mem_of_getElem? (i := 211) rfl)) rfl
theorem w546 : Cond.codeWith yL_set cL_set 5 (some .int) [(0, 10, 13, 13)] ∈ WS := ws_t (tm3 (List.mem_of_getElem? (i := 66) rfl)) rfl
theorem w547 : Cond.methodLink RL 15 yX7_set ∈ WS := ws_t (tm3 (List.mem_of_getElem? (i := 67) rfl)) rfl
theorem w548 : Cond.instanceMethod yX7_set ∈ WS := ws_t (tm3 (List.mem_of_getElem? (i := 68) rfl)) rfl
theorem w549 : Cond.selects RX7 yX7_set yX7_set ∈ WS := ws_t (tm3 (List.mem_of_getElem? (i := 69) rfl)) rfl
theorem w553 : Cond.codeWith yL_solid cL_solid 6 (some .int) [(0, 12, 15, 22), (0, 12, 19, 24)] ∈ WS := ws_t (tm3 (List.mem_of_getElem? (i := 73) rfl)) rfl
theorem w554 : Cond.classLink RL 22 "java/lang/IndexOutOfBoundsException" ∈ WS := ws_t (tm3 (List.mem_of_getElem? (i := 74) rfl)) rfl
theorem w555 : Cond.classLink RL 24 "java/lang/IllegalStateException" ∈ WS := ws_t (tm3 (List.mem_of_getElem? (i := 75) rfl)) rfl
theorem w556 : Cond.methodLink RL 18 yX7_solid ∈ WS := ws_t (tm3 (List.mem_of_getElem? (i := 76) rfl)) rfl
theorem w557 : Cond.instanceMethod yX7_solid ∈ WS := ws_t (tm3 (List.mem_of_getElem? (i := 77) rfl)) rfl
theorem w558 : Cond.selects RX7 yX7_solid yX7_solid ∈ WS := ws_t (tm3 (List.mem_of_getElem? (i := 78) rfl)) rfl
theorem w568 : Cond.castable "java/lang/IndexOutOfBoundsException" "java/lang/IndexOutOfBoundsException" ∈ WN := wn_t (tm3 (List.mem_of_getElem? (i := 88) rfl)) rfl
theorem w599 : Cond.castable "java/lang/IllegalStateException" "java/lang/IllegalStateException" ∈ WN := wn_t (tm3 (List.mem_of_getElem? (i := 119) rfl)) rfl
theorem w632 : Cond.codeWith yL_block cL_block 8 (some .int) [(0, 16, 19, 22), (0, 16, 23, 13)] ∈ WS := ws_t (tm3 (List.mem_of_getElem? (i := 152) rfl)) rfl
theorem w633 : Cond.methodLink RL 26 yX7_block ∈ WS := ws_t (tm3 (List.mem_of_getElem? (i := 153) rfl)) rfl
theorem w634 : Cond.instanceMethod yX7_block ∈ WS := ws_t (tm3 (List.mem_of_getElem? (i := 154) rfl)) rfl
theorem w635 : Cond.selects RX7 yX7_block yX7_block ∈ WS := ws_t (tm3 (List.mem_of_getElem? (i := 155) rfl)) rfl
theorem w648 : Cond.codeWith yL_clear cL_clear 5 (some .int) [(0, 10, 13, 22), (0, 10, 17, 24)] ∈ WS := ws_t (tm3 (List.mem_of_getElem? (i := 168) rfl)) rfl
theorem w649 : Cond.methodLink RL 30 yX7_clear ∈ WS := ws_t (tm3 (List.mem_of_getElem? (i := 169) rfl)) rfl
theorem w650 : Cond.instanceMethod yX7_clear ∈ WS := ws_t (tm3 (List.mem_of_getElem? (i := 170) rfl)) rfl
theorem w651 : Cond.selects RX7 yX7_clear yX7_clear ∈ WS := ws_t (tm3 (List.mem_of_getElem? (i := 171) rfl)) rfl
theorem w659 : Cond.codeWith yL_shift cL_shift 6 (some .int) [(0, 12, 15, 22), (0, 12, 19, 13), (0, 12, 23, 24)] ∈ WS := ws_t (tm3 (List.mem_of_getElem? (i := 179) rfl)) rfl
theorem w660 : Cond.methodLink RL 33 yX7_shift ∈ WS := ws_t (tm3 (List.mem_of_getElem? (i := 180) rfl)) rfl
theorem w661 : Cond.instanceMethod yX7_shift ∈ WS := ws_t (tm3 (List.mem_of_getElem? (i := 181) rfl)) rfl
theorem w662 : Cond.selects RX7 yX7_shift yX7_shift ∈ WS := ws_t (tm3 (List.mem_of_getElem? (i := 182) rfl)) rfl
theorem w698 : Cond.codeWith yL_put cL_put 6 (some .int) [(0, 12, 15, 22), (0, 12, 19, 13), (0, 12, 23, 24)] ∈ WS := ws_t (tm3 (List.mem_of_getElem? (i := 218) rfl)) rfl
theorem w699 : Cond.methodLink RL 36 yX7_put ∈ WS := ws_t (tm3 (List.mem_of_getElem? (i := 219) rfl)) rfl
theorem w700 : Cond.instanceMethod yX7_put ∈ WS := ws_t (tm3 (List.mem_of_getElem? (i := 220) rfl)) rfl
theorem w701 : Cond.selects RX7 yX7_put yX7_put ∈ WS := ws_t (tm3 (List.mem_of_getElem? (i := 221) rfl)) rfl
theorem w717 : Cond.codeWith yL_fill cL_fill 8 (some .int) [(0, 16, 19, 22), (0, 16, 23, 13)] ∈ WS := ws_t (tm3 (List.mem_of_getElem? (i := 237) rfl)) rfl
theorem w718 : Cond.methodLink RL 39 yX7_fill ∈ WS := ws_t (tm3 (List.mem_of_getElem? (i := 238) rfl)) rfl
theorem w719 : Cond.instanceMethod yX7_fill ∈ WS := ws_t (tm3 (List.mem_of_getElem? (i := 239) rfl)) rfl
theorem w720 : Cond.selects RX7 yX7_fill yX7_fill ∈ WS := ws_t (tm4 (List.mem_of_getElem? (i := 0) rfl)) rfl
theorem w724 : Cond.codeWith yL_empty cL_empty 7 (some .int) [(0, 14, 17, 22), (0, 14, 21, 13)] ∈ WS := ws_t (tm4 (List.mem_of_getElem? (i := 4) rfl)) rfl
theorem w725 : Cond.methodLink RL 42 yX7_empty ∈ WS := ws_t (tm4 (List.mem_of_getElem? (i := 5) rfl)) rfl
theorem w726 : Cond.instanceMethod yX7_empty ∈ WS := ws_t (tm4 (List.mem_of_getElem? (i := 6) rfl)) rfl
theorem w727 : Cond.selects RX7 yX7_empty yX7_empty ∈ WS := ws_t (tm4 (List.mem_of_getElem? (i := 7) rfl)) rfl
theorem w735 : Cond.codeWith yL_inlet cL_inlet 8 (some .int) [(0, 16, 19, 22), (0, 16, 23, 13), (0, 16, 27, 24)] ∈ WS := ws_t (tm4 (List.mem_of_getElem? (i := 15) rfl)) rfl
theorem w736 : Cond.methodLink RL 46 yX7_inlet ∈ WS := ws_t (tm4 (List.mem_of_getElem? (i := 16) rfl)) rfl
theorem w737 : Cond.instanceMethod yX7_inlet ∈ WS := ws_t (tm4 (List.mem_of_getElem? (i := 17) rfl)) rfl
theorem w738 : Cond.selects RX7 yX7_inlet yX7_inlet ∈ WS := ws_t (tm4 (List.mem_of_getElem? (i := 18) rfl)) rfl
theorem w754 : Cond.codeWith yL_fan cL_fan 9 (some .int) [(0, 18, 21, 22), (0, 18, 25, 13), (0, 18, 29, 24)] ∈ WS := ws_t (tm4 (List.mem_of_getElem? (i := 34) rfl)) rfl
theorem w755 : Cond.methodLink RL 49 yX7_fan ∈ WS := ws_t (tm4 (List.mem_of_getElem? (i := 35) rfl)) rfl
theorem w756 : Cond.instanceMethod yX7_fan ∈ WS := ws_t (tm4 (List.mem_of_getElem? (i := 36) rfl)) rfl
theorem w757 : Cond.selects RX7 yX7_fan yX7_fan ∈ WS := ws_t (tm4 (List.mem_of_getElem? (i := 37) rfl)) rfl
theorem w761 : Cond.codeWith yL_drain cL_drain 9 (some .int) [(0, 18, 21, 22), (0, 18, 25, 13), (0, 18, 29, 24)] ∈ WS := ws_t (tm4 (List.mem_of_getElem? (i := 41) rfl)) rfl
theorem w762 : Cond.methodLink RL 53 yX7_drain ∈ WS := ws_t (tm4 (List.mem_of_getElem? (i := 42) rfl)) rfl
theorem w763 : Cond.instanceMethod yX7_drain ∈ WS := ws_t (tm4 (List.mem_of_getElem? (i := 43) rfl)) rfl
theorem w764 : Cond.selects RX7 yX7_drain yX7_drain ∈ WS := ws_t (tm4 (List.mem_of_getElem? (i := 44) rfl)) rfl
theorem w768 : Cond.codeWith yL_drop cL_drop 4 (some .int) [(0, 9, 12, 22)] ∈ WS := ws_t (tm4 (List.mem_of_getElem? (i := 48) rfl)) rfl
theorem w769 : Cond.methodLink RL 56 yX7_drop ∈ WS := ws_t (tm4 (List.mem_of_getElem? (i := 49) rfl)) rfl
theorem w770 : Cond.instanceMethod yX7_drop ∈ WS := ws_t (tm4 (List.mem_of_getElem? (i := 50) rfl)) rfl
theorem w771 : Cond.selects RX7 yX7_drop yX7_drop ∈ WS := ws_t (tm4 (List.mem_of_getElem? (i := 51) rfl)) rfl
theorem w779 : Cond.codeWith yL_type cL_type 4 (some .int) [(0, 9, 12, 13), (0, 9, 15, 24)] ∈ WS := ws_t (tm4 (List.mem_of_getElem? (i := 59) rfl)) rfl
theorem w780 : Cond.methodLink RL 60 yX7_type ∈ WS := ws_t (tm4 (List.mem_of_getElem? (i := 60) rfl)) rfl
theorem w781 : Cond.instanceMethod yX7_type ∈ WS := ws_t (tm4 (List.mem_of_getElem? (i := 61) rfl)) rfl
theorem w782 : Cond.selects RX7 yX7_type yX7_type ∈ WS := ws_t (tm4 (List.mem_of_getElem? (i := 62) rfl)) rfl
theorem w786 : Cond.codeWith yL_fault cL_fault 4 (some .int) [(0, 9, 12, 13)] ∈ WS := ws_t (tm4 (List.mem_of_getElem? (i := 66) rfl)) rfl
theorem w787 : Cond.methodLink RL 63 yX7_fault ∈ WS := ws_t (tm4 (List.mem_of_getElem? (i := 67) rfl)) rfl
theorem w788 : Cond.instanceMethod yX7_fault ∈ WS := ws_t (tm4 (List.mem_of_getElem? (i := 68) rfl)) rfl
theorem w789 : Cond.selects RX7 yX7_fault yX7_fault ∈ WS := ws_t (tm4 (List.mem_of_getElem? (i := 69) rfl)) rfl
theorem w793 : Cond.codeWith yL_rules cL_rules 3 (some .int) [(0, 8, 11, 24)] ∈ WS := ws_t (tm4 (List.mem_of_getElem? (i := 73) rfl)) rfl
theorem w794 : Cond.methodLink RL 66 yX7_rules ∈ WS := ws_t (tm4 (List.mem_of_getElem? (i := 74) rfl)) rfl
theorem w795 : Cond.instanceMethod yX7_rules ∈ WS := ws_t (tm4 (List.mem_of_getElem? (i := 75) rfl)) rfl
theorem w796 : Cond.selects RX7 yX7_rules yX7_rules ∈ WS := ws_t (tm4 (List.mem_of_getElem? (i := 76) rfl)) rfl
theorem w800 : Cond.codeWith yL_becomes cL_becomes 5 (some .int) [(0, 10, 13, 13)] ∈ WS := ws_t (tm4 (List.mem_of_getElem? (i := 80) rfl)) rfl
theorem w801 : Cond.methodLink RL 70 yX7_becomes ∈ WS := ws_t (tm4 (List.mem_of_getElem? (i := 81) rfl)) rfl
theorem w802 : Cond.instanceMethod yX7_becomes ∈ WS := ws_t (tm4 (List.mem_of_getElem? (i := 82) rfl)) rfl
theorem w803 : Cond.selects RX7 yX7_becomes yX7_becomes ∈ WS := ws_t (tm4 (List.mem_of_getElem? (i := 83) rfl)) rfl
theorem w807 : Cond.codeWith yL_run cL_run 4 (some .int) [(0, 9, 12, 13)] ∈ WS := ws_t (tm4 (List.mem_of_getElem? (i := 87) rfl)) rfl
theorem w808 : Cond.methodLink RL 74 yX7_run ∈ WS := ws_t (tm4 (List.mem_of_getElem? (i := 88) rfl)) rfl
theorem w809 : Cond.instanceMethod yX7_run ∈ WS := ws_t (tm4 (List.mem_of_getElem? (i := 89) rfl)) rfl
theorem w810 : Cond.selects RX7 yX7_run yX7_run ∈ WS := ws_t (tm4 (List.mem_of_getElem? (i := 90) rfl)) rfl
theorem w903 : Cond.codeWith yL_back cL_back 4 (some .int) [(0, 9, 12, 13), (0, 9, 15, 24)] ∈ WS := ws_t (tm4 (List.mem_of_getElem? (i := 183) rfl)) rfl
theorem w904 : Cond.methodLink RL 77 yX7_back ∈ WS := ws_t (tm4 (List.mem_of_getElem? (i := 184) rfl)) rfl
theorem w905 : Cond.instanceMethod yX7_back ∈ WS := ws_t (tm4 (List.mem_of_getElem? (i := 185) rfl)) rfl
theorem w906 : Cond.selects RX7 yX7_back yX7_back ∈ WS := ws_t (tm4 (List.mem_of_getElem? (i := 186) rfl)) rfl
theorem w925 : Cond.codeWith yL_cell cL_cell 5 (some .int) [(0, 10, 13, 22)] ∈ WS := ws_t (tm4 (List.mem_of_getElem? (i := 205) rfl)) rfl
theorem w926 : Cond.methodLink RL 80 yX7_cell ∈ WS := ws_t (tm4 (List.mem_of_getElem? (i := 206) rfl)) rfl
theorem w927 : Cond.instanceMethod yX7_cell ∈ WS := ws_t (tm4 (List.mem_of_getElem? (i := 207) rfl)) rfl
theorem w928 : Cond.selects RX7 yX7_cell yX7_cell ∈ WS := ws_t (tm4 (List.mem_of_getElem? (i := 208) rfl)) rfl
theorem w932 : Cond.codeWith yL_density cL_density 7 (some .int) [(0, 14, 17, 22), (0, 14, 21, 13)] ∈ WS := ws_t (tm4 (List.mem_of_getElem? (i := 212) rfl)) rfl
theorem w933 : Cond.methodLink RL 83 yX7_density ∈ WS := ws_t (tm4 (List.mem_of_getElem? (i := 213) rfl)) rfl
theorem w934 : Cond.instanceMethod yX7_density ∈ WS := ws_t (tm4 (List.mem_of_getElem? (i := 214) rfl)) rfl
theorem w935 : Cond.selects RX7 yX7_density yX7_density ∈ WS := ws_t (tm4 (List.mem_of_getElem? (i := 215) rfl)) rfl
theorem w943 : Cond.codeWith yL_wind cL_wind 8 (some .int) [(0, 16, 19, 22), (0, 16, 23, 13)] ∈ WS := ws_t (tm4 (List.mem_of_getElem? (i := 223) rfl)) rfl
theorem w944 : Cond.methodLink RL 86 yX7_wind ∈ WS := ws_t (tm4 (List.mem_of_getElem? (i := 224) rfl)) rfl
theorem w945 : Cond.instanceMethod yX7_wind ∈ WS := ws_t (tm4 (List.mem_of_getElem? (i := 225) rfl)) rfl
theorem w946 : Cond.selects RX7 yX7_wind yX7_wind ∈ WS := ws_t (tm4 (List.mem_of_getElem? (i := 226) rfl)) rfl
theorem w955 : Cond.codeWith yL_crossed cL_crossed 4 (some .int) [(0, 9, 12, 22)] ∈ WS := ws_t (tm4 (List.mem_of_getElem? (i := 235) rfl)) rfl
theorem w956 : Cond.methodLink RL 89 yX7_crossed ∈ WS := ws_t (tm4 (List.mem_of_getElem? (i := 236) rfl)) rfl
theorem w957 : Cond.instanceMethod yX7_crossed ∈ WS := ws_t (tm4 (List.mem_of_getElem? (i := 237) rfl)) rfl
theorem w958 : Cond.selects RX7 yX7_crossed yX7_crossed ∈ WS := ws_t (tm4 (List.mem_of_getElem? (i := 238) rfl)) rfl
theorem w967 : Cond.codeWith yL_gust cL_gust 5 (some .int) [(0, 10, 13, 22), (0, 10, 17, 13)] ∈ WS := ws_t (tm5 (List.mem_of_getElem? (i := 7) rfl)) rfl
theorem w968 : Cond.methodLink RL 92 yX7_gust ∈ WS := ws_t (tm5 (List.mem_of_getElem? (i := 8) rfl)) rfl
theorem w969 : Cond.instanceMethod yX7_gust ∈ WS := ws_t (tm5 (List.mem_of_getElem? (i := 9) rfl)) rfl
theorem w970 : Cond.selects RX7 yX7_gust yX7_gust ∈ WS := ws_t (tm5 (List.mem_of_getElem? (i := 10) rfl)) rfl
theorem w975 : Cond.codeWith yL_body cL_body 5 (some .int) [(0, 10, 13, 22), (0, 10, 17, 13)] ∈ WS := ws_t (tm5 (List.mem_of_getElem? (i := 15) rfl)) rfl
theorem w976 : Cond.methodLink RL 95 yX7_body ∈ WS := ws_t (tm5 (List.mem_of_getElem? (i := 16) rfl)) rfl
theorem w977 : Cond.instanceMethod yX7_body ∈ WS := ws_t (tm5 (List.mem_of_getElem? (i := 17) rfl)) rfl
theorem w978 : Cond.selects RX7 yX7_body yX7_body ∈ WS := ws_t (tm5 (List.mem_of_getElem? (i := 18) rfl)) rfl
theorem w986 : Cond.codeWith yL_zero cL_zero 4 (some .int) [(0, 9, 12, 22)] ∈ WS := ws_t (tm5 (List.mem_of_getElem? (i := 26) rfl)) rfl
theorem w987 : Cond.methodLink RL 98 yX7_zero ∈ WS := ws_t (tm5 (List.mem_of_getElem? (i := 27) rfl)) rfl
theorem w988 : Cond.instanceMethod yX7_zero ∈ WS := ws_t (tm5 (List.mem_of_getElem? (i := 28) rfl)) rfl
theorem w989 : Cond.selects RX7 yX7_zero yX7_zero ∈ WS := ws_t (tm5 (List.mem_of_getElem? (i := 29) rfl)) rfl
theorem w993 : Cond.codeWith yL_recent cL_recent 6 (some .int) [(0, 12, 15, 22), (0, 12, 19, 13)] ∈ WS := ws_t (tm5 (List.mem_of_getElem? (i := 33) rfl)) rfl
theorem w994 : Cond.methodLink RL 101 yX7_recent ∈ WS := ws_t (tm5 (List.mem_of_getElem? (i := 34) rfl)) rfl
theorem w995 : Cond.instanceMethod yX7_recent ∈ WS := ws_t (tm5 (List.mem_of_getElem? (i := 35) rfl)) rfl
theorem w996 : Cond.selects RX7 yX7_recent yX7_recent ∈ WS := ws_t (tm5 (List.mem_of_getElem? (i := 36) rfl)) rfl
theorem dL_build_0 : decode cL_build 0 = .ok (.aload_n 3, 1) := by decide +kernel
theorem dL_build_1 : decode cL_build 1 = .ok (.iconst 0, 1) := by decide +kernel
theorem dL_build_2 : decode cL_build 2 = .ok (.aload_n 0, 1) := by decide +kernel
theorem dL_build_3 : decode cL_build 3 = .ok (.iload_n 1, 1) := by decide +kernel
theorem dL_build_4 : decode cL_build 4 = .ok (.iload_n 2, 1) := by decide +kernel
theorem dL_build_5 : decode cL_build 5 = .ok (.invokevirtual 7, 3) := by decide +kernel
theorem dL_build_8 : decode cL_build 8 = .ok (.i2l, 1) := by decide +kernel
theorem dL_build_9 : decode cL_build 9 = .ok (.lastore, 1) := by decide +kernel
theorem dL_build_10 : decode cL_build 10 = .ok (.goto 7, 3) := by decide +kernel
theorem dL_build_13 : decode cL_build 13 = .ok (.astore 4, 2) := by decide +kernel
theorem dL_build_15 : decode cL_build 15 = .ok (.iconst 1, 1) := by decide +kernel
theorem dL_build_16 : decode cL_build 16 = .ok (.ireturn, 1) := by decide +kernel
theorem dL_build_17 : decode cL_build 17 = .ok (.iconst 0, 1) := by decide +kernel
theorem dL_build_18 : decode cL_build 18 = .ok (.ireturn, 1) := by decide +kernel
def f_L_build : MX := fWr 5 (eLa 3) (gd 7 f_X7_build) (aI (aI (aA (aN) (eLa 0)) (eLi 1)) (eLi 2)) Int32.toInt64 [xA]
theorem k_L_build (l : Launch) (g : GE) : MetW l g yL_build cL_build 5 [(0, 10, 13, 13)] 4 ({ frames := 8, cells := 2, slots := 12, locals := 126 } : Room) f_L_build :=
  MetW.of (own := RL) (n0 := 2) (p4 := 9) (p6 := 17) rfl (by decide +kernel) (by decide) Y_X7_build (k_X7_build l g) rfl w442 w443 w444 dL_build_5 (Nat.le_of_ble_eq_true rfl) (Nat.le_of_ble_eq_true rfl) rfl rfl
    (fun p e s m args below meth c Fin ad0 => ⟨Ev_aload_n dL_build_0 rfl, Ev_iconst dL_build_1 (by decide), Av_i (Av_i (Av_a (Av_nil) (Ev_aload_n dL_build_2 rfl)) (Ev_iload_n dL_build_3 rfl)) (Ev_iload_n dL_build_4 rfl), fun H locs cells slots ls st x hok h => lv_i2l hok.1 hok.2.1 dL_build_8 rfl h⟩)
    dL_build_9 dL_build_10 (by decide) dL_build_17 dL_build_18 (List.forall_mem_cons.mpr ⟨⟨[], ⟨0, 10, 13, 13⟩, [], 1, 4, 15, rfl, (fun _ h => nomatch h), by decide +kernel, by decide, w441, w451, by decide, Or.inl ⟨dL_build_13, rfl⟩, dL_build_15, by decide +kernel, dL_build_16⟩, (fun _ h => nomatch h)⟩)
theorem Y_L_build : Yw yL_build cL_build 5 [(0, 10, 13, 13)] 4 := ⟨w440, w0, by decide +kernel, by decide +kernel, by decide +kernel⟩
theorem dL_set_0 : decode cL_set 0 = .ok (.aload_n 3, 1) := by decide +kernel
theorem dL_set_1 : decode cL_set 1 = .ok (.iconst 0, 1) := by decide +kernel
theorem dL_set_2 : decode cL_set 2 = .ok (.aload_n 0, 1) := by decide +kernel
theorem dL_set_3 : decode cL_set 3 = .ok (.iload_n 1, 1) := by decide +kernel
theorem dL_set_4 : decode cL_set 4 = .ok (.iload_n 2, 1) := by decide +kernel
theorem dL_set_5 : decode cL_set 5 = .ok (.invokevirtual 15, 3) := by decide +kernel
theorem dL_set_8 : decode cL_set 8 = .ok (.i2l, 1) := by decide +kernel
theorem dL_set_9 : decode cL_set 9 = .ok (.lastore, 1) := by decide +kernel
theorem dL_set_10 : decode cL_set 10 = .ok (.goto 7, 3) := by decide +kernel
theorem dL_set_13 : decode cL_set 13 = .ok (.astore 4, 2) := by decide +kernel
theorem dL_set_15 : decode cL_set 15 = .ok (.iconst 1, 1) := by decide +kernel
theorem dL_set_16 : decode cL_set 16 = .ok (.ireturn, 1) := by decide +kernel
theorem dL_set_17 : decode cL_set 17 = .ok (.iconst 0, 1) := by decide +kernel
theorem dL_set_18 : decode cL_set 18 = .ok (.ireturn, 1) := by decide +kernel
def f_L_set : MX := fWr 5 (eLa 3) (gd 7 f_X7_set) (aI (aI (aA (aN) (eLa 0)) (eLi 1)) (eLi 2)) Int32.toInt64 [xA]
theorem k_L_set (l : Launch) (g : GE) : MetW l g yL_set cL_set 5 [(0, 10, 13, 13)] 4 ({ frames := 8, cells := 2, slots := 12, locals := 127 } : Room) f_L_set :=
  MetW.of (own := RL) (n0 := 2) (p4 := 9) (p6 := 17) rfl (by decide +kernel) (by decide) Y_X7_set (k_X7_set l g) rfl w547 w548 w549 dL_set_5 (Nat.le_of_ble_eq_true rfl) (Nat.le_of_ble_eq_true rfl) rfl rfl
    (fun p e s m args below meth c Fin ad0 => ⟨Ev_aload_n dL_set_0 rfl, Ev_iconst dL_set_1 (by decide), Av_i (Av_i (Av_a (Av_nil) (Ev_aload_n dL_set_2 rfl)) (Ev_iload_n dL_set_3 rfl)) (Ev_iload_n dL_set_4 rfl), fun H locs cells slots ls st x hok h => lv_i2l hok.1 hok.2.1 dL_set_8 rfl h⟩)
    dL_set_9 dL_set_10 (by decide) dL_set_17 dL_set_18 (List.forall_mem_cons.mpr ⟨⟨[], ⟨0, 10, 13, 13⟩, [], 1, 4, 15, rfl, (fun _ h => nomatch h), by decide +kernel, by decide, w441, w451, by decide, Or.inl ⟨dL_set_13, rfl⟩, dL_set_15, by decide +kernel, dL_set_16⟩, (fun _ h => nomatch h)⟩)
theorem Y_L_set : Yw yL_set cL_set 5 [(0, 10, 13, 13)] 4 := ⟨w546, w0, by decide +kernel, by decide +kernel, by decide +kernel⟩
theorem dL_solid_0 : decode cL_solid 0 = .ok (.aload 4, 2) := by decide +kernel
theorem dL_solid_2 : decode cL_solid 2 = .ok (.iconst 0, 1) := by decide +kernel
theorem dL_solid_3 : decode cL_solid 3 = .ok (.aload_n 0, 1) := by decide +kernel
theorem dL_solid_4 : decode cL_solid 4 = .ok (.iload_n 1, 1) := by decide +kernel
theorem dL_solid_5 : decode cL_solid 5 = .ok (.iload_n 2, 1) := by decide +kernel
theorem dL_solid_6 : decode cL_solid 6 = .ok (.iload_n 3, 1) := by decide +kernel
theorem dL_solid_7 : decode cL_solid 7 = .ok (.invokevirtual 18, 3) := by decide +kernel
theorem dL_solid_10 : decode cL_solid 10 = .ok (.i2l, 1) := by decide +kernel
theorem dL_solid_11 : decode cL_solid 11 = .ok (.lastore, 1) := by decide +kernel
theorem dL_solid_12 : decode cL_solid 12 = .ok (.goto 11, 3) := by decide +kernel
theorem dL_solid_15 : decode cL_solid 15 = .ok (.astore 5, 2) := by decide +kernel
theorem dL_solid_17 : decode cL_solid 17 = .ok (.iconst 1, 1) := by decide +kernel
theorem dL_solid_18 : decode cL_solid 18 = .ok (.ireturn, 1) := by decide +kernel
theorem dL_solid_19 : decode cL_solid 19 = .ok (.astore 5, 2) := by decide +kernel
theorem dL_solid_21 : decode cL_solid 21 = .ok (.iconst 2, 1) := by decide +kernel
theorem dL_solid_22 : decode cL_solid 22 = .ok (.ireturn, 1) := by decide +kernel
theorem dL_solid_23 : decode cL_solid 23 = .ok (.iconst 0, 1) := by decide +kernel
theorem dL_solid_24 : decode cL_solid 24 = .ok (.ireturn, 1) := by decide +kernel
def f_L_solid : MX := fWr 6 (eLa 4) (gd 7 f_X7_solid) (aI (aI (aI (aA (aN) (eLa 0)) (eLi 1)) (eLi 2)) (eLi 3)) Int32.toInt64 [xI, xS]
theorem k_L_solid (l : Launch) (g : GE) : MetW l g yL_solid cL_solid 6 [(0, 12, 15, 22), (0, 12, 19, 24)] 5 ({ frames := 9, cells := 4, slots := 24, locals := 148 } : Room) f_L_solid :=
  MetW.of (own := RL) (n0 := 3) (p4 := 11) (p6 := 23) rfl (by decide +kernel) (by decide) Y_X7_solid (k_X7_solid l g) rfl w556 w557 w558 dL_solid_7 (Nat.le_of_ble_eq_true rfl) (Nat.le_of_ble_eq_true rfl) rfl rfl
    (fun p e s m args below meth c Fin ad0 => ⟨Ev_aload dL_solid_0, Ev_iconst dL_solid_2 (by decide), Av_i (Av_i (Av_i (Av_a (Av_nil) (Ev_aload_n dL_solid_3 rfl)) (Ev_iload_n dL_solid_4 rfl)) (Ev_iload_n dL_solid_5 rfl)) (Ev_iload_n dL_solid_6 rfl), fun H locs cells slots ls st x hok h => lv_i2l hok.1 hok.2.1 dL_solid_10 rfl h⟩)
    dL_solid_11 dL_solid_12 (by decide) dL_solid_23 dL_solid_24 (List.forall_mem_cons.mpr ⟨⟨[], ⟨0, 12, 15, 22⟩, [⟨0, 12, 19, 24⟩], 1, 5, 17, rfl, (fun _ h => nomatch h), by decide +kernel, by decide, w554, w568, by decide, Or.inl ⟨dL_solid_15, rfl⟩, dL_solid_17, by decide +kernel, dL_solid_18⟩, List.forall_mem_cons.mpr ⟨⟨[⟨0, 12, 15, 22⟩], ⟨0, 12, 19, 24⟩, [], 2, 5, 21, rfl, List.forall_mem_cons.mpr ⟨⟨by decide, _, w554, by decide +kernel⟩, (fun _ h => nomatch h)⟩, by decide +kernel, by decide, w555, w599, by decide, Or.inl ⟨dL_solid_19, rfl⟩, dL_solid_21, by decide +kernel, dL_solid_22⟩, (fun _ h => nomatch h)⟩⟩)
theorem Y_L_solid : Yw yL_solid cL_solid 6 [(0, 12, 15, 22), (0, 12, 19, 24)] 5 := ⟨w553, w0, by decide +kernel, by decide +kernel, by decide +kernel⟩
theorem dL_block_0 : decode cL_block 0 = .ok (.aload 6, 2) := by decide +kernel
theorem dL_block_2 : decode cL_block 2 = .ok (.iconst 0, 1) := by decide +kernel
theorem dL_block_3 : decode cL_block 3 = .ok (.aload_n 0, 1) := by decide +kernel
theorem dL_block_4 : decode cL_block 4 = .ok (.iload_n 1, 1) := by decide +kernel
theorem dL_block_5 : decode cL_block 5 = .ok (.iload_n 2, 1) := by decide +kernel
theorem dL_block_6 : decode cL_block 6 = .ok (.iload_n 3, 1) := by decide +kernel
theorem dL_block_7 : decode cL_block 7 = .ok (.iload 4, 2) := by decide +kernel
theorem dL_block_9 : decode cL_block 9 = .ok (.iload 5, 2) := by decide +kernel
theorem dL_block_11 : decode cL_block 11 = .ok (.invokevirtual 26, 3) := by decide +kernel
theorem dL_block_14 : decode cL_block 14 = .ok (.i2l, 1) := by decide +kernel
theorem dL_block_15 : decode cL_block 15 = .ok (.lastore, 1) := by decide +kernel
theorem dL_block_16 : decode cL_block 16 = .ok (.goto 11, 3) := by decide +kernel
theorem dL_block_19 : decode cL_block 19 = .ok (.astore 7, 2) := by decide +kernel
theorem dL_block_21 : decode cL_block 21 = .ok (.iconst 1, 1) := by decide +kernel
theorem dL_block_22 : decode cL_block 22 = .ok (.ireturn, 1) := by decide +kernel
theorem dL_block_23 : decode cL_block 23 = .ok (.astore 7, 2) := by decide +kernel
theorem dL_block_25 : decode cL_block 25 = .ok (.iconst 2, 1) := by decide +kernel
theorem dL_block_26 : decode cL_block 26 = .ok (.ireturn, 1) := by decide +kernel
theorem dL_block_27 : decode cL_block 27 = .ok (.iconst 0, 1) := by decide +kernel
theorem dL_block_28 : decode cL_block 28 = .ok (.ireturn, 1) := by decide +kernel
def f_L_block : MX := fWr 8 (eLa 6) (gd 7 f_X7_block) (aI (aI (aI (aI (aI (aA (aN) (eLa 0)) (eLi 1)) (eLi 2)) (eLi 3)) (eLi 4)) (eLi 5)) Int32.toInt64 [xI, xA]
theorem k_L_block (l : Launch) (g : GE) : MetW l g yL_block cL_block 8 [(0, 16, 19, 22), (0, 16, 23, 13)] 7 ({ frames := 10, cells := 6, slots := 36, locals := 177 } : Room) f_L_block :=
  MetW.of (own := RL) (n0 := 5) (p4 := 15) (p6 := 27) rfl (by decide +kernel) (by decide) Y_X7_block (k_X7_block l g) rfl w633 w634 w635 dL_block_11 (Nat.le_of_ble_eq_true rfl) (Nat.le_of_ble_eq_true rfl) rfl rfl
    (fun p e s m args below meth c Fin ad0 => ⟨Ev_aload dL_block_0, Ev_iconst dL_block_2 (by decide), Av_i (Av_i (Av_i (Av_i (Av_i (Av_a (Av_nil) (Ev_aload_n dL_block_3 rfl)) (Ev_iload_n dL_block_4 rfl)) (Ev_iload_n dL_block_5 rfl)) (Ev_iload_n dL_block_6 rfl)) (Ev_iload dL_block_7)) (Ev_iload dL_block_9), fun H locs cells slots ls st x hok h => lv_i2l hok.1 hok.2.1 dL_block_14 rfl h⟩)
    dL_block_15 dL_block_16 (by decide) dL_block_27 dL_block_28 (List.forall_mem_cons.mpr ⟨⟨[], ⟨0, 16, 19, 22⟩, [⟨0, 16, 23, 13⟩], 1, 7, 21, rfl, (fun _ h => nomatch h), by decide +kernel, by decide, w554, w568, by decide, Or.inl ⟨dL_block_19, rfl⟩, dL_block_21, by decide +kernel, dL_block_22⟩, List.forall_mem_cons.mpr ⟨⟨[⟨0, 16, 19, 22⟩], ⟨0, 16, 23, 13⟩, [], 2, 7, 25, rfl, List.forall_mem_cons.mpr ⟨⟨by decide, _, w554, by decide +kernel⟩, (fun _ h => nomatch h)⟩, by decide +kernel, by decide, w441, w451, by decide, Or.inl ⟨dL_block_23, rfl⟩, dL_block_25, by decide +kernel, dL_block_26⟩, (fun _ h => nomatch h)⟩⟩)
theorem Y_L_block : Yw yL_block cL_block 8 [(0, 16, 19, 22), (0, 16, 23, 13)] 7 := ⟨w632, w0, by decide +kernel, by decide +kernel, by decide +kernel⟩
theorem dL_clear_0 : decode cL_clear 0 = .ok (.aload_n 3, 1) := by decide +kernel
theorem dL_clear_1 : decode cL_clear 1 = .ok (.iconst 0, 1) := by decide +kernel
theorem dL_clear_2 : decode cL_clear 2 = .ok (.aload_n 0, 1) := by decide +kernel
theorem dL_clear_3 : decode cL_clear 3 = .ok (.iload_n 1, 1) := by decide +kernel
theorem dL_clear_4 : decode cL_clear 4 = .ok (.iload_n 2, 1) := by decide +kernel
theorem dL_clear_5 : decode cL_clear 5 = .ok (.invokevirtual 30, 3) := by decide +kernel
theorem dL_clear_8 : decode cL_clear 8 = .ok (.i2l, 1) := by decide +kernel
theorem dL_clear_9 : decode cL_clear 9 = .ok (.lastore, 1) := by decide +kernel
theorem dL_clear_10 : decode cL_clear 10 = .ok (.goto 11, 3) := by decide +kernel
theorem dL_clear_13 : decode cL_clear 13 = .ok (.astore 4, 2) := by decide +kernel
theorem dL_clear_15 : decode cL_clear 15 = .ok (.iconst 1, 1) := by decide +kernel
theorem dL_clear_16 : decode cL_clear 16 = .ok (.ireturn, 1) := by decide +kernel
theorem dL_clear_17 : decode cL_clear 17 = .ok (.astore 4, 2) := by decide +kernel
theorem dL_clear_19 : decode cL_clear 19 = .ok (.iconst 2, 1) := by decide +kernel
theorem dL_clear_20 : decode cL_clear 20 = .ok (.ireturn, 1) := by decide +kernel
theorem dL_clear_21 : decode cL_clear 21 = .ok (.iconst 0, 1) := by decide +kernel
theorem dL_clear_22 : decode cL_clear 22 = .ok (.ireturn, 1) := by decide +kernel
def f_L_clear : MX := fWr 5 (eLa 3) (gd 7 f_X7_clear) (aI (aI (aA (aN) (eLa 0)) (eLi 1)) (eLi 2)) Int32.toInt64 [xI, xS]
theorem k_L_clear (l : Launch) (g : GE) : MetW l g yL_clear cL_clear 5 [(0, 10, 13, 22), (0, 10, 17, 24)] 4 ({ frames := 9, cells := 3, slots := 18, locals := 148 } : Room) f_L_clear :=
  MetW.of (own := RL) (n0 := 2) (p4 := 9) (p6 := 21) rfl (by decide +kernel) (by decide) Y_X7_clear (k_X7_clear l g) rfl w649 w650 w651 dL_clear_5 (Nat.le_of_ble_eq_true rfl) (Nat.le_of_ble_eq_true rfl) rfl rfl
    (fun p e s m args below meth c Fin ad0 => ⟨Ev_aload_n dL_clear_0 rfl, Ev_iconst dL_clear_1 (by decide), Av_i (Av_i (Av_a (Av_nil) (Ev_aload_n dL_clear_2 rfl)) (Ev_iload_n dL_clear_3 rfl)) (Ev_iload_n dL_clear_4 rfl), fun H locs cells slots ls st x hok h => lv_i2l hok.1 hok.2.1 dL_clear_8 rfl h⟩)
    dL_clear_9 dL_clear_10 (by decide) dL_clear_21 dL_clear_22 (List.forall_mem_cons.mpr ⟨⟨[], ⟨0, 10, 13, 22⟩, [⟨0, 10, 17, 24⟩], 1, 4, 15, rfl, (fun _ h => nomatch h), by decide +kernel, by decide, w554, w568, by decide, Or.inl ⟨dL_clear_13, rfl⟩, dL_clear_15, by decide +kernel, dL_clear_16⟩, List.forall_mem_cons.mpr ⟨⟨[⟨0, 10, 13, 22⟩], ⟨0, 10, 17, 24⟩, [], 2, 4, 19, rfl, List.forall_mem_cons.mpr ⟨⟨by decide, _, w554, by decide +kernel⟩, (fun _ h => nomatch h)⟩, by decide +kernel, by decide, w555, w599, by decide, Or.inl ⟨dL_clear_17, rfl⟩, dL_clear_19, by decide +kernel, dL_clear_20⟩, (fun _ h => nomatch h)⟩⟩)
theorem Y_L_clear : Yw yL_clear cL_clear 5 [(0, 10, 13, 22), (0, 10, 17, 24)] 4 := ⟨w648, w0, by decide +kernel, by decide +kernel, by decide +kernel⟩
theorem dL_shift_0 : decode cL_shift 0 = .ok (.aload 4, 2) := by decide +kernel
theorem dL_shift_2 : decode cL_shift 2 = .ok (.iconst 0, 1) := by decide +kernel
theorem dL_shift_3 : decode cL_shift 3 = .ok (.aload_n 0, 1) := by decide +kernel
theorem dL_shift_4 : decode cL_shift 4 = .ok (.iload_n 1, 1) := by decide +kernel
theorem dL_shift_5 : decode cL_shift 5 = .ok (.iload_n 2, 1) := by decide +kernel
theorem dL_shift_6 : decode cL_shift 6 = .ok (.iload_n 3, 1) := by decide +kernel
theorem dL_shift_7 : decode cL_shift 7 = .ok (.invokevirtual 33, 3) := by decide +kernel
theorem dL_shift_10 : decode cL_shift 10 = .ok (.i2l, 1) := by decide +kernel
theorem dL_shift_11 : decode cL_shift 11 = .ok (.lastore, 1) := by decide +kernel
theorem dL_shift_12 : decode cL_shift 12 = .ok (.goto 15, 3) := by decide +kernel
theorem dL_shift_15 : decode cL_shift 15 = .ok (.astore 5, 2) := by decide +kernel
theorem dL_shift_17 : decode cL_shift 17 = .ok (.iconst 1, 1) := by decide +kernel
theorem dL_shift_18 : decode cL_shift 18 = .ok (.ireturn, 1) := by decide +kernel
theorem dL_shift_19 : decode cL_shift 19 = .ok (.astore 5, 2) := by decide +kernel
theorem dL_shift_21 : decode cL_shift 21 = .ok (.iconst 2, 1) := by decide +kernel
theorem dL_shift_22 : decode cL_shift 22 = .ok (.ireturn, 1) := by decide +kernel
theorem dL_shift_23 : decode cL_shift 23 = .ok (.astore 5, 2) := by decide +kernel
theorem dL_shift_25 : decode cL_shift 25 = .ok (.iconst 3, 1) := by decide +kernel
theorem dL_shift_26 : decode cL_shift 26 = .ok (.ireturn, 1) := by decide +kernel
theorem dL_shift_27 : decode cL_shift 27 = .ok (.iconst 0, 1) := by decide +kernel
theorem dL_shift_28 : decode cL_shift 28 = .ok (.ireturn, 1) := by decide +kernel
def f_L_shift : MX := fWr 6 (eLa 4) (gd 7 f_X7_shift) (aI (aI (aI (aA (aN) (eLa 0)) (eLi 1)) (eLi 2)) (eLi 3)) Int32.toInt64 [xI, xA, xS]
theorem k_L_shift (l : Launch) (g : GE) : MetW l g yL_shift cL_shift 6 [(0, 12, 15, 22), (0, 12, 19, 13), (0, 12, 23, 24)] 5 ({ frames := 9, cells := 4, slots := 24, locals := 146 } : Room) f_L_shift :=
  MetW.of (own := RL) (n0 := 3) (p4 := 11) (p6 := 27) rfl (by decide +kernel) (by decide) Y_X7_shift (k_X7_shift l g) rfl w660 w661 w662 dL_shift_7 (Nat.le_of_ble_eq_true rfl) (Nat.le_of_ble_eq_true rfl) rfl rfl
    (fun p e s m args below meth c Fin ad0 => ⟨Ev_aload dL_shift_0, Ev_iconst dL_shift_2 (by decide), Av_i (Av_i (Av_i (Av_a (Av_nil) (Ev_aload_n dL_shift_3 rfl)) (Ev_iload_n dL_shift_4 rfl)) (Ev_iload_n dL_shift_5 rfl)) (Ev_iload_n dL_shift_6 rfl), fun H locs cells slots ls st x hok h => lv_i2l hok.1 hok.2.1 dL_shift_10 rfl h⟩)
    dL_shift_11 dL_shift_12 (by decide) dL_shift_27 dL_shift_28 (List.forall_mem_cons.mpr ⟨⟨[], ⟨0, 12, 15, 22⟩, [⟨0, 12, 19, 13⟩, ⟨0, 12, 23, 24⟩], 1, 5, 17, rfl, (fun _ h => nomatch h), by decide +kernel, by decide, w554, w568, by decide, Or.inl ⟨dL_shift_15, rfl⟩, dL_shift_17, by decide +kernel, dL_shift_18⟩, List.forall_mem_cons.mpr ⟨⟨[⟨0, 12, 15, 22⟩], ⟨0, 12, 19, 13⟩, [⟨0, 12, 23, 24⟩], 2, 5, 21, rfl, List.forall_mem_cons.mpr ⟨⟨by decide, _, w554, by decide +kernel⟩, (fun _ h => nomatch h)⟩, by decide +kernel, by decide, w441, w451, by decide, Or.inl ⟨dL_shift_19, rfl⟩, dL_shift_21, by decide +kernel, dL_shift_22⟩, List.forall_mem_cons.mpr ⟨⟨[⟨0, 12, 15, 22⟩, ⟨0, 12, 19, 13⟩], ⟨0, 12, 23, 24⟩, [], 3, 5, 25, rfl, List.forall_mem_cons.mpr ⟨⟨by decide, _, w554, by decide +kernel⟩, List.forall_mem_cons.mpr ⟨⟨by decide, _, w441, by decide +kernel⟩, (fun _ h => nomatch h)⟩⟩, by decide +kernel, by decide, w555, w599, by decide, Or.inl ⟨dL_shift_23, rfl⟩, dL_shift_25, by decide +kernel, dL_shift_26⟩, (fun _ h => nomatch h)⟩⟩⟩)
theorem Y_L_shift : Yw yL_shift cL_shift 6 [(0, 12, 15, 22), (0, 12, 19, 13), (0, 12, 23, 24)] 5 := ⟨w659, w0, by decide +kernel, by decide +kernel, by decide +kernel⟩
theorem dL_put_0 : decode cL_put 0 = .ok (.aload 4, 2) := by decide +kernel
theorem dL_put_2 : decode cL_put 2 = .ok (.iconst 0, 1) := by decide +kernel
theorem dL_put_3 : decode cL_put 3 = .ok (.aload_n 0, 1) := by decide +kernel
theorem dL_put_4 : decode cL_put 4 = .ok (.iload_n 1, 1) := by decide +kernel
theorem dL_put_5 : decode cL_put 5 = .ok (.iload_n 2, 1) := by decide +kernel
theorem dL_put_6 : decode cL_put 6 = .ok (.iload_n 3, 1) := by decide +kernel
theorem dL_put_7 : decode cL_put 7 = .ok (.invokevirtual 36, 3) := by decide +kernel
theorem dL_put_10 : decode cL_put 10 = .ok (.i2l, 1) := by decide +kernel
theorem dL_put_11 : decode cL_put 11 = .ok (.lastore, 1) := by decide +kernel
theorem dL_put_12 : decode cL_put 12 = .ok (.goto 15, 3) := by decide +kernel
theorem dL_put_15 : decode cL_put 15 = .ok (.astore 5, 2) := by decide +kernel
theorem dL_put_17 : decode cL_put 17 = .ok (.iconst 1, 1) := by decide +kernel
theorem dL_put_18 : decode cL_put 18 = .ok (.ireturn, 1) := by decide +kernel
theorem dL_put_19 : decode cL_put 19 = .ok (.astore 5, 2) := by decide +kernel
theorem dL_put_21 : decode cL_put 21 = .ok (.iconst 2, 1) := by decide +kernel
theorem dL_put_22 : decode cL_put 22 = .ok (.ireturn, 1) := by decide +kernel
theorem dL_put_23 : decode cL_put 23 = .ok (.astore 5, 2) := by decide +kernel
theorem dL_put_25 : decode cL_put 25 = .ok (.iconst 3, 1) := by decide +kernel
theorem dL_put_26 : decode cL_put 26 = .ok (.ireturn, 1) := by decide +kernel
theorem dL_put_27 : decode cL_put 27 = .ok (.iconst 0, 1) := by decide +kernel
theorem dL_put_28 : decode cL_put 28 = .ok (.ireturn, 1) := by decide +kernel
def f_L_put : MX := fWr 6 (eLa 4) (gd 7 f_X7_put) (aI (aI (aI (aA (aN) (eLa 0)) (eLi 1)) (eLi 2)) (eLi 3)) Int32.toInt64 [xI, xA, xS]
theorem k_L_put (l : Launch) (g : GE) : MetW l g yL_put cL_put 6 [(0, 12, 15, 22), (0, 12, 19, 13), (0, 12, 23, 24)] 5 ({ frames := 9, cells := 4, slots := 24, locals := 148 } : Room) f_L_put :=
  MetW.of (own := RL) (n0 := 3) (p4 := 11) (p6 := 27) rfl (by decide +kernel) (by decide) Y_X7_put (k_X7_put l g) rfl w699 w700 w701 dL_put_7 (Nat.le_of_ble_eq_true rfl) (Nat.le_of_ble_eq_true rfl) rfl rfl
    (fun p e s m args below meth c Fin ad0 => ⟨Ev_aload dL_put_0, Ev_iconst dL_put_2 (by decide), Av_i (Av_i (Av_i (Av_a (Av_nil) (Ev_aload_n dL_put_3 rfl)) (Ev_iload_n dL_put_4 rfl)) (Ev_iload_n dL_put_5 rfl)) (Ev_iload_n dL_put_6 rfl), fun H locs cells slots ls st x hok h => lv_i2l hok.1 hok.2.1 dL_put_10 rfl h⟩)
    dL_put_11 dL_put_12 (by decide) dL_put_27 dL_put_28 (List.forall_mem_cons.mpr ⟨⟨[], ⟨0, 12, 15, 22⟩, [⟨0, 12, 19, 13⟩, ⟨0, 12, 23, 24⟩], 1, 5, 17, rfl, (fun _ h => nomatch h), by decide +kernel, by decide, w554, w568, by decide, Or.inl ⟨dL_put_15, rfl⟩, dL_put_17, by decide +kernel, dL_put_18⟩, List.forall_mem_cons.mpr ⟨⟨[⟨0, 12, 15, 22⟩], ⟨0, 12, 19, 13⟩, [⟨0, 12, 23, 24⟩], 2, 5, 21, rfl, List.forall_mem_cons.mpr ⟨⟨by decide, _, w554, by decide +kernel⟩, (fun _ h => nomatch h)⟩, by decide +kernel, by decide, w441, w451, by decide, Or.inl ⟨dL_put_19, rfl⟩, dL_put_21, by decide +kernel, dL_put_22⟩, List.forall_mem_cons.mpr ⟨⟨[⟨0, 12, 15, 22⟩, ⟨0, 12, 19, 13⟩], ⟨0, 12, 23, 24⟩, [], 3, 5, 25, rfl, List.forall_mem_cons.mpr ⟨⟨by decide, _, w554, by decide +kernel⟩, List.forall_mem_cons.mpr ⟨⟨by decide, _, w441, by decide +kernel⟩, (fun _ h => nomatch h)⟩⟩, by decide +kernel, by decide, w555, w599, by decide, Or.inl ⟨dL_put_23, rfl⟩, dL_put_25, by decide +kernel, dL_put_26⟩, (fun _ h => nomatch h)⟩⟩⟩)
theorem Y_L_put : Yw yL_put cL_put 6 [(0, 12, 15, 22), (0, 12, 19, 13), (0, 12, 23, 24)] 5 := ⟨w698, w0, by decide +kernel, by decide +kernel, by decide +kernel⟩
theorem dL_fill_0 : decode cL_fill 0 = .ok (.aload 6, 2) := by decide +kernel
theorem dL_fill_2 : decode cL_fill 2 = .ok (.iconst 0, 1) := by decide +kernel
theorem dL_fill_3 : decode cL_fill 3 = .ok (.aload_n 0, 1) := by decide +kernel
theorem dL_fill_4 : decode cL_fill 4 = .ok (.iload_n 1, 1) := by decide +kernel
theorem dL_fill_5 : decode cL_fill 5 = .ok (.iload_n 2, 1) := by decide +kernel
theorem dL_fill_6 : decode cL_fill 6 = .ok (.iload_n 3, 1) := by decide +kernel
theorem dL_fill_7 : decode cL_fill 7 = .ok (.iload 4, 2) := by decide +kernel
theorem dL_fill_9 : decode cL_fill 9 = .ok (.iload 5, 2) := by decide +kernel
theorem dL_fill_11 : decode cL_fill 11 = .ok (.invokevirtual 39, 3) := by decide +kernel
theorem dL_fill_14 : decode cL_fill 14 = .ok (.i2l, 1) := by decide +kernel
theorem dL_fill_15 : decode cL_fill 15 = .ok (.lastore, 1) := by decide +kernel
theorem dL_fill_16 : decode cL_fill 16 = .ok (.goto 11, 3) := by decide +kernel
theorem dL_fill_19 : decode cL_fill 19 = .ok (.astore 7, 2) := by decide +kernel
theorem dL_fill_21 : decode cL_fill 21 = .ok (.iconst 1, 1) := by decide +kernel
theorem dL_fill_22 : decode cL_fill 22 = .ok (.ireturn, 1) := by decide +kernel
theorem dL_fill_23 : decode cL_fill 23 = .ok (.astore 7, 2) := by decide +kernel
theorem dL_fill_25 : decode cL_fill 25 = .ok (.iconst 2, 1) := by decide +kernel
theorem dL_fill_26 : decode cL_fill 26 = .ok (.ireturn, 1) := by decide +kernel
theorem dL_fill_27 : decode cL_fill 27 = .ok (.iconst 0, 1) := by decide +kernel
theorem dL_fill_28 : decode cL_fill 28 = .ok (.ireturn, 1) := by decide +kernel
def f_L_fill : MX := fWr 8 (eLa 6) (gd 7 f_X7_fill) (aI (aI (aI (aI (aI (aA (aN) (eLa 0)) (eLi 1)) (eLi 2)) (eLi 3)) (eLi 4)) (eLi 5)) Int32.toInt64 [xI, xA]
theorem k_L_fill (l : Launch) (g : GE) : MetW l g yL_fill cL_fill 8 [(0, 16, 19, 22), (0, 16, 23, 13)] 7 ({ frames := 10, cells := 6, slots := 36, locals := 178 } : Room) f_L_fill :=
  MetW.of (own := RL) (n0 := 5) (p4 := 15) (p6 := 27) rfl (by decide +kernel) (by decide) Y_X7_fill (k_X7_fill l g) rfl w718 w719 w720 dL_fill_11 (Nat.le_of_ble_eq_true rfl) (Nat.le_of_ble_eq_true rfl) rfl rfl
    (fun p e s m args below meth c Fin ad0 => ⟨Ev_aload dL_fill_0, Ev_iconst dL_fill_2 (by decide), Av_i (Av_i (Av_i (Av_i (Av_i (Av_a (Av_nil) (Ev_aload_n dL_fill_3 rfl)) (Ev_iload_n dL_fill_4 rfl)) (Ev_iload_n dL_fill_5 rfl)) (Ev_iload_n dL_fill_6 rfl)) (Ev_iload dL_fill_7)) (Ev_iload dL_fill_9), fun H locs cells slots ls st x hok h => lv_i2l hok.1 hok.2.1 dL_fill_14 rfl h⟩)
    dL_fill_15 dL_fill_16 (by decide) dL_fill_27 dL_fill_28 (List.forall_mem_cons.mpr ⟨⟨[], ⟨0, 16, 19, 22⟩, [⟨0, 16, 23, 13⟩], 1, 7, 21, rfl, (fun _ h => nomatch h), by decide +kernel, by decide, w554, w568, by decide, Or.inl ⟨dL_fill_19, rfl⟩, dL_fill_21, by decide +kernel, dL_fill_22⟩, List.forall_mem_cons.mpr ⟨⟨[⟨0, 16, 19, 22⟩], ⟨0, 16, 23, 13⟩, [], 2, 7, 25, rfl, List.forall_mem_cons.mpr ⟨⟨by decide, _, w554, by decide +kernel⟩, (fun _ h => nomatch h)⟩, by decide +kernel, by decide, w441, w451, by decide, Or.inl ⟨dL_fill_23, rfl⟩, dL_fill_25, by decide +kernel, dL_fill_26⟩, (fun _ h => nomatch h)⟩⟩)
theorem Y_L_fill : Yw yL_fill cL_fill 8 [(0, 16, 19, 22), (0, 16, 23, 13)] 7 := ⟨w717, w0, by decide +kernel, by decide +kernel, by decide +kernel⟩
theorem dL_empty_0 : decode cL_empty 0 = .ok (.aload 5, 2) := by decide +kernel
theorem dL_empty_2 : decode cL_empty 2 = .ok (.iconst 0, 1) := by decide +kernel
theorem dL_empty_3 : decode cL_empty 3 = .ok (.aload_n 0, 1) := by decide +kernel
theorem dL_empty_4 : decode cL_empty 4 = .ok (.iload_n 1, 1) := by decide +kernel
theorem dL_empty_5 : decode cL_empty 5 = .ok (.iload_n 2, 1) := by decide +kernel
theorem dL_empty_6 : decode cL_empty 6 = .ok (.iload_n 3, 1) := by decide +kernel
theorem dL_empty_7 : decode cL_empty 7 = .ok (.iload 4, 2) := by decide +kernel
theorem dL_empty_9 : decode cL_empty 9 = .ok (.invokevirtual 42, 3) := by decide +kernel
theorem dL_empty_12 : decode cL_empty 12 = .ok (.i2l, 1) := by decide +kernel
theorem dL_empty_13 : decode cL_empty 13 = .ok (.lastore, 1) := by decide +kernel
theorem dL_empty_14 : decode cL_empty 14 = .ok (.goto 11, 3) := by decide +kernel
theorem dL_empty_17 : decode cL_empty 17 = .ok (.astore 6, 2) := by decide +kernel
theorem dL_empty_19 : decode cL_empty 19 = .ok (.iconst 1, 1) := by decide +kernel
theorem dL_empty_20 : decode cL_empty 20 = .ok (.ireturn, 1) := by decide +kernel
theorem dL_empty_21 : decode cL_empty 21 = .ok (.astore 6, 2) := by decide +kernel
theorem dL_empty_23 : decode cL_empty 23 = .ok (.iconst 2, 1) := by decide +kernel
theorem dL_empty_24 : decode cL_empty 24 = .ok (.ireturn, 1) := by decide +kernel
theorem dL_empty_25 : decode cL_empty 25 = .ok (.iconst 0, 1) := by decide +kernel
theorem dL_empty_26 : decode cL_empty 26 = .ok (.ireturn, 1) := by decide +kernel
def f_L_empty : MX := fWr 7 (eLa 5) (gd 7 f_X7_empty) (aI (aI (aI (aI (aA (aN) (eLa 0)) (eLi 1)) (eLi 2)) (eLi 3)) (eLi 4)) Int32.toInt64 [xI, xA]
theorem k_L_empty (l : Launch) (g : GE) : MetW l g yL_empty cL_empty 7 [(0, 14, 17, 22), (0, 14, 21, 13)] 6 ({ frames := 10, cells := 5, slots := 30, locals := 176 } : Room) f_L_empty :=
  MetW.of (own := RL) (n0 := 4) (p4 := 13) (p6 := 25) rfl (by decide +kernel) (by decide) Y_X7_empty (k_X7_empty l g) rfl w725 w726 w727 dL_empty_9 (Nat.le_of_ble_eq_true rfl) (Nat.le_of_ble_eq_true rfl) rfl rfl
    (fun p e s m args below meth c Fin ad0 => ⟨Ev_aload dL_empty_0, Ev_iconst dL_empty_2 (by decide), Av_i (Av_i (Av_i (Av_i (Av_a (Av_nil) (Ev_aload_n dL_empty_3 rfl)) (Ev_iload_n dL_empty_4 rfl)) (Ev_iload_n dL_empty_5 rfl)) (Ev_iload_n dL_empty_6 rfl)) (Ev_iload dL_empty_7), fun H locs cells slots ls st x hok h => lv_i2l hok.1 hok.2.1 dL_empty_12 rfl h⟩)
    dL_empty_13 dL_empty_14 (by decide) dL_empty_25 dL_empty_26 (List.forall_mem_cons.mpr ⟨⟨[], ⟨0, 14, 17, 22⟩, [⟨0, 14, 21, 13⟩], 1, 6, 19, rfl, (fun _ h => nomatch h), by decide +kernel, by decide, w554, w568, by decide, Or.inl ⟨dL_empty_17, rfl⟩, dL_empty_19, by decide +kernel, dL_empty_20⟩, List.forall_mem_cons.mpr ⟨⟨[⟨0, 14, 17, 22⟩], ⟨0, 14, 21, 13⟩, [], 2, 6, 23, rfl, List.forall_mem_cons.mpr ⟨⟨by decide, _, w554, by decide +kernel⟩, (fun _ h => nomatch h)⟩, by decide +kernel, by decide, w441, w451, by decide, Or.inl ⟨dL_empty_21, rfl⟩, dL_empty_23, by decide +kernel, dL_empty_24⟩, (fun _ h => nomatch h)⟩⟩)
theorem Y_L_empty : Yw yL_empty cL_empty 7 [(0, 14, 17, 22), (0, 14, 21, 13)] 6 := ⟨w724, w0, by decide +kernel, by decide +kernel, by decide +kernel⟩
theorem dL_inlet_0 : decode cL_inlet 0 = .ok (.aload 6, 2) := by decide +kernel
theorem dL_inlet_2 : decode cL_inlet 2 = .ok (.iconst 0, 1) := by decide +kernel
theorem dL_inlet_3 : decode cL_inlet 3 = .ok (.aload_n 0, 1) := by decide +kernel
theorem dL_inlet_4 : decode cL_inlet 4 = .ok (.iload_n 1, 1) := by decide +kernel
theorem dL_inlet_5 : decode cL_inlet 5 = .ok (.iload_n 2, 1) := by decide +kernel
theorem dL_inlet_6 : decode cL_inlet 6 = .ok (.iload_n 3, 1) := by decide +kernel
theorem dL_inlet_7 : decode cL_inlet 7 = .ok (.iload 4, 2) := by decide +kernel
theorem dL_inlet_9 : decode cL_inlet 9 = .ok (.iload 5, 2) := by decide +kernel
theorem dL_inlet_11 : decode cL_inlet 11 = .ok (.invokevirtual 46, 3) := by decide +kernel
theorem dL_inlet_14 : decode cL_inlet 14 = .ok (.i2l, 1) := by decide +kernel
theorem dL_inlet_15 : decode cL_inlet 15 = .ok (.lastore, 1) := by decide +kernel
theorem dL_inlet_16 : decode cL_inlet 16 = .ok (.goto 15, 3) := by decide +kernel
theorem dL_inlet_19 : decode cL_inlet 19 = .ok (.astore 7, 2) := by decide +kernel
theorem dL_inlet_21 : decode cL_inlet 21 = .ok (.iconst 1, 1) := by decide +kernel
theorem dL_inlet_22 : decode cL_inlet 22 = .ok (.ireturn, 1) := by decide +kernel
theorem dL_inlet_23 : decode cL_inlet 23 = .ok (.astore 7, 2) := by decide +kernel
theorem dL_inlet_25 : decode cL_inlet 25 = .ok (.iconst 2, 1) := by decide +kernel
theorem dL_inlet_26 : decode cL_inlet 26 = .ok (.ireturn, 1) := by decide +kernel
theorem dL_inlet_27 : decode cL_inlet 27 = .ok (.astore 7, 2) := by decide +kernel
theorem dL_inlet_29 : decode cL_inlet 29 = .ok (.iconst 3, 1) := by decide +kernel
theorem dL_inlet_30 : decode cL_inlet 30 = .ok (.ireturn, 1) := by decide +kernel
theorem dL_inlet_31 : decode cL_inlet 31 = .ok (.iconst 0, 1) := by decide +kernel
theorem dL_inlet_32 : decode cL_inlet 32 = .ok (.ireturn, 1) := by decide +kernel
def f_L_inlet : MX := fWr 8 (eLa 6) (gd 7 f_X7_inlet) (aI (aI (aI (aI (aI (aA (aN) (eLa 0)) (eLi 1)) (eLi 2)) (eLi 3)) (eLi 4)) (eLi 5)) Int32.toInt64 [xI, xA, xS]
theorem k_L_inlet (l : Launch) (g : GE) : MetW l g yL_inlet cL_inlet 8 [(0, 16, 19, 22), (0, 16, 23, 13), (0, 16, 27, 24)] 7 ({ frames := 11, cells := 9, slots := 54, locals := 202 } : Room) f_L_inlet :=
  MetW.of (own := RL) (n0 := 5) (p4 := 15) (p6 := 31) rfl (by decide +kernel) (by decide) Y_X7_inlet (k_X7_inlet l g) rfl w736 w737 w738 dL_inlet_11 (Nat.le_of_ble_eq_true rfl) (Nat.le_of_ble_eq_true rfl) rfl rfl
    (fun p e s m args below meth c Fin ad0 => ⟨Ev_aload dL_inlet_0, Ev_iconst dL_inlet_2 (by decide), Av_i (Av_i (Av_i (Av_i (Av_i (Av_a (Av_nil) (Ev_aload_n dL_inlet_3 rfl)) (Ev_iload_n dL_inlet_4 rfl)) (Ev_iload_n dL_inlet_5 rfl)) (Ev_iload_n dL_inlet_6 rfl)) (Ev_iload dL_inlet_7)) (Ev_iload dL_inlet_9), fun H locs cells slots ls st x hok h => lv_i2l hok.1 hok.2.1 dL_inlet_14 rfl h⟩)
    dL_inlet_15 dL_inlet_16 (by decide) dL_inlet_31 dL_inlet_32 (List.forall_mem_cons.mpr ⟨⟨[], ⟨0, 16, 19, 22⟩, [⟨0, 16, 23, 13⟩, ⟨0, 16, 27, 24⟩], 1, 7, 21, rfl, (fun _ h => nomatch h), by decide +kernel, by decide, w554, w568, by decide, Or.inl ⟨dL_inlet_19, rfl⟩, dL_inlet_21, by decide +kernel, dL_inlet_22⟩, List.forall_mem_cons.mpr ⟨⟨[⟨0, 16, 19, 22⟩], ⟨0, 16, 23, 13⟩, [⟨0, 16, 27, 24⟩], 2, 7, 25, rfl, List.forall_mem_cons.mpr ⟨⟨by decide, _, w554, by decide +kernel⟩, (fun _ h => nomatch h)⟩, by decide +kernel, by decide, w441, w451, by decide, Or.inl ⟨dL_inlet_23, rfl⟩, dL_inlet_25, by decide +kernel, dL_inlet_26⟩, List.forall_mem_cons.mpr ⟨⟨[⟨0, 16, 19, 22⟩, ⟨0, 16, 23, 13⟩], ⟨0, 16, 27, 24⟩, [], 3, 7, 29, rfl, List.forall_mem_cons.mpr ⟨⟨by decide, _, w554, by decide +kernel⟩, List.forall_mem_cons.mpr ⟨⟨by decide, _, w441, by decide +kernel⟩, (fun _ h => nomatch h)⟩⟩, by decide +kernel, by decide, w555, w599, by decide, Or.inl ⟨dL_inlet_27, rfl⟩, dL_inlet_29, by decide +kernel, dL_inlet_30⟩, (fun _ h => nomatch h)⟩⟩⟩)
theorem Y_L_inlet : Yw yL_inlet cL_inlet 8 [(0, 16, 19, 22), (0, 16, 23, 13), (0, 16, 27, 24)] 7 := ⟨w735, w0, by decide +kernel, by decide +kernel, by decide +kernel⟩
theorem dL_fan_0 : decode cL_fan 0 = .ok (.aload 7, 2) := by decide +kernel
theorem dL_fan_2 : decode cL_fan 2 = .ok (.iconst 0, 1) := by decide +kernel
theorem dL_fan_3 : decode cL_fan 3 = .ok (.aload_n 0, 1) := by decide +kernel
theorem dL_fan_4 : decode cL_fan 4 = .ok (.iload_n 1, 1) := by decide +kernel
theorem dL_fan_5 : decode cL_fan 5 = .ok (.iload_n 2, 1) := by decide +kernel
theorem dL_fan_6 : decode cL_fan 6 = .ok (.iload_n 3, 1) := by decide +kernel
theorem dL_fan_7 : decode cL_fan 7 = .ok (.iload 4, 2) := by decide +kernel
theorem dL_fan_9 : decode cL_fan 9 = .ok (.iload 5, 2) := by decide +kernel
theorem dL_fan_11 : decode cL_fan 11 = .ok (.iload 6, 2) := by decide +kernel
theorem dL_fan_13 : decode cL_fan 13 = .ok (.invokevirtual 49, 3) := by decide +kernel
theorem dL_fan_16 : decode cL_fan 16 = .ok (.i2l, 1) := by decide +kernel
theorem dL_fan_17 : decode cL_fan 17 = .ok (.lastore, 1) := by decide +kernel
theorem dL_fan_18 : decode cL_fan 18 = .ok (.goto 15, 3) := by decide +kernel
theorem dL_fan_21 : decode cL_fan 21 = .ok (.astore 8, 2) := by decide +kernel
theorem dL_fan_23 : decode cL_fan 23 = .ok (.iconst 1, 1) := by decide +kernel
theorem dL_fan_24 : decode cL_fan 24 = .ok (.ireturn, 1) := by decide +kernel
theorem dL_fan_25 : decode cL_fan 25 = .ok (.astore 8, 2) := by decide +kernel
theorem dL_fan_27 : decode cL_fan 27 = .ok (.iconst 2, 1) := by decide +kernel
theorem dL_fan_28 : decode cL_fan 28 = .ok (.ireturn, 1) := by decide +kernel
theorem dL_fan_29 : decode cL_fan 29 = .ok (.astore 8, 2) := by decide +kernel
theorem dL_fan_31 : decode cL_fan 31 = .ok (.iconst 3, 1) := by decide +kernel
theorem dL_fan_32 : decode cL_fan 32 = .ok (.ireturn, 1) := by decide +kernel
theorem dL_fan_33 : decode cL_fan 33 = .ok (.iconst 0, 1) := by decide +kernel
theorem dL_fan_34 : decode cL_fan 34 = .ok (.ireturn, 1) := by decide +kernel
def f_L_fan : MX := fWr 9 (eLa 7) (gd 7 f_X7_fan) (aI (aI (aI (aI (aI (aI (aA (aN) (eLa 0)) (eLi 1)) (eLi 2)) (eLi 3)) (eLi 4)) (eLi 5)) (eLi 6)) Int32.toInt64 [xI, xA, xS]
theorem k_L_fan (l : Launch) (g : GE) : MetW l g yL_fan cL_fan 9 [(0, 18, 21, 22), (0, 18, 25, 13), (0, 18, 29, 24)] 8 ({ frames := 11, cells := 9, slots := 54, locals := 203 } : Room) f_L_fan :=
  MetW.of (own := RL) (n0 := 6) (p4 := 17) (p6 := 33) rfl (by decide +kernel) (by decide) Y_X7_fan (k_X7_fan l g) rfl w755 w756 w757 dL_fan_13 (Nat.le_of_ble_eq_true rfl) (Nat.le_of_ble_eq_true rfl) rfl rfl
    (fun p e s m args below meth c Fin ad0 => ⟨Ev_aload dL_fan_0, Ev_iconst dL_fan_2 (by decide), Av_i (Av_i (Av_i (Av_i (Av_i (Av_i (Av_a (Av_nil) (Ev_aload_n dL_fan_3 rfl)) (Ev_iload_n dL_fan_4 rfl)) (Ev_iload_n dL_fan_5 rfl)) (Ev_iload_n dL_fan_6 rfl)) (Ev_iload dL_fan_7)) (Ev_iload dL_fan_9)) (Ev_iload dL_fan_11), fun H locs cells slots ls st x hok h => lv_i2l hok.1 hok.2.1 dL_fan_16 rfl h⟩)
    dL_fan_17 dL_fan_18 (by decide) dL_fan_33 dL_fan_34 (List.forall_mem_cons.mpr ⟨⟨[], ⟨0, 18, 21, 22⟩, [⟨0, 18, 25, 13⟩, ⟨0, 18, 29, 24⟩], 1, 8, 23, rfl, (fun _ h => nomatch h), by decide +kernel, by decide, w554, w568, by decide, Or.inl ⟨dL_fan_21, rfl⟩, dL_fan_23, by decide +kernel, dL_fan_24⟩, List.forall_mem_cons.mpr ⟨⟨[⟨0, 18, 21, 22⟩], ⟨0, 18, 25, 13⟩, [⟨0, 18, 29, 24⟩], 2, 8, 27, rfl, List.forall_mem_cons.mpr ⟨⟨by decide, _, w554, by decide +kernel⟩, (fun _ h => nomatch h)⟩, by decide +kernel, by decide, w441, w451, by decide, Or.inl ⟨dL_fan_25, rfl⟩, dL_fan_27, by decide +kernel, dL_fan_28⟩, List.forall_mem_cons.mpr ⟨⟨[⟨0, 18, 21, 22⟩, ⟨0, 18, 25, 13⟩], ⟨0, 18, 29, 24⟩, [], 3, 8, 31, rfl, List.forall_mem_cons.mpr ⟨⟨by decide, _, w554, by decide +kernel⟩, List.forall_mem_cons.mpr ⟨⟨by decide, _, w441, by decide +kernel⟩, (fun _ h => nomatch h)⟩⟩, by decide +kernel, by decide, w555, w599, by decide, Or.inl ⟨dL_fan_29, rfl⟩, dL_fan_31, by decide +kernel, dL_fan_32⟩, (fun _ h => nomatch h)⟩⟩⟩)
theorem Y_L_fan : Yw yL_fan cL_fan 9 [(0, 18, 21, 22), (0, 18, 25, 13), (0, 18, 29, 24)] 8 := ⟨w754, w0, by decide +kernel, by decide +kernel, by decide +kernel⟩
theorem dL_drain_0 : decode cL_drain 0 = .ok (.aload 7, 2) := by decide +kernel
theorem dL_drain_2 : decode cL_drain 2 = .ok (.iconst 0, 1) := by decide +kernel
theorem dL_drain_3 : decode cL_drain 3 = .ok (.aload_n 0, 1) := by decide +kernel
theorem dL_drain_4 : decode cL_drain 4 = .ok (.iload_n 1, 1) := by decide +kernel
theorem dL_drain_5 : decode cL_drain 5 = .ok (.iload_n 2, 1) := by decide +kernel
theorem dL_drain_6 : decode cL_drain 6 = .ok (.iload_n 3, 1) := by decide +kernel
theorem dL_drain_7 : decode cL_drain 7 = .ok (.iload 4, 2) := by decide +kernel
theorem dL_drain_9 : decode cL_drain 9 = .ok (.iload 5, 2) := by decide +kernel
theorem dL_drain_11 : decode cL_drain 11 = .ok (.iload 6, 2) := by decide +kernel
theorem dL_drain_13 : decode cL_drain 13 = .ok (.invokevirtual 53, 3) := by decide +kernel
theorem dL_drain_16 : decode cL_drain 16 = .ok (.i2l, 1) := by decide +kernel
theorem dL_drain_17 : decode cL_drain 17 = .ok (.lastore, 1) := by decide +kernel
theorem dL_drain_18 : decode cL_drain 18 = .ok (.goto 15, 3) := by decide +kernel
theorem dL_drain_21 : decode cL_drain 21 = .ok (.astore 8, 2) := by decide +kernel
theorem dL_drain_23 : decode cL_drain 23 = .ok (.iconst 1, 1) := by decide +kernel
theorem dL_drain_24 : decode cL_drain 24 = .ok (.ireturn, 1) := by decide +kernel
theorem dL_drain_25 : decode cL_drain 25 = .ok (.astore 8, 2) := by decide +kernel
theorem dL_drain_27 : decode cL_drain 27 = .ok (.iconst 2, 1) := by decide +kernel
theorem dL_drain_28 : decode cL_drain 28 = .ok (.ireturn, 1) := by decide +kernel
theorem dL_drain_29 : decode cL_drain 29 = .ok (.astore 8, 2) := by decide +kernel
theorem dL_drain_31 : decode cL_drain 31 = .ok (.iconst 3, 1) := by decide +kernel
theorem dL_drain_32 : decode cL_drain 32 = .ok (.ireturn, 1) := by decide +kernel
theorem dL_drain_33 : decode cL_drain 33 = .ok (.iconst 0, 1) := by decide +kernel
theorem dL_drain_34 : decode cL_drain 34 = .ok (.ireturn, 1) := by decide +kernel
def f_L_drain : MX := fWr 9 (eLa 7) (gd 7 f_X7_drain) (aI (aI (aI (aI (aI (aI (aA (aN) (eLa 0)) (eLi 1)) (eLi 2)) (eLi 3)) (eLi 4)) (eLi 5)) (eLi 6)) Int32.toInt64 [xI, xA, xS]
theorem k_L_drain (l : Launch) (g : GE) : MetW l g yL_drain cL_drain 9 [(0, 18, 21, 22), (0, 18, 25, 13), (0, 18, 29, 24)] 8 ({ frames := 11, cells := 9, slots := 54, locals := 203 } : Room) f_L_drain :=
  MetW.of (own := RL) (n0 := 6) (p4 := 17) (p6 := 33) rfl (by decide +kernel) (by decide) Y_X7_drain (k_X7_drain l g) rfl w762 w763 w764 dL_drain_13 (Nat.le_of_ble_eq_true rfl) (Nat.le_of_ble_eq_true rfl) rfl rfl
    (fun p e s m args below meth c Fin ad0 => ⟨Ev_aload dL_drain_0, Ev_iconst dL_drain_2 (by decide), Av_i (Av_i (Av_i (Av_i (Av_i (Av_i (Av_a (Av_nil) (Ev_aload_n dL_drain_3 rfl)) (Ev_iload_n dL_drain_4 rfl)) (Ev_iload_n dL_drain_5 rfl)) (Ev_iload_n dL_drain_6 rfl)) (Ev_iload dL_drain_7)) (Ev_iload dL_drain_9)) (Ev_iload dL_drain_11), fun H locs cells slots ls st x hok h => lv_i2l hok.1 hok.2.1 dL_drain_16 rfl h⟩)
    dL_drain_17 dL_drain_18 (by decide) dL_drain_33 dL_drain_34 (List.forall_mem_cons.mpr ⟨⟨[], ⟨0, 18, 21, 22⟩, [⟨0, 18, 25, 13⟩, ⟨0, 18, 29, 24⟩], 1, 8, 23, rfl, (fun _ h => nomatch h), by decide +kernel, by decide, w554, w568, by decide, Or.inl ⟨dL_drain_21, rfl⟩, dL_drain_23, by decide +kernel, dL_drain_24⟩, List.forall_mem_cons.mpr ⟨⟨[⟨0, 18, 21, 22⟩], ⟨0, 18, 25, 13⟩, [⟨0, 18, 29, 24⟩], 2, 8, 27, rfl, List.forall_mem_cons.mpr ⟨⟨by decide, _, w554, by decide +kernel⟩, (fun _ h => nomatch h)⟩, by decide +kernel, by decide, w441, w451, by decide, Or.inl ⟨dL_drain_25, rfl⟩, dL_drain_27, by decide +kernel, dL_drain_28⟩, List.forall_mem_cons.mpr ⟨⟨[⟨0, 18, 21, 22⟩, ⟨0, 18, 25, 13⟩], ⟨0, 18, 29, 24⟩, [], 3, 8, 31, rfl, List.forall_mem_cons.mpr ⟨⟨by decide, _, w554, by decide +kernel⟩, List.forall_mem_cons.mpr ⟨⟨by decide, _, w441, by decide +kernel⟩, (fun _ h => nomatch h)⟩⟩, by decide +kernel, by decide, w555, w599, by decide, Or.inl ⟨dL_drain_29, rfl⟩, dL_drain_31, by decide +kernel, dL_drain_32⟩, (fun _ h => nomatch h)⟩⟩⟩)
theorem Y_L_drain : Yw yL_drain cL_drain 9 [(0, 18, 21, 22), (0, 18, 25, 13), (0, 18, 29, 24)] 8 := ⟨w761, w0, by decide +kernel, by decide +kernel, by decide +kernel⟩
theorem dL_drop_0 : decode cL_drop 0 = .ok (.aload_n 2, 1) := by decide +kernel
theorem dL_drop_1 : decode cL_drop 1 = .ok (.iconst 0, 1) := by decide +kernel
theorem dL_drop_2 : decode cL_drop 2 = .ok (.aload_n 0, 1) := by decide +kernel
theorem dL_drop_3 : decode cL_drop 3 = .ok (.iload_n 1, 1) := by decide +kernel
theorem dL_drop_4 : decode cL_drop 4 = .ok (.invokevirtual 56, 3) := by decide +kernel
theorem dL_drop_7 : decode cL_drop 7 = .ok (.i2l, 1) := by decide +kernel
theorem dL_drop_8 : decode cL_drop 8 = .ok (.lastore, 1) := by decide +kernel
theorem dL_drop_9 : decode cL_drop 9 = .ok (.goto 6, 3) := by decide +kernel
theorem dL_drop_12 : decode cL_drop 12 = .ok (.astore_n 3, 1) := by decide +kernel
theorem dL_drop_13 : decode cL_drop 13 = .ok (.iconst 1, 1) := by decide +kernel
theorem dL_drop_14 : decode cL_drop 14 = .ok (.ireturn, 1) := by decide +kernel
theorem dL_drop_15 : decode cL_drop 15 = .ok (.iconst 0, 1) := by decide +kernel
theorem dL_drop_16 : decode cL_drop 16 = .ok (.ireturn, 1) := by decide +kernel
def f_L_drop : MX := fWr 4 (eLa 2) (gd 7 f_X7_drop) (aI (aA (aN) (eLa 0)) (eLi 1)) Int32.toInt64 [xI]
theorem k_L_drop (l : Launch) (g : GE) : MetW l g yL_drop cL_drop 4 [(0, 9, 12, 22)] 3 ({ frames := 8, cells := 1, slots := 6, locals := 124 } : Room) f_L_drop :=
  MetW.of (own := RL) (n0 := 1) (p4 := 8) (p6 := 15) rfl (by decide +kernel) (by decide) Y_X7_drop (k_X7_drop l g) rfl w769 w770 w771 dL_drop_4 (Nat.le_of_ble_eq_true rfl) (Nat.le_of_ble_eq_true rfl) rfl rfl
    (fun p e s m args below meth c Fin ad0 => ⟨Ev_aload_n dL_drop_0 rfl, Ev_iconst dL_drop_1 (by decide), Av_i (Av_a (Av_nil) (Ev_aload_n dL_drop_2 rfl)) (Ev_iload_n dL_drop_3 rfl), fun H locs cells slots ls st x hok h => lv_i2l hok.1 hok.2.1 dL_drop_7 rfl h⟩)
    dL_drop_8 dL_drop_9 (by decide) dL_drop_15 dL_drop_16 (List.forall_mem_cons.mpr ⟨⟨[], ⟨0, 9, 12, 22⟩, [], 1, 3, 13, rfl, (fun _ h => nomatch h), by decide +kernel, by decide, w554, w568, by decide, Or.inr ⟨3, rfl, dL_drop_12, rfl⟩, dL_drop_13, by decide +kernel, dL_drop_14⟩, (fun _ h => nomatch h)⟩)
theorem Y_L_drop : Yw yL_drop cL_drop 4 [(0, 9, 12, 22)] 3 := ⟨w768, w0, by decide +kernel, by decide +kernel, by decide +kernel⟩
theorem dL_type_0 : decode cL_type 0 = .ok (.aload_n 2, 1) := by decide +kernel
theorem dL_type_1 : decode cL_type 1 = .ok (.iconst 0, 1) := by decide +kernel
theorem dL_type_2 : decode cL_type 2 = .ok (.aload_n 0, 1) := by decide +kernel
theorem dL_type_3 : decode cL_type 3 = .ok (.iload_n 1, 1) := by decide +kernel
theorem dL_type_4 : decode cL_type 4 = .ok (.invokevirtual 60, 3) := by decide +kernel
theorem dL_type_7 : decode cL_type 7 = .ok (.i2l, 1) := by decide +kernel
theorem dL_type_8 : decode cL_type 8 = .ok (.lastore, 1) := by decide +kernel
theorem dL_type_9 : decode cL_type 9 = .ok (.goto 9, 3) := by decide +kernel
theorem dL_type_12 : decode cL_type 12 = .ok (.astore_n 3, 1) := by decide +kernel
theorem dL_type_13 : decode cL_type 13 = .ok (.iconst 1, 1) := by decide +kernel
theorem dL_type_14 : decode cL_type 14 = .ok (.ireturn, 1) := by decide +kernel
theorem dL_type_15 : decode cL_type 15 = .ok (.astore_n 3, 1) := by decide +kernel
theorem dL_type_16 : decode cL_type 16 = .ok (.iconst 2, 1) := by decide +kernel
theorem dL_type_17 : decode cL_type 17 = .ok (.ireturn, 1) := by decide +kernel
theorem dL_type_18 : decode cL_type 18 = .ok (.iconst 0, 1) := by decide +kernel
theorem dL_type_19 : decode cL_type 19 = .ok (.ireturn, 1) := by decide +kernel
def f_L_type : MX := fWr 4 (eLa 2) (gd 7 f_X7_type) (aI (aA (aN) (eLa 0)) (eLi 1)) Int32.toInt64 [xA, xS]
theorem k_L_type (l : Launch) (g : GE) : MetW l g yL_type cL_type 4 [(0, 9, 12, 13), (0, 9, 15, 24)] 3 ({ frames := 8, cells := 2, slots := 12, locals := 125 } : Room) f_L_type :=
  MetW.of (own := RL) (n0 := 1) (p4 := 8) (p6 := 18) rfl (by decide +kernel) (by decide) Y_X7_type (k_X7_type l g) rfl w780 w781 w782 dL_type_4 (Nat.le_of_ble_eq_true rfl) (Nat.le_of_ble_eq_true rfl) rfl rfl
    (fun p e s m args below meth c Fin ad0 => ⟨Ev_aload_n dL_type_0 rfl, Ev_iconst dL_type_1 (by decide), Av_i (Av_a (Av_nil) (Ev_aload_n dL_type_2 rfl)) (Ev_iload_n dL_type_3 rfl), fun H locs cells slots ls st x hok h => lv_i2l hok.1 hok.2.1 dL_type_7 rfl h⟩)
    dL_type_8 dL_type_9 (by decide) dL_type_18 dL_type_19 (List.forall_mem_cons.mpr ⟨⟨[], ⟨0, 9, 12, 13⟩, [⟨0, 9, 15, 24⟩], 1, 3, 13, rfl, (fun _ h => nomatch h), by decide +kernel, by decide, w441, w451, by decide, Or.inr ⟨3, rfl, dL_type_12, rfl⟩, dL_type_13, by decide +kernel, dL_type_14⟩, List.forall_mem_cons.mpr ⟨⟨[⟨0, 9, 12, 13⟩], ⟨0, 9, 15, 24⟩, [], 2, 3, 16, rfl, List.forall_mem_cons.mpr ⟨⟨by decide, _, w441, by decide +kernel⟩, (fun _ h => nomatch h)⟩, by decide +kernel, by decide, w555, w599, by decide, Or.inr ⟨3, rfl, dL_type_15, rfl⟩, dL_type_16, by decide +kernel, dL_type_17⟩, (fun _ h => nomatch h)⟩⟩)
theorem Y_L_type : Yw yL_type cL_type 4 [(0, 9, 12, 13), (0, 9, 15, 24)] 3 := ⟨w779, w0, by decide +kernel, by decide +kernel, by decide +kernel⟩
theorem dL_fault_0 : decode cL_fault 0 = .ok (.aload_n 2, 1) := by decide +kernel
theorem dL_fault_1 : decode cL_fault 1 = .ok (.iconst 0, 1) := by decide +kernel
theorem dL_fault_2 : decode cL_fault 2 = .ok (.aload_n 0, 1) := by decide +kernel
theorem dL_fault_3 : decode cL_fault 3 = .ok (.iload_n 1, 1) := by decide +kernel
theorem dL_fault_4 : decode cL_fault 4 = .ok (.invokevirtual 63, 3) := by decide +kernel
theorem dL_fault_7 : decode cL_fault 7 = .ok (.i2l, 1) := by decide +kernel
theorem dL_fault_8 : decode cL_fault 8 = .ok (.lastore, 1) := by decide +kernel
theorem dL_fault_9 : decode cL_fault 9 = .ok (.goto 6, 3) := by decide +kernel
theorem dL_fault_12 : decode cL_fault 12 = .ok (.astore_n 3, 1) := by decide +kernel
theorem dL_fault_13 : decode cL_fault 13 = .ok (.iconst 1, 1) := by decide +kernel
theorem dL_fault_14 : decode cL_fault 14 = .ok (.ireturn, 1) := by decide +kernel
theorem dL_fault_15 : decode cL_fault 15 = .ok (.iconst 0, 1) := by decide +kernel
theorem dL_fault_16 : decode cL_fault 16 = .ok (.ireturn, 1) := by decide +kernel
def f_L_fault : MX := fWr 4 (eLa 2) (gd 7 f_X7_fault) (aI (aA (aN) (eLa 0)) (eLi 1)) Int32.toInt64 [xA]
theorem k_L_fault (l : Launch) (g : GE) : MetW l g yL_fault cL_fault 4 [(0, 9, 12, 13)] 3 ({ frames := 8, cells := 1, slots := 6, locals := 125 } : Room) f_L_fault :=
  MetW.of (own := RL) (n0 := 1) (p4 := 8) (p6 := 15) rfl (by decide +kernel) (by decide) Y_X7_fault (k_X7_fault l g) rfl w787 w788 w789 dL_fault_4 (Nat.le_of_ble_eq_true rfl) (Nat.le_of_ble_eq_true rfl) rfl rfl
    (fun p e s m args below meth c Fin ad0 => ⟨Ev_aload_n dL_fault_0 rfl, Ev_iconst dL_fault_1 (by decide), Av_i (Av_a (Av_nil) (Ev_aload_n dL_fault_2 rfl)) (Ev_iload_n dL_fault_3 rfl), fun H locs cells slots ls st x hok h => lv_i2l hok.1 hok.2.1 dL_fault_7 rfl h⟩)
    dL_fault_8 dL_fault_9 (by decide) dL_fault_15 dL_fault_16 (List.forall_mem_cons.mpr ⟨⟨[], ⟨0, 9, 12, 13⟩, [], 1, 3, 13, rfl, (fun _ h => nomatch h), by decide +kernel, by decide, w441, w451, by decide, Or.inr ⟨3, rfl, dL_fault_12, rfl⟩, dL_fault_13, by decide +kernel, dL_fault_14⟩, (fun _ h => nomatch h)⟩)
theorem Y_L_fault : Yw yL_fault cL_fault 4 [(0, 9, 12, 13)] 3 := ⟨w786, w0, by decide +kernel, by decide +kernel, by decide +kernel⟩
theorem dL_rules_0 : decode cL_rules 0 = .ok (.aload_n 1, 1) := by decide +kernel
theorem dL_rules_1 : decode cL_rules 1 = .ok (.iconst 0, 1) := by decide +kernel
theorem dL_rules_2 : decode cL_rules 2 = .ok (.aload_n 0, 1) := by decide +kernel
theorem dL_rules_3 : decode cL_rules 3 = .ok (.invokevirtual 66, 3) := by decide +kernel
theorem dL_rules_6 : decode cL_rules 6 = .ok (.i2l, 1) := by decide +kernel
theorem dL_rules_7 : decode cL_rules 7 = .ok (.lastore, 1) := by decide +kernel
theorem dL_rules_8 : decode cL_rules 8 = .ok (.goto 6, 3) := by decide +kernel
theorem dL_rules_11 : decode cL_rules 11 = .ok (.astore_n 2, 1) := by decide +kernel
theorem dL_rules_12 : decode cL_rules 12 = .ok (.iconst 1, 1) := by decide +kernel
theorem dL_rules_13 : decode cL_rules 13 = .ok (.ireturn, 1) := by decide +kernel
theorem dL_rules_14 : decode cL_rules 14 = .ok (.iconst 0, 1) := by decide +kernel
theorem dL_rules_15 : decode cL_rules 15 = .ok (.ireturn, 1) := by decide +kernel
def f_L_rules : MX := fWr 3 (eLa 1) (gd 7 f_X7_rules) (aA (aN) (eLa 0)) Int32.toInt64 [xS]
theorem k_L_rules (l : Launch) (g : GE) : MetW l g yL_rules cL_rules 3 [(0, 8, 11, 24)] 2 ({ frames := 8, cells := 1, slots := 6, locals := 122 } : Room) f_L_rules :=
  MetW.of (own := RL) (n0 := 0) (p4 := 7) (p6 := 14) rfl (by decide +kernel) (by decide) Y_X7_rules (k_X7_rules l g) rfl w794 w795 w796 dL_rules_3 (Nat.le_of_ble_eq_true rfl) (Nat.le_of_ble_eq_true rfl) rfl rfl
    (fun p e s m args below meth c Fin ad0 => ⟨Ev_aload_n dL_rules_0 rfl, Ev_iconst dL_rules_1 (by decide), Av_a (Av_nil) (Ev_aload_n dL_rules_2 rfl), fun H locs cells slots ls st x hok h => lv_i2l hok.1 hok.2.1 dL_rules_6 rfl h⟩)
    dL_rules_7 dL_rules_8 (by decide) dL_rules_14 dL_rules_15 (List.forall_mem_cons.mpr ⟨⟨[], ⟨0, 8, 11, 24⟩, [], 1, 2, 12, rfl, (fun _ h => nomatch h), by decide +kernel, by decide, w555, w599, by decide, Or.inr ⟨2, rfl, dL_rules_11, rfl⟩, dL_rules_12, by decide +kernel, dL_rules_13⟩, (fun _ h => nomatch h)⟩)
theorem Y_L_rules : Yw yL_rules cL_rules 3 [(0, 8, 11, 24)] 2 := ⟨w793, w0, by decide +kernel, by decide +kernel, by decide +kernel⟩
theorem dL_becomes_0 : decode cL_becomes 0 = .ok (.aload_n 3, 1) := by decide +kernel
theorem dL_becomes_1 : decode cL_becomes 1 = .ok (.iconst 0, 1) := by decide +kernel
theorem dL_becomes_2 : decode cL_becomes 2 = .ok (.aload_n 0, 1) := by decide +kernel
theorem dL_becomes_3 : decode cL_becomes 3 = .ok (.iload_n 1, 1) := by decide +kernel
theorem dL_becomes_4 : decode cL_becomes 4 = .ok (.iload_n 2, 1) := by decide +kernel
theorem dL_becomes_5 : decode cL_becomes 5 = .ok (.invokevirtual 70, 3) := by decide +kernel
theorem dL_becomes_8 : decode cL_becomes 8 = .ok (.i2l, 1) := by decide +kernel
theorem dL_becomes_9 : decode cL_becomes 9 = .ok (.lastore, 1) := by decide +kernel
theorem dL_becomes_10 : decode cL_becomes 10 = .ok (.goto 7, 3) := by decide +kernel
theorem dL_becomes_13 : decode cL_becomes 13 = .ok (.astore 4, 2) := by decide +kernel
theorem dL_becomes_15 : decode cL_becomes 15 = .ok (.iconst 1, 1) := by decide +kernel
theorem dL_becomes_16 : decode cL_becomes 16 = .ok (.ireturn, 1) := by decide +kernel
theorem dL_becomes_17 : decode cL_becomes 17 = .ok (.iconst 0, 1) := by decide +kernel
theorem dL_becomes_18 : decode cL_becomes 18 = .ok (.ireturn, 1) := by decide +kernel
def f_L_becomes : MX := fWr 5 (eLa 3) (gd 7 f_X7_becomes) (aI (aI (aA (aN) (eLa 0)) (eLi 1)) (eLi 2)) Int32.toInt64 [xA]
theorem k_L_becomes (l : Launch) (g : GE) : MetW l g yL_becomes cL_becomes 5 [(0, 10, 13, 13)] 4 ({ frames := 8, cells := 1, slots := 6, locals := 126 } : Room) f_L_becomes :=
  MetW.of (own := RL) (n0 := 2) (p4 := 9) (p6 := 17) rfl (by decide +kernel) (by decide) Y_X7_becomes (k_X7_becomes l g) rfl w801 w802 w803 dL_becomes_5 (Nat.le_of_ble_eq_true rfl) (Nat.le_of_ble_eq_true rfl) rfl rfl
    (fun p e s m args below meth c Fin ad0 => ⟨Ev_aload_n dL_becomes_0 rfl, Ev_iconst dL_becomes_1 (by decide), Av_i (Av_i (Av_a (Av_nil) (Ev_aload_n dL_becomes_2 rfl)) (Ev_iload_n dL_becomes_3 rfl)) (Ev_iload_n dL_becomes_4 rfl), fun H locs cells slots ls st x hok h => lv_i2l hok.1 hok.2.1 dL_becomes_8 rfl h⟩)
    dL_becomes_9 dL_becomes_10 (by decide) dL_becomes_17 dL_becomes_18 (List.forall_mem_cons.mpr ⟨⟨[], ⟨0, 10, 13, 13⟩, [], 1, 4, 15, rfl, (fun _ h => nomatch h), by decide +kernel, by decide, w441, w451, by decide, Or.inl ⟨dL_becomes_13, rfl⟩, dL_becomes_15, by decide +kernel, dL_becomes_16⟩, (fun _ h => nomatch h)⟩)
theorem Y_L_becomes : Yw yL_becomes cL_becomes 5 [(0, 10, 13, 13)] 4 := ⟨w800, w0, by decide +kernel, by decide +kernel, by decide +kernel⟩
theorem dL_run_0 : decode cL_run 0 = .ok (.aload_n 2, 1) := by decide +kernel
theorem dL_run_1 : decode cL_run 1 = .ok (.iconst 0, 1) := by decide +kernel
theorem dL_run_2 : decode cL_run 2 = .ok (.aload_n 0, 1) := by decide +kernel
theorem dL_run_3 : decode cL_run 3 = .ok (.iload_n 1, 1) := by decide +kernel
theorem dL_run_4 : decode cL_run 4 = .ok (.invokevirtual 74, 3) := by decide +kernel
theorem dL_run_7 : decode cL_run 7 = .ok (.i2l, 1) := by decide +kernel
theorem dL_run_8 : decode cL_run 8 = .ok (.lastore, 1) := by decide +kernel
theorem dL_run_9 : decode cL_run 9 = .ok (.goto 6, 3) := by decide +kernel
theorem dL_run_12 : decode cL_run 12 = .ok (.astore_n 3, 1) := by decide +kernel
theorem dL_run_13 : decode cL_run 13 = .ok (.iconst 1, 1) := by decide +kernel
theorem dL_run_14 : decode cL_run 14 = .ok (.ireturn, 1) := by decide +kernel
theorem dL_run_15 : decode cL_run 15 = .ok (.iconst 0, 1) := by decide +kernel
theorem dL_run_16 : decode cL_run 16 = .ok (.ireturn, 1) := by decide +kernel
def f_L_run : MX := fWr 4 (eLa 2) (gd 7 f_X7_run) (aI (aA (aN) (eLa 0)) (eLi 1)) Int32.toInt64 [xA]
theorem k_L_run (l : Launch) (g : GE) : MetW l g yL_run cL_run 4 [(0, 9, 12, 13)] 3 ({ frames := 8, cells := 1, slots := 6, locals := 152 } : Room) f_L_run :=
  MetW.of (own := RL) (n0 := 1) (p4 := 8) (p6 := 15) rfl (by decide +kernel) (by decide) Y_X7_run (k_X7_run l g) rfl w808 w809 w810 dL_run_4 (Nat.le_of_ble_eq_true rfl) (Nat.le_of_ble_eq_true rfl) rfl rfl
    (fun p e s m args below meth c Fin ad0 => ⟨Ev_aload_n dL_run_0 rfl, Ev_iconst dL_run_1 (by decide), Av_i (Av_a (Av_nil) (Ev_aload_n dL_run_2 rfl)) (Ev_iload_n dL_run_3 rfl), fun H locs cells slots ls st x hok h => lv_i2l hok.1 hok.2.1 dL_run_7 rfl h⟩)
    dL_run_8 dL_run_9 (by decide) dL_run_15 dL_run_16 (List.forall_mem_cons.mpr ⟨⟨[], ⟨0, 9, 12, 13⟩, [], 1, 3, 13, rfl, (fun _ h => nomatch h), by decide +kernel, by decide, w441, w451, by decide, Or.inr ⟨3, rfl, dL_run_12, rfl⟩, dL_run_13, by decide +kernel, dL_run_14⟩, (fun _ h => nomatch h)⟩)
theorem Y_L_run : Yw yL_run cL_run 4 [(0, 9, 12, 13)] 3 := ⟨w807, w0, by decide +kernel, by decide +kernel, by decide +kernel⟩
theorem dL_back_0 : decode cL_back 0 = .ok (.aload_n 2, 1) := by decide +kernel
theorem dL_back_1 : decode cL_back 1 = .ok (.iconst 0, 1) := by decide +kernel
theorem dL_back_2 : decode cL_back 2 = .ok (.aload_n 0, 1) := by decide +kernel
theorem dL_back_3 : decode cL_back 3 = .ok (.iload_n 1, 1) := by decide +kernel
theorem dL_back_4 : decode cL_back 4 = .ok (.invokevirtual 77, 3) := by decide +kernel
theorem dL_back_7 : decode cL_back 7 = .ok (.i2l, 1) := by decide +kernel
theorem dL_back_8 : decode cL_back 8 = .ok (.lastore, 1) := by decide +kernel
theorem dL_back_9 : decode cL_back 9 = .ok (.goto 9, 3) := by decide +kernel
theorem dL_back_12 : decode cL_back 12 = .ok (.astore_n 3, 1) := by decide +kernel
theorem dL_back_13 : decode cL_back 13 = .ok (.iconst 1, 1) := by decide +kernel
theorem dL_back_14 : decode cL_back 14 = .ok (.ireturn, 1) := by decide +kernel
theorem dL_back_15 : decode cL_back 15 = .ok (.astore_n 3, 1) := by decide +kernel
theorem dL_back_16 : decode cL_back 16 = .ok (.iconst 2, 1) := by decide +kernel
theorem dL_back_17 : decode cL_back 17 = .ok (.ireturn, 1) := by decide +kernel
theorem dL_back_18 : decode cL_back 18 = .ok (.iconst 0, 1) := by decide +kernel
theorem dL_back_19 : decode cL_back 19 = .ok (.ireturn, 1) := by decide +kernel
def f_L_back : MX := fWr 4 (eLa 2) (gd 7 f_X7_back) (aI (aA (aN) (eLa 0)) (eLi 1)) Int32.toInt64 [xA, xS]
theorem k_L_back (l : Launch) (g : GE) : MetW l g yL_back cL_back 4 [(0, 9, 12, 13), (0, 9, 15, 24)] 3 ({ frames := 8, cells := 2, slots := 12, locals := 153 } : Room) f_L_back :=
  MetW.of (own := RL) (n0 := 1) (p4 := 8) (p6 := 18) rfl (by decide +kernel) (by decide) Y_X7_back (k_X7_back l g) rfl w904 w905 w906 dL_back_4 (Nat.le_of_ble_eq_true rfl) (Nat.le_of_ble_eq_true rfl) rfl rfl
    (fun p e s m args below meth c Fin ad0 => ⟨Ev_aload_n dL_back_0 rfl, Ev_iconst dL_back_1 (by decide), Av_i (Av_a (Av_nil) (Ev_aload_n dL_back_2 rfl)) (Ev_iload_n dL_back_3 rfl), fun H locs cells slots ls st x hok h => lv_i2l hok.1 hok.2.1 dL_back_7 rfl h⟩)
    dL_back_8 dL_back_9 (by decide) dL_back_18 dL_back_19 (List.forall_mem_cons.mpr ⟨⟨[], ⟨0, 9, 12, 13⟩, [⟨0, 9, 15, 24⟩], 1, 3, 13, rfl, (fun _ h => nomatch h), by decide +kernel, by decide, w441, w451, by decide, Or.inr ⟨3, rfl, dL_back_12, rfl⟩, dL_back_13, by decide +kernel, dL_back_14⟩, List.forall_mem_cons.mpr ⟨⟨[⟨0, 9, 12, 13⟩], ⟨0, 9, 15, 24⟩, [], 2, 3, 16, rfl, List.forall_mem_cons.mpr ⟨⟨by decide, _, w441, by decide +kernel⟩, (fun _ h => nomatch h)⟩, by decide +kernel, by decide, w555, w599, by decide, Or.inr ⟨3, rfl, dL_back_15, rfl⟩, dL_back_16, by decide +kernel, dL_back_17⟩, (fun _ h => nomatch h)⟩⟩)
theorem Y_L_back : Yw yL_back cL_back 4 [(0, 9, 12, 13), (0, 9, 15, 24)] 3 := ⟨w903, w0, by decide +kernel, by decide +kernel, by decide +kernel⟩
theorem dL_cell_0 : decode cL_cell 0 = .ok (.aload_n 3, 1) := by decide +kernel
theorem dL_cell_1 : decode cL_cell 1 = .ok (.iconst 0, 1) := by decide +kernel
theorem dL_cell_2 : decode cL_cell 2 = .ok (.aload_n 0, 1) := by decide +kernel
theorem dL_cell_3 : decode cL_cell 3 = .ok (.iload_n 1, 1) := by decide +kernel
theorem dL_cell_4 : decode cL_cell 4 = .ok (.iload_n 2, 1) := by decide +kernel
theorem dL_cell_5 : decode cL_cell 5 = .ok (.invokevirtual 80, 3) := by decide +kernel
theorem dL_cell_8 : decode cL_cell 8 = .ok (.i2l, 1) := by decide +kernel
theorem dL_cell_9 : decode cL_cell 9 = .ok (.lastore, 1) := by decide +kernel
theorem dL_cell_10 : decode cL_cell 10 = .ok (.goto 7, 3) := by decide +kernel
theorem dL_cell_13 : decode cL_cell 13 = .ok (.astore 4, 2) := by decide +kernel
theorem dL_cell_15 : decode cL_cell 15 = .ok (.iconst 1, 1) := by decide +kernel
theorem dL_cell_16 : decode cL_cell 16 = .ok (.ireturn, 1) := by decide +kernel
theorem dL_cell_17 : decode cL_cell 17 = .ok (.iconst 0, 1) := by decide +kernel
theorem dL_cell_18 : decode cL_cell 18 = .ok (.ireturn, 1) := by decide +kernel
def f_L_cell : MX := fWr 5 (eLa 3) (gd 7 f_X7_cell) (aI (aI (aA (aN) (eLa 0)) (eLi 1)) (eLi 2)) Int32.toInt64 [xI]
theorem k_L_cell (l : Launch) (g : GE) : MetW l g yL_cell cL_cell 5 [(0, 10, 13, 22)] 4 ({ frames := 9, cells := 2, slots := 12, locals := 148 } : Room) f_L_cell :=
  MetW.of (own := RL) (n0 := 2) (p4 := 9) (p6 := 17) rfl (by decide +kernel) (by decide) Y_X7_cell (k_X7_cell l g) rfl w926 w927 w928 dL_cell_5 (Nat.le_of_ble_eq_true rfl) (Nat.le_of_ble_eq_true rfl) rfl rfl
    (fun p e s m args below meth c Fin ad0 => ⟨Ev_aload_n dL_cell_0 rfl, Ev_iconst dL_cell_1 (by decide), Av_i (Av_i (Av_a (Av_nil) (Ev_aload_n dL_cell_2 rfl)) (Ev_iload_n dL_cell_3 rfl)) (Ev_iload_n dL_cell_4 rfl), fun H locs cells slots ls st x hok h => lv_i2l hok.1 hok.2.1 dL_cell_8 rfl h⟩)
    dL_cell_9 dL_cell_10 (by decide) dL_cell_17 dL_cell_18 (List.forall_mem_cons.mpr ⟨⟨[], ⟨0, 10, 13, 22⟩, [], 1, 4, 15, rfl, (fun _ h => nomatch h), by decide +kernel, by decide, w554, w568, by decide, Or.inl ⟨dL_cell_13, rfl⟩, dL_cell_15, by decide +kernel, dL_cell_16⟩, (fun _ h => nomatch h)⟩)
theorem Y_L_cell : Yw yL_cell cL_cell 5 [(0, 10, 13, 22)] 4 := ⟨w925, w0, by decide +kernel, by decide +kernel, by decide +kernel⟩
theorem dL_density_0 : decode cL_density 0 = .ok (.aload 5, 2) := by decide +kernel
theorem dL_density_2 : decode cL_density 2 = .ok (.iconst 0, 1) := by decide +kernel
theorem dL_density_3 : decode cL_density 3 = .ok (.aload_n 0, 1) := by decide +kernel
theorem dL_density_4 : decode cL_density 4 = .ok (.iload_n 1, 1) := by decide +kernel
theorem dL_density_5 : decode cL_density 5 = .ok (.iload_n 2, 1) := by decide +kernel
theorem dL_density_6 : decode cL_density 6 = .ok (.iload_n 3, 1) := by decide +kernel
theorem dL_density_7 : decode cL_density 7 = .ok (.iload 4, 2) := by decide +kernel
theorem dL_density_9 : decode cL_density 9 = .ok (.invokevirtual 83, 3) := by decide +kernel
theorem dL_density_12 : decode cL_density 12 = .ok (.i2l, 1) := by decide +kernel
theorem dL_density_13 : decode cL_density 13 = .ok (.lastore, 1) := by decide +kernel
theorem dL_density_14 : decode cL_density 14 = .ok (.goto 11, 3) := by decide +kernel
theorem dL_density_17 : decode cL_density 17 = .ok (.astore 6, 2) := by decide +kernel
theorem dL_density_19 : decode cL_density 19 = .ok (.iconst 1, 1) := by decide +kernel
theorem dL_density_20 : decode cL_density 20 = .ok (.ireturn, 1) := by decide +kernel
theorem dL_density_21 : decode cL_density 21 = .ok (.astore 6, 2) := by decide +kernel
theorem dL_density_23 : decode cL_density 23 = .ok (.iconst 2, 1) := by decide +kernel
theorem dL_density_24 : decode cL_density 24 = .ok (.ireturn, 1) := by decide +kernel
theorem dL_density_25 : decode cL_density 25 = .ok (.iconst 0, 1) := by decide +kernel
theorem dL_density_26 : decode cL_density 26 = .ok (.ireturn, 1) := by decide +kernel
def f_L_density : MX := fWr 7 (eLa 5) (gd 7 f_X7_density) (aI (aI (aI (aI (aA (aN) (eLa 0)) (eLi 1)) (eLi 2)) (eLi 3)) (eLi 4)) Int32.toInt64 [xI, xA]
theorem k_L_density (l : Launch) (g : GE) : MetW l g yL_density cL_density 7 [(0, 14, 17, 22), (0, 14, 21, 13)] 6 ({ frames := 10, cells := 5, slots := 30, locals := 173 } : Room) f_L_density :=
  MetW.of (own := RL) (n0 := 4) (p4 := 13) (p6 := 25) rfl (by decide +kernel) (by decide) Y_X7_density (k_X7_density l g) rfl w933 w934 w935 dL_density_9 (Nat.le_of_ble_eq_true rfl) (Nat.le_of_ble_eq_true rfl) rfl rfl
    (fun p e s m args below meth c Fin ad0 => ⟨Ev_aload dL_density_0, Ev_iconst dL_density_2 (by decide), Av_i (Av_i (Av_i (Av_i (Av_a (Av_nil) (Ev_aload_n dL_density_3 rfl)) (Ev_iload_n dL_density_4 rfl)) (Ev_iload_n dL_density_5 rfl)) (Ev_iload_n dL_density_6 rfl)) (Ev_iload dL_density_7), fun H locs cells slots ls st x hok h => lv_i2l hok.1 hok.2.1 dL_density_12 rfl h⟩)
    dL_density_13 dL_density_14 (by decide) dL_density_25 dL_density_26 (List.forall_mem_cons.mpr ⟨⟨[], ⟨0, 14, 17, 22⟩, [⟨0, 14, 21, 13⟩], 1, 6, 19, rfl, (fun _ h => nomatch h), by decide +kernel, by decide, w554, w568, by decide, Or.inl ⟨dL_density_17, rfl⟩, dL_density_19, by decide +kernel, dL_density_20⟩, List.forall_mem_cons.mpr ⟨⟨[⟨0, 14, 17, 22⟩], ⟨0, 14, 21, 13⟩, [], 2, 6, 23, rfl, List.forall_mem_cons.mpr ⟨⟨by decide, _, w554, by decide +kernel⟩, (fun _ h => nomatch h)⟩, by decide +kernel, by decide, w441, w451, by decide, Or.inl ⟨dL_density_21, rfl⟩, dL_density_23, by decide +kernel, dL_density_24⟩, (fun _ h => nomatch h)⟩⟩)
theorem Y_L_density : Yw yL_density cL_density 7 [(0, 14, 17, 22), (0, 14, 21, 13)] 6 := ⟨w932, w0, by decide +kernel, by decide +kernel, by decide +kernel⟩
theorem dL_wind_0 : decode cL_wind 0 = .ok (.aload 6, 2) := by decide +kernel
theorem dL_wind_2 : decode cL_wind 2 = .ok (.iconst 0, 1) := by decide +kernel
theorem dL_wind_3 : decode cL_wind 3 = .ok (.aload_n 0, 1) := by decide +kernel
theorem dL_wind_4 : decode cL_wind 4 = .ok (.iload_n 1, 1) := by decide +kernel
theorem dL_wind_5 : decode cL_wind 5 = .ok (.iload_n 2, 1) := by decide +kernel
theorem dL_wind_6 : decode cL_wind 6 = .ok (.iload_n 3, 1) := by decide +kernel
theorem dL_wind_7 : decode cL_wind 7 = .ok (.iload 4, 2) := by decide +kernel
theorem dL_wind_9 : decode cL_wind 9 = .ok (.iload 5, 2) := by decide +kernel
theorem dL_wind_11 : decode cL_wind 11 = .ok (.invokevirtual 86, 3) := by decide +kernel
theorem dL_wind_14 : decode cL_wind 14 = .ok (.i2l, 1) := by decide +kernel
theorem dL_wind_15 : decode cL_wind 15 = .ok (.lastore, 1) := by decide +kernel
theorem dL_wind_16 : decode cL_wind 16 = .ok (.goto 11, 3) := by decide +kernel
theorem dL_wind_19 : decode cL_wind 19 = .ok (.astore 7, 2) := by decide +kernel
theorem dL_wind_21 : decode cL_wind 21 = .ok (.iconst 1, 1) := by decide +kernel
theorem dL_wind_22 : decode cL_wind 22 = .ok (.ireturn, 1) := by decide +kernel
theorem dL_wind_23 : decode cL_wind 23 = .ok (.astore 7, 2) := by decide +kernel
theorem dL_wind_25 : decode cL_wind 25 = .ok (.iconst 2, 1) := by decide +kernel
theorem dL_wind_26 : decode cL_wind 26 = .ok (.ireturn, 1) := by decide +kernel
theorem dL_wind_27 : decode cL_wind 27 = .ok (.iconst 0, 1) := by decide +kernel
theorem dL_wind_28 : decode cL_wind 28 = .ok (.ireturn, 1) := by decide +kernel
def f_L_wind : MX := fWr 8 (eLa 6) (gd 7 f_X7_wind) (aI (aI (aI (aI (aI (aA (aN) (eLa 0)) (eLi 1)) (eLi 2)) (eLi 3)) (eLi 4)) (eLi 5)) Int32.toInt64 [xI, xA]
theorem k_L_wind (l : Launch) (g : GE) : MetW l g yL_wind cL_wind 8 [(0, 16, 19, 22), (0, 16, 23, 13)] 7 ({ frames := 10, cells := 6, slots := 36, locals := 174 } : Room) f_L_wind :=
  MetW.of (own := RL) (n0 := 5) (p4 := 15) (p6 := 27) rfl (by decide +kernel) (by decide) Y_X7_wind (k_X7_wind l g) rfl w944 w945 w946 dL_wind_11 (Nat.le_of_ble_eq_true rfl) (Nat.le_of_ble_eq_true rfl) rfl rfl
    (fun p e s m args below meth c Fin ad0 => ⟨Ev_aload dL_wind_0, Ev_iconst dL_wind_2 (by decide), Av_i (Av_i (Av_i (Av_i (Av_i (Av_a (Av_nil) (Ev_aload_n dL_wind_3 rfl)) (Ev_iload_n dL_wind_4 rfl)) (Ev_iload_n dL_wind_5 rfl)) (Ev_iload_n dL_wind_6 rfl)) (Ev_iload dL_wind_7)) (Ev_iload dL_wind_9), fun H locs cells slots ls st x hok h => lv_i2l hok.1 hok.2.1 dL_wind_14 rfl h⟩)
    dL_wind_15 dL_wind_16 (by decide) dL_wind_27 dL_wind_28 (List.forall_mem_cons.mpr ⟨⟨[], ⟨0, 16, 19, 22⟩, [⟨0, 16, 23, 13⟩], 1, 7, 21, rfl, (fun _ h => nomatch h), by decide +kernel, by decide, w554, w568, by decide, Or.inl ⟨dL_wind_19, rfl⟩, dL_wind_21, by decide +kernel, dL_wind_22⟩, List.forall_mem_cons.mpr ⟨⟨[⟨0, 16, 19, 22⟩], ⟨0, 16, 23, 13⟩, [], 2, 7, 25, rfl, List.forall_mem_cons.mpr ⟨⟨by decide, _, w554, by decide +kernel⟩, (fun _ h => nomatch h)⟩, by decide +kernel, by decide, w441, w451, by decide, Or.inl ⟨dL_wind_23, rfl⟩, dL_wind_25, by decide +kernel, dL_wind_26⟩, (fun _ h => nomatch h)⟩⟩)
theorem Y_L_wind : Yw yL_wind cL_wind 8 [(0, 16, 19, 22), (0, 16, 23, 13)] 7 := ⟨w943, w0, by decide +kernel, by decide +kernel, by decide +kernel⟩
theorem dL_crossed_0 : decode cL_crossed 0 = .ok (.aload_n 2, 1) := by decide +kernel
theorem dL_crossed_1 : decode cL_crossed 1 = .ok (.iconst 0, 1) := by decide +kernel
theorem dL_crossed_2 : decode cL_crossed 2 = .ok (.aload_n 0, 1) := by decide +kernel
theorem dL_crossed_3 : decode cL_crossed 3 = .ok (.iload_n 1, 1) := by decide +kernel
theorem dL_crossed_4 : decode cL_crossed 4 = .ok (.invokevirtual 89, 3) := by decide +kernel
theorem dL_crossed_7 : decode cL_crossed 7 = .ok (.i2l, 1) := by decide +kernel
theorem dL_crossed_8 : decode cL_crossed 8 = .ok (.lastore, 1) := by decide +kernel
theorem dL_crossed_9 : decode cL_crossed 9 = .ok (.goto 6, 3) := by decide +kernel
theorem dL_crossed_12 : decode cL_crossed 12 = .ok (.astore_n 3, 1) := by decide +kernel
theorem dL_crossed_13 : decode cL_crossed 13 = .ok (.iconst 1, 1) := by decide +kernel
theorem dL_crossed_14 : decode cL_crossed 14 = .ok (.ireturn, 1) := by decide +kernel
theorem dL_crossed_15 : decode cL_crossed 15 = .ok (.iconst 0, 1) := by decide +kernel
theorem dL_crossed_16 : decode cL_crossed 16 = .ok (.ireturn, 1) := by decide +kernel
def f_L_crossed : MX := fWr 4 (eLa 2) (gd 7 f_X7_crossed) (aI (aA (aN) (eLa 0)) (eLi 1)) Int32.toInt64 [xI]
theorem k_L_crossed (l : Launch) (g : GE) : MetW l g yL_crossed cL_crossed 4 [(0, 9, 12, 22)] 3 ({ frames := 8, cells := 1, slots := 6, locals := 124 } : Room) f_L_crossed :=
  MetW.of (own := RL) (n0 := 1) (p4 := 8) (p6 := 15) rfl (by decide +kernel) (by decide) Y_X7_crossed (k_X7_crossed l g) rfl w956 w957 w958 dL_crossed_4 (Nat.le_of_ble_eq_true rfl) (Nat.le_of_ble_eq_true rfl) rfl rfl
    (fun p e s m args below meth c Fin ad0 => ⟨Ev_aload_n dL_crossed_0 rfl, Ev_iconst dL_crossed_1 (by decide), Av_i (Av_a (Av_nil) (Ev_aload_n dL_crossed_2 rfl)) (Ev_iload_n dL_crossed_3 rfl), fun H locs cells slots ls st x hok h => lv_i2l hok.1 hok.2.1 dL_crossed_7 rfl h⟩)
    dL_crossed_8 dL_crossed_9 (by decide) dL_crossed_15 dL_crossed_16 (List.forall_mem_cons.mpr ⟨⟨[], ⟨0, 9, 12, 22⟩, [], 1, 3, 13, rfl, (fun _ h => nomatch h), by decide +kernel, by decide, w554, w568, by decide, Or.inr ⟨3, rfl, dL_crossed_12, rfl⟩, dL_crossed_13, by decide +kernel, dL_crossed_14⟩, (fun _ h => nomatch h)⟩)
theorem Y_L_crossed : Yw yL_crossed cL_crossed 4 [(0, 9, 12, 22)] 3 := ⟨w955, w0, by decide +kernel, by decide +kernel, by decide +kernel⟩
theorem dL_gust_0 : decode cL_gust 0 = .ok (.aload_n 3, 1) := by decide +kernel
theorem dL_gust_1 : decode cL_gust 1 = .ok (.iconst 0, 1) := by decide +kernel
theorem dL_gust_2 : decode cL_gust 2 = .ok (.aload_n 0, 1) := by decide +kernel
theorem dL_gust_3 : decode cL_gust 3 = .ok (.iload_n 1, 1) := by decide +kernel
theorem dL_gust_4 : decode cL_gust 4 = .ok (.iload_n 2, 1) := by decide +kernel
theorem dL_gust_5 : decode cL_gust 5 = .ok (.invokevirtual 92, 3) := by decide +kernel
theorem dL_gust_8 : decode cL_gust 8 = .ok (.i2l, 1) := by decide +kernel
theorem dL_gust_9 : decode cL_gust 9 = .ok (.lastore, 1) := by decide +kernel
theorem dL_gust_10 : decode cL_gust 10 = .ok (.goto 11, 3) := by decide +kernel
theorem dL_gust_13 : decode cL_gust 13 = .ok (.astore 4, 2) := by decide +kernel
theorem dL_gust_15 : decode cL_gust 15 = .ok (.iconst 1, 1) := by decide +kernel
theorem dL_gust_16 : decode cL_gust 16 = .ok (.ireturn, 1) := by decide +kernel
theorem dL_gust_17 : decode cL_gust 17 = .ok (.astore 4, 2) := by decide +kernel
theorem dL_gust_19 : decode cL_gust 19 = .ok (.iconst 2, 1) := by decide +kernel
theorem dL_gust_20 : decode cL_gust 20 = .ok (.ireturn, 1) := by decide +kernel
theorem dL_gust_21 : decode cL_gust 21 = .ok (.iconst 0, 1) := by decide +kernel
theorem dL_gust_22 : decode cL_gust 22 = .ok (.ireturn, 1) := by decide +kernel
def f_L_gust : MX := fWr 5 (eLa 3) (gd 7 f_X7_gust) (aI (aI (aA (aN) (eLa 0)) (eLi 1)) (eLi 2)) Int32.toInt64 [xI, xA]
theorem k_L_gust (l : Launch) (g : GE) : MetW l g yL_gust cL_gust 5 [(0, 10, 13, 22), (0, 10, 17, 13)] 4 ({ frames := 8, cells := 2, slots := 12, locals := 126 } : Room) f_L_gust :=
  MetW.of (own := RL) (n0 := 2) (p4 := 9) (p6 := 21) rfl (by decide +kernel) (by decide) Y_X7_gust (k_X7_gust l g) rfl w968 w969 w970 dL_gust_5 (Nat.le_of_ble_eq_true rfl) (Nat.le_of_ble_eq_true rfl) rfl rfl
    (fun p e s m args below meth c Fin ad0 => ⟨Ev_aload_n dL_gust_0 rfl, Ev_iconst dL_gust_1 (by decide), Av_i (Av_i (Av_a (Av_nil) (Ev_aload_n dL_gust_2 rfl)) (Ev_iload_n dL_gust_3 rfl)) (Ev_iload_n dL_gust_4 rfl), fun H locs cells slots ls st x hok h => lv_i2l hok.1 hok.2.1 dL_gust_8 rfl h⟩)
    dL_gust_9 dL_gust_10 (by decide) dL_gust_21 dL_gust_22 (List.forall_mem_cons.mpr ⟨⟨[], ⟨0, 10, 13, 22⟩, [⟨0, 10, 17, 13⟩], 1, 4, 15, rfl, (fun _ h => nomatch h), by decide +kernel, by decide, w554, w568, by decide, Or.inl ⟨dL_gust_13, rfl⟩, dL_gust_15, by decide +kernel, dL_gust_16⟩, List.forall_mem_cons.mpr ⟨⟨[⟨0, 10, 13, 22⟩], ⟨0, 10, 17, 13⟩, [], 2, 4, 19, rfl, List.forall_mem_cons.mpr ⟨⟨by decide, _, w554, by decide +kernel⟩, (fun _ h => nomatch h)⟩, by decide +kernel, by decide, w441, w451, by decide, Or.inl ⟨dL_gust_17, rfl⟩, dL_gust_19, by decide +kernel, dL_gust_20⟩, (fun _ h => nomatch h)⟩⟩)
theorem Y_L_gust : Yw yL_gust cL_gust 5 [(0, 10, 13, 22), (0, 10, 17, 13)] 4 := ⟨w967, w0, by decide +kernel, by decide +kernel, by decide +kernel⟩
theorem dL_body_0 : decode cL_body 0 = .ok (.aload_n 3, 1) := by decide +kernel
theorem dL_body_1 : decode cL_body 1 = .ok (.iconst 0, 1) := by decide +kernel
theorem dL_body_2 : decode cL_body 2 = .ok (.aload_n 0, 1) := by decide +kernel
theorem dL_body_3 : decode cL_body 3 = .ok (.iload_n 1, 1) := by decide +kernel
theorem dL_body_4 : decode cL_body 4 = .ok (.iload_n 2, 1) := by decide +kernel
theorem dL_body_5 : decode cL_body 5 = .ok (.invokevirtual 95, 3) := by decide +kernel
theorem dL_body_8 : decode cL_body 8 = .ok (.i2l, 1) := by decide +kernel
theorem dL_body_9 : decode cL_body 9 = .ok (.lastore, 1) := by decide +kernel
theorem dL_body_10 : decode cL_body 10 = .ok (.goto 11, 3) := by decide +kernel
theorem dL_body_13 : decode cL_body 13 = .ok (.astore 4, 2) := by decide +kernel
theorem dL_body_15 : decode cL_body 15 = .ok (.iconst 1, 1) := by decide +kernel
theorem dL_body_16 : decode cL_body 16 = .ok (.ireturn, 1) := by decide +kernel
theorem dL_body_17 : decode cL_body 17 = .ok (.astore 4, 2) := by decide +kernel
theorem dL_body_19 : decode cL_body 19 = .ok (.iconst 2, 1) := by decide +kernel
theorem dL_body_20 : decode cL_body 20 = .ok (.ireturn, 1) := by decide +kernel
theorem dL_body_21 : decode cL_body 21 = .ok (.iconst 0, 1) := by decide +kernel
theorem dL_body_22 : decode cL_body 22 = .ok (.ireturn, 1) := by decide +kernel
def f_L_body : MX := fWr 5 (eLa 3) (gd 7 f_X7_body) (aI (aI (aA (aN) (eLa 0)) (eLi 1)) (eLi 2)) Int32.toInt64 [xI, xA]
theorem k_L_body (l : Launch) (g : GE) : MetW l g yL_body cL_body 5 [(0, 10, 13, 22), (0, 10, 17, 13)] 4 ({ frames := 9, cells := 2, slots := 12, locals := 145 } : Room) f_L_body :=
  MetW.of (own := RL) (n0 := 2) (p4 := 9) (p6 := 21) rfl (by decide +kernel) (by decide) Y_X7_body (k_X7_body l g) rfl w976 w977 w978 dL_body_5 (Nat.le_of_ble_eq_true rfl) (Nat.le_of_ble_eq_true rfl) rfl rfl
    (fun p e s m args below meth c Fin ad0 => ⟨Ev_aload_n dL_body_0 rfl, Ev_iconst dL_body_1 (by decide), Av_i (Av_i (Av_a (Av_nil) (Ev_aload_n dL_body_2 rfl)) (Ev_iload_n dL_body_3 rfl)) (Ev_iload_n dL_body_4 rfl), fun H locs cells slots ls st x hok h => lv_i2l hok.1 hok.2.1 dL_body_8 rfl h⟩)
    dL_body_9 dL_body_10 (by decide) dL_body_21 dL_body_22 (List.forall_mem_cons.mpr ⟨⟨[], ⟨0, 10, 13, 22⟩, [⟨0, 10, 17, 13⟩], 1, 4, 15, rfl, (fun _ h => nomatch h), by decide +kernel, by decide, w554, w568, by decide, Or.inl ⟨dL_body_13, rfl⟩, dL_body_15, by decide +kernel, dL_body_16⟩, List.forall_mem_cons.mpr ⟨⟨[⟨0, 10, 13, 22⟩], ⟨0, 10, 17, 13⟩, [], 2, 4, 19, rfl, List.forall_mem_cons.mpr ⟨⟨by decide, _, w554, by decide +kernel⟩, (fun _ h => nomatch h)⟩, by decide +kernel, by decide, w441, w451, by decide, Or.inl ⟨dL_body_17, rfl⟩, dL_body_19, by decide +kernel, dL_body_20⟩, (fun _ h => nomatch h)⟩⟩)
theorem Y_L_body : Yw yL_body cL_body 5 [(0, 10, 13, 22), (0, 10, 17, 13)] 4 := ⟨w975, w0, by decide +kernel, by decide +kernel, by decide +kernel⟩
theorem dL_zero_0 : decode cL_zero 0 = .ok (.aload_n 2, 1) := by decide +kernel
theorem dL_zero_1 : decode cL_zero 1 = .ok (.iconst 0, 1) := by decide +kernel
theorem dL_zero_2 : decode cL_zero 2 = .ok (.aload_n 0, 1) := by decide +kernel
theorem dL_zero_3 : decode cL_zero 3 = .ok (.iload_n 1, 1) := by decide +kernel
theorem dL_zero_4 : decode cL_zero 4 = .ok (.invokevirtual 98, 3) := by decide +kernel
theorem dL_zero_7 : decode cL_zero 7 = .ok (.i2l, 1) := by decide +kernel
theorem dL_zero_8 : decode cL_zero 8 = .ok (.lastore, 1) := by decide +kernel
theorem dL_zero_9 : decode cL_zero 9 = .ok (.goto 6, 3) := by decide +kernel
theorem dL_zero_12 : decode cL_zero 12 = .ok (.astore_n 3, 1) := by decide +kernel
theorem dL_zero_13 : decode cL_zero 13 = .ok (.iconst 1, 1) := by decide +kernel
theorem dL_zero_14 : decode cL_zero 14 = .ok (.ireturn, 1) := by decide +kernel
theorem dL_zero_15 : decode cL_zero 15 = .ok (.iconst 0, 1) := by decide +kernel
theorem dL_zero_16 : decode cL_zero 16 = .ok (.ireturn, 1) := by decide +kernel
def f_L_zero : MX := fWr 4 (eLa 2) (gd 7 f_X7_zero) (aI (aA (aN) (eLa 0)) (eLi 1)) Int32.toInt64 [xI]
theorem k_L_zero (l : Launch) (g : GE) : MetW l g yL_zero cL_zero 4 [(0, 9, 12, 22)] 3 ({ frames := 9, cells := 1, slots := 6, locals := 145 } : Room) f_L_zero :=
  MetW.of (own := RL) (n0 := 1) (p4 := 8) (p6 := 15) rfl (by decide +kernel) (by decide) Y_X7_zero (k_X7_zero l g) rfl w987 w988 w989 dL_zero_4 (Nat.le_of_ble_eq_true rfl) (Nat.le_of_ble_eq_true rfl) rfl rfl
    (fun p e s m args below meth c Fin ad0 => ⟨Ev_aload_n dL_zero_0 rfl, Ev_iconst dL_zero_1 (by decide), Av_i (Av_a (Av_nil) (Ev_aload_n dL_zero_2 rfl)) (Ev_iload_n dL_zero_3 rfl), fun H locs cells slots ls st x hok h => lv_i2l hok.1 hok.2.1 dL_zero_7 rfl h⟩)
    dL_zero_8 dL_zero_9 (by decide) dL_zero_15 dL_zero_16 (List.forall_mem_cons.mpr ⟨⟨[], ⟨0, 9, 12, 22⟩, [], 1, 3, 13, rfl, (fun _ h => nomatch h), by decide +kernel, by decide, w554, w568, by decide, Or.inr ⟨3, rfl, dL_zero_12, rfl⟩, dL_zero_13, by decide +kernel, dL_zero_14⟩, (fun _ h => nomatch h)⟩)
theorem Y_L_zero : Yw yL_zero cL_zero 4 [(0, 9, 12, 22)] 3 := ⟨w986, w0, by decide +kernel, by decide +kernel, by decide +kernel⟩
theorem dL_recent_0 : decode cL_recent 0 = .ok (.aload 4, 2) := by decide +kernel
theorem dL_recent_2 : decode cL_recent 2 = .ok (.iconst 0, 1) := by decide +kernel
theorem dL_recent_3 : decode cL_recent 3 = .ok (.aload_n 0, 1) := by decide +kernel
theorem dL_recent_4 : decode cL_recent 4 = .ok (.iload_n 1, 1) := by decide +kernel
theorem dL_recent_5 : decode cL_recent 5 = .ok (.iload_n 2, 1) := by decide +kernel
theorem dL_recent_6 : decode cL_recent 6 = .ok (.iload_n 3, 1) := by decide +kernel
theorem dL_recent_7 : decode cL_recent 7 = .ok (.invokevirtual 101, 3) := by decide +kernel
theorem dL_recent_10 : decode cL_recent 10 = .ok (.i2l, 1) := by decide +kernel
theorem dL_recent_11 : decode cL_recent 11 = .ok (.lastore, 1) := by decide +kernel
theorem dL_recent_12 : decode cL_recent 12 = .ok (.goto 11, 3) := by decide +kernel
theorem dL_recent_15 : decode cL_recent 15 = .ok (.astore 5, 2) := by decide +kernel
theorem dL_recent_17 : decode cL_recent 17 = .ok (.iconst 1, 1) := by decide +kernel
theorem dL_recent_18 : decode cL_recent 18 = .ok (.ireturn, 1) := by decide +kernel
theorem dL_recent_19 : decode cL_recent 19 = .ok (.astore 5, 2) := by decide +kernel
theorem dL_recent_21 : decode cL_recent 21 = .ok (.iconst 2, 1) := by decide +kernel
theorem dL_recent_22 : decode cL_recent 22 = .ok (.ireturn, 1) := by decide +kernel
theorem dL_recent_23 : decode cL_recent 23 = .ok (.iconst 0, 1) := by decide +kernel
theorem dL_recent_24 : decode cL_recent 24 = .ok (.ireturn, 1) := by decide +kernel
def f_L_recent : MX := fWr 6 (eLa 4) (gd 7 f_X7_recent) (aI (aI (aI (aA (aN) (eLa 0)) (eLi 1)) (eLi 2)) (eLi 3)) Int32.toInt64 [xI, xA]
theorem k_L_recent (l : Launch) (g : GE) : MetW l g yL_recent cL_recent 6 [(0, 12, 15, 22), (0, 12, 19, 13)] 5 ({ frames := 9, cells := 3, slots := 18, locals := 146 } : Room) f_L_recent :=
  MetW.of (own := RL) (n0 := 3) (p4 := 11) (p6 := 23) rfl (by decide +kernel) (by decide) Y_X7_recent (k_X7_recent l g) rfl w994 w995 w996 dL_recent_7 (Nat.le_of_ble_eq_true rfl) (Nat.le_of_ble_eq_true rfl) rfl rfl
    (fun p e s m args below meth c Fin ad0 => ⟨Ev_aload dL_recent_0, Ev_iconst dL_recent_2 (by decide), Av_i (Av_i (Av_i (Av_a (Av_nil) (Ev_aload_n dL_recent_3 rfl)) (Ev_iload_n dL_recent_4 rfl)) (Ev_iload_n dL_recent_5 rfl)) (Ev_iload_n dL_recent_6 rfl), fun H locs cells slots ls st x hok h => lv_i2l hok.1 hok.2.1 dL_recent_10 rfl h⟩)
    dL_recent_11 dL_recent_12 (by decide) dL_recent_23 dL_recent_24 (List.forall_mem_cons.mpr ⟨⟨[], ⟨0, 12, 15, 22⟩, [⟨0, 12, 19, 13⟩], 1, 5, 17, rfl, (fun _ h => nomatch h), by decide +kernel, by decide, w554, w568, by decide, Or.inl ⟨dL_recent_15, rfl⟩, dL_recent_17, by decide +kernel, dL_recent_18⟩, List.forall_mem_cons.mpr ⟨⟨[⟨0, 12, 15, 22⟩], ⟨0, 12, 19, 13⟩, [], 2, 5, 21, rfl, List.forall_mem_cons.mpr ⟨⟨by decide, _, w554, by decide +kernel⟩, (fun _ h => nomatch h)⟩, by decide +kernel, by decide, w441, w451, by decide, Or.inl ⟨dL_recent_19, rfl⟩, dL_recent_21, by decide +kernel, dL_recent_22⟩, (fun _ h => nomatch h)⟩⟩)
theorem Y_L_recent : Yw yL_recent cL_recent 6 [(0, 12, 15, 22), (0, 12, 19, 13)] 5 := ⟨w993, w0, by decide +kernel, by decide +kernel, by decide +kernel⟩
theorem dL_steady_0 : decode cL_steady 0 = .ok (.aload 4, 2) := by decide +kernel
theorem dL_steady_2 : decode cL_steady 2 = .ok (.iconst 0, 1) := by decide +kernel
theorem dL_steady_3 : decode cL_steady 3 = .ok (.aload_n 0, 1) := by decide +kernel
theorem dL_steady_4 : decode cL_steady 4 = .ok (.iload_n 1, 1) := by decide +kernel
theorem dL_steady_5 : decode cL_steady 5 = .ok (.iload_n 2, 1) := by decide +kernel
theorem dL_steady_6 : decode cL_steady 6 = .ok (.iload_n 3, 1) := by decide +kernel
theorem dL_steady_7 : decode cL_steady 7 = .ok (.invokevirtual 104, 3) := by decide +kernel
theorem dL_steady_10 : decode cL_steady 10 = .ok (.ifCond .eq 7, 3) := by decide +kernel
theorem dL_steady_13 : decode cL_steady 13 = .ok (.lconst 1, 1) := by decide +kernel
theorem dL_steady_14 : decode cL_steady 14 = .ok (.goto 4, 3) := by decide +kernel
theorem dL_steady_17 : decode cL_steady 17 = .ok (.lconst 0, 1) := by decide +kernel
theorem dL_steady_18 : decode cL_steady 18 = .ok (.lastore, 1) := by decide +kernel
theorem dL_steady_19 : decode cL_steady 19 = .ok (.goto 11, 3) := by decide +kernel
theorem dL_steady_22 : decode cL_steady 22 = .ok (.astore 5, 2) := by decide +kernel
theorem dL_steady_24 : decode cL_steady 24 = .ok (.iconst 1, 1) := by decide +kernel
theorem dL_steady_25 : decode cL_steady 25 = .ok (.ireturn, 1) := by decide +kernel
theorem dL_steady_26 : decode cL_steady 26 = .ok (.astore 5, 2) := by decide +kernel
theorem dL_steady_28 : decode cL_steady 28 = .ok (.iconst 2, 1) := by decide +kernel
theorem dL_steady_29 : decode cL_steady 29 = .ok (.ireturn, 1) := by decide +kernel
theorem dL_steady_30 : decode cL_steady 30 = .ok (.iconst 0, 1) := by decide +kernel
theorem dL_steady_31 : decode cL_steady 31 = .ok (.ireturn, 1) := by decide +kernel
def f_L_steady : MX := fWr 6 (eLa 4) (gd 7 f_X7_steady) (aI (aI (aI (aA (aN) (eLa 0)) (eLi 1)) (eLi 2)) (eLi 3)) cvz [xI, xA]
theorem k_L_steady (l : Launch) (g : GE) : MetW l g yL_steady cL_steady 6 [(0, 19, 22, 22), (0, 19, 26, 13)] 5 ({ frames := 9, cells := 3, slots := 18, locals := 146 } : Room) f_L_steady :=
  MetW.of (own := RL) (n0 := 3) (p4 := 18) (p6 := 30) rfl (by decide +kernel) (by decide) Y_X7_steady (k_X7_steady l g) rfl w1005 w1006 w1007 dL_steady_7 (Nat.le_of_ble_eq_true rfl) (Nat.le_of_ble_eq_true rfl) rfl rfl
    (fun p e s m args below meth c Fin ad0 => ⟨Ev_aload dL_steady_0, Ev_iconst dL_steady_2 (by decide), Av_i (Av_i (Av_i (Av_a (Av_nil) (Ev_aload_n dL_steady_3 rfl)) (Ev_iload_n dL_steady_4 rfl)) (Ev_iload_n dL_steady_5 rfl)) (Ev_iload_n dL_steady_6 rfl), fun H locs cells slots ls st x hok h => lv_if_eq (tgt := 17) hok.1 hok.2.1 dL_steady_10 (by decide) (fun hz => lv_lconst (v := 0) hok.1 hok.2.1 dL_steady_17 (by decide) (by have h9 := h; rw [show cvz x = 0 from if_pos hz] at h9; exact h9)) (fun hz => lv_lconst (v := 1) hok.1 hok.2.1 dL_steady_13 (by decide) (lv_goto (tgt := 18) hok.1 hok.2.1 dL_steady_14 (by decide) (by have h9 := h; rw [show cvz x = 1 from if_neg hz] at h9; exact h9)))⟩)
    dL_steady_18 dL_steady_19 (by decide) dL_steady_30 dL_steady_31 (List.forall_mem_cons.mpr ⟨⟨[], ⟨0, 19, 22, 22⟩, [⟨0, 19, 26, 13⟩], 1, 5, 24, rfl, (fun _ h => nomatch h), by decide +kernel, by decide, w554, w568, by decide, Or.inl ⟨dL_steady_22, rfl⟩, dL_steady_24, by decide +kernel, dL_steady_25⟩, List.forall_mem_cons.mpr ⟨⟨[⟨0, 19, 22, 22⟩], ⟨0, 19, 26, 13⟩, [], 2, 5, 28, rfl, List.forall_mem_cons.mpr ⟨⟨by decide, _, w554, by decide +kernel⟩, (fun _ h => nomatch h)⟩, by decide +kernel, by decide, w441, w451, by decide, Or.inl ⟨dL_steady_26, rfl⟩, dL_steady_28, by decide +kernel, dL_steady_29⟩, (fun _ h => nomatch h)⟩⟩)
theorem Y_L_steady : Yw yL_steady cL_steady 6 [(0, 19, 22, 22), (0, 19, 26, 13)] 5 := ⟨w1004, w0, by decide +kernel, by decide +kernel, by decide +kernel⟩
theorem dL_particles_0 : decode cL_particles 0 = .ok (.aload_n 2, 1) := by decide +kernel
theorem dL_particles_1 : decode cL_particles 1 = .ok (.iconst 0, 1) := by decide +kernel
theorem dL_particles_2 : decode cL_particles 2 = .ok (.aload_n 0, 1) := by decide +kernel
theorem dL_particles_3 : decode cL_particles 3 = .ok (.iload_n 1, 1) := by decide +kernel
theorem dL_particles_4 : decode cL_particles 4 = .ok (.invokevirtual 108, 3) := by decide +kernel
theorem dL_particles_7 : decode cL_particles 7 = .ok (.i2l, 1) := by decide +kernel
theorem dL_particles_8 : decode cL_particles 8 = .ok (.lastore, 1) := by decide +kernel
theorem dL_particles_9 : decode cL_particles 9 = .ok (.goto 6, 3) := by decide +kernel
theorem dL_particles_12 : decode cL_particles 12 = .ok (.astore_n 3, 1) := by decide +kernel
theorem dL_particles_13 : decode cL_particles 13 = .ok (.iconst 1, 1) := by decide +kernel
theorem dL_particles_14 : decode cL_particles 14 = .ok (.ireturn, 1) := by decide +kernel
theorem dL_particles_15 : decode cL_particles 15 = .ok (.iconst 0, 1) := by decide +kernel
theorem dL_particles_16 : decode cL_particles 16 = .ok (.ireturn, 1) := by decide +kernel
def f_L_particles : MX := fWr 4 (eLa 2) (gd 7 f_X7_particles) (aI (aA (aN) (eLa 0)) (eLi 1)) Int32.toInt64 [xA]
theorem k_L_particles (l : Launch) (g : GE) : MetW l g yL_particles cL_particles 4 [(0, 9, 12, 13)] 3 ({ frames := 8, cells := 1, slots := 6, locals := 125 } : Room) f_L_particles :=
  MetW.of (own := RL) (n0 := 1) (p4 := 8) (p6 := 15) rfl (by decide +kernel) (by decide) Y_X7_particles (k_X7_particles l g) rfl w1020 w1021 w1022 dL_particles_4 (Nat.le_of_ble_eq_true rfl) (Nat.le_of_ble_eq_true rfl) rfl rfl
    (fun p e s m args below meth c Fin ad0 => ⟨Ev_aload_n dL_particles_0 rfl, Ev_iconst dL_particles_1 (by decide), Av_i (Av_a (Av_nil) (Ev_aload_n dL_particles_2 rfl)) (Ev_iload_n dL_particles_3 rfl), fun H locs cells slots ls st x hok h => lv_i2l hok.1 hok.2.1 dL_particles_7 rfl h⟩)
    dL_particles_8 dL_particles_9 (by decide) dL_particles_15 dL_particles_16 (List.forall_mem_cons.mpr ⟨⟨[], ⟨0, 9, 12, 13⟩, [], 1, 3, 13, rfl, (fun _ h => nomatch h), by decide +kernel, by decide, w441, w451, by decide, Or.inr ⟨3, rfl, dL_particles_12, rfl⟩, dL_particles_13, by decide +kernel, dL_particles_14⟩, (fun _ h => nomatch h)⟩)
theorem Y_L_particles : Yw yL_particles cL_particles 4 [(0, 9, 12, 13)] 3 := ⟨w1019, w0, by decide +kernel, by decide +kernel, by decide +kernel⟩
theorem dL_momentum_0 : decode cL_momentum 0 = .ok (.aload_n 3, 1) := by decide +kernel
theorem dL_momentum_1 : decode cL_momentum 1 = .ok (.iconst 0, 1) := by decide +kernel
theorem dL_momentum_2 : decode cL_momentum 2 = .ok (.aload_n 0, 1) := by decide +kernel
theorem dL_momentum_3 : decode cL_momentum 3 = .ok (.iload_n 1, 1) := by decide +kernel
theorem dL_momentum_4 : decode cL_momentum 4 = .ok (.iload_n 2, 1) := by decide +kernel
theorem dL_momentum_5 : decode cL_momentum 5 = .ok (.invokevirtual 111, 3) := by decide +kernel
theorem dL_momentum_8 : decode cL_momentum 8 = .ok (.i2l, 1) := by decide +kernel
theorem dL_momentum_9 : decode cL_momentum 9 = .ok (.lastore, 1) := by decide +kernel
theorem dL_momentum_10 : decode cL_momentum 10 = .ok (.goto 7, 3) := by decide +kernel
theorem dL_momentum_13 : decode cL_momentum 13 = .ok (.astore 4, 2) := by decide +kernel
theorem dL_momentum_15 : decode cL_momentum 15 = .ok (.iconst 1, 1) := by decide +kernel
theorem dL_momentum_16 : decode cL_momentum 16 = .ok (.ireturn, 1) := by decide +kernel
theorem dL_momentum_17 : decode cL_momentum 17 = .ok (.iconst 0, 1) := by decide +kernel
theorem dL_momentum_18 : decode cL_momentum 18 = .ok (.ireturn, 1) := by decide +kernel
def f_L_momentum : MX := fWr 5 (eLa 3) (gd 7 f_X7_momentum) (aI (aI (aA (aN) (eLa 0)) (eLi 1)) (eLi 2)) Int32.toInt64 [xA]
theorem k_L_momentum (l : Launch) (g : GE) : MetW l g yL_momentum cL_momentum 5 [(0, 10, 13, 13)] 4 ({ frames := 8, cells := 2, slots := 12, locals := 126 } : Room) f_L_momentum :=
  MetW.of (own := RL) (n0 := 2) (p4 := 9) (p6 := 17) rfl (by decide +kernel) (by decide) Y_X7_momentum (k_X7_momentum l g) rfl w1027 w1028 w1029 dL_momentum_5 (Nat.le_of_ble_eq_true rfl) (Nat.le_of_ble_eq_true rfl) rfl rfl
    (fun p e s m args below meth c Fin ad0 => ⟨Ev_aload_n dL_momentum_0 rfl, Ev_iconst dL_momentum_1 (by decide), Av_i (Av_i (Av_a (Av_nil) (Ev_aload_n dL_momentum_2 rfl)) (Ev_iload_n dL_momentum_3 rfl)) (Ev_iload_n dL_momentum_4 rfl), fun H locs cells slots ls st x hok h => lv_i2l hok.1 hok.2.1 dL_momentum_8 rfl h⟩)
    dL_momentum_9 dL_momentum_10 (by decide) dL_momentum_17 dL_momentum_18 (List.forall_mem_cons.mpr ⟨⟨[], ⟨0, 10, 13, 13⟩, [], 1, 4, 15, rfl, (fun _ h => nomatch h), by decide +kernel, by decide, w441, w451, by decide, Or.inl ⟨dL_momentum_13, rfl⟩, dL_momentum_15, by decide +kernel, dL_momentum_16⟩, (fun _ h => nomatch h)⟩)
theorem Y_L_momentum : Yw yL_momentum cL_momentum 5 [(0, 10, 13, 13)] 4 := ⟨w1026, w0, by decide +kernel, by decide +kernel, by decide +kernel⟩
theorem dL_count_0 : decode cL_count 0 = .ok (.aload_n 2, 1) := by decide +kernel
theorem dL_count_1 : decode cL_count 1 = .ok (.iconst 0, 1) := by decide +kernel
theorem dL_count_2 : decode cL_count 2 = .ok (.aload_n 0, 1) := by decide +kernel
theorem dL_count_3 : decode cL_count 3 = .ok (.iload_n 1, 1) := by decide +kernel
theorem dL_count_4 : decode cL_count 4 = .ok (.invokevirtual 114, 3) := by decide +kernel
theorem dL_count_7 : decode cL_count 7 = .ok (.i2l, 1) := by decide +kernel
theorem dL_count_8 : decode cL_count 8 = .ok (.lastore, 1) := by decide +kernel
theorem dL_count_9 : decode cL_count 9 = .ok (.goto 6, 3) := by decide +kernel
theorem dL_count_12 : decode cL_count 12 = .ok (.astore_n 3, 1) := by decide +kernel
theorem dL_count_13 : decode cL_count 13 = .ok (.iconst 1, 1) := by decide +kernel
theorem dL_count_14 : decode cL_count 14 = .ok (.ireturn, 1) := by decide +kernel
theorem dL_count_15 : decode cL_count 15 = .ok (.iconst 0, 1) := by decide +kernel
theorem dL_count_16 : decode cL_count 16 = .ok (.ireturn, 1) := by decide +kernel
def f_L_count : MX := fWr 4 (eLa 2) (gd 7 f_X7_count) (aI (aA (aN) (eLa 0)) (eLi 1)) Int32.toInt64 [xA]
theorem k_L_count (l : Launch) (g : GE) : MetW l g yL_count cL_count 4 [(0, 9, 12, 13)] 3 ({ frames := 8, cells := 1, slots := 6, locals := 125 } : Room) f_L_count :=
  MetW.of (own := RL) (n0 := 1) (p4 := 8) (p6 := 15) rfl (by decide +kernel) (by decide) Y_X7_count (k_X7_count l g) rfl w1034 w1035 w1036 dL_count_4 (Nat.le_of_ble_eq_true rfl) (Nat.le_of_ble_eq_true rfl) rfl rfl
    (fun p e s m args below meth c Fin ad0 => ⟨Ev_aload_n dL_count_0 rfl, Ev_iconst dL_count_1 (by decide), Av_i (Av_a (Av_nil) (Ev_aload_n dL_count_2 rfl)) (Ev_iload_n dL_count_3 rfl), fun H locs cells slots ls st x hok h => lv_i2l hok.1 hok.2.1 dL_count_7 rfl h⟩)
    dL_count_8 dL_count_9 (by decide) dL_count_15 dL_count_16 (List.forall_mem_cons.mpr ⟨⟨[], ⟨0, 9, 12, 13⟩, [], 1, 3, 13, rfl, (fun _ h => nomatch h), by decide +kernel, by decide, w441, w451, by decide, Or.inr ⟨3, rfl, dL_count_12, rfl⟩, dL_count_13, by decide +kernel, dL_count_14⟩, (fun _ h => nomatch h)⟩)
theorem Y_L_count : Yw yL_count cL_count 4 [(0, 9, 12, 13)] 3 := ⟨w1033, w0, by decide +kernel, by decide +kernel, by decide +kernel⟩
theorem dL_ahead_0 : decode cL_ahead 0 = .ok (.aload 4, 2) := by decide +kernel
theorem dL_ahead_2 : decode cL_ahead 2 = .ok (.iconst 0, 1) := by decide +kernel
theorem dL_ahead_3 : decode cL_ahead 3 = .ok (.aload_n 0, 1) := by decide +kernel
theorem dL_ahead_4 : decode cL_ahead 4 = .ok (.iload_n 1, 1) := by decide +kernel
theorem dL_ahead_5 : decode cL_ahead 5 = .ok (.iload_n 2, 1) := by decide +kernel
theorem dL_ahead_6 : decode cL_ahead 6 = .ok (.iload_n 3, 1) := by decide +kernel
theorem dL_ahead_7 : decode cL_ahead 7 = .ok (.invokevirtual 117, 3) := by decide +kernel
theorem dL_ahead_10 : decode cL_ahead 10 = .ok (.i2l, 1) := by decide +kernel
theorem dL_ahead_11 : decode cL_ahead 11 = .ok (.lastore, 1) := by decide +kernel
theorem dL_ahead_12 : decode cL_ahead 12 = .ok (.goto 11, 3) := by decide +kernel
theorem dL_ahead_15 : decode cL_ahead 15 = .ok (.astore 5, 2) := by decide +kernel
theorem dL_ahead_17 : decode cL_ahead 17 = .ok (.iconst 1, 1) := by decide +kernel
theorem dL_ahead_18 : decode cL_ahead 18 = .ok (.ireturn, 1) := by decide +kernel
theorem dL_ahead_19 : decode cL_ahead 19 = .ok (.astore 5, 2) := by decide +kernel
theorem dL_ahead_21 : decode cL_ahead 21 = .ok (.iconst 2, 1) := by decide +kernel
theorem dL_ahead_22 : decode cL_ahead 22 = .ok (.ireturn, 1) := by decide +kernel
theorem dL_ahead_23 : decode cL_ahead 23 = .ok (.iconst 0, 1) := by decide +kernel
theorem dL_ahead_24 : decode cL_ahead 24 = .ok (.ireturn, 1) := by decide +kernel
def f_L_ahead : MX := fWr 6 (eLa 4) (gd 7 f_X7_ahead) (aI (aI (aI (aA (aN) (eLa 0)) (eLi 1)) (eLi 2)) (eLi 3)) Int32.toInt64 [xI, xA]
theorem k_L_ahead (l : Launch) (g : GE) : MetW l g yL_ahead cL_ahead 6 [(0, 12, 15, 22), (0, 12, 19, 13)] 5 ({ frames := 9, cells := 3, slots := 18, locals := 178 } : Room) f_L_ahead :=
  MetW.of (own := RL) (n0 := 3) (p4 := 11) (p6 := 23) rfl (by decide +kernel) (by decide) Y_X7_ahead (k_X7_ahead l g) rfl w1045 w1046 w1047 dL_ahead_7 (Nat.le_of_ble_eq_true rfl) (Nat.le_of_ble_eq_true rfl) rfl rfl
    (fun p e s m args below meth c Fin ad0 => ⟨Ev_aload dL_ahead_0, Ev_iconst dL_ahead_2 (by decide), Av_i (Av_i (Av_i (Av_a (Av_nil) (Ev_aload_n dL_ahead_3 rfl)) (Ev_iload_n dL_ahead_4 rfl)) (Ev_iload_n dL_ahead_5 rfl)) (Ev_iload_n dL_ahead_6 rfl), fun H locs cells slots ls st x hok h => lv_i2l hok.1 hok.2.1 dL_ahead_10 rfl h⟩)
    dL_ahead_11 dL_ahead_12 (by decide) dL_ahead_23 dL_ahead_24 (List.forall_mem_cons.mpr ⟨⟨[], ⟨0, 12, 15, 22⟩, [⟨0, 12, 19, 13⟩], 1, 5, 17, rfl, (fun _ h => nomatch h), by decide +kernel, by decide, w554, w568, by decide, Or.inl ⟨dL_ahead_15, rfl⟩, dL_ahead_17, by decide +kernel, dL_ahead_18⟩, List.forall_mem_cons.mpr ⟨⟨[⟨0, 12, 15, 22⟩], ⟨0, 12, 19, 13⟩, [], 2, 5, 21, rfl, List.forall_mem_cons.mpr ⟨⟨by decide, _, w554, by decide +kernel⟩, (fun _ h => nomatch h)⟩, by decide +kernel, by decide, w441, w451, by decide, Or.inl ⟨dL_ahead_19, rfl⟩, dL_ahead_21, by decide +kernel, dL_ahead_22⟩, (fun _ h => nomatch h)⟩⟩)
theorem Y_L_ahead : Yw yL_ahead cL_ahead 6 [(0, 12, 15, 22), (0, 12, 19, 13)] 5 := ⟨w1044, w0, by decide +kernel, by decide +kernel, by decide +kernel⟩
theorem dL_cycle_0 : decode cL_cycle 0 = .ok (.aload_n 3, 1) := by decide +kernel
theorem dL_cycle_1 : decode cL_cycle 1 = .ok (.iconst 0, 1) := by decide +kernel
theorem dL_cycle_2 : decode cL_cycle 2 = .ok (.aload_n 0, 1) := by decide +kernel
theorem dL_cycle_3 : decode cL_cycle 3 = .ok (.iload_n 1, 1) := by decide +kernel
theorem dL_cycle_4 : decode cL_cycle 4 = .ok (.iload_n 2, 1) := by decide +kernel
theorem dL_cycle_5 : decode cL_cycle 5 = .ok (.invokevirtual 120, 3) := by decide +kernel
theorem dL_cycle_8 : decode cL_cycle 8 = .ok (.i2l, 1) := by decide +kernel
theorem dL_cycle_9 : decode cL_cycle 9 = .ok (.lastore, 1) := by decide +kernel
theorem dL_cycle_10 : decode cL_cycle 10 = .ok (.goto 7, 3) := by decide +kernel
theorem dL_cycle_13 : decode cL_cycle 13 = .ok (.astore 4, 2) := by decide +kernel
theorem dL_cycle_15 : decode cL_cycle 15 = .ok (.iconst 1, 1) := by decide +kernel
theorem dL_cycle_16 : decode cL_cycle 16 = .ok (.ireturn, 1) := by decide +kernel
theorem dL_cycle_17 : decode cL_cycle 17 = .ok (.iconst 0, 1) := by decide +kernel
theorem dL_cycle_18 : decode cL_cycle 18 = .ok (.ireturn, 1) := by decide +kernel
def f_L_cycle : MX := fWr 5 (eLa 3) (gd 7 f_X7_cycle) (aI (aI (aA (aN) (eLa 0)) (eLi 1)) (eLi 2)) Int32.toInt64 [xA]
theorem k_L_cycle (l : Launch) (g : GE) : MetW l g yL_cycle cL_cycle 5 [(0, 10, 13, 13)] 4 ({ frames := 8, cells := 2, slots := 12, locals := 178 } : Room) f_L_cycle :=
  MetW.of (own := RL) (n0 := 2) (p4 := 9) (p6 := 17) rfl (by decide +kernel) (by decide) Y_X7_cycle (k_X7_cycle l g) rfl w1056 w1057 w1058 dL_cycle_5 (Nat.le_of_ble_eq_true rfl) (Nat.le_of_ble_eq_true rfl) rfl rfl
    (fun p e s m args below meth c Fin ad0 => ⟨Ev_aload_n dL_cycle_0 rfl, Ev_iconst dL_cycle_1 (by decide), Av_i (Av_i (Av_a (Av_nil) (Ev_aload_n dL_cycle_2 rfl)) (Ev_iload_n dL_cycle_3 rfl)) (Ev_iload_n dL_cycle_4 rfl), fun H locs cells slots ls st x hok h => lv_i2l hok.1 hok.2.1 dL_cycle_8 rfl h⟩)
    dL_cycle_9 dL_cycle_10 (by decide) dL_cycle_17 dL_cycle_18 (List.forall_mem_cons.mpr ⟨⟨[], ⟨0, 10, 13, 13⟩, [], 1, 4, 15, rfl, (fun _ h => nomatch h), by decide +kernel, by decide, w441, w451, by decide, Or.inl ⟨dL_cycle_13, rfl⟩, dL_cycle_15, by decide +kernel, dL_cycle_16⟩, (fun _ h => nomatch h)⟩)
theorem Y_L_cycle : Yw yL_cycle cL_cycle 5 [(0, 10, 13, 13)] 4 := ⟨w1055, w0, by decide +kernel, by decide +kernel, by decide +kernel⟩
theorem dL_settles_0 : decode cL_settles 0 = .ok (.aload 5, 2) := by decide +kernel
theorem dL_settles_2 : decode cL_settles 2 = .ok (.iconst 0, 1) := by decide +kernel
theorem dL_settles_3 : decode cL_settles 3 = .ok (.aload_n 0, 1) := by decide +kernel
theorem dL_settles_4 : decode cL_settles 4 = .ok (.iload_n 1, 1) := by decide +kernel
theorem dL_settles_5 : decode cL_settles 5 = .ok (.iload_n 2, 1) := by decide +kernel
theorem dL_settles_6 : decode cL_settles 6 = .ok (.iload_n 3, 1) := by decide +kernel
theorem dL_settles_7 : decode cL_settles 7 = .ok (.iload 4, 2) := by decide +kernel
theorem dL_settles_9 : decode cL_settles 9 = .ok (.invokevirtual 123, 3) := by decide +kernel
theorem dL_settles_12 : decode cL_settles 12 = .ok (.i2l, 1) := by decide +kernel
theorem dL_settles_13 : decode cL_settles 13 = .ok (.lastore, 1) := by decide +kernel
theorem dL_settles_14 : decode cL_settles 14 = .ok (.goto 11, 3) := by decide +kernel
theorem dL_settles_17 : decode cL_settles 17 = .ok (.astore 6, 2) := by decide +kernel
theorem dL_settles_19 : decode cL_settles 19 = .ok (.iconst 1, 1) := by decide +kernel
theorem dL_settles_20 : decode cL_settles 20 = .ok (.ireturn, 1) := by decide +kernel
theorem dL_settles_21 : decode cL_settles 21 = .ok (.astore 6, 2) := by decide +kernel
theorem dL_settles_23 : decode cL_settles 23 = .ok (.iconst 2, 1) := by decide +kernel
theorem dL_settles_24 : decode cL_settles 24 = .ok (.ireturn, 1) := by decide +kernel
theorem dL_settles_25 : decode cL_settles 25 = .ok (.iconst 0, 1) := by decide +kernel
theorem dL_settles_26 : decode cL_settles 26 = .ok (.ireturn, 1) := by decide +kernel
def f_L_settles : MX := fWr 7 (eLa 5) (gd 7 f_X7_settles) (aI (aI (aI (aI (aA (aN) (eLa 0)) (eLi 1)) (eLi 2)) (eLi 3)) (eLi 4)) Int32.toInt64 [xI, xA]
theorem k_L_settles (l : Launch) (g : GE) : MetW l g yL_settles cL_settles 7 [(0, 14, 17, 22), (0, 14, 21, 13)] 6 ({ frames := 9, cells := 4, slots := 24, locals := 155 } : Room) f_L_settles :=
  MetW.of (own := RL) (n0 := 4) (p4 := 13) (p6 := 25) rfl (by decide +kernel) (by decide) Y_X7_settles (k_X7_settles l g) rfl w1084 w1085 w1086 dL_settles_9 (Nat.le_of_ble_eq_true rfl) (Nat.le_of_ble_eq_true rfl) rfl rfl
    (fun p e s m args below meth c Fin ad0 => ⟨Ev_aload dL_settles_0, Ev_iconst dL_settles_2 (by decide), Av_i (Av_i (Av_i (Av_i (Av_a (Av_nil) (Ev_aload_n dL_settles_3 rfl)) (Ev_iload_n dL_settles_4 rfl)) (Ev_iload_n dL_settles_5 rfl)) (Ev_iload_n dL_settles_6 rfl)) (Ev_iload dL_settles_7), fun H locs cells slots ls st x hok h => lv_i2l hok.1 hok.2.1 dL_settles_12 rfl h⟩)
    dL_settles_13 dL_settles_14 (by decide) dL_settles_25 dL_settles_26 (List.forall_mem_cons.mpr ⟨⟨[], ⟨0, 14, 17, 22⟩, [⟨0, 14, 21, 13⟩], 1, 6, 19, rfl, (fun _ h => nomatch h), by decide +kernel, by decide, w554, w568, by decide, Or.inl ⟨dL_settles_17, rfl⟩, dL_settles_19, by decide +kernel, dL_settles_20⟩, List.forall_mem_cons.mpr ⟨⟨[⟨0, 14, 17, 22⟩], ⟨0, 14, 21, 13⟩, [], 2, 6, 23, rfl, List.forall_mem_cons.mpr ⟨⟨by decide, _, w554, by decide +kernel⟩, (fun _ h => nomatch h)⟩, by decide +kernel, by decide, w441, w451, by decide, Or.inl ⟨dL_settles_21, rfl⟩, dL_settles_23, by decide +kernel, dL_settles_24⟩, (fun _ h => nomatch h)⟩⟩)
theorem Y_L_settles : Yw yL_settles cL_settles 7 [(0, 14, 17, 22), (0, 14, 21, 13)] 6 := ⟨w1083, w0, by decide +kernel, by decide +kernel, by decide +kernel⟩
theorem dL_bestShift_0 : decode cL_bestShift 0 = .ok (.aload_n 3, 1) := by decide +kernel
theorem dL_bestShift_1 : decode cL_bestShift 1 = .ok (.iconst 0, 1) := by decide +kernel
theorem dL_bestShift_2 : decode cL_bestShift 2 = .ok (.aload_n 0, 1) := by decide +kernel
theorem dL_bestShift_3 : decode cL_bestShift 3 = .ok (.iload_n 1, 1) := by decide +kernel
theorem dL_bestShift_4 : decode cL_bestShift 4 = .ok (.iload_n 2, 1) := by decide +kernel
theorem dL_bestShift_5 : decode cL_bestShift 5 = .ok (.invokevirtual 126, 3) := by decide +kernel
theorem dL_bestShift_8 : decode cL_bestShift 8 = .ok (.i2l, 1) := by decide +kernel
theorem dL_bestShift_9 : decode cL_bestShift 9 = .ok (.lastore, 1) := by decide +kernel
theorem dL_bestShift_10 : decode cL_bestShift 10 = .ok (.goto 15, 3) := by decide +kernel
theorem dL_bestShift_13 : decode cL_bestShift 13 = .ok (.astore 4, 2) := by decide +kernel
theorem dL_bestShift_15 : decode cL_bestShift 15 = .ok (.iconst 1, 1) := by decide +kernel
theorem dL_bestShift_16 : decode cL_bestShift 16 = .ok (.ireturn, 1) := by decide +kernel
theorem dL_bestShift_17 : decode cL_bestShift 17 = .ok (.astore 4, 2) := by decide +kernel
theorem dL_bestShift_19 : decode cL_bestShift 19 = .ok (.iconst 2, 1) := by decide +kernel
theorem dL_bestShift_20 : decode cL_bestShift 20 = .ok (.ireturn, 1) := by decide +kernel
theorem dL_bestShift_21 : decode cL_bestShift 21 = .ok (.astore 4, 2) := by decide +kernel
theorem dL_bestShift_23 : decode cL_bestShift 23 = .ok (.iconst 3, 1) := by decide +kernel
theorem dL_bestShift_24 : decode cL_bestShift 24 = .ok (.ireturn, 1) := by decide +kernel
theorem dL_bestShift_25 : decode cL_bestShift 25 = .ok (.iconst 0, 1) := by decide +kernel
theorem dL_bestShift_26 : decode cL_bestShift 26 = .ok (.ireturn, 1) := by decide +kernel
def f_L_bestShift : MX := fWr 5 (eLa 3) (gd 7 f_X7_bestShift) (aI (aI (aA (aN) (eLa 0)) (eLi 1)) (eLi 2)) Int32.toInt64 [xI, xA, xS]
theorem k_L_bestShift (l : Launch) (g : GE) : MetW l g yL_bestShift cL_bestShift 5 [(0, 10, 13, 22), (0, 10, 17, 13), (0, 10, 21, 24)] 4 ({ frames := 9, cells := 3, slots := 18, locals := 184 } : Room) f_L_bestShift :=
  MetW.of (own := RL) (n0 := 2) (p4 := 9) (p6 := 25) rfl (by decide +kernel) (by decide) Y_X7_bestShift (k_X7_bestShift l g) rfl w1091 w1092 w1093 dL_bestShift_5 (Nat.le_of_ble_eq_true rfl) (Nat.le_of_ble_eq_true rfl) rfl rfl
    (fun p e s m args below meth c Fin ad0 => ⟨Ev_aload_n dL_bestShift_0 rfl, Ev_iconst dL_bestShift_1 (by decide), Av_i (Av_i (Av_a (Av_nil) (Ev_aload_n dL_bestShift_2 rfl)) (Ev_iload_n dL_bestShift_3 rfl)) (Ev_iload_n dL_bestShift_4 rfl), fun H locs cells slots ls st x hok h => lv_i2l hok.1 hok.2.1 dL_bestShift_8 rfl h⟩)
    dL_bestShift_9 dL_bestShift_10 (by decide) dL_bestShift_25 dL_bestShift_26 (List.forall_mem_cons.mpr ⟨⟨[], ⟨0, 10, 13, 22⟩, [⟨0, 10, 17, 13⟩, ⟨0, 10, 21, 24⟩], 1, 4, 15, rfl, (fun _ h => nomatch h), by decide +kernel, by decide, w554, w568, by decide, Or.inl ⟨dL_bestShift_13, rfl⟩, dL_bestShift_15, by decide +kernel, dL_bestShift_16⟩, List.forall_mem_cons.mpr ⟨⟨[⟨0, 10, 13, 22⟩], ⟨0, 10, 17, 13⟩, [⟨0, 10, 21, 24⟩], 2, 4, 19, rfl, List.forall_mem_cons.mpr ⟨⟨by decide, _, w554, by decide +kernel⟩, (fun _ h => nomatch h)⟩, by decide +kernel, by decide, w441, w451, by decide, Or.inl ⟨dL_bestShift_17, rfl⟩, dL_bestShift_19, by decide +kernel, dL_bestShift_20⟩, List.forall_mem_cons.mpr ⟨⟨[⟨0, 10, 13, 22⟩, ⟨0, 10, 17, 13⟩], ⟨0, 10, 21, 24⟩, [], 3, 4, 23, rfl, List.forall_mem_cons.mpr ⟨⟨by decide, _, w554, by decide +kernel⟩, List.forall_mem_cons.mpr ⟨⟨by decide, _, w441, by decide +kernel⟩, (fun _ h => nomatch h)⟩⟩, by decide +kernel, by decide, w555, w599, by decide, Or.inl ⟨dL_bestShift_21, rfl⟩, dL_bestShift_23, by decide +kernel, dL_bestShift_24⟩, (fun _ h => nomatch h)⟩⟩⟩)
theorem Y_L_bestShift : Yw yL_bestShift cL_bestShift 5 [(0, 10, 13, 22), (0, 10, 17, 13), (0, 10, 21, 24)] 4 := ⟨w1090, w0, by decide +kernel, by decide +kernel, by decide +kernel⟩
theorem dL_bestStart_0 : decode cL_bestStart 0 = .ok (.aload 4, 2) := by decide +kernel
theorem dL_bestStart_2 : decode cL_bestStart 2 = .ok (.iconst 0, 1) := by decide +kernel
theorem dL_bestStart_3 : decode cL_bestStart 3 = .ok (.aload_n 0, 1) := by decide +kernel
theorem dL_bestStart_4 : decode cL_bestStart 4 = .ok (.iload_n 1, 1) := by decide +kernel
theorem dL_bestStart_5 : decode cL_bestStart 5 = .ok (.iload_n 2, 1) := by decide +kernel
theorem dL_bestStart_6 : decode cL_bestStart 6 = .ok (.iload_n 3, 1) := by decide +kernel
theorem dL_bestStart_7 : decode cL_bestStart 7 = .ok (.invokevirtual 129, 3) := by decide +kernel
theorem dL_bestStart_10 : decode cL_bestStart 10 = .ok (.i2l, 1) := by decide +kernel
theorem dL_bestStart_11 : decode cL_bestStart 11 = .ok (.lastore, 1) := by decide +kernel
theorem dL_bestStart_12 : decode cL_bestStart 12 = .ok (.goto 11, 3) := by decide +kernel
theorem dL_bestStart_15 : decode cL_bestStart 15 = .ok (.astore 5, 2) := by decide +kernel
theorem dL_bestStart_17 : decode cL_bestStart 17 = .ok (.iconst 1, 1) := by decide +kernel
theorem dL_bestStart_18 : decode cL_bestStart 18 = .ok (.ireturn, 1) := by decide +kernel
theorem dL_bestStart_19 : decode cL_bestStart 19 = .ok (.astore 5, 2) := by decide +kernel
theorem dL_bestStart_21 : decode cL_bestStart 21 = .ok (.iconst 2, 1) := by decide +kernel
theorem dL_bestStart_22 : decode cL_bestStart 22 = .ok (.ireturn, 1) := by decide +kernel
theorem dL_bestStart_23 : decode cL_bestStart 23 = .ok (.iconst 0, 1) := by decide +kernel
theorem dL_bestStart_24 : decode cL_bestStart 24 = .ok (.ireturn, 1) := by decide +kernel
def f_L_bestStart : MX := fWr 6 (eLa 4) (gd 7 f_X7_bestStart) (aI (aI (aI (aA (aN) (eLa 0)) (eLi 1)) (eLi 2)) (eLi 3)) Int32.toInt64 [xI, xA]
theorem k_L_bestStart (l : Launch) (g : GE) : MetW l g yL_bestStart cL_bestStart 6 [(0, 12, 15, 22), (0, 12, 19, 13)] 5 ({ frames := 9, cells := 3, slots := 18, locals := 183 } : Room) f_L_bestStart :=
  MetW.of (own := RL) (n0 := 3) (p4 := 11) (p6 := 23) rfl (by decide +kernel) (by decide) Y_X7_bestStart (k_X7_bestStart l g) rfl w1101 w1102 w1103 dL_bestStart_7 (Nat.le_of_ble_eq_true rfl) (Nat.le_of_ble_eq_true rfl) rfl rfl
    (fun p e s m args below meth c Fin ad0 => ⟨Ev_aload dL_bestStart_0, Ev_iconst dL_bestStart_2 (by decide), Av_i (Av_i (Av_i (Av_a (Av_nil) (Ev_aload_n dL_bestStart_3 rfl)) (Ev_iload_n dL_bestStart_4 rfl)) (Ev_iload_n dL_bestStart_5 rfl)) (Ev_iload_n dL_bestStart_6 rfl), fun H locs cells slots ls st x hok h => lv_i2l hok.1 hok.2.1 dL_bestStart_10 rfl h⟩)
    dL_bestStart_11 dL_bestStart_12 (by decide) dL_bestStart_23 dL_bestStart_24 (List.forall_mem_cons.mpr ⟨⟨[], ⟨0, 12, 15, 22⟩, [⟨0, 12, 19, 13⟩], 1, 5, 17, rfl, (fun _ h => nomatch h), by decide +kernel, by decide, w554, w568, by decide, Or.inl ⟨dL_bestStart_15, rfl⟩, dL_bestStart_17, by decide +kernel, dL_bestStart_18⟩, List.forall_mem_cons.mpr ⟨⟨[⟨0, 12, 15, 22⟩], ⟨0, 12, 19, 13⟩, [], 2, 5, 21, rfl, List.forall_mem_cons.mpr ⟨⟨by decide, _, w554, by decide +kernel⟩, (fun _ h => nomatch h)⟩, by decide +kernel, by decide, w441, w451, by decide, Or.inl ⟨dL_bestStart_19, rfl⟩, dL_bestStart_21, by decide +kernel, dL_bestStart_22⟩, (fun _ h => nomatch h)⟩⟩)
theorem Y_L_bestStart : Yw yL_bestStart cL_bestStart 6 [(0, 12, 15, 22), (0, 12, 19, 13)] 5 := ⟨w1100, w0, by decide +kernel, by decide +kernel, by decide +kernel⟩
theorem dL_undo_0 : decode cL_undo 0 = .ok (.aload_n 1, 1) := by decide +kernel
theorem dL_undo_1 : decode cL_undo 1 = .ok (.iconst 0, 1) := by decide +kernel
theorem dL_undo_2 : decode cL_undo 2 = .ok (.aload_n 0, 1) := by decide +kernel
theorem dL_undo_3 : decode cL_undo 3 = .ok (.invokevirtual 132, 3) := by decide +kernel
theorem dL_undo_6 : decode cL_undo 6 = .ok (.i2l, 1) := by decide +kernel
theorem dL_undo_7 : decode cL_undo 7 = .ok (.lastore, 1) := by decide +kernel
theorem dL_undo_8 : decode cL_undo 8 = .ok (.goto 6, 3) := by decide +kernel
theorem dL_undo_11 : decode cL_undo 11 = .ok (.astore_n 2, 1) := by decide +kernel
theorem dL_undo_12 : decode cL_undo 12 = .ok (.iconst 1, 1) := by decide +kernel
theorem dL_undo_13 : decode cL_undo 13 = .ok (.ireturn, 1) := by decide +kernel
theorem dL_undo_14 : decode cL_undo 14 = .ok (.iconst 0, 1) := by decide +kernel
theorem dL_undo_15 : decode cL_undo 15 = .ok (.ireturn, 1) := by decide +kernel
def f_L_undo : MX := fWr 3 (eLa 1) (gd 7 f_X7_undo) (aA (aN) (eLa 0)) Int32.toInt64 [xS]
theorem k_L_undo (l : Launch) (g : GE) : MetW l g yL_undo cL_undo 3 [(0, 8, 11, 24)] 2 ({ frames := 8, cells := 1, slots := 6, locals := 122 } : Room) f_L_undo :=
  MetW.of (own := RL) (n0 := 0) (p4 := 7) (p6 := 14) rfl (by decide +kernel) (by decide) Y_X7_undo (k_X7_undo l g) rfl w1108 w1109 w1110 dL_undo_3 (Nat.le_of_ble_eq_true rfl) (Nat.le_of_ble_eq_true rfl) rfl rfl
    (fun p e s m args below meth c Fin ad0 => ⟨Ev_aload_n dL_undo_0 rfl, Ev_iconst dL_undo_1 (by decide), Av_a (Av_nil) (Ev_aload_n dL_undo_2 rfl), fun H locs cells slots ls st x hok h => lv_i2l hok.1 hok.2.1 dL_undo_6 rfl h⟩)
    dL_undo_7 dL_undo_8 (by decide) dL_undo_14 dL_undo_15 (List.forall_mem_cons.mpr ⟨⟨[], ⟨0, 8, 11, 24⟩, [], 1, 2, 12, rfl, (fun _ h => nomatch h), by decide +kernel, by decide, w555, w599, by decide, Or.inr ⟨2, rfl, dL_undo_11, rfl⟩, dL_undo_12, by decide +kernel, dL_undo_13⟩, (fun _ h => nomatch h)⟩)
theorem Y_L_undo : Yw yL_undo cL_undo 3 [(0, 8, 11, 24)] 2 := ⟨w1107, w0, by decide +kernel, by decide +kernel, by decide +kernel⟩
theorem dL_save_0 : decode cL_save 0 = .ok (.aload_n 2, 1) := by decide +kernel
theorem dL_save_1 : decode cL_save 1 = .ok (.iconst 0, 1) := by decide +kernel
theorem dL_save_2 : decode cL_save 2 = .ok (.aload_n 0, 1) := by decide +kernel
theorem dL_save_3 : decode cL_save 3 = .ok (.iload_n 1, 1) := by decide +kernel
theorem dL_save_4 : decode cL_save 4 = .ok (.invokevirtual 135, 3) := by decide +kernel
theorem dL_save_7 : decode cL_save 7 = .ok (.i2l, 1) := by decide +kernel
theorem dL_save_8 : decode cL_save 8 = .ok (.lastore, 1) := by decide +kernel
theorem dL_save_9 : decode cL_save 9 = .ok (.goto 6, 3) := by decide +kernel
theorem dL_save_12 : decode cL_save 12 = .ok (.astore_n 3, 1) := by decide +kernel
theorem dL_save_13 : decode cL_save 13 = .ok (.iconst 1, 1) := by decide +kernel
theorem dL_save_14 : decode cL_save 14 = .ok (.ireturn, 1) := by decide +kernel
theorem dL_save_15 : decode cL_save 15 = .ok (.iconst 0, 1) := by decide +kernel
theorem dL_save_16 : decode cL_save 16 = .ok (.ireturn, 1) := by decide +kernel
def f_L_save : MX := fWr 4 (eLa 2) (gd 7 f_X7_save) (aI (aA (aN) (eLa 0)) (eLi 1)) Int32.toInt64 [xI]
theorem k_L_save (l : Launch) (g : GE) : MetW l g yL_save cL_save 4 [(0, 9, 12, 22)] 3 ({ frames := 8, cells := 1, slots := 6, locals := 124 } : Room) f_L_save :=
  MetW.of (own := RL) (n0 := 1) (p4 := 8) (p6 := 15) rfl (by decide +kernel) (by decide) Y_X7_save (k_X7_save l g) rfl w1115 w1116 w1117 dL_save_4 (Nat.le_of_ble_eq_true rfl) (Nat.le_of_ble_eq_true rfl) rfl rfl
    (fun p e s m args below meth c Fin ad0 => ⟨Ev_aload_n dL_save_0 rfl, Ev_iconst dL_save_1 (by decide), Av_i (Av_a (Av_nil) (Ev_aload_n dL_save_2 rfl)) (Ev_iload_n dL_save_3 rfl), fun H locs cells slots ls st x hok h => lv_i2l hok.1 hok.2.1 dL_save_7 rfl h⟩)
    dL_save_8 dL_save_9 (by decide) dL_save_15 dL_save_16 (List.forall_mem_cons.mpr ⟨⟨[], ⟨0, 9, 12, 22⟩, [], 1, 3, 13, rfl, (fun _ h => nomatch h), by decide +kernel, by decide, w554, w568, by decide, Or.inr ⟨3, rfl, dL_save_12, rfl⟩, dL_save_13, by decide +kernel, dL_save_14⟩, (fun _ h => nomatch h)⟩)
theorem Y_L_save : Yw yL_save cL_save 4 [(0, 9, 12, 22)] 3 := ⟨w1114, w0, by decide +kernel, by decide +kernel, by decide +kernel⟩
theorem dL_restore_0 : decode cL_restore 0 = .ok (.aload_n 2, 1) := by decide +kernel
theorem dL_restore_1 : decode cL_restore 1 = .ok (.iconst 0, 1) := by decide +kernel
theorem dL_restore_2 : decode cL_restore 2 = .ok (.aload_n 0, 1) := by decide +kernel
theorem dL_restore_3 : decode cL_restore 3 = .ok (.iload_n 1, 1) := by decide +kernel
theorem dL_restore_4 : decode cL_restore 4 = .ok (.invokevirtual 138, 3) := by decide +kernel
theorem dL_restore_7 : decode cL_restore 7 = .ok (.i2l, 1) := by decide +kernel
theorem dL_restore_8 : decode cL_restore 8 = .ok (.lastore, 1) := by decide +kernel
theorem dL_restore_9 : decode cL_restore 9 = .ok (.goto 9, 3) := by decide +kernel
theorem dL_restore_12 : decode cL_restore 12 = .ok (.astore_n 3, 1) := by decide +kernel
theorem dL_restore_13 : decode cL_restore 13 = .ok (.iconst 1, 1) := by decide +kernel
theorem dL_restore_14 : decode cL_restore 14 = .ok (.ireturn, 1) := by decide +kernel
theorem dL_restore_15 : decode cL_restore 15 = .ok (.astore_n 3, 1) := by decide +kernel
theorem dL_restore_16 : decode cL_restore 16 = .ok (.iconst 2, 1) := by decide +kernel
theorem dL_restore_17 : decode cL_restore 17 = .ok (.ireturn, 1) := by decide +kernel
theorem dL_restore_18 : decode cL_restore 18 = .ok (.iconst 0, 1) := by decide +kernel
theorem dL_restore_19 : decode cL_restore 19 = .ok (.ireturn, 1) := by decide +kernel
def f_L_restore : MX := fWr 4 (eLa 2) (gd 7 f_X7_restore) (aI (aA (aN) (eLa 0)) (eLi 1)) Int32.toInt64 [xI, xS]
theorem k_L_restore (l : Launch) (g : GE) : MetW l g yL_restore cL_restore 4 [(0, 9, 12, 22), (0, 9, 15, 24)] 3 ({ frames := 8, cells := 2, slots := 12, locals := 124 } : Room) f_L_restore :=
  MetW.of (own := RL) (n0 := 1) (p4 := 8) (p6 := 18) rfl (by decide +kernel) (by decide) Y_X7_restore (k_X7_restore l g) rfl w1122 w1123 w1124 dL_restore_4 (Nat.le_of_ble_eq_true rfl) (Nat.le_of_ble_eq_true rfl) rfl rfl
    (fun p e s m args below meth c Fin ad0 => ⟨Ev_aload_n dL_restore_0 rfl, Ev_iconst dL_restore_1 (by decide), Av_i (Av_a (Av_nil) (Ev_aload_n dL_restore_2 rfl)) (Ev_iload_n dL_restore_3 rfl), fun H locs cells slots ls st x hok h => lv_i2l hok.1 hok.2.1 dL_restore_7 rfl h⟩)
    dL_restore_8 dL_restore_9 (by decide) dL_restore_18 dL_restore_19 (List.forall_mem_cons.mpr ⟨⟨[], ⟨0, 9, 12, 22⟩, [⟨0, 9, 15, 24⟩], 1, 3, 13, rfl, (fun _ h => nomatch h), by decide +kernel, by decide, w554, w568, by decide, Or.inr ⟨3, rfl, dL_restore_12, rfl⟩, dL_restore_13, by decide +kernel, dL_restore_14⟩, List.forall_mem_cons.mpr ⟨⟨[⟨0, 9, 12, 22⟩], ⟨0, 9, 15, 24⟩, [], 2, 3, 16, rfl, List.forall_mem_cons.mpr ⟨⟨by decide, _, w554, by decide +kernel⟩, (fun _ h => nomatch h)⟩, by decide +kernel, by decide, w555, w599, by decide, Or.inr ⟨3, rfl, dL_restore_15, rfl⟩, dL_restore_16, by decide +kernel, dL_restore_17⟩, (fun _ h => nomatch h)⟩⟩)
theorem Y_L_restore : Yw yL_restore cL_restore 4 [(0, 9, 12, 22), (0, 9, 15, 24)] 3 := ⟨w1121, w0, by decide +kernel, by decide +kernel, by decide +kernel⟩
