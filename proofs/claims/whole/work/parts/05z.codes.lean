theorem ax_sub1 {w : Cond} (h : w ∈ tables_1_1) : w ∈ lw_tbl := List.mem_append_right _ (show w ∈ tables_1 from List.mem_append_left _ h)
theorem ax_sub2 {w : Cond} (h : w ∈ tables_1_2) : w ∈ lw_tbl := List.mem_append_right _ (show w ∈ tables_1 from List.mem_append_right _ (List.mem_append_left _ h))
theorem ax_sub3 {w : Cond} (h : w ∈ tables_1_3) : w ∈ lw_tbl := List.mem_append_right _ (show w ∈ tables_1 from List.mem_append_right _ (List.mem_append_right _ (List.mem_append_left _ h)))
theorem ax_sub4 {w : Cond} (h : w ∈ tables_1_4) : w ∈ lw_tbl := List.mem_append_right _ (show w ∈ tables_1 from List.mem_append_right _ (List.mem_append_right _ (List.mem_append_right _ (List.mem_append_left _ h))))
theorem ax_sub5 {w : Cond} (h : w ∈ tables_1_5) : w ∈ lw_tbl := List.mem_append_right _ (show w ∈ tables_1 from List.mem_append_right _ (List.mem_append_right _ (List.mem_append_right _ (List.mem_append_right _ (List.mem_append_left _ h)))))
theorem ax_sub6 {w : Cond} (h : w ∈ tables_1_6) : w ∈ lw_tbl := List.mem_append_right _ (show w ∈ tables_1 from List.mem_append_right _ (List.mem_append_right _ (List.mem_append_right _ (List.mem_append_right _ (List.mem_append_right _ (List.mem_append_left _ h))))))
theorem ax_sub7 {w : Cond} (h : w ∈ tables_1_7) : w ∈ lw_tbl := List.mem_append_right _ (show w ∈ tables_1 from List.mem_append_right _ (List.mem_append_right _ (List.mem_append_right _ (List.mem_append_right _ (List.mem_append_right _ (List.mem_append_right _ (List.mem_append_left _ h)))))))
theorem ax_sub8 {w : Cond} (h : w ∈ tables_1_8) : w ∈ lw_tbl := List.mem_append_right _ (show w ∈ tables_1 from List.mem_append_right _ (List.mem_append_right _ (List.mem_append_right _ (List.mem_append_right _ (List.mem_append_right _ (List.mem_append_right _ (List.mem_append_right _ (h))))))))
theorem ax_cw_0 : Cond.code (ax_y 0) (ax_bc 0) (ax_mL 0) (ax_rt 0) ∈ lw_tbl := ax_sub1 (List.mem_of_getElem? (i := 26) rfl)
theorem ax_cw_1 : Cond.code (ax_y 1) (ax_bc 1) (ax_mL 1) (ax_rt 1) ∈ lw_tbl := ax_sub1 (List.mem_of_getElem? (i := 34) rfl)
theorem ax_cw_2 : Cond.code (ax_y 2) (ax_bc 2) (ax_mL 2) (ax_rt 2) ∈ lw_tbl := ax_sub1 (List.mem_of_getElem? (i := 43) rfl)
theorem ax_cw_3 : Cond.code (ax_y 3) (ax_bc 3) (ax_mL 3) (ax_rt 3) ∈ lw_tbl := ax_sub1 (List.mem_of_getElem? (i := 122) rfl)
theorem ax_cw_4 : Cond.code (ax_y 4) (ax_bc 4) (ax_mL 4) (ax_rt 4) ∈ lw_tbl := ax_sub1 (List.mem_of_getElem? (i := 180) rfl)
theorem ax_cw_5 : Cond.code (ax_y 5) (ax_bc 5) (ax_mL 5) (ax_rt 5) ∈ lw_tbl := ax_sub1 (List.mem_of_getElem? (i := 186) rfl)
theorem ax_cw_6 : Cond.code (ax_y 6) (ax_bc 6) (ax_mL 6) (ax_rt 6) ∈ lw_tbl := ax_sub1 (List.mem_of_getElem? (i := 226) rfl)
theorem ax_cw_7 : Cond.code (ax_y 7) (ax_bc 7) (ax_mL 7) (ax_rt 7) ∈ lw_tbl := ax_sub2 (List.mem_of_getElem? (i := 26) rfl)
theorem ax_cw_8 : Cond.code (ax_y 8) (ax_bc 8) (ax_mL 8) (ax_rt 8) ∈ lw_tbl := ax_sub2 (List.mem_of_getElem? (i := 64) rfl)
theorem ax_cw_9 : Cond.code (ax_y 9) (ax_bc 9) (ax_mL 9) (ax_rt 9) ∈ lw_tbl := ax_sub2 (List.mem_of_getElem? (i := 113) rfl)
theorem ax_cw_10 : Cond.code (ax_y 10) (ax_bc 10) (ax_mL 10) (ax_rt 10) ∈ lw_tbl := ax_sub2 (List.mem_of_getElem? (i := 122) rfl)
theorem ax_cw_11 : Cond.code (ax_y 11) (ax_bc 11) (ax_mL 11) (ax_rt 11) ∈ lw_tbl := ax_sub2 (List.mem_of_getElem? (i := 230) rfl)
theorem ax_cw_12 : Cond.code (ax_y 12) (ax_bc 12) (ax_mL 12) (ax_rt 12) ∈ lw_tbl := ax_sub2 (List.mem_of_getElem? (i := 233) rfl)
theorem ax_cw_13 : Cond.code (ax_y 13) (ax_bc 13) (ax_mL 13) (ax_rt 13) ∈ lw_tbl := ax_sub2 (List.mem_of_getElem? (i := 237) rfl)
theorem ax_cw_14 : Cond.code (ax_y 14) (ax_bc 14) (ax_mL 14) (ax_rt 14) ∈ lw_tbl := ax_sub3 (List.mem_of_getElem? (i := 1) rfl)
theorem ax_cw_15 : Cond.code (ax_y 15) (ax_bc 15) (ax_mL 15) (ax_rt 15) ∈ lw_tbl := ax_sub3 (List.mem_of_getElem? (i := 4) rfl)
theorem ax_cw_16 : Cond.code (ax_y 16) (ax_bc 16) (ax_mL 16) (ax_rt 16) ∈ lw_tbl := ax_sub3 (List.mem_of_getElem? (i := 8) rfl)
theorem ax_cw_17 : Cond.code (ax_y 17) (ax_bc 17) (ax_mL 17) (ax_rt 17) ∈ lw_tbl := ax_sub3 (List.mem_of_getElem? (i := 12) rfl)
theorem ax_cw_18 : Cond.code (ax_y 18) (ax_bc 18) (ax_mL 18) (ax_rt 18) ∈ lw_tbl := ax_sub3 (List.mem_of_getElem? (i := 16) rfl)
theorem ax_cw_19 : Cond.code (ax_y 19) (ax_bc 19) (ax_mL 19) (ax_rt 19) ∈ lw_tbl := ax_sub3 (List.mem_of_getElem? (i := 21) rfl)
theorem ax_cw_20 : Cond.code (ax_y 20) (ax_bc 20) (ax_mL 20) (ax_rt 20) ∈ lw_tbl := ax_sub3 (List.mem_of_getElem? (i := 25) rfl)
theorem ax_cw_21 : Cond.code (ax_y 21) (ax_bc 21) (ax_mL 21) (ax_rt 21) ∈ lw_tbl := ax_sub3 (List.mem_of_getElem? (i := 28) rfl)
theorem ax_cw_22 : Cond.code (ax_y 22) (ax_bc 22) (ax_mL 22) (ax_rt 22) ∈ lw_tbl := ax_sub3 (List.mem_of_getElem? (i := 35) rfl)
theorem ax_cw_23 : Cond.code (ax_y 23) (ax_bc 23) (ax_mL 23) (ax_rt 23) ∈ lw_tbl := ax_sub3 (List.mem_of_getElem? (i := 39) rfl)
theorem ax_cw_24 : Cond.code (ax_y 24) (ax_bc 24) (ax_mL 24) (ax_rt 24) ∈ lw_tbl := ax_sub3 (List.mem_of_getElem? (i := 43) rfl)
theorem ax_cw_25 : Cond.code (ax_y 25) (ax_bc 25) (ax_mL 25) (ax_rt 25) ∈ lw_tbl := ax_sub3 (List.mem_of_getElem? (i := 47) rfl)
theorem ax_cw_26 : Cond.code (ax_y 26) (ax_bc 26) (ax_mL 26) (ax_rt 26) ∈ lw_tbl := ax_sub3 (List.mem_of_getElem? (i := 51) rfl)
theorem ax_cw_27 : Cond.code (ax_y 27) (ax_bc 27) (ax_mL 27) (ax_rt 27) ∈ lw_tbl := ax_sub3 (List.mem_of_getElem? (i := 55) rfl)
theorem ax_cw_28 : Cond.code (ax_y 28) (ax_bc 28) (ax_mL 28) (ax_rt 28) ∈ lw_tbl := ax_sub3 (List.mem_of_getElem? (i := 59) rfl)
theorem ax_cw_29 : Cond.code (ax_y 29) (ax_bc 29) (ax_mL 29) (ax_rt 29) ∈ lw_tbl := ax_sub3 (List.mem_of_getElem? (i := 67) rfl)
theorem ax_cw_30 : Cond.code (ax_y 30) (ax_bc 30) (ax_mL 30) (ax_rt 30) ∈ lw_tbl := ax_sub3 (List.mem_of_getElem? (i := 71) rfl)
theorem ax_cw_31 : Cond.code (ax_y 31) (ax_bc 31) (ax_mL 31) (ax_rt 31) ∈ lw_tbl := ax_sub3 (List.mem_of_getElem? (i := 75) rfl)
theorem ax_cw_32 : Cond.code (ax_y 32) (ax_bc 32) (ax_mL 32) (ax_rt 32) ∈ lw_tbl := ax_sub3 (List.mem_of_getElem? (i := 79) rfl)
theorem ax_cw_33 : Cond.code (ax_y 33) (ax_bc 33) (ax_mL 33) (ax_rt 33) ∈ lw_tbl := ax_sub3 (List.mem_of_getElem? (i := 87) rfl)
theorem ax_cw_34 : Cond.code (ax_y 34) (ax_bc 34) (ax_mL 34) (ax_rt 34) ∈ lw_tbl := ax_sub3 (List.mem_of_getElem? (i := 91) rfl)
theorem ax_cw_35 : Cond.code (ax_y 35) (ax_bc 35) (ax_mL 35) (ax_rt 35) ∈ lw_tbl := ax_sub3 (List.mem_of_getElem? (i := 95) rfl)
theorem ax_cw_36 : Cond.code (ax_y 36) (ax_bc 36) (ax_mL 36) (ax_rt 36) ∈ lw_tbl := ax_sub3 (List.mem_of_getElem? (i := 99) rfl)
theorem ax_cw_37 : Cond.code (ax_y 37) (ax_bc 37) (ax_mL 37) (ax_rt 37) ∈ lw_tbl := ax_sub3 (List.mem_of_getElem? (i := 102) rfl)
theorem ax_cw_38 : Cond.code (ax_y 38) (ax_bc 38) (ax_mL 38) (ax_rt 38) ∈ lw_tbl := ax_sub3 (List.mem_of_getElem? (i := 106) rfl)
theorem ax_cw_39 : Cond.code (ax_y 39) (ax_bc 39) (ax_mL 39) (ax_rt 39) ∈ lw_tbl := ax_sub3 (List.mem_of_getElem? (i := 109) rfl)
theorem ax_cw_40 : Cond.code (ax_y 40) (ax_bc 40) (ax_mL 40) (ax_rt 40) ∈ lw_tbl := ax_sub3 (List.mem_of_getElem? (i := 112) rfl)
theorem ax_cw_41 : Cond.code (ax_y 41) (ax_bc 41) (ax_mL 41) (ax_rt 41) ∈ lw_tbl := ax_sub3 (List.mem_of_getElem? (i := 129) rfl)
theorem ax_cw_42 : Cond.code (ax_y 42) (ax_bc 42) (ax_mL 42) (ax_rt 42) ∈ lw_tbl := ax_sub3 (List.mem_of_getElem? (i := 133) rfl)
theorem ax_cw_43 : Cond.code (ax_y 43) (ax_bc 43) (ax_mL 43) (ax_rt 43) ∈ lw_tbl := ax_sub3 (List.mem_of_getElem? (i := 137) rfl)
theorem ax_cw_44 : Cond.code (ax_y 44) (ax_bc 44) (ax_mL 44) (ax_rt 44) ∈ lw_tbl := ax_sub3 (List.mem_of_getElem? (i := 143) rfl)
theorem ax_cw_45 : Cond.code (ax_y 45) (ax_bc 45) (ax_mL 45) (ax_rt 45) ∈ lw_tbl := ax_sub3 (List.mem_of_getElem? (i := 147) rfl)
theorem ax_cw_46 : Cond.code (ax_y 46) (ax_bc 46) (ax_mL 46) (ax_rt 46) ∈ lw_tbl := ax_sub3 (List.mem_of_getElem? (i := 150) rfl)
theorem ax_cw_47 : Cond.code (ax_y 47) (ax_bc 47) (ax_mL 47) (ax_rt 47) ∈ lw_tbl := ax_sub3 (List.mem_of_getElem? (i := 153) rfl)
theorem ax_cw_48 : Cond.code (ax_y 48) (ax_bc 48) (ax_mL 48) (ax_rt 48) ∈ lw_tbl := ax_sub3 (List.mem_of_getElem? (i := 158) rfl)
theorem ax_cw_49 : Cond.code (ax_y 49) (ax_bc 49) (ax_mL 49) (ax_rt 49) ∈ lw_tbl := ax_sub3 (List.mem_of_getElem? (i := 180) rfl)
theorem ax_cw_50 : Cond.code (ax_y 50) (ax_bc 50) (ax_mL 50) (ax_rt 50) ∈ lw_tbl := ax_sub3 (List.mem_of_getElem? (i := 185) rfl)
theorem ax_cw_51 : Cond.code (ax_y 51) (ax_bc 51) (ax_mL 51) (ax_rt 51) ∈ lw_tbl := ax_sub3 (List.mem_of_getElem? (i := 189) rfl)
theorem ax_cw_52 : Cond.code (ax_y 52) (ax_bc 52) (ax_mL 52) (ax_rt 52) ∈ lw_tbl := ax_sub3 (List.mem_of_getElem? (i := 193) rfl)
theorem ax_cw_53 : Cond.code (ax_y 53) (ax_bc 53) (ax_mL 53) (ax_rt 53) ∈ lw_tbl := ax_sub3 (List.mem_of_getElem? (i := 197) rfl)
theorem ax_cw_54 : Cond.code (ax_y 54) (ax_bc 54) (ax_mL 54) (ax_rt 54) ∈ lw_tbl := ax_sub3 (List.mem_of_getElem? (i := 201) rfl)
theorem ax_cw_55 : Cond.code (ax_y 55) (ax_bc 55) (ax_mL 55) (ax_rt 55) ∈ lw_tbl := ax_sub3 (List.mem_of_getElem? (i := 205) rfl)
theorem ax_cw_56 : Cond.code (ax_y 56) (ax_bc 56) (ax_mL 56) (ax_rt 56) ∈ lw_tbl := ax_sub3 (List.mem_of_getElem? (i := 209) rfl)
theorem ax_cw_57 : Cond.code (ax_y 57) (ax_bc 57) (ax_mL 57) (ax_rt 57) ∈ lw_tbl := ax_sub3 (List.mem_of_getElem? (i := 213) rfl)
theorem ax_cw_58 : Cond.code (ax_y 58) (ax_bc 58) (ax_mL 58) (ax_rt 58) ∈ lw_tbl := ax_sub3 (List.mem_of_getElem? (i := 217) rfl)
theorem ax_cw_59 : Cond.code (ax_y 59) (ax_bc 59) (ax_mL 59) (ax_rt 59) ∈ lw_tbl := ax_sub3 (List.mem_of_getElem? (i := 221) rfl)
theorem ax_cw_60 : Cond.code (ax_y 60) (ax_bc 60) (ax_mL 60) (ax_rt 60) ∈ lw_tbl := ax_sub3 (List.mem_of_getElem? (i := 225) rfl)
theorem ax_cw_61 : Cond.code (ax_y 61) (ax_bc 61) (ax_mL 61) (ax_rt 61) ∈ lw_tbl := ax_sub3 (List.mem_of_getElem? (i := 229) rfl)
theorem ax_cw_62 : Cond.code (ax_y 62) (ax_bc 62) (ax_mL 62) (ax_rt 62) ∈ lw_tbl := ax_sub3 (List.mem_of_getElem? (i := 233) rfl)
theorem ax_cw_63 : Cond.code (ax_y 63) (ax_bc 63) (ax_mL 63) (ax_rt 63) ∈ lw_tbl := ax_sub3 (List.mem_of_getElem? (i := 237) rfl)
theorem ax_cw_64 : Cond.code (ax_y 64) (ax_bc 64) (ax_mL 64) (ax_rt 64) ∈ lw_tbl := ax_sub4 (List.mem_of_getElem? (i := 2) rfl)
theorem ax_cw_65 : Cond.code (ax_y 65) (ax_bc 65) (ax_mL 65) (ax_rt 65) ∈ lw_tbl := ax_sub4 (List.mem_of_getElem? (i := 6) rfl)
theorem ax_cw_66 : Cond.code (ax_y 66) (ax_bc 66) (ax_mL 66) (ax_rt 66) ∈ lw_tbl := ax_sub4 (List.mem_of_getElem? (i := 46) rfl)
theorem ax_cw_67 : Cond.code (ax_y 67) (ax_bc 67) (ax_mL 67) (ax_rt 67) ∈ lw_tbl := ax_sub4 (List.mem_of_getElem? (i := 50) rfl)
theorem ax_cw_68 : Cond.code (ax_y 68) (ax_bc 68) (ax_mL 68) (ax_rt 68) ∈ lw_tbl := ax_sub4 (List.mem_of_getElem? (i := 54) rfl)
theorem ax_cw_69 : Cond.code (ax_y 69) (ax_bc 69) (ax_mL 69) (ax_rt 69) ∈ lw_tbl := ax_sub4 (List.mem_of_getElem? (i := 58) rfl)
theorem ax_cw_70 : Cond.code (ax_y 70) (ax_bc 70) (ax_mL 70) (ax_rt 70) ∈ lw_tbl := ax_sub4 (List.mem_of_getElem? (i := 62) rfl)
theorem ax_cw_71 : Cond.code (ax_y 71) (ax_bc 71) (ax_mL 71) (ax_rt 71) ∈ lw_tbl := ax_sub4 (List.mem_of_getElem? (i := 65) rfl)
theorem ax_cw_72 : Cond.code (ax_y 72) (ax_bc 72) (ax_mL 72) (ax_rt 72) ∈ lw_tbl := ax_sub4 (List.mem_of_getElem? (i := 68) rfl)
theorem ax_cw_73 : Cond.code (ax_y 73) (ax_bc 73) (ax_mL 73) (ax_rt 73) ∈ lw_tbl := ax_sub4 (List.mem_of_getElem? (i := 72) rfl)
theorem ax_cw_74 : Cond.code (ax_y 74) (ax_bc 74) (ax_mL 74) (ax_rt 74) ∈ lw_tbl := ax_sub4 (List.mem_of_getElem? (i := 76) rfl)
theorem ax_cw_75 : Cond.code (ax_y 75) (ax_bc 75) (ax_mL 75) (ax_rt 75) ∈ lw_tbl := ax_sub4 (List.mem_of_getElem? (i := 81) rfl)
theorem ax_cw_76 : Cond.code (ax_y 76) (ax_bc 76) (ax_mL 76) (ax_rt 76) ∈ lw_tbl := ax_sub4 (List.mem_of_getElem? (i := 85) rfl)
theorem ax_cw_77 : Cond.code (ax_y 77) (ax_bc 77) (ax_mL 77) (ax_rt 77) ∈ lw_tbl := ax_sub4 (List.mem_of_getElem? (i := 89) rfl)
theorem ax_cw_78 : Cond.code (ax_y 78) (ax_bc 78) (ax_mL 78) (ax_rt 78) ∈ lw_tbl := ax_sub4 (List.mem_of_getElem? (i := 94) rfl)
theorem ax_cw_79 : Cond.code (ax_y 79) (ax_bc 79) (ax_mL 79) (ax_rt 79) ∈ lw_tbl := ax_sub4 (List.mem_of_getElem? (i := 99) rfl)
theorem ax_cw_80 : Cond.code (ax_y 80) (ax_bc 80) (ax_mL 80) (ax_rt 80) ∈ lw_tbl := ax_sub4 (List.mem_of_getElem? (i := 103) rfl)
theorem ax_cw_81 : Cond.code (ax_y 81) (ax_bc 81) (ax_mL 81) (ax_rt 81) ∈ lw_tbl := ax_sub4 (List.mem_of_getElem? (i := 107) rfl)
theorem ax_cw_82 : Cond.code (ax_y 82) (ax_bc 82) (ax_mL 82) (ax_rt 82) ∈ lw_tbl := ax_sub4 (List.mem_of_getElem? (i := 111) rfl)
theorem ax_cw_83 : Cond.code (ax_y 83) (ax_bc 83) (ax_mL 83) (ax_rt 83) ∈ lw_tbl := ax_sub4 (List.mem_of_getElem? (i := 115) rfl)
theorem ax_cw_84 : Cond.code (ax_y 84) (ax_bc 84) (ax_mL 84) (ax_rt 84) ∈ lw_tbl := ax_sub4 (List.mem_of_getElem? (i := 119) rfl)
theorem ax_cw_85 : Cond.code (ax_y 85) (ax_bc 85) (ax_mL 85) (ax_rt 85) ∈ lw_tbl := ax_sub4 (List.mem_of_getElem? (i := 124) rfl)
theorem ax_cw_86 : Cond.code (ax_y 86) (ax_bc 86) (ax_mL 86) (ax_rt 86) ∈ lw_tbl := ax_sub4 (List.mem_of_getElem? (i := 129) rfl)
theorem ax_cw_87 : Cond.code (ax_y 87) (ax_bc 87) (ax_mL 87) (ax_rt 87) ∈ lw_tbl := ax_sub4 (List.mem_of_getElem? (i := 134) rfl)
theorem ax_cw_88 : Cond.code (ax_y 88) (ax_bc 88) (ax_mL 88) (ax_rt 88) ∈ lw_tbl := ax_sub4 (List.mem_of_getElem? (i := 138) rfl)
theorem ax_cw_89 : Cond.code (ax_y 89) (ax_bc 89) (ax_mL 89) (ax_rt 89) ∈ lw_tbl := ax_sub4 (List.mem_of_getElem? (i := 142) rfl)
theorem ax_cw_90 : Cond.code (ax_y 90) (ax_bc 90) (ax_mL 90) (ax_rt 90) ∈ lw_tbl := ax_sub4 (List.mem_of_getElem? (i := 148) rfl)
theorem ax_cw_91 : Cond.code (ax_y 91) (ax_bc 91) (ax_mL 91) (ax_rt 91) ∈ lw_tbl := ax_sub4 (List.mem_of_getElem? (i := 154) rfl)
theorem ax_cw_92 : Cond.code (ax_y 92) (ax_bc 92) (ax_mL 92) (ax_rt 92) ∈ lw_tbl := ax_sub4 (List.mem_of_getElem? (i := 161) rfl)
theorem ax_cw_93 : Cond.code (ax_y 93) (ax_bc 93) (ax_mL 93) (ax_rt 93) ∈ lw_tbl := ax_sub4 (List.mem_of_getElem? (i := 165) rfl)
theorem ax_cw_94 : Cond.code (ax_y 94) (ax_bc 94) (ax_mL 94) (ax_rt 94) ∈ lw_tbl := ax_sub4 (List.mem_of_getElem? (i := 169) rfl)
theorem ax_cw_95 : Cond.code (ax_y 95) (ax_bc 95) (ax_mL 95) (ax_rt 95) ∈ lw_tbl := ax_sub4 (List.mem_of_getElem? (i := 173) rfl)
theorem ax_cw_96 : Cond.code (ax_y 96) (ax_bc 96) (ax_mL 96) (ax_rt 96) ∈ lw_tbl := ax_sub4 (List.mem_of_getElem? (i := 178) rfl)
theorem ax_cw_97 : Cond.code (ax_y 97) (ax_bc 97) (ax_mL 97) (ax_rt 97) ∈ lw_tbl := ax_sub4 (List.mem_of_getElem? (i := 182) rfl)
theorem ax_cw_98 : Cond.code (ax_y 98) (ax_bc 98) (ax_mL 98) (ax_rt 98) ∈ lw_tbl := ax_sub4 (List.mem_of_getElem? (i := 186) rfl)
theorem ax_cw_99 : Cond.code (ax_y 99) (ax_bc 99) (ax_mL 99) (ax_rt 99) ∈ lw_tbl := ax_sub4 (List.mem_of_getElem? (i := 190) rfl)
theorem ax_cw_100 : Cond.code (ax_y 100) (ax_bc 100) (ax_mL 100) (ax_rt 100) ∈ lw_tbl := ax_sub4 (List.mem_of_getElem? (i := 195) rfl)
theorem ax_cw_101 : Cond.code (ax_y 101) (ax_bc 101) (ax_mL 101) (ax_rt 101) ∈ lw_tbl := ax_sub4 (List.mem_of_getElem? (i := 199) rfl)
theorem ax_cw_102 : Cond.code (ax_y 102) (ax_bc 102) (ax_mL 102) (ax_rt 102) ∈ lw_tbl := ax_sub4 (List.mem_of_getElem? (i := 204) rfl)
theorem ax_cw_103 : Cond.code (ax_y 103) (ax_bc 103) (ax_mL 103) (ax_rt 103) ∈ lw_tbl := ax_sub4 (List.mem_of_getElem? (i := 208) rfl)
theorem ax_cw_104 : Cond.code (ax_y 104) (ax_bc 104) (ax_mL 104) (ax_rt 104) ∈ lw_tbl := ax_sub4 (List.mem_of_getElem? (i := 212) rfl)
theorem ax_cw_105 : Cond.code (ax_y 105) (ax_bc 105) (ax_mL 105) (ax_rt 105) ∈ lw_tbl := ax_sub4 (List.mem_of_getElem? (i := 217) rfl)
theorem ax_cw_106 : Cond.code (ax_y 106) (ax_bc 106) (ax_mL 106) (ax_rt 106) ∈ lw_tbl := ax_sub4 (List.mem_of_getElem? (i := 222) rfl)
theorem ax_cw_107 : Cond.code (ax_y 107) (ax_bc 107) (ax_mL 107) (ax_rt 107) ∈ lw_tbl := ax_sub4 (List.mem_of_getElem? (i := 226) rfl)
theorem ax_cw_108 : Cond.code (ax_y 108) (ax_bc 108) (ax_mL 108) (ax_rt 108) ∈ lw_tbl := ax_sub4 (List.mem_of_getElem? (i := 230) rfl)
theorem ax_cw_109 : Cond.code (ax_y 109) (ax_bc 109) (ax_mL 109) (ax_rt 109) ∈ lw_tbl := ax_sub4 (List.mem_of_getElem? (i := 234) rfl)
theorem ax_cw_110 : Cond.code (ax_y 110) (ax_bc 110) (ax_mL 110) (ax_rt 110) ∈ lw_tbl := ax_sub5 (List.mem_of_getElem? (i := 0) rfl)
theorem ax_cw_111 : Cond.code (ax_y 111) (ax_bc 111) (ax_mL 111) (ax_rt 111) ∈ lw_tbl := ax_sub5 (List.mem_of_getElem? (i := 5) rfl)
theorem ax_cw_112 : Cond.code (ax_y 112) (ax_bc 112) (ax_mL 112) (ax_rt 112) ∈ lw_tbl := ax_sub5 (List.mem_of_getElem? (i := 9) rfl)
theorem ax_cw_113 : Cond.code (ax_y 113) (ax_bc 113) (ax_mL 113) (ax_rt 113) ∈ lw_tbl := ax_sub5 (List.mem_of_getElem? (i := 14) rfl)
theorem ax_cw_114 : Cond.code (ax_y 114) (ax_bc 114) (ax_mL 114) (ax_rt 114) ∈ lw_tbl := ax_sub5 (List.mem_of_getElem? (i := 18) rfl)
theorem ax_cw_115 : Cond.code (ax_y 115) (ax_bc 115) (ax_mL 115) (ax_rt 115) ∈ lw_tbl := ax_sub5 (List.mem_of_getElem? (i := 22) rfl)
theorem ax_cw_116 : Cond.code (ax_y 116) (ax_bc 116) (ax_mL 116) (ax_rt 116) ∈ lw_tbl := ax_sub5 (List.mem_of_getElem? (i := 26) rfl)
theorem ax_cw_117 : Cond.code (ax_y 117) (ax_bc 117) (ax_mL 117) (ax_rt 117) ∈ lw_tbl := ax_sub5 (List.mem_of_getElem? (i := 32) rfl)
theorem ax_cw_118 : Cond.code (ax_y 118) (ax_bc 118) (ax_mL 118) (ax_rt 118) ∈ lw_tbl := ax_sub5 (List.mem_of_getElem? (i := 36) rfl)
theorem ax_cw_119 : Cond.code (ax_y 119) (ax_bc 119) (ax_mL 119) (ax_rt 119) ∈ lw_tbl := ax_sub5 (List.mem_of_getElem? (i := 40) rfl)
theorem ax_cw_120 : Cond.code (ax_y 120) (ax_bc 120) (ax_mL 120) (ax_rt 120) ∈ lw_tbl := ax_sub5 (List.mem_of_getElem? (i := 44) rfl)
theorem ax_cw_121 : Cond.code (ax_y 121) (ax_bc 121) (ax_mL 121) (ax_rt 121) ∈ lw_tbl := ax_sub5 (List.mem_of_getElem? (i := 49) rfl)
theorem ax_cw_122 : Cond.code (ax_y 122) (ax_bc 122) (ax_mL 122) (ax_rt 122) ∈ lw_tbl := ax_sub5 (List.mem_of_getElem? (i := 53) rfl)
theorem ax_cw_123 : Cond.code (ax_y 123) (ax_bc 123) (ax_mL 123) (ax_rt 123) ∈ lw_tbl := ax_sub5 (List.mem_of_getElem? (i := 58) rfl)
theorem ax_cw_124 : Cond.code (ax_y 124) (ax_bc 124) (ax_mL 124) (ax_rt 124) ∈ lw_tbl := ax_sub5 (List.mem_of_getElem? (i := 64) rfl)
theorem ax_cw_125 : Cond.code (ax_y 125) (ax_bc 125) (ax_mL 125) (ax_rt 125) ∈ lw_tbl := ax_sub5 (List.mem_of_getElem? (i := 68) rfl)
theorem ax_cw_126 : Cond.code (ax_y 126) (ax_bc 126) (ax_mL 126) (ax_rt 126) ∈ lw_tbl := ax_sub5 (List.mem_of_getElem? (i := 72) rfl)
theorem ax_cw_127 : Cond.code (ax_y 127) (ax_bc 127) (ax_mL 127) (ax_rt 127) ∈ lw_tbl := ax_sub5 (List.mem_of_getElem? (i := 76) rfl)
theorem ax_cw_128 : Cond.code (ax_y 128) (ax_bc 128) (ax_mL 128) (ax_rt 128) ∈ lw_tbl := ax_sub5 (List.mem_of_getElem? (i := 80) rfl)
theorem ax_cw_129 : Cond.code (ax_y 129) (ax_bc 129) (ax_mL 129) (ax_rt 129) ∈ lw_tbl := ax_sub5 (List.mem_of_getElem? (i := 84) rfl)
theorem ax_cw_130 : Cond.code (ax_y 130) (ax_bc 130) (ax_mL 130) (ax_rt 130) ∈ lw_tbl := ax_sub5 (List.mem_of_getElem? (i := 88) rfl)
theorem ax_cw_131 : Cond.code (ax_y 131) (ax_bc 131) (ax_mL 131) (ax_rt 131) ∈ lw_tbl := ax_sub5 (List.mem_of_getElem? (i := 92) rfl)
theorem ax_cw_132 : Cond.code (ax_y 132) (ax_bc 132) (ax_mL 132) (ax_rt 132) ∈ lw_tbl := ax_sub5 (List.mem_of_getElem? (i := 98) rfl)
theorem ax_cw_133 : Cond.code (ax_y 133) (ax_bc 133) (ax_mL 133) (ax_rt 133) ∈ lw_tbl := ax_sub5 (List.mem_of_getElem? (i := 102) rfl)
theorem ax_cw_134 : Cond.code (ax_y 134) (ax_bc 134) (ax_mL 134) (ax_rt 134) ∈ lw_tbl := ax_sub5 (List.mem_of_getElem? (i := 106) rfl)
theorem ax_cw_135 : Cond.code (ax_y 135) (ax_bc 135) (ax_mL 135) (ax_rt 135) ∈ lw_tbl := ax_sub5 (List.mem_of_getElem? (i := 110) rfl)
theorem ax_cw_136 : Cond.code (ax_y 136) (ax_bc 136) (ax_mL 136) (ax_rt 136) ∈ lw_tbl := ax_sub5 (List.mem_of_getElem? (i := 115) rfl)
theorem ax_cw_137 : Cond.code (ax_y 137) (ax_bc 137) (ax_mL 137) (ax_rt 137) ∈ lw_tbl := ax_sub5 (List.mem_of_getElem? (i := 119) rfl)
theorem ax_cw_138 : Cond.code (ax_y 138) (ax_bc 138) (ax_mL 138) (ax_rt 138) ∈ lw_tbl := ax_sub5 (List.mem_of_getElem? (i := 123) rfl)
theorem ax_cw_139 : Cond.code (ax_y 139) (ax_bc 139) (ax_mL 139) (ax_rt 139) ∈ lw_tbl := ax_sub5 (List.mem_of_getElem? (i := 127) rfl)
theorem ax_cw_140 : Cond.code (ax_y 140) (ax_bc 140) (ax_mL 140) (ax_rt 140) ∈ lw_tbl := ax_sub5 (List.mem_of_getElem? (i := 131) rfl)
theorem ax_cw_141 : Cond.code (ax_y 141) (ax_bc 141) (ax_mL 141) (ax_rt 141) ∈ lw_tbl := ax_sub5 (List.mem_of_getElem? (i := 136) rfl)
theorem ax_cw_142 : Cond.code (ax_y 142) (ax_bc 142) (ax_mL 142) (ax_rt 142) ∈ lw_tbl := ax_sub5 (List.mem_of_getElem? (i := 142) rfl)
theorem ax_cw_143 : Cond.code (ax_y 143) (ax_bc 143) (ax_mL 143) (ax_rt 143) ∈ lw_tbl := ax_sub5 (List.mem_of_getElem? (i := 146) rfl)
theorem ax_cw_144 : Cond.code (ax_y 144) (ax_bc 144) (ax_mL 144) (ax_rt 144) ∈ lw_tbl := ax_sub5 (List.mem_of_getElem? (i := 150) rfl)
theorem ax_cw_145 : Cond.code (ax_y 145) (ax_bc 145) (ax_mL 145) (ax_rt 145) ∈ lw_tbl := ax_sub5 (List.mem_of_getElem? (i := 157) rfl)
theorem ax_cw_146 : Cond.code (ax_y 146) (ax_bc 146) (ax_mL 146) (ax_rt 146) ∈ lw_tbl := ax_sub5 (List.mem_of_getElem? (i := 161) rfl)
theorem ax_cw_147 : Cond.code (ax_y 147) (ax_bc 147) (ax_mL 147) (ax_rt 147) ∈ lw_tbl := ax_sub5 (List.mem_of_getElem? (i := 165) rfl)
theorem ax_cw_148 : Cond.code (ax_y 148) (ax_bc 148) (ax_mL 148) (ax_rt 148) ∈ lw_tbl := ax_sub5 (List.mem_of_getElem? (i := 169) rfl)
theorem ax_cw_149 : Cond.code (ax_y 149) (ax_bc 149) (ax_mL 149) (ax_rt 149) ∈ lw_tbl := ax_sub5 (List.mem_of_getElem? (i := 174) rfl)
theorem ax_cw_150 : Cond.code (ax_y 150) (ax_bc 150) (ax_mL 150) (ax_rt 150) ∈ lw_tbl := ax_sub5 (List.mem_of_getElem? (i := 178) rfl)
theorem ax_cw_151 : Cond.code (ax_y 151) (ax_bc 151) (ax_mL 151) (ax_rt 151) ∈ lw_tbl := ax_sub5 (List.mem_of_getElem? (i := 182) rfl)
theorem ax_cw_152 : Cond.code (ax_y 152) (ax_bc 152) (ax_mL 152) (ax_rt 152) ∈ lw_tbl := ax_sub5 (List.mem_of_getElem? (i := 186) rfl)
theorem ax_cw_153 : Cond.code (ax_y 153) (ax_bc 153) (ax_mL 153) (ax_rt 153) ∈ lw_tbl := ax_sub5 (List.mem_of_getElem? (i := 191) rfl)
theorem ax_cw_154 : Cond.code (ax_y 154) (ax_bc 154) (ax_mL 154) (ax_rt 154) ∈ lw_tbl := ax_sub6 (List.mem_of_getElem? (i := 110) rfl)
theorem ax_cw_155 : Cond.code (ax_y 155) (ax_bc 155) (ax_mL 155) (ax_rt 155) ∈ lw_tbl := ax_sub6 (List.mem_of_getElem? (i := 113) rfl)
theorem ax_cw_156 : Cond.code (ax_y 156) (ax_bc 156) (ax_mL 156) (ax_rt 156) ∈ lw_tbl := ax_sub6 (List.mem_of_getElem? (i := 117) rfl)
theorem ax_cw_157 : Cond.code (ax_y 157) (ax_bc 157) (ax_mL 157) (ax_rt 157) ∈ lw_tbl := ax_sub6 (List.mem_of_getElem? (i := 121) rfl)
theorem ax_cw_158 : Cond.code (ax_y 158) (ax_bc 158) (ax_mL 158) (ax_rt 158) ∈ lw_tbl := ax_sub6 (List.mem_of_getElem? (i := 125) rfl)
theorem ax_cw_159 : Cond.code (ax_y 159) (ax_bc 159) (ax_mL 159) (ax_rt 159) ∈ lw_tbl := ax_sub6 (List.mem_of_getElem? (i := 129) rfl)
theorem ax_cw_160 : Cond.code (ax_y 160) (ax_bc 160) (ax_mL 160) (ax_rt 160) ∈ lw_tbl := ax_sub6 (List.mem_of_getElem? (i := 133) rfl)
theorem ax_cw_161 : Cond.code (ax_y 161) (ax_bc 161) (ax_mL 161) (ax_rt 161) ∈ lw_tbl := ax_sub6 (List.mem_of_getElem? (i := 137) rfl)
theorem ax_cw_162 : Cond.code (ax_y 162) (ax_bc 162) (ax_mL 162) (ax_rt 162) ∈ lw_tbl := ax_sub6 (List.mem_of_getElem? (i := 141) rfl)
theorem ax_cw_163 : Cond.code (ax_y 163) (ax_bc 163) (ax_mL 163) (ax_rt 163) ∈ lw_tbl := ax_sub6 (List.mem_of_getElem? (i := 145) rfl)
theorem ax_cw_164 : Cond.code (ax_y 164) (ax_bc 164) (ax_mL 164) (ax_rt 164) ∈ lw_tbl := ax_sub6 (List.mem_of_getElem? (i := 149) rfl)
theorem ax_cw_165 : Cond.code (ax_y 165) (ax_bc 165) (ax_mL 165) (ax_rt 165) ∈ lw_tbl := ax_sub6 (List.mem_of_getElem? (i := 153) rfl)
theorem ax_cw_166 : Cond.code (ax_y 166) (ax_bc 166) (ax_mL 166) (ax_rt 166) ∈ lw_tbl := ax_sub6 (List.mem_of_getElem? (i := 157) rfl)
theorem ax_cw_167 : Cond.code (ax_y 167) (ax_bc 167) (ax_mL 167) (ax_rt 167) ∈ lw_tbl := ax_sub6 (List.mem_of_getElem? (i := 161) rfl)
theorem ax_cw_168 : Cond.code (ax_y 168) (ax_bc 168) (ax_mL 168) (ax_rt 168) ∈ lw_tbl := ax_sub6 (List.mem_of_getElem? (i := 165) rfl)
theorem ax_cw_169 : Cond.code (ax_y 169) (ax_bc 169) (ax_mL 169) (ax_rt 169) ∈ lw_tbl := ax_sub6 (List.mem_of_getElem? (i := 169) rfl)
theorem ax_cw_170 : Cond.code (ax_y 170) (ax_bc 170) (ax_mL 170) (ax_rt 170) ∈ lw_tbl := ax_sub6 (List.mem_of_getElem? (i := 173) rfl)
theorem ax_cw_171 : Cond.code (ax_y 171) (ax_bc 171) (ax_mL 171) (ax_rt 171) ∈ lw_tbl := ax_sub6 (List.mem_of_getElem? (i := 177) rfl)
theorem ax_cw_172 : Cond.code (ax_y 172) (ax_bc 172) (ax_mL 172) (ax_rt 172) ∈ lw_tbl := ax_sub6 (List.mem_of_getElem? (i := 181) rfl)
theorem ax_cw_173 : Cond.code (ax_y 173) (ax_bc 173) (ax_mL 173) (ax_rt 173) ∈ lw_tbl := ax_sub6 (List.mem_of_getElem? (i := 185) rfl)
theorem ax_cw_174 : Cond.code (ax_y 174) (ax_bc 174) (ax_mL 174) (ax_rt 174) ∈ lw_tbl := ax_sub6 (List.mem_of_getElem? (i := 189) rfl)
theorem ax_cw_175 : Cond.code (ax_y 175) (ax_bc 175) (ax_mL 175) (ax_rt 175) ∈ lw_tbl := ax_sub6 (List.mem_of_getElem? (i := 193) rfl)
theorem ax_cw_176 : Cond.code (ax_y 176) (ax_bc 176) (ax_mL 176) (ax_rt 176) ∈ lw_tbl := ax_sub6 (List.mem_of_getElem? (i := 197) rfl)
theorem ax_cw_177 : Cond.code (ax_y 177) (ax_bc 177) (ax_mL 177) (ax_rt 177) ∈ lw_tbl := ax_sub6 (List.mem_of_getElem? (i := 201) rfl)
theorem ax_cw_178 : Cond.code (ax_y 178) (ax_bc 178) (ax_mL 178) (ax_rt 178) ∈ lw_tbl := ax_sub6 (List.mem_of_getElem? (i := 205) rfl)
theorem ax_cw_179 : Cond.code (ax_y 179) (ax_bc 179) (ax_mL 179) (ax_rt 179) ∈ lw_tbl := ax_sub6 (List.mem_of_getElem? (i := 209) rfl)
theorem ax_cw_180 : Cond.code (ax_y 180) (ax_bc 180) (ax_mL 180) (ax_rt 180) ∈ lw_tbl := ax_sub6 (List.mem_of_getElem? (i := 213) rfl)
theorem ax_cw_181 : Cond.code (ax_y 181) (ax_bc 181) (ax_mL 181) (ax_rt 181) ∈ lw_tbl := ax_sub6 (List.mem_of_getElem? (i := 216) rfl)
theorem ax_cw_182 : Cond.code (ax_y 182) (ax_bc 182) (ax_mL 182) (ax_rt 182) ∈ lw_tbl := ax_sub6 (List.mem_of_getElem? (i := 219) rfl)
theorem ax_cw_183 : Cond.code (ax_y 183) (ax_bc 183) (ax_mL 183) (ax_rt 183) ∈ lw_tbl := ax_sub6 (List.mem_of_getElem? (i := 223) rfl)
theorem ax_cw_184 : Cond.code (ax_y 184) (ax_bc 184) (ax_mL 184) (ax_rt 184) ∈ lw_tbl := ax_sub6 (List.mem_of_getElem? (i := 228) rfl)
theorem ax_cw_185 : Cond.code (ax_y 185) (ax_bc 185) (ax_mL 185) (ax_rt 185) ∈ lw_tbl := ax_sub6 (List.mem_of_getElem? (i := 232) rfl)
theorem ax_cw_186 : Cond.code (ax_y 186) (ax_bc 186) (ax_mL 186) (ax_rt 186) ∈ lw_tbl := ax_sub6 (List.mem_of_getElem? (i := 236) rfl)
theorem ax_cw_187 : Cond.code (ax_y 187) (ax_bc 187) (ax_mL 187) (ax_rt 187) ∈ lw_tbl := ax_sub7 (List.mem_of_getElem? (i := 0) rfl)
theorem ax_cw_188 : Cond.code (ax_y 188) (ax_bc 188) (ax_mL 188) (ax_rt 188) ∈ lw_tbl := ax_sub7 (List.mem_of_getElem? (i := 4) rfl)
theorem ax_cw_189 : Cond.code (ax_y 189) (ax_bc 189) (ax_mL 189) (ax_rt 189) ∈ lw_tbl := ax_sub7 (List.mem_of_getElem? (i := 8) rfl)
theorem ax_cw_190 : Cond.code (ax_y 190) (ax_bc 190) (ax_mL 190) (ax_rt 190) ∈ lw_tbl := ax_sub7 (List.mem_of_getElem? (i := 11) rfl)
theorem ax_cw_191 : Cond.code (ax_y 191) (ax_bc 191) (ax_mL 191) (ax_rt 191) ∈ lw_tbl := ax_sub7 (List.mem_of_getElem? (i := 15) rfl)
theorem ax_cw_192 : Cond.code (ax_y 192) (ax_bc 192) (ax_mL 192) (ax_rt 192) ∈ lw_tbl := ax_sub7 (List.mem_of_getElem? (i := 19) rfl)
theorem ax_cw_193 : Cond.code (ax_y 193) (ax_bc 193) (ax_mL 193) (ax_rt 193) ∈ lw_tbl := ax_sub7 (List.mem_of_getElem? (i := 23) rfl)
theorem ax_cw_194 : Cond.code (ax_y 194) (ax_bc 194) (ax_mL 194) (ax_rt 194) ∈ lw_tbl := ax_sub7 (List.mem_of_getElem? (i := 27) rfl)
theorem ax_cw_195 : Cond.code (ax_y 195) (ax_bc 195) (ax_mL 195) (ax_rt 195) ∈ lw_tbl := ax_sub7 (List.mem_of_getElem? (i := 31) rfl)
theorem ax_cw_196 : Cond.code (ax_y 196) (ax_bc 196) (ax_mL 196) (ax_rt 196) ∈ lw_tbl := ax_sub7 (List.mem_of_getElem? (i := 35) rfl)
theorem ax_cw_197 : Cond.code (ax_y 197) (ax_bc 197) (ax_mL 197) (ax_rt 197) ∈ lw_tbl := ax_sub7 (List.mem_of_getElem? (i := 39) rfl)
theorem ax_cw_198 : Cond.code (ax_y 198) (ax_bc 198) (ax_mL 198) (ax_rt 198) ∈ lw_tbl := ax_sub7 (List.mem_of_getElem? (i := 43) rfl)
theorem ax_cw_199 : Cond.code (ax_y 199) (ax_bc 199) (ax_mL 199) (ax_rt 199) ∈ lw_tbl := ax_sub7 (List.mem_of_getElem? (i := 47) rfl)
theorem ax_cw_200 : Cond.code (ax_y 200) (ax_bc 200) (ax_mL 200) (ax_rt 200) ∈ lw_tbl := ax_sub7 (List.mem_of_getElem? (i := 51) rfl)
theorem ax_cw_201 : Cond.code (ax_y 201) (ax_bc 201) (ax_mL 201) (ax_rt 201) ∈ lw_tbl := ax_sub7 (List.mem_of_getElem? (i := 55) rfl)
theorem ax_cw_202 : Cond.code (ax_y 202) (ax_bc 202) (ax_mL 202) (ax_rt 202) ∈ lw_tbl := ax_sub7 (List.mem_of_getElem? (i := 59) rfl)
theorem ax_cw_203 : Cond.code (ax_y 203) (ax_bc 203) (ax_mL 203) (ax_rt 203) ∈ lw_tbl := ax_sub7 (List.mem_of_getElem? (i := 63) rfl)
theorem ax_cw_204 : Cond.code (ax_y 204) (ax_bc 204) (ax_mL 204) (ax_rt 204) ∈ lw_tbl := ax_sub7 (List.mem_of_getElem? (i := 67) rfl)
theorem ax_cw_205 : Cond.code (ax_y 205) (ax_bc 205) (ax_mL 205) (ax_rt 205) ∈ lw_tbl := ax_sub7 (List.mem_of_getElem? (i := 71) rfl)
theorem ax_cw_206 : Cond.code (ax_y 206) (ax_bc 206) (ax_mL 206) (ax_rt 206) ∈ lw_tbl := ax_sub7 (List.mem_of_getElem? (i := 75) rfl)
theorem ax_cw_207 : Cond.code (ax_y 207) (ax_bc 207) (ax_mL 207) (ax_rt 207) ∈ lw_tbl := ax_sub7 (List.mem_of_getElem? (i := 79) rfl)
theorem ax_cw_208 : Cond.code (ax_y 208) (ax_bc 208) (ax_mL 208) (ax_rt 208) ∈ lw_tbl := ax_sub7 (List.mem_of_getElem? (i := 83) rfl)
theorem ax_cw_209 : Cond.code (ax_y 209) (ax_bc 209) (ax_mL 209) (ax_rt 209) ∈ lw_tbl := ax_sub7 (List.mem_of_getElem? (i := 87) rfl)
theorem ax_cw_210 : Cond.code (ax_y 210) (ax_bc 210) (ax_mL 210) (ax_rt 210) ∈ lw_tbl := ax_sub7 (List.mem_of_getElem? (i := 91) rfl)
theorem ax_cw_211 : Cond.code (ax_y 211) (ax_bc 211) (ax_mL 211) (ax_rt 211) ∈ lw_tbl := ax_sub7 (List.mem_of_getElem? (i := 95) rfl)
theorem ax_cw_212 : Cond.code (ax_y 212) (ax_bc 212) (ax_mL 212) (ax_rt 212) ∈ lw_tbl := ax_sub7 (List.mem_of_getElem? (i := 99) rfl)
theorem ax_cw_213 : Cond.code (ax_y 213) (ax_bc 213) (ax_mL 213) (ax_rt 213) ∈ lw_tbl := ax_sub7 (List.mem_of_getElem? (i := 105) rfl)
theorem ax_cw_214 : Cond.code (ax_y 214) (ax_bc 214) (ax_mL 214) (ax_rt 214) ∈ lw_tbl := ax_sub7 (List.mem_of_getElem? (i := 109) rfl)
theorem ax_cw_215 : Cond.code (ax_y 215) (ax_bc 215) (ax_mL 215) (ax_rt 215) ∈ lw_tbl := ax_sub7 (List.mem_of_getElem? (i := 113) rfl)
theorem ax_cw_216 : Cond.code (ax_y 216) (ax_bc 216) (ax_mL 216) (ax_rt 216) ∈ lw_tbl := ax_sub7 (List.mem_of_getElem? (i := 117) rfl)
theorem ax_cw_217 : Cond.code (ax_y 217) (ax_bc 217) (ax_mL 217) (ax_rt 217) ∈ lw_tbl := ax_sub7 (List.mem_of_getElem? (i := 122) rfl)
theorem ax_cw_218 : Cond.code (ax_y 218) (ax_bc 218) (ax_mL 218) (ax_rt 218) ∈ lw_tbl := ax_sub7 (List.mem_of_getElem? (i := 126) rfl)
theorem ax_cw_219 : Cond.code (ax_y 219) (ax_bc 219) (ax_mL 219) (ax_rt 219) ∈ lw_tbl := ax_sub7 (List.mem_of_getElem? (i := 130) rfl)
theorem ax_cw_220 : Cond.code (ax_y 220) (ax_bc 220) (ax_mL 220) (ax_rt 220) ∈ lw_tbl := ax_sub7 (List.mem_of_getElem? (i := 134) rfl)
theorem ax_cw_221 : Cond.code (ax_y 221) (ax_bc 221) (ax_mL 221) (ax_rt 221) ∈ lw_tbl := ax_sub7 (List.mem_of_getElem? (i := 138) rfl)
theorem ax_cw_222 : Cond.code (ax_y 222) (ax_bc 222) (ax_mL 222) (ax_rt 222) ∈ lw_tbl := ax_sub7 (List.mem_of_getElem? (i := 142) rfl)
theorem ax_cw_223 : Cond.code (ax_y 223) (ax_bc 223) (ax_mL 223) (ax_rt 223) ∈ lw_tbl := ax_sub7 (List.mem_of_getElem? (i := 147) rfl)
theorem ax_cw_224 : Cond.code (ax_y 224) (ax_bc 224) (ax_mL 224) (ax_rt 224) ∈ lw_tbl := ax_sub7 (List.mem_of_getElem? (i := 151) rfl)
theorem ax_cw_225 : Cond.code (ax_y 225) (ax_bc 225) (ax_mL 225) (ax_rt 225) ∈ lw_tbl := ax_sub7 (List.mem_of_getElem? (i := 155) rfl)
theorem ax_cw_226 : Cond.code (ax_y 226) (ax_bc 226) (ax_mL 226) (ax_rt 226) ∈ lw_tbl := ax_sub7 (List.mem_of_getElem? (i := 160) rfl)
theorem ax_cw_227 : Cond.code (ax_y 227) (ax_bc 227) (ax_mL 227) (ax_rt 227) ∈ lw_tbl := ax_sub7 (List.mem_of_getElem? (i := 164) rfl)
theorem ax_cw_228 : Cond.code (ax_y 228) (ax_bc 228) (ax_mL 228) (ax_rt 228) ∈ lw_tbl := ax_sub7 (List.mem_of_getElem? (i := 168) rfl)
theorem ax_cw_229 : Cond.code (ax_y 229) (ax_bc 229) (ax_mL 229) (ax_rt 229) ∈ lw_tbl := ax_sub7 (List.mem_of_getElem? (i := 172) rfl)
theorem ax_cw_230 : Cond.code (ax_y 230) (ax_bc 230) (ax_mL 230) (ax_rt 230) ∈ lw_tbl := ax_sub7 (List.mem_of_getElem? (i := 176) rfl)
theorem ax_cw_231 : Cond.code (ax_y 231) (ax_bc 231) (ax_mL 231) (ax_rt 231) ∈ lw_tbl := ax_sub7 (List.mem_of_getElem? (i := 180) rfl)
theorem ax_cw_232 : Cond.code (ax_y 232) (ax_bc 232) (ax_mL 232) (ax_rt 232) ∈ lw_tbl := ax_sub7 (List.mem_of_getElem? (i := 184) rfl)
theorem ax_cw_233 : Cond.code (ax_y 233) (ax_bc 233) (ax_mL 233) (ax_rt 233) ∈ lw_tbl := ax_sub7 (List.mem_of_getElem? (i := 188) rfl)
theorem ax_cw_234 : Cond.code (ax_y 234) (ax_bc 234) (ax_mL 234) (ax_rt 234) ∈ lw_tbl := ax_sub7 (List.mem_of_getElem? (i := 192) rfl)
theorem ax_cw_235 : Cond.code (ax_y 235) (ax_bc 235) (ax_mL 235) (ax_rt 235) ∈ lw_tbl := ax_sub7 (List.mem_of_getElem? (i := 196) rfl)
theorem ax_cw_236 : Cond.code (ax_y 236) (ax_bc 236) (ax_mL 236) (ax_rt 236) ∈ lw_tbl := ax_sub7 (List.mem_of_getElem? (i := 199) rfl)
theorem ax_cw_237 : Cond.code (ax_y 237) (ax_bc 237) (ax_mL 237) (ax_rt 237) ∈ lw_tbl := ax_sub7 (List.mem_of_getElem? (i := 203) rfl)
theorem ax_cw_238 : Cond.code (ax_y 238) (ax_bc 238) (ax_mL 238) (ax_rt 238) ∈ lw_tbl := ax_sub7 (List.mem_of_getElem? (i := 207) rfl)
theorem ax_cw_239 : Cond.code (ax_y 239) (ax_bc 239) (ax_mL 239) (ax_rt 239) ∈ lw_tbl := ax_sub7 (List.mem_of_getElem? (i := 211) rfl)
theorem ax_cw_240 : Cond.code (ax_y 240) (ax_bc 240) (ax_mL 240) (ax_rt 240) ∈ lw_tbl := ax_sub7 (List.mem_of_getElem? (i := 215) rfl)
theorem ax_cw_241 : Cond.code (ax_y 241) (ax_bc 241) (ax_mL 241) (ax_rt 241) ∈ lw_tbl := ax_sub7 (List.mem_of_getElem? (i := 219) rfl)
theorem ax_cw_242 : Cond.code (ax_y 242) (ax_bc 242) (ax_mL 242) (ax_rt 242) ∈ lw_tbl := ax_sub7 (List.mem_of_getElem? (i := 223) rfl)
theorem ax_cw_243 : Cond.code (ax_y 243) (ax_bc 243) (ax_mL 243) (ax_rt 243) ∈ lw_tbl := ax_sub7 (List.mem_of_getElem? (i := 227) rfl)
theorem ax_cw_244 : Cond.code (ax_y 244) (ax_bc 244) (ax_mL 244) (ax_rt 244) ∈ lw_tbl := ax_sub7 (List.mem_of_getElem? (i := 231) rfl)
theorem ax_cw_245 : Cond.code (ax_y 245) (ax_bc 245) (ax_mL 245) (ax_rt 245) ∈ lw_tbl := ax_sub7 (List.mem_of_getElem? (i := 235) rfl)
theorem ax_cw_246 : Cond.code (ax_y 246) (ax_bc 246) (ax_mL 246) (ax_rt 246) ∈ lw_tbl := ax_sub7 (List.mem_of_getElem? (i := 239) rfl)
theorem ax_cw_247 : Cond.code (ax_y 247) (ax_bc 247) (ax_mL 247) (ax_rt 247) ∈ lw_tbl := ax_sub8 (List.mem_of_getElem? (i := 3) rfl)
theorem ax_cw_248 : Cond.code (ax_y 248) (ax_bc 248) (ax_mL 248) (ax_rt 248) ∈ lw_tbl := ax_sub8 (List.mem_of_getElem? (i := 7) rfl)
theorem ax_cw_249 : Cond.code (ax_y 249) (ax_bc 249) (ax_mL 249) (ax_rt 249) ∈ lw_tbl := ax_sub8 (List.mem_of_getElem? (i := 11) rfl)
theorem ax_cw_250 : Cond.code (ax_y 250) (ax_bc 250) (ax_mL 250) (ax_rt 250) ∈ lw_tbl := ax_sub8 (List.mem_of_getElem? (i := 15) rfl)
theorem ax_cw_251 : Cond.code (ax_y 251) (ax_bc 251) (ax_mL 251) (ax_rt 251) ∈ lw_tbl := ax_sub8 (List.mem_of_getElem? (i := 19) rfl)
theorem ax_cw_252 : Cond.code (ax_y 252) (ax_bc 252) (ax_mL 252) (ax_rt 252) ∈ lw_tbl := ax_sub8 (List.mem_of_getElem? (i := 26) rfl)
theorem ax_cw_253 : Cond.code (ax_y 253) (ax_bc 253) (ax_mL 253) (ax_rt 253) ∈ lw_tbl := ax_sub8 (List.mem_of_getElem? (i := 30) rfl)
theorem ax_cw_254 : Cond.code (ax_y 254) (ax_bc 254) (ax_mL 254) (ax_rt 254) ∈ lw_tbl := ax_sub8 (List.mem_of_getElem? (i := 34) rfl)
theorem ax_cw_all (m : Nat) (hm : m < 255) : Cond.code (ax_y m) (ax_bc m) (ax_mL m) (ax_rt m) ∈ lw_tbl := by
  match m, hm with
  | 0, _ => exact ax_cw_0
  | 1, _ => exact ax_cw_1
  | 2, _ => exact ax_cw_2
  | 3, _ => exact ax_cw_3
  | 4, _ => exact ax_cw_4
  | 5, _ => exact ax_cw_5
  | 6, _ => exact ax_cw_6
  | 7, _ => exact ax_cw_7
  | 8, _ => exact ax_cw_8
  | 9, _ => exact ax_cw_9
  | 10, _ => exact ax_cw_10
  | 11, _ => exact ax_cw_11
  | 12, _ => exact ax_cw_12
  | 13, _ => exact ax_cw_13
  | 14, _ => exact ax_cw_14
  | 15, _ => exact ax_cw_15
  | 16, _ => exact ax_cw_16
  | 17, _ => exact ax_cw_17
  | 18, _ => exact ax_cw_18
  | 19, _ => exact ax_cw_19
  | 20, _ => exact ax_cw_20
  | 21, _ => exact ax_cw_21
  | 22, _ => exact ax_cw_22
  | 23, _ => exact ax_cw_23
  | 24, _ => exact ax_cw_24
  | 25, _ => exact ax_cw_25
  | 26, _ => exact ax_cw_26
  | 27, _ => exact ax_cw_27
  | 28, _ => exact ax_cw_28
  | 29, _ => exact ax_cw_29
  | 30, _ => exact ax_cw_30
  | 31, _ => exact ax_cw_31
  | 32, _ => exact ax_cw_32
  | 33, _ => exact ax_cw_33
  | 34, _ => exact ax_cw_34
  | 35, _ => exact ax_cw_35
  | 36, _ => exact ax_cw_36
  | 37, _ => exact ax_cw_37
  | 38, _ => exact ax_cw_38
  | 39, _ => exact ax_cw_39
  | 40, _ => exact ax_cw_40
  | 41, _ => exact ax_cw_41
  | 42, _ => exact ax_cw_42
  | 43, _ => exact ax_cw_43
  | 44, _ => exact ax_cw_44
  | 45, _ => exact ax_cw_45
  | 46, _ => exact ax_cw_46
  | 47, _ => exact ax_cw_47
  | 48, _ => exact ax_cw_48
  | 49, _ => exact ax_cw_49
  | 50, _ => exact ax_cw_50
  | 51, _ => exact ax_cw_51
  | 52, _ => exact ax_cw_52
  | 53, _ => exact ax_cw_53
  | 54, _ => exact ax_cw_54
  | 55, _ => exact ax_cw_55
  | 56, _ => exact ax_cw_56
  | 57, _ => exact ax_cw_57
  | 58, _ => exact ax_cw_58
  | 59, _ => exact ax_cw_59
  | 60, _ => exact ax_cw_60
  | 61, _ => exact ax_cw_61
  | 62, _ => exact ax_cw_62
  | 63, _ => exact ax_cw_63
  | 64, _ => exact ax_cw_64
  | 65, _ => exact ax_cw_65
  | 66, _ => exact ax_cw_66
  | 67, _ => exact ax_cw_67
  | 68, _ => exact ax_cw_68
  | 69, _ => exact ax_cw_69
  | 70, _ => exact ax_cw_70
  | 71, _ => exact ax_cw_71
  | 72, _ => exact ax_cw_72
  | 73, _ => exact ax_cw_73
  | 74, _ => exact ax_cw_74
  | 75, _ => exact ax_cw_75
  | 76, _ => exact ax_cw_76
  | 77, _ => exact ax_cw_77
  | 78, _ => exact ax_cw_78
  | 79, _ => exact ax_cw_79
  | 80, _ => exact ax_cw_80
  | 81, _ => exact ax_cw_81
  | 82, _ => exact ax_cw_82
  | 83, _ => exact ax_cw_83
  | 84, _ => exact ax_cw_84
  | 85, _ => exact ax_cw_85
  | 86, _ => exact ax_cw_86
  | 87, _ => exact ax_cw_87
  | 88, _ => exact ax_cw_88
  | 89, _ => exact ax_cw_89
  | 90, _ => exact ax_cw_90
  | 91, _ => exact ax_cw_91
  | 92, _ => exact ax_cw_92
  | 93, _ => exact ax_cw_93
  | 94, _ => exact ax_cw_94
  | 95, _ => exact ax_cw_95
  | 96, _ => exact ax_cw_96
  | 97, _ => exact ax_cw_97
  | 98, _ => exact ax_cw_98
  | 99, _ => exact ax_cw_99
  | 100, _ => exact ax_cw_100
  | 101, _ => exact ax_cw_101
  | 102, _ => exact ax_cw_102
  | 103, _ => exact ax_cw_103
  | 104, _ => exact ax_cw_104
  | 105, _ => exact ax_cw_105
  | 106, _ => exact ax_cw_106
  | 107, _ => exact ax_cw_107
  | 108, _ => exact ax_cw_108
  | 109, _ => exact ax_cw_109
  | 110, _ => exact ax_cw_110
  | 111, _ => exact ax_cw_111
  | 112, _ => exact ax_cw_112
  | 113, _ => exact ax_cw_113
  | 114, _ => exact ax_cw_114
  | 115, _ => exact ax_cw_115
  | 116, _ => exact ax_cw_116
  | 117, _ => exact ax_cw_117
  | 118, _ => exact ax_cw_118
  | 119, _ => exact ax_cw_119
  | 120, _ => exact ax_cw_120
  | 121, _ => exact ax_cw_121
  | 122, _ => exact ax_cw_122
  | 123, _ => exact ax_cw_123
  | 124, _ => exact ax_cw_124
  | 125, _ => exact ax_cw_125
  | 126, _ => exact ax_cw_126
  | 127, _ => exact ax_cw_127
  | 128, _ => exact ax_cw_128
  | 129, _ => exact ax_cw_129
  | 130, _ => exact ax_cw_130
  | 131, _ => exact ax_cw_131
  | 132, _ => exact ax_cw_132
  | 133, _ => exact ax_cw_133
  | 134, _ => exact ax_cw_134
  | 135, _ => exact ax_cw_135
  | 136, _ => exact ax_cw_136
  | 137, _ => exact ax_cw_137
  | 138, _ => exact ax_cw_138
  | 139, _ => exact ax_cw_139
  | 140, _ => exact ax_cw_140
  | 141, _ => exact ax_cw_141
  | 142, _ => exact ax_cw_142
  | 143, _ => exact ax_cw_143
  | 144, _ => exact ax_cw_144
  | 145, _ => exact ax_cw_145
  | 146, _ => exact ax_cw_146
  | 147, _ => exact ax_cw_147
  | 148, _ => exact ax_cw_148
  | 149, _ => exact ax_cw_149
  | 150, _ => exact ax_cw_150
  | 151, _ => exact ax_cw_151
  | 152, _ => exact ax_cw_152
  | 153, _ => exact ax_cw_153
  | 154, _ => exact ax_cw_154
  | 155, _ => exact ax_cw_155
  | 156, _ => exact ax_cw_156
  | 157, _ => exact ax_cw_157
  | 158, _ => exact ax_cw_158
  | 159, _ => exact ax_cw_159
  | 160, _ => exact ax_cw_160
  | 161, _ => exact ax_cw_161
  | 162, _ => exact ax_cw_162
  | 163, _ => exact ax_cw_163
  | 164, _ => exact ax_cw_164
  | 165, _ => exact ax_cw_165
  | 166, _ => exact ax_cw_166
  | 167, _ => exact ax_cw_167
  | 168, _ => exact ax_cw_168
  | 169, _ => exact ax_cw_169
  | 170, _ => exact ax_cw_170
  | 171, _ => exact ax_cw_171
  | 172, _ => exact ax_cw_172
  | 173, _ => exact ax_cw_173
  | 174, _ => exact ax_cw_174
  | 175, _ => exact ax_cw_175
  | 176, _ => exact ax_cw_176
  | 177, _ => exact ax_cw_177
  | 178, _ => exact ax_cw_178
  | 179, _ => exact ax_cw_179
  | 180, _ => exact ax_cw_180
  | 181, _ => exact ax_cw_181
  | 182, _ => exact ax_cw_182
  | 183, _ => exact ax_cw_183
  | 184, _ => exact ax_cw_184
  | 185, _ => exact ax_cw_185
  | 186, _ => exact ax_cw_186
  | 187, _ => exact ax_cw_187
  | 188, _ => exact ax_cw_188
  | 189, _ => exact ax_cw_189
  | 190, _ => exact ax_cw_190
  | 191, _ => exact ax_cw_191
  | 192, _ => exact ax_cw_192
  | 193, _ => exact ax_cw_193
  | 194, _ => exact ax_cw_194
  | 195, _ => exact ax_cw_195
  | 196, _ => exact ax_cw_196
  | 197, _ => exact ax_cw_197
  | 198, _ => exact ax_cw_198
  | 199, _ => exact ax_cw_199
  | 200, _ => exact ax_cw_200
  | 201, _ => exact ax_cw_201
  | 202, _ => exact ax_cw_202
  | 203, _ => exact ax_cw_203
  | 204, _ => exact ax_cw_204
  | 205, _ => exact ax_cw_205
  | 206, _ => exact ax_cw_206
  | 207, _ => exact ax_cw_207
  | 208, _ => exact ax_cw_208
  | 209, _ => exact ax_cw_209
  | 210, _ => exact ax_cw_210
  | 211, _ => exact ax_cw_211
  | 212, _ => exact ax_cw_212
  | 213, _ => exact ax_cw_213
  | 214, _ => exact ax_cw_214
  | 215, _ => exact ax_cw_215
  | 216, _ => exact ax_cw_216
  | 217, _ => exact ax_cw_217
  | 218, _ => exact ax_cw_218
  | 219, _ => exact ax_cw_219
  | 220, _ => exact ax_cw_220
  | 221, _ => exact ax_cw_221
  | 222, _ => exact ax_cw_222
  | 223, _ => exact ax_cw_223
  | 224, _ => exact ax_cw_224
  | 225, _ => exact ax_cw_225
  | 226, _ => exact ax_cw_226
  | 227, _ => exact ax_cw_227
  | 228, _ => exact ax_cw_228
  | 229, _ => exact ax_cw_229
  | 230, _ => exact ax_cw_230
  | 231, _ => exact ax_cw_231
  | 232, _ => exact ax_cw_232
  | 233, _ => exact ax_cw_233
  | 234, _ => exact ax_cw_234
  | 235, _ => exact ax_cw_235
  | 236, _ => exact ax_cw_236
  | 237, _ => exact ax_cw_237
  | 238, _ => exact ax_cw_238
  | 239, _ => exact ax_cw_239
  | 240, _ => exact ax_cw_240
  | 241, _ => exact ax_cw_241
  | 242, _ => exact ax_cw_242
  | 243, _ => exact ax_cw_243
  | 244, _ => exact ax_cw_244
  | 245, _ => exact ax_cw_245
  | 246, _ => exact ax_cw_246
  | 247, _ => exact ax_cw_247
  | 248, _ => exact ax_cw_248
  | 249, _ => exact ax_cw_249
  | 250, _ => exact ax_cw_250
  | 251, _ => exact ax_cw_251
  | 252, _ => exact ax_cw_252
  | 253, _ => exact ax_cw_253
  | 254, _ => exact ax_cw_254
  | m + 255, hm => exact absurd hm (by omega)
