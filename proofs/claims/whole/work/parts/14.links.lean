theorem tw_0 : Cond.selects RX11 yX11_error yX11_error ∈ lw_gd := gd (List.mem_of_getElem? (i := 0) (by decide +kernel)) rfl
theorem tw_1 : Cond.selects RX11 yX11_isHeir yX11_isHeir ∈ lw_gd := gd (List.mem_of_getElem? (i := 1) (by decide +kernel)) rfl
theorem tw_2 : Cond.selects RX10 yX10_sunOf yX10_sunOf ∈ lw_gd := gd (List.mem_of_getElem? (i := 2) (by decide +kernel)) rfl
theorem tw_3 : Cond.selects RX6 yX6_readLevel yX6_readLevel ∈ lw_gd := gd (List.mem_of_getElem? (i := 3) (by decide +kernel)) rfl
theorem tw_4 : Cond.selects RX6 yX6_readPart yX6_readPart ∈ lw_gd := gd (List.mem_of_getElem? (i := 4) (by decide +kernel)) rfl
theorem tw_5 : Cond.selects RX6 yX6_readNumber yX6_readNumber ∈ lw_gd := gd (List.mem_of_getElem? (i := 5) (by decide +kernel)) rfl
theorem tw_6 : Cond.selects RX6 yX6_write yX6_write ∈ lw_gd := gd (List.mem_of_getElem? (i := 6) (by decide +kernel)) rfl
theorem tw_7 : Cond.selects RX6 yX6_readClosing yX6_readClosing ∈ lw_gd := gd (List.mem_of_getElem? (i := 7) (by decide +kernel)) rfl
theorem tw_8 : Cond.selects RX6 yX6_take yX6_take ∈ lw_gd := gd (List.mem_of_getElem? (i := 8) (by decide +kernel)) rfl
theorem tw_9 : Cond.selects RX6 yX6_workedOut yX6_workedOut ∈ lw_gd := gd (List.mem_of_getElem? (i := 9) (by decide +kernel)) rfl
theorem tw_10 : Cond.selects RX10 yX10_carry yX10_carry ∈ lw_gd := gd (List.mem_of_getElem? (i := 10) (by decide +kernel)) rfl
theorem tw_11 : Cond.selects RX10 yX10_drift yX10_drift ∈ lw_gd := gd (List.mem_of_getElem? (i := 11) (by decide +kernel)) rfl
theorem tw_12 : Cond.selects RX10 yX10_shine yX10_shine ∈ lw_gd := gd (List.mem_of_getElem? (i := 12) (by decide +kernel)) rfl
theorem tw_13 : Cond.selects RX10 yX10_sweepUp yX10_sweepUp ∈ lw_gd := gd (List.mem_of_getElem? (i := 13) (by decide +kernel)) rfl
theorem tw_14 : Cond.selects RX11 yX11_think yX11_think ∈ lw_gd := gd (List.mem_of_getElem? (i := 14) (by decide +kernel)) rfl
theorem tw_15 : Cond.selects RX11 yX11_isSetOfHeirs yX11_isSetOfHeirs ∈ lw_gd := gd (List.mem_of_getElem? (i := 15) (by decide +kernel)) rfl
theorem tw_16 : Cond.selects RX11 yX11_isMissing yX11_isMissing ∈ lw_gd := gd (List.mem_of_getElem? (i := 16) (by decide +kernel)) rfl
theorem tw_17 : Cond.selects RX11 yX11_liesAsTold yX11_liesAsTold ∈ lw_gd := gd (List.mem_of_getElem? (i := 17) (by decide +kernel)) rfl
theorem tw_18 : Cond.selects RX11 yX11_stand yX11_stand ∈ lw_gd := gd (List.mem_of_getElem? (i := 18) (by decide +kernel)) rfl
theorem tw_19 : Cond.selects RX12 yX12_finds yX12_finds ∈ lw_gd := gd (List.mem_of_getElem? (i := 19) (by decide +kernel)) rfl
theorem tw_20 : Cond.selects RX12 yX12_reads yX12_reads ∈ lw_gd := gd (List.mem_of_getElem? (i := 20) (by decide +kernel)) rfl
theorem tw_21 : Cond.selects RX12 yX12_either yX12_either ∈ lw_gd := gd (List.mem_of_getElem? (i := 21) (by decide +kernel)) rfl
theorem tw_22 : Cond.selects RX12 yX12_both yX12_both ∈ lw_gd := gd (List.mem_of_getElem? (i := 22) (by decide +kernel)) rfl
theorem tw_23 : Cond.selects RX12 yX12_compared yX12_compared ∈ lw_gd := gd (List.mem_of_getElem? (i := 23) (by decide +kernel)) rfl
theorem tw_24 : Cond.selects RX12 yX12_sum yX12_sum ∈ lw_gd := gd (List.mem_of_getElem? (i := 24) (by decide +kernel)) rfl
theorem tw_25 : Cond.selects RX12 yX12_product yX12_product ∈ lw_gd := gd (List.mem_of_getElem? (i := 25) (by decide +kernel)) rfl
theorem tw_26 : Cond.selects RX12 yX12_unit yX12_unit ∈ lw_gd := gd (List.mem_of_getElem? (i := 26) (by decide +kernel)) rfl
theorem tw_27 : Cond.selects RX12 yX12_here yX12_here ∈ lw_gd := gd (List.mem_of_getElem? (i := 27) (by decide +kernel)) rfl
theorem tw_28 : Cond.selects RX12 yX12_opens yX12_opens ∈ lw_gd := gd (List.mem_of_getElem? (i := 28) (by decide +kernel)) rfl
theorem tw_29 : Cond.selects RX12 yX12_wrong yX12_wrong ∈ lw_gd := gd (List.mem_of_getElem? (i := 29) (by decide +kernel)) rfl
theorem tw_30 : Cond.selects RX12 yX12_lay yX12_lay ∈ lw_gd := gd (List.mem_of_getElem? (i := 30) (by decide +kernel)) rfl
theorem tw_31 : Cond.selects RX12 yX12_takes yX12_takes ∈ lw_gd := gd (List.mem_of_getElem? (i := 31) (by decide +kernel)) rfl
theorem tw_32 : Cond.selects RX12 yX12_nameOf yX12_nameOf ∈ lw_gd := gd (List.mem_of_getElem? (i := 32) (by decide +kernel)) rfl
theorem tw_33 : Cond.selects RX12 yX12_textGives yX12_textGives ∈ lw_gd := gd (List.mem_of_getElem? (i := 33) (by decide +kernel)) rfl
theorem tw_34 : Cond.selects RX12 yX12_worked yX12_worked ∈ lw_gd := gd (List.mem_of_getElem? (i := 34) (by decide +kernel)) rfl
theorem tw_35 : Cond.selects RX12 yX12_becomes yX12_becomes ∈ lw_gd := gd (List.mem_of_getElem? (i := 35) (by decide +kernel)) rfl
theorem tw_36 : Cond.selects RX12 yX12_lying yX12_lying ∈ lw_gd := gd (List.mem_of_getElem? (i := 36) (by decide +kernel)) rfl
theorem tw_37 : Cond.selects RX12 yX12_of yX12_of ∈ lw_gd := gd (List.mem_of_getElem? (i := 37) (by decide +kernel)) rfl
theorem tw_38 : Cond.selects RX12 yX12_sets yX12_sets ∈ lw_gd := gd (List.mem_of_getElem? (i := 38) (by decide +kernel)) rfl
theorem tw_39 : Cond.selects RX12 yX12_leaves yX12_leaves ∈ lw_gd := gd (List.mem_of_getElem? (i := 39) (by decide +kernel)) rfl
theorem tw_40 : Cond.selects RX12 yX12_isHeir yX12_isHeir ∈ lw_gd := gd (List.mem_of_getElem? (i := 40) (by decide +kernel)) rfl
theorem tw_41 : Cond.selects RX12 yX12_drifts yX12_drifts ∈ lw_gd := gd (List.mem_of_getElem? (i := 41) (by decide +kernel)) rfl
theorem tw_42 : Cond.selects RX12 yX12_sunOf yX12_sunOf ∈ lw_gd := gd (List.mem_of_getElem? (i := 42) (by decide +kernel)) rfl
theorem tw_43 : Cond.selects RX12 yX12_isDust yX12_isDust ∈ lw_gd := gd (List.mem_of_getElem? (i := 43) (by decide +kernel)) rfl
theorem tw_44 : Cond.selects RX12 yX12_shines yX12_shines ∈ lw_gd := gd (List.mem_of_getElem? (i := 44) (by decide +kernel)) rfl
theorem tw_45 : Cond.selects RX12 yX12_needs yX12_needs ∈ lw_gd := gd (List.mem_of_getElem? (i := 45) (by decide +kernel)) rfl
theorem tw_46 : Cond.selects RX12 yX12_isContent yX12_isContent ∈ lw_gd := gd (List.mem_of_getElem? (i := 46) (by decide +kernel)) rfl
theorem tw_47 : Cond.selects RX12 yX12_daysGo yX12_daysGo ∈ lw_gd := gd (List.mem_of_getElem? (i := 47) (by decide +kernel)) rfl
theorem tw_48 : Cond.selects RX12 yX12_dayGoes yX12_dayGoes ∈ lw_gd := gd (List.mem_of_getElem? (i := 48) (by decide +kernel)) rfl
theorem tw_49 : Cond.selects RX12 yX12_dusts yX12_dusts ∈ lw_gd := gd (List.mem_of_getElem? (i := 49) (by decide +kernel)) rfl
theorem tw_50 : Cond.selects RX12 yX12_drawn yX12_drawn ∈ lw_gd := gd (List.mem_of_getElem? (i := 50) (by decide +kernel)) rfl
theorem tw_51 : Cond.selects RX12 yX12_keepAside yX12_keepAside ∈ lw_gd := gd (List.mem_of_getElem? (i := 51) (by decide +kernel)) rfl
theorem tw_52 : Cond.selects RX12 yX12_behind yX12_behind ∈ lw_gd := gd (List.mem_of_getElem? (i := 52) (by decide +kernel)) rfl
theorem tw_53 : Cond.selects RX12 yX12_putBack yX12_putBack ∈ lw_gd := gd (List.mem_of_getElem? (i := 53) (by decide +kernel)) rfl
theorem tw_54 : Cond.selects RX12 yX12_contents yX12_contents ∈ lw_gd := gd (List.mem_of_getElem? (i := 54) (by decide +kernel)) rfl
theorem tw_55 : Cond.selects RX12 yX12_areDust yX12_areDust ∈ lw_gd := gd (List.mem_of_getElem? (i := 55) (by decide +kernel)) rfl
theorem tw_56 : Cond.selects RX12 yX12_liesBy yX12_liesBy ∈ lw_gd := gd (List.mem_of_getElem? (i := 56) (by decide +kernel)) rfl
theorem tw_57 : Cond.selects RX12 yX12_ran yX12_ran ∈ lw_gd := gd (List.mem_of_getElem? (i := 57) (by decide +kernel)) rfl
theorem tw_58 : Cond.selects RX12 yX12_shinesBy yX12_shinesBy ∈ lw_gd := gd (List.mem_of_getElem? (i := 58) (by decide +kernel)) rfl
theorem tw_59 : Cond.selects RX12 yX12_driftsBy yX12_driftsBy ∈ lw_gd := gd (List.mem_of_getElem? (i := 59) (by decide +kernel)) rfl
theorem tw_60 : Cond.selects RX12 yX12_tellsBy yX12_tellsBy ∈ lw_gd := gd (List.mem_of_getElem? (i := 60) (by decide +kernel)) rfl
theorem tw_61 : Cond.selects RX12 yX12_sumOf yX12_sumOf ∈ lw_gd := gd (List.mem_of_getElem? (i := 61) (by decide +kernel)) rfl
theorem tw_63 : Cond.initialized RX11 ∈ lw_gd := gd (List.mem_of_getElem? (i := 63) (by decide +kernel)) rfl
theorem tw_64 : Cond.initialized RX5 ∈ lw_gd := gd (List.mem_of_getElem? (i := 64) (by decide +kernel)) rfl
theorem tw_65 : Cond.initialized RX7 ∈ lw_gd := gd (List.mem_of_getElem? (i := 65) (by decide +kernel)) rfl
theorem tw_66 : Cond.initialized RX1 ∈ lw_gd := gd (List.mem_of_getElem? (i := 66) (by decide +kernel)) rfl
theorem tw_67 : Cond.initialized RX0 ∈ lw_gd := gd (List.mem_of_getElem? (i := 67) (by decide +kernel)) rfl
theorem tw_68 : Cond.initialized RX3 ∈ lw_gd := gd (List.mem_of_getElem? (i := 68) (by decide +kernel)) rfl
theorem tw_69 : Cond.initialized RX2 ∈ lw_gd := gd (List.mem_of_getElem? (i := 69) (by decide +kernel)) rfl
theorem tw_70 : Cond.initialized RX4 ∈ lw_gd := gd (List.mem_of_getElem? (i := 70) (by decide +kernel)) rfl
theorem tw_71 : Cond.initialized RX10 ∈ lw_gd := gd (List.mem_of_getElem? (i := 71) (by decide +kernel)) rfl
theorem tw_72 : Cond.initialized RX8 ∈ lw_gd := gd (List.mem_of_getElem? (i := 72) (by decide +kernel)) rfl
theorem tw_73 : Cond.initialized RX6 ∈ lw_gd := gd (List.mem_of_getElem? (i := 73) (by decide +kernel)) rfl
theorem tw_74 : Cond.initialized RX9 ∈ lw_gd := gd (List.mem_of_getElem? (i := 74) (by decide +kernel)) rfl
theorem tw_75 : Cond.initialized RX12 ∈ lw_gd := gd (List.mem_of_getElem? (i := 75) (by decide +kernel)) rfl
theorem tw_76 : Cond.initialized RJ9 ∈ lw_gd := gd (List.mem_of_getElem? (i := 76) (by decide +kernel)) rfl
theorem tw_77 : Cond.initialized RJ0 ∈ lw_gd := gd (List.mem_of_getElem? (i := 77) (by decide +kernel)) rfl
theorem tw_78 : Cond.initialized RJ1 ∈ lw_gd := gd (List.mem_of_getElem? (i := 78) (by decide +kernel)) rfl
theorem tw_79 : Cond.initialized RJ2 ∈ lw_gd := gd (List.mem_of_getElem? (i := 79) (by decide +kernel)) rfl
theorem tw_80 : Cond.initialized RJ3 ∈ lw_gd := gd (List.mem_of_getElem? (i := 80) (by decide +kernel)) rfl
theorem tw_81 : Cond.initialized RJ11 ∈ lw_gd := gd (List.mem_of_getElem? (i := 81) (by decide +kernel)) rfl
theorem tw_82 : Cond.initialized RJ10 ∈ lw_gd := gd (List.mem_of_getElem? (i := 82) (by decide +kernel)) rfl
theorem tw_83 : Cond.initialized RJ6 ∈ lw_gd := gd (List.mem_of_getElem? (i := 83) (by decide +kernel)) rfl
theorem tw_84 : Cond.initialized RJ7 ∈ lw_gd := gd (List.mem_of_getElem? (i := 84) (by decide +kernel)) rfl
theorem tw_107 : Cond.superclass RX7 RX5 ∈ lw_gd := gd (List.mem_of_getElem? (i := 107) (by decide +kernel)) rfl
theorem tw_114 : Cond.superclass RX1 RX5 ∈ lw_gd := gd (List.mem_of_getElem? (i := 114) (by decide +kernel)) rfl
theorem tw_121 : Cond.superclass RX0 RX5 ∈ lw_gd := gd (List.mem_of_getElem? (i := 121) (by decide +kernel)) rfl
theorem tw_128 : Cond.superclass RX3 RX7 ∈ lw_gd := gd (List.mem_of_getElem? (i := 128) (by decide +kernel)) rfl
theorem tw_135 : Cond.superclass RX2 RX1 ∈ lw_gd := gd (List.mem_of_getElem? (i := 135) (by decide +kernel)) rfl
theorem tw_142 : Cond.superclass RX4 RX0 ∈ lw_gd := gd (List.mem_of_getElem? (i := 142) (by decide +kernel)) rfl
theorem tw_149 : Cond.fieldLink RX10 (43) RX10 "kinds" "[LDustSills$Heir;" ∈ lw_gd := gd (List.mem_of_getElem? (i := 149) (by decide +kernel)) rfl
theorem tw_150 : Cond.fieldLink RX10 (9) RX10 "sun" "[I" ∈ lw_gd := gd (List.mem_of_getElem? (i := 150) (by decide +kernel)) rfl
theorem tw_151 : Cond.fieldLink RX11 (90) RX10 "sun" "[I" ∈ lw_gd := gd (List.mem_of_getElem? (i := 151) (by decide +kernel)) rfl
theorem tw_152 : Cond.fieldLink RX10 (15) RX10 "to" "[I" ∈ lw_gd := gd (List.mem_of_getElem? (i := 152) (by decide +kernel)) rfl
theorem tw_153 : Cond.fieldLink RX11 (93) RX10 "to" "[I" ∈ lw_gd := gd (List.mem_of_getElem? (i := 153) (by decide +kernel)) rfl
theorem tw_154 : Cond.fieldLink RX10 (18) RX10 "kind" "[I" ∈ lw_gd := gd (List.mem_of_getElem? (i := 154) (by decide +kernel)) rfl
theorem tw_155 : Cond.fieldLink RX11 (127) RX10 "kind" "[I" ∈ lw_gd := gd (List.mem_of_getElem? (i := 155) (by decide +kernel)) rfl
theorem tw_156 : Cond.fieldLink RX10 (21) RX10 "mark" "[I" ∈ lw_gd := gd (List.mem_of_getElem? (i := 156) (by decide +kernel)) rfl
theorem tw_157 : Cond.fieldLink RX11 (130) RX10 "mark" "[I" ∈ lw_gd := gd (List.mem_of_getElem? (i := 157) (by decide +kernel)) rfl
theorem tw_158 : Cond.fieldLink RX10 (24) RX10 "lot" "[I" ∈ lw_gd := gd (List.mem_of_getElem? (i := 158) (by decide +kernel)) rfl
theorem tw_159 : Cond.fieldLink RX11 (133) RX10 "lot" "[I" ∈ lw_gd := gd (List.mem_of_getElem? (i := 159) (by decide +kernel)) rfl
theorem tw_160 : Cond.fieldLink RX10 (27) RX10 "left" "[I" ∈ lw_gd := gd (List.mem_of_getElem? (i := 160) (by decide +kernel)) rfl
theorem tw_161 : Cond.fieldLink RX11 (136) RX10 "left" "[I" ∈ lw_gd := gd (List.mem_of_getElem? (i := 161) (by decide +kernel)) rfl
theorem tw_162 : Cond.fieldLink RX10 (30) RX10 "at" "[I" ∈ lw_gd := gd (List.mem_of_getElem? (i := 162) (by decide +kernel)) rfl
theorem tw_163 : Cond.fieldLink RX11 (139) RX10 "at" "[I" ∈ lw_gd := gd (List.mem_of_getElem? (i := 163) (by decide +kernel)) rfl
theorem tw_164 : Cond.fieldLink RX10 (33) RX10 "lit" "[I" ∈ lw_gd := gd (List.mem_of_getElem? (i := 164) (by decide +kernel)) rfl
theorem tw_165 : Cond.fieldLink RX11 (142) RX10 "lit" "[I" ∈ lw_gd := gd (List.mem_of_getElem? (i := 165) (by decide +kernel)) rfl
theorem tw_166 : Cond.fieldLink RX10 (53) RX10 "heirs" "I" ∈ lw_gd := gd (List.mem_of_getElem? (i := 166) (by decide +kernel)) rfl
theorem tw_167 : Cond.fieldLink RX11 (116) RX10 "heirs" "I" ∈ lw_gd := gd (List.mem_of_getElem? (i := 167) (by decide +kernel)) rfl
theorem tw_168 : Cond.fieldLink RX10 (36) RX10 "carts" "I" ∈ lw_gd := gd (List.mem_of_getElem? (i := 168) (by decide +kernel)) rfl
theorem tw_169 : Cond.fieldLink RX11 (102) RX10 "carts" "I" ∈ lw_gd := gd (List.mem_of_getElem? (i := 169) (by decide +kernel)) rfl
theorem tw_170 : Cond.fieldLink RX10 (40) RX10 "sweep" "I" ∈ lw_gd := gd (List.mem_of_getElem? (i := 170) (by decide +kernel)) rfl
theorem tw_171 : Cond.fieldLink RX11 (106) RX10 "sweep" "I" ∈ lw_gd := gd (List.mem_of_getElem? (i := 171) (by decide +kernel)) rfl
theorem tw_172 : Cond.fieldLink RX10 (56) RX10 "glory" "I" ∈ lw_gd := gd (List.mem_of_getElem? (i := 172) (by decide +kernel)) rfl
theorem tw_173 : Cond.fieldLink RX11 (110) RX10 "glory" "I" ∈ lw_gd := gd (List.mem_of_getElem? (i := 173) (by decide +kernel)) rfl
theorem tw_174 : Cond.fieldLink RX10 (59) RX10 "day" "I" ∈ lw_gd := gd (List.mem_of_getElem? (i := 174) (by decide +kernel)) rfl
theorem tw_175 : Cond.fieldLink RX11 (202) RX10 "day" "I" ∈ lw_gd := gd (List.mem_of_getElem? (i := 175) (by decide +kernel)) rfl
theorem tw_219 : Cond.fieldLink RX6 (21) RX6 "names" "Ljava/lang/String;" ∈ lw_gd := gd (List.mem_of_getElem? (i := 219) (by decide +kernel)) rfl
theorem tw_220 : Cond.fieldLink RX6 (25) RX6 "most" "I" ∈ lw_gd := gd (List.mem_of_getElem? (i := 220) (by decide +kernel)) rfl
theorem tw_221 : Cond.fieldLink RX6 (9) RX6 "code" "[I" ∈ lw_gd := gd (List.mem_of_getElem? (i := 221) (by decide +kernel)) rfl
theorem tw_222 : Cond.fieldLink RX6 (29) RX6 "size" "I" ∈ lw_gd := gd (List.mem_of_getElem? (i := 222) (by decide +kernel)) rfl
theorem tw_223 : Cond.fieldLink RX6 (15) RX6 "stack" "[I" ∈ lw_gd := gd (List.mem_of_getElem? (i := 223) (by decide +kernel)) rfl
theorem tw_224 : Cond.fieldLink RX6 (18) RX6 "draft" "[I" ∈ lw_gd := gd (List.mem_of_getElem? (i := 224) (by decide +kernel)) rfl
theorem tw_225 : Cond.fieldLink RX6 (65) RX6 "drafted" "I" ∈ lw_gd := gd (List.mem_of_getElem? (i := 225) (by decide +kernel)) rfl
theorem tw_226 : Cond.fieldLink RX6 (62) RX6 "place" "I" ∈ lw_gd := gd (List.mem_of_getElem? (i := 226) (by decide +kernel)) rfl
theorem tw_227 : Cond.fieldLink RX6 (68) RX6 "faulty" "Z" ∈ lw_gd := gd (List.mem_of_getElem? (i := 227) (by decide +kernel)) rfl
theorem tw_249 : Cond.fieldLink RX8 (9) RX8 "tape" "[I" ∈ lw_gd := gd (List.mem_of_getElem? (i := 249) (by decide +kernel)) rfl
theorem tw_250 : Cond.fieldLink RX11 (190) RX8 "tape" "[I" ∈ lw_gd := gd (List.mem_of_getElem? (i := 250) (by decide +kernel)) rfl
theorem tw_251 : Cond.fieldLink RX8 (15) RX8 "waits" "[I" ∈ lw_gd := gd (List.mem_of_getElem? (i := 251) (by decide +kernel)) rfl
theorem tw_252 : Cond.fieldLink RX11 (317) RX8 "waits" "[I" ∈ lw_gd := gd (List.mem_of_getElem? (i := 252) (by decide +kernel)) rfl
theorem tw_253 : Cond.fieldLink RX8 (25) RX8 "come" "LDustSills$Law;" ∈ lw_gd := gd (List.mem_of_getElem? (i := 253) (by decide +kernel)) rfl
theorem tw_254 : Cond.fieldLink RX11 (183) RX8 "come" "LDustSills$Law;" ∈ lw_gd := gd (List.mem_of_getElem? (i := 254) (by decide +kernel)) rfl
theorem tw_255 : Cond.fieldLink RX10 (100) RX8 "come" "LDustSills$Law;" ∈ lw_gd := gd (List.mem_of_getElem? (i := 255) (by decide +kernel)) rfl
theorem tw_256 : Cond.fieldLink RX8 (31) RX8 "shine" "LDustSills$Law;" ∈ lw_gd := gd (List.mem_of_getElem? (i := 256) (by decide +kernel)) rfl
theorem tw_257 : Cond.fieldLink RX11 (187) RX8 "shine" "LDustSills$Law;" ∈ lw_gd := gd (List.mem_of_getElem? (i := 257) (by decide +kernel)) rfl
theorem tw_258 : Cond.fieldLink RX10 (124) RX8 "shine" "LDustSills$Law;" ∈ lw_gd := gd (List.mem_of_getElem? (i := 258) (by decide +kernel)) rfl
theorem tw_259 : Cond.fieldLink RX8 (48) RX8 "fed" "I" ∈ lw_gd := gd (List.mem_of_getElem? (i := 259) (by decide +kernel)) rfl
theorem tw_260 : Cond.fieldLink RX11 (174) RX8 "fed" "I" ∈ lw_gd := gd (List.mem_of_getElem? (i := 260) (by decide +kernel)) rfl
theorem tw_261 : Cond.fieldLink RX8 (51) RX8 "waiting" "I" ∈ lw_gd := gd (List.mem_of_getElem? (i := 261) (by decide +kernel)) rfl
theorem tw_262 : Cond.fieldLink RX11 (311) RX8 "waiting" "I" ∈ lw_gd := gd (List.mem_of_getElem? (i := 262) (by decide +kernel)) rfl
theorem tw_263 : Cond.fieldLink RX8 (34) RX8 "z" "I" ∈ lw_gd := gd (List.mem_of_getElem? (i := 263) (by decide +kernel)) rfl
theorem tw_264 : Cond.fieldLink RX11 (250) RX8 "z" "I" ∈ lw_gd := gd (List.mem_of_getElem? (i := 264) (by decide +kernel)) rfl
theorem tw_286 : Cond.fieldLink RX9 (9) RX9 "bodies" "[I" ∈ lw_gd := gd (List.mem_of_getElem? (i := 286) (by decide +kernel)) rfl
theorem tw_287 : Cond.fieldLink RX11 (276) RX9 "bodies" "[I" ∈ lw_gd := gd (List.mem_of_getElem? (i := 287) (by decide +kernel)) rfl
theorem tw_288 : Cond.fieldLink RX9 (22) RX9 "size" "I" ∈ lw_gd := gd (List.mem_of_getElem? (i := 288) (by decide +kernel)) rfl
theorem tw_289 : Cond.fieldLink RX11 (273) RX9 "size" "I" ∈ lw_gd := gd (List.mem_of_getElem? (i := 289) (by decide +kernel)) rfl
theorem tw_290 : Cond.fieldLink RX9 (15) RX9 "n" "I" ∈ lw_gd := gd (List.mem_of_getElem? (i := 290) (by decide +kernel)) rfl
theorem tw_291 : Cond.fieldLink RX5 (13) RX9 "n" "I" ∈ lw_gd := gd (List.mem_of_getElem? (i := 291) (by decide +kernel)) rfl
theorem tw_292 : Cond.fieldLink RX4 (34) RX9 "n" "I" ∈ lw_gd := gd (List.mem_of_getElem? (i := 292) (by decide +kernel)) rfl
theorem tw_293 : Cond.fieldLink RX9 (19) RX9 "m" "I" ∈ lw_gd := gd (List.mem_of_getElem? (i := 293) (by decide +kernel)) rfl
theorem tw_294 : Cond.fieldLink RX5 (23) RX9 "m" "I" ∈ lw_gd := gd (List.mem_of_getElem? (i := 294) (by decide +kernel)) rfl
theorem tw_306 : Cond.fieldLink RX11 (35) RX11 "now" "LDustSills$Town;" ∈ lw_gd := gd (List.mem_of_getElem? (i := 306) (by decide +kernel)) rfl
theorem tw_307 : Cond.fieldLink RX11 (39) RX11 "thought" "LDustSills$Town;" ∈ lw_gd := gd (List.mem_of_getElem? (i := 307) (by decide +kernel)) rfl
theorem tw_308 : Cond.fieldLink RX11 (42) RX11 "keptTown" "LDustSills$Town;" ∈ lw_gd := gd (List.mem_of_getElem? (i := 308) (by decide +kernel)) rfl
theorem tw_309 : Cond.fieldLink RX11 (48) RX11 "papers" "LDustSills$Papers;" ∈ lw_gd := gd (List.mem_of_getElem? (i := 309) (by decide +kernel)) rfl
theorem tw_310 : Cond.fieldLink RX11 (52) RX11 "keptPapers" "LDustSills$Papers;" ∈ lw_gd := gd (List.mem_of_getElem? (i := 310) (by decide +kernel)) rfl
theorem tw_311 : Cond.fieldLink RX11 (58) RX11 "speech" "LDustSills$Speech;" ∈ lw_gd := gd (List.mem_of_getElem? (i := 311) (by decide +kernel)) rfl
theorem tw_312 : Cond.fieldLink RX11 (64) RX11 "sheetNumbers" "[[I" ∈ lw_gd := gd (List.mem_of_getElem? (i := 312) (by decide +kernel)) rfl
theorem tw_313 : Cond.fieldLink RX11 (67) RX11 "sheetBits" "[I" ∈ lw_gd := gd (List.mem_of_getElem? (i := 313) (by decide +kernel)) rfl
theorem tw_314 : Cond.fieldLink RX11 (71) RX11 "sheetSizes" "[I" ∈ lw_gd := gd (List.mem_of_getElem? (i := 314) (by decide +kernel)) rfl
theorem tw_315 : Cond.fieldLink RX11 (74) RX11 "errors" "[I" ∈ lw_gd := gd (List.mem_of_getElem? (i := 315) (by decide +kernel)) rfl
theorem tw_316 : Cond.fieldLink RX11 (308) RX11 "images" "I" ∈ lw_gd := gd (List.mem_of_getElem? (i := 316) (by decide +kernel)) rfl
theorem tw_343 : Cond.code yX11_sill cX11_sill 5 (some .int) ∈ lw_gd := gd (List.mem_of_getElem? (i := 343) (by decide +kernel)) rfl
theorem tw_344 : Cond.methodLink RX11 (77) yX11_isSill ∈ lw_gd := gd (List.mem_of_getElem? (i := 344) (by decide +kernel)) rfl
theorem tw_345 : Cond.static yX11_isSill ∈ lw_gd := gd (List.mem_of_getElem? (i := 345) (by decide +kernel)) rfl
theorem tw_346 : Cond.code yX11_isSill cX11_isSill 1 (some .boolean) ∈ lw_gd := gd (List.mem_of_getElem? (i := 346) (by decide +kernel)) rfl
theorem tw_347 : Cond.methodLink RX11 (86) yX11_within ∈ lw_gd := gd (List.mem_of_getElem? (i := 347) (by decide +kernel)) rfl
theorem tw_348 : Cond.static yX11_within ∈ lw_gd := gd (List.mem_of_getElem? (i := 348) (by decide +kernel)) rfl
theorem tw_349 : Cond.code yX11_within cX11_within 3 (some .boolean) ∈ lw_gd := gd (List.mem_of_getElem? (i := 349) (by decide +kernel)) rfl
theorem tw_350 : Cond.constant RX11 (81) (-1000000001) ∈ lw_gd := gd (List.mem_of_getElem? (i := 350) (by decide +kernel)) rfl
theorem tw_351 : Cond.methodLink RX11 (82) yX11_error ∈ lw_gd := gd (List.mem_of_getElem? (i := 351) (by decide +kernel)) rfl
theorem tw_353 : Cond.instanceMethod yX11_error ∈ lw_gd := gd (List.mem_of_getElem? (i := 353) (by decide +kernel)) rfl
theorem tw_354 : Cond.code yX11_error cX11_error 3 (some .int) ∈ lw_gd := gd (List.mem_of_getElem? (i := 354) (by decide +kernel)) rfl
theorem tw_355 : Cond.constant RX11 (323) (-1000000000) ∈ lw_gd := gd (List.mem_of_getElem? (i := 355) (by decide +kernel)) rfl
theorem tw_359 : Cond.code yX11_ofSill cX11_ofSill 3 (some .int) ∈ lw_gd := gd (List.mem_of_getElem? (i := 359) (by decide +kernel)) rfl
theorem tw_360 : Cond.methodLink RX11 (96) yX10_dustAt ∈ lw_gd := gd (List.mem_of_getElem? (i := 360) (by decide +kernel)) rfl
theorem tw_361 : Cond.instanceMethod yX10_dustAt ∈ lw_gd := gd (List.mem_of_getElem? (i := 361) (by decide +kernel)) rfl
theorem tw_362 : Cond.selects RX10 yX10_dustAt yX10_dustAt ∈ lw_gd := gd (List.mem_of_getElem? (i := 362) (by decide +kernel)) rfl
theorem tw_363 : Cond.code yX10_dustAt cX10_dustAt 4 (some .int) ∈ lw_gd := gd (List.mem_of_getElem? (i := 363) (by decide +kernel)) rfl
theorem tw_364 : Cond.methodLink RX10 (86) yX10_isDust ∈ lw_gd := gd (List.mem_of_getElem? (i := 364) (by decide +kernel)) rfl
theorem tw_365 : Cond.instanceMethod yX10_isDust ∈ lw_gd := gd (List.mem_of_getElem? (i := 365) (by decide +kernel)) rfl
theorem tw_366 : Cond.selects RX10 yX10_isDust yX10_isDust ∈ lw_gd := gd (List.mem_of_getElem? (i := 366) (by decide +kernel)) rfl
theorem tw_367 : Cond.code yX10_isDust cX10_isDust 2 (some .boolean) ∈ lw_gd := gd (List.mem_of_getElem? (i := 367) (by decide +kernel)) rfl
theorem tw_368 : Cond.methodLink RX11 (99) yX10_lotsOf ∈ lw_gd := gd (List.mem_of_getElem? (i := 368) (by decide +kernel)) rfl
theorem tw_369 : Cond.instanceMethod yX10_lotsOf ∈ lw_gd := gd (List.mem_of_getElem? (i := 369) (by decide +kernel)) rfl
theorem tw_370 : Cond.selects RX10 yX10_lotsOf yX10_lotsOf ∈ lw_gd := gd (List.mem_of_getElem? (i := 370) (by decide +kernel)) rfl
theorem tw_371 : Cond.code yX10_lotsOf cX10_lotsOf 4 (some .int) ∈ lw_gd := gd (List.mem_of_getElem? (i := 371) (by decide +kernel)) rfl
theorem tw_375 : Cond.code yX11_town cX11_town 4 (some .int) ∈ lw_gd := gd (List.mem_of_getElem? (i := 375) (by decide +kernel)) rfl
theorem tw_376 : Cond.constant RX11 (109) (99999) ∈ lw_gd := gd (List.mem_of_getElem? (i := 376) (by decide +kernel)) rfl
theorem tw_380 : Cond.code yX11_heir cX11_heir 4 (some .int) ∈ lw_gd := gd (List.mem_of_getElem? (i := 380) (by decide +kernel)) rfl
theorem tw_381 : Cond.methodLink RX11 (113) yX11_isKindAndNumber ∈ lw_gd := gd (List.mem_of_getElem? (i := 381) (by decide +kernel)) rfl
theorem tw_382 : Cond.static yX11_isKindAndNumber ∈ lw_gd := gd (List.mem_of_getElem? (i := 382) (by decide +kernel)) rfl
theorem tw_383 : Cond.code yX11_isKindAndNumber cX11_isKindAndNumber 1 (some .boolean) ∈ lw_gd := gd (List.mem_of_getElem? (i := 383) (by decide +kernel)) rfl
theorem tw_384 : Cond.constant RX11 (119) (-1000000004) ∈ lw_gd := gd (List.mem_of_getElem? (i := 384) (by decide +kernel)) rfl
theorem tw_385 : Cond.methodLink RX11 (120) yX10_welcome ∈ lw_gd := gd (List.mem_of_getElem? (i := 385) (by decide +kernel)) rfl
theorem tw_386 : Cond.instanceMethod yX10_welcome ∈ lw_gd := gd (List.mem_of_getElem? (i := 386) (by decide +kernel)) rfl
theorem tw_387 : Cond.selects RX10 yX10_welcome yX10_welcome ∈ lw_gd := gd (List.mem_of_getElem? (i := 387) (by decide +kernel)) rfl
theorem tw_388 : Cond.code yX10_welcome cX10_welcome 5 (some .int) ∈ lw_gd := gd (List.mem_of_getElem? (i := 388) (by decide +kernel)) rfl
theorem tw_389 : Cond.methodLink RX10 (62) yX10_setLeft ∈ lw_gd := gd (List.mem_of_getElem? (i := 389) (by decide +kernel)) rfl
theorem tw_390 : Cond.instanceMethod yX10_setLeft ∈ lw_gd := gd (List.mem_of_getElem? (i := 390) (by decide +kernel)) rfl
theorem tw_391 : Cond.selects RX10 yX10_setLeft yX10_setLeft ∈ lw_gd := gd (List.mem_of_getElem? (i := 391) (by decide +kernel)) rfl
theorem tw_392 : Cond.code yX10_setLeft cX10_setLeft 3 none ∈ lw_gd := gd (List.mem_of_getElem? (i := 392) (by decide +kernel)) rfl
theorem tw_396 : Cond.code yX11_ofHeir cX11_ofHeir 3 (some .int) ∈ lw_gd := gd (List.mem_of_getElem? (i := 396) (by decide +kernel)) rfl
theorem tw_397 : Cond.methodLink RX11 (124) yX11_isHeir ∈ lw_gd := gd (List.mem_of_getElem? (i := 397) (by decide +kernel)) rfl
theorem tw_399 : Cond.instanceMethod yX11_isHeir ∈ lw_gd := gd (List.mem_of_getElem? (i := 399) (by decide +kernel)) rfl
theorem tw_400 : Cond.code yX11_isHeir cX11_isHeir 2 (some .boolean) ∈ lw_gd := gd (List.mem_of_getElem? (i := 400) (by decide +kernel)) rfl
theorem tw_401 : Cond.methodLink RX11 (145) yX10_driftsOf ∈ lw_gd := gd (List.mem_of_getElem? (i := 401) (by decide +kernel)) rfl
theorem tw_402 : Cond.instanceMethod yX10_driftsOf ∈ lw_gd := gd (List.mem_of_getElem? (i := 402) (by decide +kernel)) rfl
theorem tw_403 : Cond.selects RX10 yX10_driftsOf yX10_driftsOf ∈ lw_gd := gd (List.mem_of_getElem? (i := 403) (by decide +kernel)) rfl
theorem tw_404 : Cond.code yX10_driftsOf cX10_driftsOf 3 (some .int) ∈ lw_gd := gd (List.mem_of_getElem? (i := 404) (by decide +kernel)) rfl
theorem tw_405 : Cond.methodLink RX10 (66) yX10_kindOf ∈ lw_gd := gd (List.mem_of_getElem? (i := 405) (by decide +kernel)) rfl
theorem tw_406 : Cond.instanceMethod yX10_kindOf ∈ lw_gd := gd (List.mem_of_getElem? (i := 406) (by decide +kernel)) rfl
theorem tw_407 : Cond.selects RX10 yX10_kindOf yX10_kindOf ∈ lw_gd := gd (List.mem_of_getElem? (i := 407) (by decide +kernel)) rfl
theorem tw_408 : Cond.code yX10_kindOf cX10_kindOf 3 (some (.object "DustSills$Heir")) ∈ lw_gd := gd (List.mem_of_getElem? (i := 408) (by decide +kernel)) rfl
theorem tw_409 : Cond.methodLink RX10 (70) yX5_driftsBy ∈ lw_gd := gd (List.mem_of_getElem? (i := 409) (by decide +kernel)) rfl
theorem tw_410 : Cond.instanceMethod yX5_driftsBy ∈ lw_gd := gd (List.mem_of_getElem? (i := 410) (by decide +kernel)) rfl
theorem tw_411 : Cond.selects RX5 yX5_driftsBy yX5_driftsBy ∈ lw_gd := gd (List.mem_of_getElem? (i := 411) (by decide +kernel)) rfl
theorem tw_412 : Cond.sameMethod RX5 RX5 "driftsBy" "(III)I" ∈ lw_gd := gd (List.mem_of_getElem? (i := 412) (by decide +kernel)) rfl
theorem tw_413 : Cond.selects RX0 yX5_driftsBy yX0_driftsBy ∈ lw_gd := gd (List.mem_of_getElem? (i := 413) (by decide +kernel)) rfl
theorem tw_414 : Cond.instanceMethod yX0_driftsBy ∈ lw_gd := gd (List.mem_of_getElem? (i := 414) (by decide +kernel)) rfl
theorem tw_415 : Cond.code yX0_driftsBy cX0_driftsBy 4 (some .int) ∈ lw_gd := gd (List.mem_of_getElem? (i := 415) (by decide +kernel)) rfl
theorem tw_416 : Cond.selects RX1 yX5_driftsBy yX1_driftsBy ∈ lw_gd := gd (List.mem_of_getElem? (i := 416) (by decide +kernel)) rfl
theorem tw_417 : Cond.instanceMethod yX1_driftsBy ∈ lw_gd := gd (List.mem_of_getElem? (i := 417) (by decide +kernel)) rfl
theorem tw_418 : Cond.code yX1_driftsBy cX1_driftsBy 4 (some .int) ∈ lw_gd := gd (List.mem_of_getElem? (i := 418) (by decide +kernel)) rfl
theorem tw_419 : Cond.selects RX2 yX5_driftsBy yX2_driftsBy ∈ lw_gd := gd (List.mem_of_getElem? (i := 419) (by decide +kernel)) rfl
theorem tw_420 : Cond.instanceMethod yX2_driftsBy ∈ lw_gd := gd (List.mem_of_getElem? (i := 420) (by decide +kernel)) rfl
theorem tw_421 : Cond.code yX2_driftsBy cX2_driftsBy 4 (some .int) ∈ lw_gd := gd (List.mem_of_getElem? (i := 421) (by decide +kernel)) rfl
theorem tw_422 : Cond.methodLink RX2 (7) yX1_driftsBy ∈ lw_gd := gd (List.mem_of_getElem? (i := 422) (by decide +kernel)) rfl
theorem tw_423 : Cond.selects RX3 yX5_driftsBy yX3_driftsBy ∈ lw_gd := gd (List.mem_of_getElem? (i := 423) (by decide +kernel)) rfl
theorem tw_424 : Cond.instanceMethod yX3_driftsBy ∈ lw_gd := gd (List.mem_of_getElem? (i := 424) (by decide +kernel)) rfl
theorem tw_425 : Cond.code yX3_driftsBy cX3_driftsBy 4 (some .int) ∈ lw_gd := gd (List.mem_of_getElem? (i := 425) (by decide +kernel)) rfl
theorem tw_426 : Cond.selects RX4 yX5_driftsBy yX4_driftsBy ∈ lw_gd := gd (List.mem_of_getElem? (i := 426) (by decide +kernel)) rfl
theorem tw_427 : Cond.instanceMethod yX4_driftsBy ∈ lw_gd := gd (List.mem_of_getElem? (i := 427) (by decide +kernel)) rfl
theorem tw_428 : Cond.code yX4_driftsBy cX4_driftsBy 4 (some .int) ∈ lw_gd := gd (List.mem_of_getElem? (i := 428) (by decide +kernel)) rfl
theorem tw_429 : Cond.methodLink RX4 (7) yX0_driftsBy ∈ lw_gd := gd (List.mem_of_getElem? (i := 429) (by decide +kernel)) rfl
theorem tw_430 : Cond.methodLink RX4 (11) yJ9_max_7cf53 ∈ lw_gd := gd (List.mem_of_getElem? (i := 430) (by decide +kernel)) rfl
theorem tw_431 : Cond.static yJ9_max_7cf53 ∈ lw_gd := gd (List.mem_of_getElem? (i := 431) (by decide +kernel)) rfl
theorem tw_432 : Cond.code yJ9_max_7cf53 cJ9_max_7cf53 2 (some .int) ∈ lw_gd := gd (List.mem_of_getElem? (i := 432) (by decide +kernel)) rfl
theorem tw_433 : Cond.selects RX7 yX5_driftsBy yX7_driftsBy ∈ lw_gd := gd (List.mem_of_getElem? (i := 433) (by decide +kernel)) rfl
theorem tw_434 : Cond.instanceMethod yX7_driftsBy ∈ lw_gd := gd (List.mem_of_getElem? (i := 434) (by decide +kernel)) rfl
theorem tw_435 : Cond.code yX7_driftsBy cX7_driftsBy 4 (some .int) ∈ lw_gd := gd (List.mem_of_getElem? (i := 435) (by decide +kernel)) rfl
theorem tw_436 : Cond.code yX5_driftsBy cX5_driftsBy 4 (some .int) ∈ lw_gd := gd (List.mem_of_getElem? (i := 436) (by decide +kernel)) rfl
theorem tw_437 : Cond.methodLink RX11 (149) yX10_isDust ∈ lw_gd := gd (List.mem_of_getElem? (i := 437) (by decide +kernel)) rfl
theorem tw_438 : Cond.methodLink RX11 (152) yX10_shinesOf ∈ lw_gd := gd (List.mem_of_getElem? (i := 438) (by decide +kernel)) rfl
theorem tw_439 : Cond.instanceMethod yX10_shinesOf ∈ lw_gd := gd (List.mem_of_getElem? (i := 439) (by decide +kernel)) rfl
theorem tw_440 : Cond.selects RX10 yX10_shinesOf yX10_shinesOf ∈ lw_gd := gd (List.mem_of_getElem? (i := 440) (by decide +kernel)) rfl
theorem tw_441 : Cond.code yX10_shinesOf cX10_shinesOf 3 (some .int) ∈ lw_gd := gd (List.mem_of_getElem? (i := 441) (by decide +kernel)) rfl
theorem tw_442 : Cond.methodLink RX10 (76) yX10_sunOf ∈ lw_gd := gd (List.mem_of_getElem? (i := 442) (by decide +kernel)) rfl
theorem tw_444 : Cond.instanceMethod yX10_sunOf ∈ lw_gd := gd (List.mem_of_getElem? (i := 444) (by decide +kernel)) rfl
theorem tw_445 : Cond.code yX10_sunOf cX10_sunOf 2 (some .int) ∈ lw_gd := gd (List.mem_of_getElem? (i := 445) (by decide +kernel)) rfl
theorem tw_446 : Cond.methodLink RX10 (80) yX5_shinesBy ∈ lw_gd := gd (List.mem_of_getElem? (i := 446) (by decide +kernel)) rfl
theorem tw_447 : Cond.instanceMethod yX5_shinesBy ∈ lw_gd := gd (List.mem_of_getElem? (i := 447) (by decide +kernel)) rfl
theorem tw_448 : Cond.selects RX5 yX5_shinesBy yX5_shinesBy ∈ lw_gd := gd (List.mem_of_getElem? (i := 448) (by decide +kernel)) rfl
theorem tw_449 : Cond.sameMethod RX5 RX5 "shinesBy" "(III)I" ∈ lw_gd := gd (List.mem_of_getElem? (i := 449) (by decide +kernel)) rfl
theorem tw_450 : Cond.selects RX0 yX5_shinesBy yX0_shinesBy ∈ lw_gd := gd (List.mem_of_getElem? (i := 450) (by decide +kernel)) rfl
theorem tw_451 : Cond.instanceMethod yX0_shinesBy ∈ lw_gd := gd (List.mem_of_getElem? (i := 451) (by decide +kernel)) rfl
theorem tw_452 : Cond.code yX0_shinesBy cX0_shinesBy 4 (some .int) ∈ lw_gd := gd (List.mem_of_getElem? (i := 452) (by decide +kernel)) rfl
theorem tw_453 : Cond.selects RX1 yX5_shinesBy yX1_shinesBy ∈ lw_gd := gd (List.mem_of_getElem? (i := 453) (by decide +kernel)) rfl
theorem tw_454 : Cond.instanceMethod yX1_shinesBy ∈ lw_gd := gd (List.mem_of_getElem? (i := 454) (by decide +kernel)) rfl
theorem tw_455 : Cond.code yX1_shinesBy cX1_shinesBy 4 (some .int) ∈ lw_gd := gd (List.mem_of_getElem? (i := 455) (by decide +kernel)) rfl
theorem tw_456 : Cond.selects RX2 yX5_shinesBy yX1_shinesBy ∈ lw_gd := gd (List.mem_of_getElem? (i := 456) (by decide +kernel)) rfl
theorem tw_457 : Cond.selects RX3 yX5_shinesBy yX3_shinesBy ∈ lw_gd := gd (List.mem_of_getElem? (i := 457) (by decide +kernel)) rfl
theorem tw_458 : Cond.instanceMethod yX3_shinesBy ∈ lw_gd := gd (List.mem_of_getElem? (i := 458) (by decide +kernel)) rfl
theorem tw_459 : Cond.code yX3_shinesBy cX3_shinesBy 4 (some .int) ∈ lw_gd := gd (List.mem_of_getElem? (i := 459) (by decide +kernel)) rfl
theorem tw_460 : Cond.methodLink RX3 (7) yX7_shinesBy ∈ lw_gd := gd (List.mem_of_getElem? (i := 460) (by decide +kernel)) rfl
theorem tw_461 : Cond.instanceMethod yX7_shinesBy ∈ lw_gd := gd (List.mem_of_getElem? (i := 461) (by decide +kernel)) rfl
theorem tw_462 : Cond.code yX7_shinesBy cX7_shinesBy 4 (some .int) ∈ lw_gd := gd (List.mem_of_getElem? (i := 462) (by decide +kernel)) rfl
theorem tw_463 : Cond.methodLink RX3 (11) yJ9_max_7cf53 ∈ lw_gd := gd (List.mem_of_getElem? (i := 463) (by decide +kernel)) rfl
theorem tw_464 : Cond.selects RX4 yX5_shinesBy yX4_shinesBy ∈ lw_gd := gd (List.mem_of_getElem? (i := 464) (by decide +kernel)) rfl
theorem tw_465 : Cond.instanceMethod yX4_shinesBy ∈ lw_gd := gd (List.mem_of_getElem? (i := 465) (by decide +kernel)) rfl
theorem tw_466 : Cond.code yX4_shinesBy cX4_shinesBy 4 (some .int) ∈ lw_gd := gd (List.mem_of_getElem? (i := 466) (by decide +kernel)) rfl
theorem tw_467 : Cond.methodLink RX4 (17) yX0_shinesBy ∈ lw_gd := gd (List.mem_of_getElem? (i := 467) (by decide +kernel)) rfl
theorem tw_468 : Cond.selects RX7 yX5_shinesBy yX7_shinesBy ∈ lw_gd := gd (List.mem_of_getElem? (i := 468) (by decide +kernel)) rfl
theorem tw_469 : Cond.code yX5_shinesBy cX5_shinesBy 4 (some .int) ∈ lw_gd := gd (List.mem_of_getElem? (i := 469) (by decide +kernel)) rfl
theorem tw_470 : Cond.methodLink RX11 (155) yX10_needsOf ∈ lw_gd := gd (List.mem_of_getElem? (i := 470) (by decide +kernel)) rfl
theorem tw_471 : Cond.instanceMethod yX10_needsOf ∈ lw_gd := gd (List.mem_of_getElem? (i := 471) (by decide +kernel)) rfl
theorem tw_472 : Cond.selects RX10 yX10_needsOf yX10_needsOf ∈ lw_gd := gd (List.mem_of_getElem? (i := 472) (by decide +kernel)) rfl
theorem tw_473 : Cond.code yX10_needsOf cX10_needsOf 2 (some .int) ∈ lw_gd := gd (List.mem_of_getElem? (i := 473) (by decide +kernel)) rfl
theorem tw_474 : Cond.methodLink RX10 (83) yX5_needsBy ∈ lw_gd := gd (List.mem_of_getElem? (i := 474) (by decide +kernel)) rfl
theorem tw_475 : Cond.instanceMethod yX5_needsBy ∈ lw_gd := gd (List.mem_of_getElem? (i := 475) (by decide +kernel)) rfl
theorem tw_476 : Cond.selects RX5 yX5_needsBy yX5_needsBy ∈ lw_gd := gd (List.mem_of_getElem? (i := 476) (by decide +kernel)) rfl
theorem tw_477 : Cond.sameMethod RX5 RX5 "needsBy" "(I)I" ∈ lw_gd := gd (List.mem_of_getElem? (i := 477) (by decide +kernel)) rfl
theorem tw_478 : Cond.selects RX0 yX5_needsBy yX0_needsBy ∈ lw_gd := gd (List.mem_of_getElem? (i := 478) (by decide +kernel)) rfl
theorem tw_479 : Cond.instanceMethod yX0_needsBy ∈ lw_gd := gd (List.mem_of_getElem? (i := 479) (by decide +kernel)) rfl
theorem tw_480 : Cond.code yX0_needsBy cX0_needsBy 2 (some .int) ∈ lw_gd := gd (List.mem_of_getElem? (i := 480) (by decide +kernel)) rfl
theorem tw_481 : Cond.selects RX1 yX5_needsBy yX1_needsBy ∈ lw_gd := gd (List.mem_of_getElem? (i := 481) (by decide +kernel)) rfl
theorem tw_482 : Cond.instanceMethod yX1_needsBy ∈ lw_gd := gd (List.mem_of_getElem? (i := 482) (by decide +kernel)) rfl
theorem tw_483 : Cond.code yX1_needsBy cX1_needsBy 2 (some .int) ∈ lw_gd := gd (List.mem_of_getElem? (i := 483) (by decide +kernel)) rfl
theorem tw_484 : Cond.selects RX2 yX5_needsBy yX2_needsBy ∈ lw_gd := gd (List.mem_of_getElem? (i := 484) (by decide +kernel)) rfl
theorem tw_485 : Cond.instanceMethod yX2_needsBy ∈ lw_gd := gd (List.mem_of_getElem? (i := 485) (by decide +kernel)) rfl
theorem tw_486 : Cond.code yX2_needsBy cX2_needsBy 2 (some .int) ∈ lw_gd := gd (List.mem_of_getElem? (i := 486) (by decide +kernel)) rfl
theorem tw_487 : Cond.selects RX3 yX5_needsBy yX3_needsBy ∈ lw_gd := gd (List.mem_of_getElem? (i := 487) (by decide +kernel)) rfl
theorem tw_488 : Cond.instanceMethod yX3_needsBy ∈ lw_gd := gd (List.mem_of_getElem? (i := 488) (by decide +kernel)) rfl
theorem tw_489 : Cond.code yX3_needsBy cX3_needsBy 2 (some .int) ∈ lw_gd := gd (List.mem_of_getElem? (i := 489) (by decide +kernel)) rfl
theorem tw_490 : Cond.selects RX4 yX5_needsBy yX4_needsBy ∈ lw_gd := gd (List.mem_of_getElem? (i := 490) (by decide +kernel)) rfl
theorem tw_491 : Cond.instanceMethod yX4_needsBy ∈ lw_gd := gd (List.mem_of_getElem? (i := 491) (by decide +kernel)) rfl
theorem tw_492 : Cond.code yX4_needsBy cX4_needsBy 2 (some .int) ∈ lw_gd := gd (List.mem_of_getElem? (i := 492) (by decide +kernel)) rfl
theorem tw_493 : Cond.methodLink RX4 (20) yX0_needsBy ∈ lw_gd := gd (List.mem_of_getElem? (i := 493) (by decide +kernel)) rfl
theorem tw_494 : Cond.selects RX7 yX5_needsBy yX7_needsBy ∈ lw_gd := gd (List.mem_of_getElem? (i := 494) (by decide +kernel)) rfl
theorem tw_495 : Cond.instanceMethod yX7_needsBy ∈ lw_gd := gd (List.mem_of_getElem? (i := 495) (by decide +kernel)) rfl
theorem tw_496 : Cond.code yX7_needsBy cX7_needsBy 2 (some .int) ∈ lw_gd := gd (List.mem_of_getElem? (i := 496) (by decide +kernel)) rfl
theorem tw_497 : Cond.code yX5_needsBy cX5_needsBy 2 (some .int) ∈ lw_gd := gd (List.mem_of_getElem? (i := 497) (by decide +kernel)) rfl
theorem tw_498 : Cond.methodLink RX11 (158) yX10_isContent ∈ lw_gd := gd (List.mem_of_getElem? (i := 498) (by decide +kernel)) rfl
theorem tw_499 : Cond.instanceMethod yX10_isContent ∈ lw_gd := gd (List.mem_of_getElem? (i := 499) (by decide +kernel)) rfl
theorem tw_500 : Cond.selects RX10 yX10_isContent yX10_isContent ∈ lw_gd := gd (List.mem_of_getElem? (i := 500) (by decide +kernel)) rfl
theorem tw_501 : Cond.code yX10_isContent cX10_isContent 2 (some .boolean) ∈ lw_gd := gd (List.mem_of_getElem? (i := 501) (by decide +kernel)) rfl
theorem tw_502 : Cond.methodLink RX10 (90) yX10_needsOf ∈ lw_gd := gd (List.mem_of_getElem? (i := 502) (by decide +kernel)) rfl
theorem tw_506 : Cond.code yX11_change cX11_change 5 (some .int) ∈ lw_gd := gd (List.mem_of_getElem? (i := 506) (by decide +kernel)) rfl
theorem tw_507 : Cond.methodLink RX11 (161) yX11_isOfHeir ∈ lw_gd := gd (List.mem_of_getElem? (i := 507) (by decide +kernel)) rfl
theorem tw_508 : Cond.static yX11_isOfHeir ∈ lw_gd := gd (List.mem_of_getElem? (i := 508) (by decide +kernel)) rfl
theorem tw_509 : Cond.code yX11_isOfHeir cX11_isOfHeir 2 (some .boolean) ∈ lw_gd := gd (List.mem_of_getElem? (i := 509) (by decide +kernel)) rfl
theorem tw_510 : Cond.methodLink RX11 (165) yX10_setLeft ∈ lw_gd := gd (List.mem_of_getElem? (i := 510) (by decide +kernel)) rfl
theorem tw_511 : Cond.constant RX11 (169) (-1000000003) ∈ lw_gd := gd (List.mem_of_getElem? (i := 511) (by decide +kernel)) rfl
theorem tw_515 : Cond.code yX11_become cX11_become 4 (some .int) ∈ lw_gd := gd (List.mem_of_getElem? (i := 515) (by decide +kernel)) rfl
theorem tw_519 : Cond.code yX11_as cX11_as 3 (some .int) ∈ lw_gd := gd (List.mem_of_getElem? (i := 519) (by decide +kernel)) rfl
theorem tw_520 : Cond.methodLink RX11 (170) yX11_isOrIsUnder ∈ lw_gd := gd (List.mem_of_getElem? (i := 520) (by decide +kernel)) rfl
theorem tw_521 : Cond.static yX11_isOrIsUnder ∈ lw_gd := gd (List.mem_of_getElem? (i := 521) (by decide +kernel)) rfl
theorem tw_522 : Cond.code yX11_isOrIsUnder cX11_isOrIsUnder 4 (some .boolean) ∈ lw_gd := gd (List.mem_of_getElem? (i := 522) (by decide +kernel)) rfl
theorem tw_525 : Cond.constant RX11 (173) (-1000000005) ∈ lw_gd := gd (List.mem_of_getElem? (i := 525) (by decide +kernel)) rfl
theorem tw_529 : Cond.code yX11_feed cX11_feed 5 (some .int) ∈ lw_gd := gd (List.mem_of_getElem? (i := 529) (by decide +kernel)) rfl
theorem tw_530 : Cond.constantLong RX11 (177) (255) ∈ lw_gd := gd (List.mem_of_getElem? (i := 530) (by decide +kernel)) rfl
theorem tw_531 : Cond.methodLink RX11 (179) yX8_take ∈ lw_gd := gd (List.mem_of_getElem? (i := 531) (by decide +kernel)) rfl
theorem tw_532 : Cond.instanceMethod yX8_take ∈ lw_gd := gd (List.mem_of_getElem? (i := 532) (by decide +kernel)) rfl
theorem tw_533 : Cond.selects RX8 yX8_take yX8_take ∈ lw_gd := gd (List.mem_of_getElem? (i := 533) (by decide +kernel)) rfl
theorem tw_534 : Cond.code yX8_take cX8_take 2 none ∈ lw_gd := gd (List.mem_of_getElem? (i := 534) (by decide +kernel)) rfl
theorem tw_538 : Cond.code yX11_text cX11_text 4 (some .int) ∈ lw_gd := gd (List.mem_of_getElem? (i := 538) (by decide +kernel)) rfl
theorem tw_539 : Cond.methodLink RX11 (193) yX6_read ∈ lw_gd := gd (List.mem_of_getElem? (i := 539) (by decide +kernel)) rfl
theorem tw_540 : Cond.instanceMethod yX6_read ∈ lw_gd := gd (List.mem_of_getElem? (i := 540) (by decide +kernel)) rfl
theorem tw_541 : Cond.selects RX6 yX6_read yX6_read ∈ lw_gd := gd (List.mem_of_getElem? (i := 541) (by decide +kernel)) rfl
theorem tw_542 : Cond.code yX6_read cX6_read 4 (some .int) ∈ lw_gd := gd (List.mem_of_getElem? (i := 542) (by decide +kernel)) rfl
theorem tw_543 : Cond.methodLink RX6 (36) yJ9_min_7cf53 ∈ lw_gd := gd (List.mem_of_getElem? (i := 543) (by decide +kernel)) rfl
theorem tw_544 : Cond.static yJ9_min_7cf53 ∈ lw_gd := gd (List.mem_of_getElem? (i := 544) (by decide +kernel)) rfl
theorem tw_545 : Cond.code yJ9_min_7cf53 cJ9_min_7cf53 2 (some .int) ∈ lw_gd := gd (List.mem_of_getElem? (i := 545) (by decide +kernel)) rfl
theorem tw_546 : Cond.methodLink RX6 (72) yX6_readLevel ∈ lw_gd := gd (List.mem_of_getElem? (i := 546) (by decide +kernel)) rfl
theorem tw_548 : Cond.instanceMethod yX6_readLevel ∈ lw_gd := gd (List.mem_of_getElem? (i := 548) (by decide +kernel)) rfl
theorem tw_549 : Cond.code yX6_readLevel cX6_readLevel 8 none ∈ lw_gd := gd (List.mem_of_getElem? (i := 549) (by decide +kernel)) rfl
theorem tw_550 : Cond.methodLink RX6 (76) yX6_readPart ∈ lw_gd := gd (List.mem_of_getElem? (i := 550) (by decide +kernel)) rfl
theorem tw_552 : Cond.instanceMethod yX6_readPart ∈ lw_gd := gd (List.mem_of_getElem? (i := 552) (by decide +kernel)) rfl
theorem tw_553 : Cond.code yX6_readPart cX6_readPart 6 none ∈ lw_gd := gd (List.mem_of_getElem? (i := 553) (by decide +kernel)) rfl
theorem tw_554 : Cond.methodLink RX6 (80) yX6_signAt ∈ lw_gd := gd (List.mem_of_getElem? (i := 554) (by decide +kernel)) rfl
theorem tw_555 : Cond.static yX6_signAt ∈ lw_gd := gd (List.mem_of_getElem? (i := 555) (by decide +kernel)) rfl
theorem tw_556 : Cond.code yX6_signAt cX6_signAt 3 (some .int) ∈ lw_gd := gd (List.mem_of_getElem? (i := 556) (by decide +kernel)) rfl
theorem tw_560 : Cond.code yJ0_indexOf_0f7a4 cJ0_indexOf_0f7a4 2 (some .int) ∈ lw_gd := gd (List.mem_of_getElem? (i := 560) (by decide +kernel)) rfl
theorem tw_564 : Cond.code yJ0_indexOf_7cf53 cJ0_indexOf_7cf53 3 (some .int) ∈ lw_gd := gd (List.mem_of_getElem? (i := 564) (by decide +kernel)) rfl
theorem tw_568 : Cond.code yJ0_isLatin1_aae02 cJ0_isLatin1_aae02 1 (some .boolean) ∈ lw_gd := gd (List.mem_of_getElem? (i := 568) (by decide +kernel)) rfl
theorem tw_574 : Cond.code yJ0_length_8abf5 cJ0_length_8abf5 1 (some .int) ∈ lw_gd := gd (List.mem_of_getElem? (i := 574) (by decide +kernel)) rfl
theorem tw_578 : Cond.code yJ0_coder_7d493 cJ0_coder_7d493 1 (some .byte) ∈ lw_gd := gd (List.mem_of_getElem? (i := 578) (by decide +kernel)) rfl
theorem tw_579 : Cond.methodLink RJ0 (637) yJ1_indexOf_4cfef ∈ lw_gd := gd (List.mem_of_getElem? (i := 579) (by decide +kernel)) rfl
theorem tw_580 : Cond.static yJ1_indexOf_4cfef ∈ lw_gd := gd (List.mem_of_getElem? (i := 580) (by decide +kernel)) rfl
theorem tw_581 : Cond.code yJ1_indexOf_4cfef cJ1_indexOf_4cfef 4 (some .int) ∈ lw_gd := gd (List.mem_of_getElem? (i := 581) (by decide +kernel)) rfl
theorem tw_582 : Cond.methodLink RJ1 (88) yJ1_canEncode_9a6ad ∈ lw_gd := gd (List.mem_of_getElem? (i := 582) (by decide +kernel)) rfl
theorem tw_583 : Cond.static yJ1_canEncode_9a6ad ∈ lw_gd := gd (List.mem_of_getElem? (i := 583) (by decide +kernel)) rfl
theorem tw_584 : Cond.code yJ1_canEncode_9a6ad cJ1_canEncode_9a6ad 1 (some .boolean) ∈ lw_gd := gd (List.mem_of_getElem? (i := 584) (by decide +kernel)) rfl
theorem tw_585 : Cond.methodLink RJ1 (92) yJ9_max_7cf53 ∈ lw_gd := gd (List.mem_of_getElem? (i := 585) (by decide +kernel)) rfl
theorem tw_586 : Cond.methodLink RJ1 (38) yJ9_min_7cf53 ∈ lw_gd := gd (List.mem_of_getElem? (i := 586) (by decide +kernel)) rfl
theorem tw_587 : Cond.methodLink RJ1 (95) yJ1_indexOfChar_4cfef ∈ lw_gd := gd (List.mem_of_getElem? (i := 587) (by decide +kernel)) rfl
theorem tw_588 : Cond.static yJ1_indexOfChar_4cfef ∈ lw_gd := gd (List.mem_of_getElem? (i := 588) (by decide +kernel)) rfl
theorem tw_589 : Cond.code yJ1_indexOfChar_4cfef cJ1_indexOfChar_4cfef 6 (some .int) ∈ lw_gd := gd (List.mem_of_getElem? (i := 589) (by decide +kernel)) rfl
theorem tw_590 : Cond.methodLink RJ0 (640) yJ2_indexOf_4cfef ∈ lw_gd := gd (List.mem_of_getElem? (i := 590) (by decide +kernel)) rfl
theorem tw_591 : Cond.static yJ2_indexOf_4cfef ∈ lw_gd := gd (List.mem_of_getElem? (i := 591) (by decide +kernel)) rfl
theorem tw_592 : Cond.code yJ2_indexOf_4cfef cJ2_indexOf_4cfef 4 (some .int) ∈ lw_gd := gd (List.mem_of_getElem? (i := 592) (by decide +kernel)) rfl
theorem tw_593 : Cond.methodLink RJ2 (224) yJ9_max_7cf53 ∈ lw_gd := gd (List.mem_of_getElem? (i := 593) (by decide +kernel)) rfl
theorem tw_594 : Cond.methodLink RJ2 (183) yJ9_min_7cf53 ∈ lw_gd := gd (List.mem_of_getElem? (i := 594) (by decide +kernel)) rfl
theorem tw_595 : Cond.constant RJ2 (227) (65536) ∈ lw_gd := gd (List.mem_of_getElem? (i := 595) (by decide +kernel)) rfl
theorem tw_596 : Cond.methodLink RJ2 (228) yJ2_indexOfChar_4cfef ∈ lw_gd := gd (List.mem_of_getElem? (i := 596) (by decide +kernel)) rfl
theorem tw_597 : Cond.static yJ2_indexOfChar_4cfef ∈ lw_gd := gd (List.mem_of_getElem? (i := 597) (by decide +kernel)) rfl
theorem tw_598 : Cond.code yJ2_indexOfChar_4cfef cJ2_indexOfChar_4cfef 4 (some .int) ∈ lw_gd := gd (List.mem_of_getElem? (i := 598) (by decide +kernel)) rfl
theorem tw_599 : Cond.methodLink RJ2 (96) yJ2_checkBoundsBeginEnd_d044e ∈ lw_gd := gd (List.mem_of_getElem? (i := 599) (by decide +kernel)) rfl
theorem tw_600 : Cond.static yJ2_checkBoundsBeginEnd_d044e ∈ lw_gd := gd (List.mem_of_getElem? (i := 600) (by decide +kernel)) rfl
theorem tw_601 : Cond.code yJ2_checkBoundsBeginEnd_d044e cJ2_checkBoundsBeginEnd_d044e 3 none ∈ lw_gd := gd (List.mem_of_getElem? (i := 601) (by decide +kernel)) rfl
theorem tw_602 : Cond.methodLink RJ2 (48) yJ2_length_9d52b ∈ lw_gd := gd (List.mem_of_getElem? (i := 602) (by decide +kernel)) rfl
theorem tw_603 : Cond.static yJ2_length_9d52b ∈ lw_gd := gd (List.mem_of_getElem? (i := 603) (by decide +kernel)) rfl
theorem tw_604 : Cond.code yJ2_length_9d52b cJ2_length_9d52b 1 (some .int) ∈ lw_gd := gd (List.mem_of_getElem? (i := 604) (by decide +kernel)) rfl
theorem tw_605 : Cond.methodLink RJ2 (241) yJ0_checkBoundsBeginEnd_23922 ∈ lw_gd := gd (List.mem_of_getElem? (i := 605) (by decide +kernel)) rfl
theorem tw_606 : Cond.static yJ0_checkBoundsBeginEnd_23922 ∈ lw_gd := gd (List.mem_of_getElem? (i := 606) (by decide +kernel)) rfl
theorem tw_607 : Cond.code yJ0_checkBoundsBeginEnd_23922 cJ0_checkBoundsBeginEnd_23922 3 none ∈ lw_gd := gd (List.mem_of_getElem? (i := 607) (by decide +kernel)) rfl
theorem tw_610 : Cond.methodLink RJ0 (1062) yJ3_checkFromToIndex_8c36e ∈ lw_gd := gd (List.mem_of_getElem? (i := 610) (by decide +kernel)) rfl
theorem tw_611 : Cond.static yJ3_checkFromToIndex_8c36e ∈ lw_gd := gd (List.mem_of_getElem? (i := 611) (by decide +kernel)) rfl
theorem tw_612 : Cond.code yJ3_checkFromToIndex_8c36e cJ3_checkFromToIndex_8c36e 4 (some .int) ∈ lw_gd := gd (List.mem_of_getElem? (i := 612) (by decide +kernel)) rfl
theorem tw_613 : Cond.methodLink RJ2 (244) yJ2_indexOfCharUnsafe_4cfef ∈ lw_gd := gd (List.mem_of_getElem? (i := 613) (by decide +kernel)) rfl
theorem tw_614 : Cond.static yJ2_indexOfCharUnsafe_4cfef ∈ lw_gd := gd (List.mem_of_getElem? (i := 614) (by decide +kernel)) rfl
theorem tw_615 : Cond.code yJ2_indexOfCharUnsafe_4cfef cJ2_indexOfCharUnsafe_4cfef 5 (some .int) ∈ lw_gd := gd (List.mem_of_getElem? (i := 615) (by decide +kernel)) rfl
theorem tw_616 : Cond.methodLink RJ2 (71) yJ2_getChar_3b067 ∈ lw_gd := gd (List.mem_of_getElem? (i := 616) (by decide +kernel)) rfl
theorem tw_617 : Cond.static yJ2_getChar_3b067 ∈ lw_gd := gd (List.mem_of_getElem? (i := 617) (by decide +kernel)) rfl
theorem tw_618 : Cond.code yJ2_getChar_3b067 cJ2_getChar_3b067 2 (some .char) ∈ lw_gd := gd (List.mem_of_getElem? (i := 618) (by decide +kernel)) rfl
theorem tw_625 : Cond.methodLink RJ2 (232) yJ2_indexOfSupplementary_4cfef ∈ lw_gd := gd (List.mem_of_getElem? (i := 625) (by decide +kernel)) rfl
theorem tw_626 : Cond.static yJ2_indexOfSupplementary_4cfef ∈ lw_gd := gd (List.mem_of_getElem? (i := 626) (by decide +kernel)) rfl
theorem tw_627 : Cond.code yJ2_indexOfSupplementary_4cfef cJ2_indexOfSupplementary_4cfef 7 (some .int) ∈ lw_gd := gd (List.mem_of_getElem? (i := 627) (by decide +kernel)) rfl
theorem tw_628 : Cond.methodLink RJ2 (164) yJ11_isValidCodePoint_9a6ad ∈ lw_gd := gd (List.mem_of_getElem? (i := 628) (by decide +kernel)) rfl
theorem tw_629 : Cond.static yJ11_isValidCodePoint_9a6ad ∈ lw_gd := gd (List.mem_of_getElem? (i := 629) (by decide +kernel)) rfl
theorem tw_630 : Cond.code yJ11_isValidCodePoint_9a6ad cJ11_isValidCodePoint_9a6ad 2 (some .boolean) ∈ lw_gd := gd (List.mem_of_getElem? (i := 630) (by decide +kernel)) rfl
theorem tw_631 : Cond.methodLink RJ2 (157) yJ11_highSurrogate_5068e ∈ lw_gd := gd (List.mem_of_getElem? (i := 631) (by decide +kernel)) rfl
theorem tw_632 : Cond.static yJ11_highSurrogate_5068e ∈ lw_gd := gd (List.mem_of_getElem? (i := 632) (by decide +kernel)) rfl
theorem tw_633 : Cond.code yJ11_highSurrogate_5068e cJ11_highSurrogate_5068e 1 (some .char) ∈ lw_gd := gd (List.mem_of_getElem? (i := 633) (by decide +kernel)) rfl
theorem tw_634 : Cond.constant RJ11 (110) (55232) ∈ lw_gd := gd (List.mem_of_getElem? (i := 634) (by decide +kernel)) rfl
theorem tw_635 : Cond.methodLink RJ2 (161) yJ11_lowSurrogate_5068e ∈ lw_gd := gd (List.mem_of_getElem? (i := 635) (by decide +kernel)) rfl
theorem tw_636 : Cond.static yJ11_lowSurrogate_5068e ∈ lw_gd := gd (List.mem_of_getElem? (i := 636) (by decide +kernel)) rfl
theorem tw_637 : Cond.code yJ11_lowSurrogate_5068e cJ11_lowSurrogate_5068e 1 (some .char) ∈ lw_gd := gd (List.mem_of_getElem? (i := 637) (by decide +kernel)) rfl
theorem tw_638 : Cond.constant RJ11 (76) (56320) ∈ lw_gd := gd (List.mem_of_getElem? (i := 638) (by decide +kernel)) rfl
theorem tw_639 : Cond.methodLink RX6 (97) yX6_isDigit ∈ lw_gd := gd (List.mem_of_getElem? (i := 639) (by decide +kernel)) rfl
theorem tw_640 : Cond.static yX6_isDigit ∈ lw_gd := gd (List.mem_of_getElem? (i := 640) (by decide +kernel)) rfl
theorem tw_641 : Cond.code yX6_isDigit cX6_isDigit 1 (some .boolean) ∈ lw_gd := gd (List.mem_of_getElem? (i := 641) (by decide +kernel)) rfl
theorem tw_642 : Cond.methodLink RX6 (101) yX6_readNumber ∈ lw_gd := gd (List.mem_of_getElem? (i := 642) (by decide +kernel)) rfl
theorem tw_644 : Cond.instanceMethod yX6_readNumber ∈ lw_gd := gd (List.mem_of_getElem? (i := 644) (by decide +kernel)) rfl
theorem tw_645 : Cond.code yX6_readNumber cX6_readNumber 5 none ∈ lw_gd := gd (List.mem_of_getElem? (i := 645) (by decide +kernel)) rfl
theorem tw_646 : Cond.methodLink RX6 (88) yX6_write ∈ lw_gd := gd (List.mem_of_getElem? (i := 646) (by decide +kernel)) rfl
theorem tw_648 : Cond.instanceMethod yX6_write ∈ lw_gd := gd (List.mem_of_getElem? (i := 648) (by decide +kernel)) rfl
theorem tw_649 : Cond.code yX6_write cX6_write 2 none ∈ lw_gd := gd (List.mem_of_getElem? (i := 649) (by decide +kernel)) rfl
theorem tw_650 : Cond.methodLink RX6 (104) yX6_readClosing ∈ lw_gd := gd (List.mem_of_getElem? (i := 650) (by decide +kernel)) rfl
theorem tw_652 : Cond.instanceMethod yX6_readClosing ∈ lw_gd := gd (List.mem_of_getElem? (i := 652) (by decide +kernel)) rfl
theorem tw_653 : Cond.code yX6_readClosing cX6_readClosing 3 none ∈ lw_gd := gd (List.mem_of_getElem? (i := 653) (by decide +kernel)) rfl
theorem tw_654 : Cond.methodLink RX6 (84) yX6_levelOf ∈ lw_gd := gd (List.mem_of_getElem? (i := 654) (by decide +kernel)) rfl
theorem tw_655 : Cond.static yX6_levelOf ∈ lw_gd := gd (List.mem_of_getElem? (i := 655) (by decide +kernel)) rfl
theorem tw_656 : Cond.code yX6_levelOf cX6_levelOf 1 (some .int) ∈ lw_gd := gd (List.mem_of_getElem? (i := 656) (by decide +kernel)) rfl
theorem tw_657 : Cond.methodLink RX6 (32) yX6_take ∈ lw_gd := gd (List.mem_of_getElem? (i := 657) (by decide +kernel)) rfl
theorem tw_659 : Cond.instanceMethod yX6_take ∈ lw_gd := gd (List.mem_of_getElem? (i := 659) (by decide +kernel)) rfl
theorem tw_660 : Cond.code yX6_take cX6_take 3 none ∈ lw_gd := gd (List.mem_of_getElem? (i := 660) (by decide +kernel)) rfl
theorem tw_661 : Cond.methodLink RX6 (42) yJ9_max_7cf53 ∈ lw_gd := gd (List.mem_of_getElem? (i := 661) (by decide +kernel)) rfl
theorem tw_662 : Cond.methodLink RX6 (45) ⟨"java/lang/System", "arraycopy", "(Ljava/lang/Object;ILjava/lang/Object;II)V"⟩ ∈ lw_gd := gd (List.mem_of_getElem? (i := 662) (by decide +kernel)) rfl
theorem tw_663 : Cond.static ⟨"java/lang/System", "arraycopy", "(Ljava/lang/Object;ILjava/lang/Object;II)V"⟩ ∈ lw_gd := gd (List.mem_of_getElem? (i := 663) (by decide +kernel)) rfl
theorem tw_664 : Cond.native ⟨"java/lang/System", "arraycopy", "(Ljava/lang/Object;ILjava/lang/Object;II)V"⟩ ∈ lw_gd := gd (List.mem_of_getElem? (i := 664) (by decide +kernel)) rfl
theorem tw_668 : Cond.code yX11_law cX11_law 5 (some .int) ∈ lw_gd := gd (List.mem_of_getElem? (i := 668) (by decide +kernel)) rfl
theorem tw_669 : Cond.methodLink RX11 (199) yX6_gives ∈ lw_gd := gd (List.mem_of_getElem? (i := 669) (by decide +kernel)) rfl
theorem tw_670 : Cond.instanceMethod yX6_gives ∈ lw_gd := gd (List.mem_of_getElem? (i := 670) (by decide +kernel)) rfl
theorem tw_671 : Cond.selects RX6 yX6_gives yX6_gives ∈ lw_gd := gd (List.mem_of_getElem? (i := 671) (by decide +kernel)) rfl
theorem tw_672 : Cond.code yX6_gives cX6_gives 5 (some .int) ∈ lw_gd := gd (List.mem_of_getElem? (i := 672) (by decide +kernel)) rfl
theorem tw_673 : Cond.methodLink RX6 (51) yX6_workedOut ∈ lw_gd := gd (List.mem_of_getElem? (i := 673) (by decide +kernel)) rfl
theorem tw_675 : Cond.instanceMethod yX6_workedOut ∈ lw_gd := gd (List.mem_of_getElem? (i := 675) (by decide +kernel)) rfl
theorem tw_676 : Cond.code yX6_workedOut cX6_workedOut 7 (some .int) ∈ lw_gd := gd (List.mem_of_getElem? (i := 676) (by decide +kernel)) rfl
theorem tw_677 : Cond.methodLink RX6 (55) yX6_valueOf ∈ lw_gd := gd (List.mem_of_getElem? (i := 677) (by decide +kernel)) rfl
theorem tw_678 : Cond.static yX6_valueOf ∈ lw_gd := gd (List.mem_of_getElem? (i := 678) (by decide +kernel)) rfl
theorem tw_679 : Cond.code yX6_valueOf cX6_valueOf 4 (some .int) ∈ lw_gd := gd (List.mem_of_getElem? (i := 679) (by decide +kernel)) rfl
theorem tw_680 : Cond.methodLink RX6 (59) yX6_joined ∈ lw_gd := gd (List.mem_of_getElem? (i := 680) (by decide +kernel)) rfl
theorem tw_681 : Cond.static yX6_joined ∈ lw_gd := gd (List.mem_of_getElem? (i := 681) (by decide +kernel)) rfl
theorem tw_682 : Cond.code yX6_joined cX6_joined 3 (some .int) ∈ lw_gd := gd (List.mem_of_getElem? (i := 682) (by decide +kernel)) rfl
theorem tw_686 : Cond.code yX11_days cX11_days 2 (some .int) ∈ lw_gd := gd (List.mem_of_getElem? (i := 686) (by decide +kernel)) rfl
theorem tw_687 : Cond.methodLink RX11 (205) yX10_goDays ∈ lw_gd := gd (List.mem_of_getElem? (i := 687) (by decide +kernel)) rfl
theorem tw_688 : Cond.instanceMethod yX10_goDays ∈ lw_gd := gd (List.mem_of_getElem? (i := 688) (by decide +kernel)) rfl
theorem tw_689 : Cond.selects RX10 yX10_goDays yX10_goDays ∈ lw_gd := gd (List.mem_of_getElem? (i := 689) (by decide +kernel)) rfl
theorem tw_690 : Cond.code yX10_goDays cX10_goDays 4 none ∈ lw_gd := gd (List.mem_of_getElem? (i := 690) (by decide +kernel)) rfl
theorem tw_691 : Cond.methodLink RX10 (96) yX10_goDay ∈ lw_gd := gd (List.mem_of_getElem? (i := 691) (by decide +kernel)) rfl
theorem tw_692 : Cond.instanceMethod yX10_goDay ∈ lw_gd := gd (List.mem_of_getElem? (i := 692) (by decide +kernel)) rfl
theorem tw_693 : Cond.selects RX10 yX10_goDay yX10_goDay ∈ lw_gd := gd (List.mem_of_getElem? (i := 693) (by decide +kernel)) rfl
theorem tw_694 : Cond.code yX10_goDay cX10_goDay 2 none ∈ lw_gd := gd (List.mem_of_getElem? (i := 694) (by decide +kernel)) rfl
theorem tw_695 : Cond.methodLink RX10 (106) yX10_dust ∈ lw_gd := gd (List.mem_of_getElem? (i := 695) (by decide +kernel)) rfl
theorem tw_696 : Cond.instanceMethod yX10_dust ∈ lw_gd := gd (List.mem_of_getElem? (i := 696) (by decide +kernel)) rfl
theorem tw_697 : Cond.selects RX10 yX10_dust yX10_dust ∈ lw_gd := gd (List.mem_of_getElem? (i := 697) (by decide +kernel)) rfl
theorem tw_698 : Cond.code yX10_dust cX10_dust 3 (some .int) ∈ lw_gd := gd (List.mem_of_getElem? (i := 698) (by decide +kernel)) rfl
theorem tw_699 : Cond.methodLink RX10 (110) yJ6_bitCount_0f7a4 ∈ lw_gd := gd (List.mem_of_getElem? (i := 699) (by decide +kernel)) rfl
theorem tw_700 : Cond.static yJ6_bitCount_0f7a4 ∈ lw_gd := gd (List.mem_of_getElem? (i := 700) (by decide +kernel)) rfl
theorem tw_701 : Cond.code yJ6_bitCount_0f7a4 cJ6_bitCount_0f7a4 1 (some .int) ∈ lw_gd := gd (List.mem_of_getElem? (i := 701) (by decide +kernel)) rfl
theorem tw_702 : Cond.constant RJ6 (265) (1431655765) ∈ lw_gd := gd (List.mem_of_getElem? (i := 702) (by decide +kernel)) rfl
theorem tw_703 : Cond.constant RJ6 (266) (858993459) ∈ lw_gd := gd (List.mem_of_getElem? (i := 703) (by decide +kernel)) rfl
theorem tw_704 : Cond.constant RJ6 (267) (252645135) ∈ lw_gd := gd (List.mem_of_getElem? (i := 704) (by decide +kernel)) rfl
theorem tw_705 : Cond.methodLink RX10 (115) yX6_gives ∈ lw_gd := gd (List.mem_of_getElem? (i := 705) (by decide +kernel)) rfl
theorem tw_706 : Cond.methodLink RX10 (120) yX10_carry ∈ lw_gd := gd (List.mem_of_getElem? (i := 706) (by decide +kernel)) rfl
theorem tw_708 : Cond.instanceMethod yX10_carry ∈ lw_gd := gd (List.mem_of_getElem? (i := 708) (by decide +kernel)) rfl
theorem tw_709 : Cond.code yX10_carry cX10_carry 3 none ∈ lw_gd := gd (List.mem_of_getElem? (i := 709) (by decide +kernel)) rfl
theorem tw_710 : Cond.methodLink RX10 (133) yX10_driftsOf ∈ lw_gd := gd (List.mem_of_getElem? (i := 710) (by decide +kernel)) rfl
theorem tw_711 : Cond.methodLink RX10 (137) yX10_drift ∈ lw_gd := gd (List.mem_of_getElem? (i := 711) (by decide +kernel)) rfl
theorem tw_713 : Cond.instanceMethod yX10_drift ∈ lw_gd := gd (List.mem_of_getElem? (i := 713) (by decide +kernel)) rfl
theorem tw_714 : Cond.code yX10_drift cX10_drift 5 none ∈ lw_gd := gd (List.mem_of_getElem? (i := 714) (by decide +kernel)) rfl
theorem tw_715 : Cond.methodLink RX10 (127) yX10_shine ∈ lw_gd := gd (List.mem_of_getElem? (i := 715) (by decide +kernel)) rfl
theorem tw_717 : Cond.instanceMethod yX10_shine ∈ lw_gd := gd (List.mem_of_getElem? (i := 717) (by decide +kernel)) rfl
theorem tw_718 : Cond.code yX10_shine cX10_shine 4 none ∈ lw_gd := gd (List.mem_of_getElem? (i := 718) (by decide +kernel)) rfl
theorem tw_719 : Cond.methodLink RX10 (140) yX10_shinesOf ∈ lw_gd := gd (List.mem_of_getElem? (i := 719) (by decide +kernel)) rfl
theorem tw_720 : Cond.methodLink RX10 (143) yJ9_min_7cf53 ∈ lw_gd := gd (List.mem_of_getElem? (i := 720) (by decide +kernel)) rfl
theorem tw_721 : Cond.constant RX10 (148) (99999) ∈ lw_gd := gd (List.mem_of_getElem? (i := 721) (by decide +kernel)) rfl
theorem tw_722 : Cond.methodLink RX10 (130) yX10_sweepUp ∈ lw_gd := gd (List.mem_of_getElem? (i := 722) (by decide +kernel)) rfl
theorem tw_724 : Cond.instanceMethod yX10_sweepUp ∈ lw_gd := gd (List.mem_of_getElem? (i := 724) (by decide +kernel)) rfl
theorem tw_725 : Cond.code yX10_sweepUp cX10_sweepUp 2 none ∈ lw_gd := gd (List.mem_of_getElem? (i := 725) (by decide +kernel)) rfl
theorem tw_729 : Cond.code yX11_loose cX11_loose 4 (some .int) ∈ lw_gd := gd (List.mem_of_getElem? (i := 729) (by decide +kernel)) rfl
theorem tw_730 : Cond.methodLink RX11 (209) yX8_draw ∈ lw_gd := gd (List.mem_of_getElem? (i := 730) (by decide +kernel)) rfl
theorem tw_731 : Cond.instanceMethod yX8_draw ∈ lw_gd := gd (List.mem_of_getElem? (i := 731) (by decide +kernel)) rfl
theorem tw_732 : Cond.selects RX8 yX8_draw yX8_draw ∈ lw_gd := gd (List.mem_of_getElem? (i := 732) (by decide +kernel)) rfl
theorem tw_733 : Cond.code yX8_draw cX8_draw 1 (some .int) ∈ lw_gd := gd (List.mem_of_getElem? (i := 733) (by decide +kernel)) rfl
theorem tw_734 : Cond.constant RX8 (54) (1103515245) ∈ lw_gd := gd (List.mem_of_getElem? (i := 734) (by decide +kernel)) rfl
theorem tw_735 : Cond.methodLink RX11 (213) yX10_goDay ∈ lw_gd := gd (List.mem_of_getElem? (i := 735) (by decide +kernel)) rfl
theorem tw_739 : Cond.code yX11_then cX11_then 3 (some .int) ∈ lw_gd := gd (List.mem_of_getElem? (i := 739) (by decide +kernel)) rfl
theorem tw_740 : Cond.methodLink RX11 (217) yX11_think ∈ lw_gd := gd (List.mem_of_getElem? (i := 740) (by decide +kernel)) rfl
theorem tw_742 : Cond.instanceMethod yX11_think ∈ lw_gd := gd (List.mem_of_getElem? (i := 742) (by decide +kernel)) rfl
theorem tw_743 : Cond.code yX11_think cX11_think 1 none ∈ lw_gd := gd (List.mem_of_getElem? (i := 743) (by decide +kernel)) rfl
theorem tw_744 : Cond.methodLink RX11 (302) yX10_copy ∈ lw_gd := gd (List.mem_of_getElem? (i := 744) (by decide +kernel)) rfl
theorem tw_745 : Cond.instanceMethod yX10_copy ∈ lw_gd := gd (List.mem_of_getElem? (i := 745) (by decide +kernel)) rfl
theorem tw_746 : Cond.selects RX10 yX10_copy yX10_copy ∈ lw_gd := gd (List.mem_of_getElem? (i := 746) (by decide +kernel)) rfl
theorem tw_747 : Cond.code yX10_copy cX10_copy 2 none ∈ lw_gd := gd (List.mem_of_getElem? (i := 747) (by decide +kernel)) rfl
theorem tw_748 : Cond.methodLink RX10 (47) ⟨"java/lang/System", "arraycopy", "(Ljava/lang/Object;ILjava/lang/Object;II)V"⟩ ∈ lw_gd := gd (List.mem_of_getElem? (i := 748) (by decide +kernel)) rfl
theorem tw_752 : Cond.code yX11_first cX11_first 5 (some .int) ∈ lw_gd := gd (List.mem_of_getElem? (i := 752) (by decide +kernel)) rfl
theorem tw_753 : Cond.methodLink RX11 (220) yX11_leastOf ∈ lw_gd := gd (List.mem_of_getElem? (i := 753) (by decide +kernel)) rfl
theorem tw_754 : Cond.static yX11_leastOf ∈ lw_gd := gd (List.mem_of_getElem? (i := 754) (by decide +kernel)) rfl
theorem tw_755 : Cond.code yX11_leastOf cX11_leastOf 2 (some .int) ∈ lw_gd := gd (List.mem_of_getElem? (i := 755) (by decide +kernel)) rfl
theorem tw_756 : Cond.constant RX11 (223) (-1000000002) ∈ lw_gd := gd (List.mem_of_getElem? (i := 756) (by decide +kernel)) rfl
theorem tw_760 : Cond.code yX11_meet cX11_meet 4 (some .int) ∈ lw_gd := gd (List.mem_of_getElem? (i := 760) (by decide +kernel)) rfl
theorem tw_764 : Cond.code yX11_bright cX11_bright 4 (some .int) ∈ lw_gd := gd (List.mem_of_getElem? (i := 764) (by decide +kernel)) rfl
theorem tw_768 : Cond.code yX11_place cX11_place 7 (some .int) ∈ lw_gd := gd (List.mem_of_getElem? (i := 768) (by decide +kernel)) rfl
theorem tw_772 : Cond.code yX11_cartsFor cX11_cartsFor 4 (some .int) ∈ lw_gd := gd (List.mem_of_getElem? (i := 772) (by decide +kernel)) rfl
theorem tw_773 : Cond.methodLink RX11 (224) yX11_isSetOfHeirs ∈ lw_gd := gd (List.mem_of_getElem? (i := 773) (by decide +kernel)) rfl
theorem tw_775 : Cond.instanceMethod yX11_isSetOfHeirs ∈ lw_gd := gd (List.mem_of_getElem? (i := 775) (by decide +kernel)) rfl
theorem tw_776 : Cond.code yX11_isSetOfHeirs cX11_isSetOfHeirs 2 (some .boolean) ∈ lw_gd := gd (List.mem_of_getElem? (i := 776) (by decide +kernel)) rfl
theorem tw_777 : Cond.methodLink RX11 (227) yX10_areContent ∈ lw_gd := gd (List.mem_of_getElem? (i := 777) (by decide +kernel)) rfl
theorem tw_778 : Cond.instanceMethod yX10_areContent ∈ lw_gd := gd (List.mem_of_getElem? (i := 778) (by decide +kernel)) rfl
theorem tw_779 : Cond.selects RX10 yX10_areContent yX10_areContent ∈ lw_gd := gd (List.mem_of_getElem? (i := 779) (by decide +kernel)) rfl
theorem tw_780 : Cond.code yX10_areContent cX10_areContent 3 (some .boolean) ∈ lw_gd := gd (List.mem_of_getElem? (i := 780) (by decide +kernel)) rfl
theorem tw_781 : Cond.methodLink RX10 (93) yX10_isContent ∈ lw_gd := gd (List.mem_of_getElem? (i := 781) (by decide +kernel)) rfl
theorem tw_785 : Cond.code yX11_stop cX11_stop 6 (some .int) ∈ lw_gd := gd (List.mem_of_getElem? (i := 785) (by decide +kernel)) rfl
theorem tw_789 : Cond.code yX11_swap cX11_swap 6 (some .int) ∈ lw_gd := gd (List.mem_of_getElem? (i := 789) (by decide +kernel)) rfl
theorem tw_793 : Cond.code yX11_sunFor cX11_sunFor 5 (some .int) ∈ lw_gd := gd (List.mem_of_getElem? (i := 793) (by decide +kernel)) rfl
theorem tw_797 : Cond.code yX11_sweepFor cX11_sweepFor 6 (some .int) ∈ lw_gd := gd (List.mem_of_getElem? (i := 797) (by decide +kernel)) rfl
theorem tw_801 : Cond.code yX11_whence cX11_whence 8 (some .int) ∈ lw_gd := gd (List.mem_of_getElem? (i := 801) (by decide +kernel)) rfl
theorem tw_802 : Cond.methodLink RX11 (230) yX11_isSheet ∈ lw_gd := gd (List.mem_of_getElem? (i := 802) (by decide +kernel)) rfl
theorem tw_803 : Cond.static yX11_isSheet ∈ lw_gd := gd (List.mem_of_getElem? (i := 803) (by decide +kernel)) rfl
theorem tw_804 : Cond.code yX11_isSheet cX11_isSheet 1 (some .boolean) ∈ lw_gd := gd (List.mem_of_getElem? (i := 804) (by decide +kernel)) rfl
theorem tw_805 : Cond.methodLink RX11 (233) yX11_isMissing ∈ lw_gd := gd (List.mem_of_getElem? (i := 805) (by decide +kernel)) rfl
theorem tw_807 : Cond.instanceMethod yX11_isMissing ∈ lw_gd := gd (List.mem_of_getElem? (i := 807) (by decide +kernel)) rfl
theorem tw_808 : Cond.code yX11_isMissing cX11_isMissing 2 (some .boolean) ∈ lw_gd := gd (List.mem_of_getElem? (i := 808) (by decide +kernel)) rfl
theorem tw_809 : Cond.methodLink RX11 (236) yX11_liesAsTold ∈ lw_gd := gd (List.mem_of_getElem? (i := 809) (by decide +kernel)) rfl
theorem tw_811 : Cond.instanceMethod yX11_liesAsTold ∈ lw_gd := gd (List.mem_of_getElem? (i := 811) (by decide +kernel)) rfl
theorem tw_812 : Cond.code yX11_liesAsTold cX11_liesAsTold 4 (some .boolean) ∈ lw_gd := gd (List.mem_of_getElem? (i := 812) (by decide +kernel)) rfl
theorem tw_816 : Cond.code yX11_bare cX11_bare 4 (some .int) ∈ lw_gd := gd (List.mem_of_getElem? (i := 816) (by decide +kernel)) rfl
theorem tw_820 : Cond.code yX11_crowd cX11_crowd 7 (some .int) ∈ lw_gd := gd (List.mem_of_getElem? (i := 820) (by decide +kernel)) rfl
theorem tw_821 : Cond.methodLink RX11 (239) yJ6_bitCount_0f7a4 ∈ lw_gd := gd (List.mem_of_getElem? (i := 821) (by decide +kernel)) rfl
theorem tw_825 : Cond.code yX11_light cX11_light 2 (some .int) ∈ lw_gd := gd (List.mem_of_getElem? (i := 825) (by decide +kernel)) rfl
theorem tw_829 : Cond.code yX11_late cX11_late 3 (some .int) ∈ lw_gd := gd (List.mem_of_getElem? (i := 829) (by decide +kernel)) rfl
theorem tw_830 : Cond.methodLink RX11 (244) yX10_dust ∈ lw_gd := gd (List.mem_of_getElem? (i := 830) (by decide +kernel)) rfl
theorem tw_834 : Cond.code yX11_odds cX11_odds 7 (some .int) ∈ lw_gd := gd (List.mem_of_getElem? (i := 834) (by decide +kernel)) rfl
theorem tw_835 : Cond.methodLink RX11 (247) yX11_greatestDivisor ∈ lw_gd := gd (List.mem_of_getElem? (i := 835) (by decide +kernel)) rfl
theorem tw_836 : Cond.static yX11_greatestDivisor ∈ lw_gd := gd (List.mem_of_getElem? (i := 836) (by decide +kernel)) rfl
theorem tw_837 : Cond.code yX11_greatestDivisor cX11_greatestDivisor 3 (some .int) ∈ lw_gd := gd (List.mem_of_getElem? (i := 837) (by decide +kernel)) rfl
theorem tw_841 : Cond.code yX11_seed cX11_seed 3 (some .int) ∈ lw_gd := gd (List.mem_of_getElem? (i := 841) (by decide +kernel)) rfl
theorem tw_845 : Cond.code yX11_voice cX11_voice 5 (some .int) ∈ lw_gd := gd (List.mem_of_getElem? (i := 845) (by decide +kernel)) rfl
theorem tw_846 : Cond.methodLink RX11 (253) yX10_kindOf ∈ lw_gd := gd (List.mem_of_getElem? (i := 846) (by decide +kernel)) rfl
theorem tw_847 : Cond.methodLink RX11 (257) yX9_open ∈ lw_gd := gd (List.mem_of_getElem? (i := 847) (by decide +kernel)) rfl
theorem tw_848 : Cond.instanceMethod yX9_open ∈ lw_gd := gd (List.mem_of_getElem? (i := 848) (by decide +kernel)) rfl
theorem tw_849 : Cond.selects RX9 yX9_open yX9_open ∈ lw_gd := gd (List.mem_of_getElem? (i := 849) (by decide +kernel)) rfl
theorem tw_850 : Cond.code yX9_open cX9_open 3 none ∈ lw_gd := gd (List.mem_of_getElem? (i := 850) (by decide +kernel)) rfl
theorem tw_851 : Cond.methodLink RX11 (260) yX5_lies ∈ lw_gd := gd (List.mem_of_getElem? (i := 851) (by decide +kernel)) rfl
theorem tw_852 : Cond.instanceMethod yX5_lies ∈ lw_gd := gd (List.mem_of_getElem? (i := 852) (by decide +kernel)) rfl
theorem tw_853 : Cond.selects RX5 yX5_lies yX5_lies ∈ lw_gd := gd (List.mem_of_getElem? (i := 853) (by decide +kernel)) rfl
theorem tw_854 : Cond.sameMethod RX5 RX5 "lies" "(LDustSills$Speech;I)I" ∈ lw_gd := gd (List.mem_of_getElem? (i := 854) (by decide +kernel)) rfl
theorem tw_855 : Cond.selects RX0 yX5_lies yX5_lies ∈ lw_gd := gd (List.mem_of_getElem? (i := 855) (by decide +kernel)) rfl
theorem tw_856 : Cond.selects RX1 yX5_lies yX5_lies ∈ lw_gd := gd (List.mem_of_getElem? (i := 856) (by decide +kernel)) rfl
theorem tw_857 : Cond.selects RX2 yX5_lies yX5_lies ∈ lw_gd := gd (List.mem_of_getElem? (i := 857) (by decide +kernel)) rfl
theorem tw_858 : Cond.selects RX3 yX5_lies yX7_lies ∈ lw_gd := gd (List.mem_of_getElem? (i := 858) (by decide +kernel)) rfl
theorem tw_859 : Cond.instanceMethod yX7_lies ∈ lw_gd := gd (List.mem_of_getElem? (i := 859) (by decide +kernel)) rfl
theorem tw_860 : Cond.code yX7_lies cX7_lies 3 (some .int) ∈ lw_gd := gd (List.mem_of_getElem? (i := 860) (by decide +kernel)) rfl
theorem tw_861 : Cond.methodLink RX7 (7) yX9_begin ∈ lw_gd := gd (List.mem_of_getElem? (i := 861) (by decide +kernel)) rfl
theorem tw_862 : Cond.instanceMethod yX9_begin ∈ lw_gd := gd (List.mem_of_getElem? (i := 862) (by decide +kernel)) rfl
theorem tw_863 : Cond.selects RX9 yX9_begin yX9_begin ∈ lw_gd := gd (List.mem_of_getElem? (i := 863) (by decide +kernel)) rfl
theorem tw_864 : Cond.code yX9_begin cX9_begin 2 none ∈ lw_gd := gd (List.mem_of_getElem? (i := 864) (by decide +kernel)) rfl
theorem tw_865 : Cond.methodLink RX7 (13) yX5_lies ∈ lw_gd := gd (List.mem_of_getElem? (i := 865) (by decide +kernel)) rfl
theorem tw_866 : Cond.selects RX4 yX5_lies yX5_lies ∈ lw_gd := gd (List.mem_of_getElem? (i := 866) (by decide +kernel)) rfl
theorem tw_867 : Cond.selects RX7 yX5_lies yX7_lies ∈ lw_gd := gd (List.mem_of_getElem? (i := 867) (by decide +kernel)) rfl
theorem tw_868 : Cond.code yX5_lies cX5_lies 3 (some .int) ∈ lw_gd := gd (List.mem_of_getElem? (i := 868) (by decide +kernel)) rfl
theorem tw_869 : Cond.methodLink RX5 (7) yX9_begin ∈ lw_gd := gd (List.mem_of_getElem? (i := 869) (by decide +kernel)) rfl
theorem tw_870 : Cond.methodLink RX11 (264) yX5_shines ∈ lw_gd := gd (List.mem_of_getElem? (i := 870) (by decide +kernel)) rfl
theorem tw_871 : Cond.instanceMethod yX5_shines ∈ lw_gd := gd (List.mem_of_getElem? (i := 871) (by decide +kernel)) rfl
theorem tw_872 : Cond.selects RX5 yX5_shines yX5_shines ∈ lw_gd := gd (List.mem_of_getElem? (i := 872) (by decide +kernel)) rfl
theorem tw_873 : Cond.sameMethod RX5 RX5 "shines" "(LDustSills$Speech;I)I" ∈ lw_gd := gd (List.mem_of_getElem? (i := 873) (by decide +kernel)) rfl
theorem tw_874 : Cond.selects RX0 yX5_shines yX5_shines ∈ lw_gd := gd (List.mem_of_getElem? (i := 874) (by decide +kernel)) rfl
theorem tw_875 : Cond.selects RX1 yX5_shines yX1_shines ∈ lw_gd := gd (List.mem_of_getElem? (i := 875) (by decide +kernel)) rfl
theorem tw_876 : Cond.instanceMethod yX1_shines ∈ lw_gd := gd (List.mem_of_getElem? (i := 876) (by decide +kernel)) rfl
theorem tw_877 : Cond.code yX1_shines cX1_shines 3 (some .int) ∈ lw_gd := gd (List.mem_of_getElem? (i := 877) (by decide +kernel)) rfl
theorem tw_878 : Cond.methodLink RX1 (7) yX9_begin ∈ lw_gd := gd (List.mem_of_getElem? (i := 878) (by decide +kernel)) rfl
theorem tw_879 : Cond.methodLink RX1 (13) yX5_shines ∈ lw_gd := gd (List.mem_of_getElem? (i := 879) (by decide +kernel)) rfl
theorem tw_880 : Cond.methodLink RX1 (17) ⟨"DustSills$Barber", "drifts", "(LDustSills$Speech;I)I"⟩ ∈ lw_gd := gd (List.mem_of_getElem? (i := 880) (by decide +kernel)) rfl
theorem tw_881 : Cond.sameMethod RX1 RX5 "drifts" "(LDustSills$Speech;I)I" ∈ lw_gd := gd (List.mem_of_getElem? (i := 881) (by decide +kernel)) rfl
theorem tw_883 : Cond.selects RX1 ⟨"DustSills$Barber", "drifts", "(LDustSills$Speech;I)I"⟩ yX5_drifts ∈ lw_gd := gd (List.mem_of_getElem? (i := 883) (by decide +kernel)) rfl
theorem tw_884 : Cond.selects RX2 ⟨"DustSills$Barber", "drifts", "(LDustSills$Speech;I)I"⟩ yX5_drifts ∈ lw_gd := gd (List.mem_of_getElem? (i := 884) (by decide +kernel)) rfl
theorem tw_885 : Cond.instanceMethod yX5_drifts ∈ lw_gd := gd (List.mem_of_getElem? (i := 885) (by decide +kernel)) rfl
theorem tw_886 : Cond.code yX5_drifts cX5_drifts 3 (some .int) ∈ lw_gd := gd (List.mem_of_getElem? (i := 886) (by decide +kernel)) rfl
theorem tw_887 : Cond.selects RX2 yX5_shines yX2_shines ∈ lw_gd := gd (List.mem_of_getElem? (i := 887) (by decide +kernel)) rfl
theorem tw_888 : Cond.instanceMethod yX2_shines ∈ lw_gd := gd (List.mem_of_getElem? (i := 888) (by decide +kernel)) rfl
theorem tw_889 : Cond.code yX2_shines cX2_shines 3 (some .int) ∈ lw_gd := gd (List.mem_of_getElem? (i := 889) (by decide +kernel)) rfl
theorem tw_890 : Cond.methodLink RX2 (11) yX9_begin ∈ lw_gd := gd (List.mem_of_getElem? (i := 890) (by decide +kernel)) rfl
theorem tw_891 : Cond.methodLink RX2 (17) yX1_shines ∈ lw_gd := gd (List.mem_of_getElem? (i := 891) (by decide +kernel)) rfl
theorem tw_892 : Cond.selects RX3 yX5_shines yX5_shines ∈ lw_gd := gd (List.mem_of_getElem? (i := 892) (by decide +kernel)) rfl
theorem tw_893 : Cond.selects RX4 yX5_shines yX5_shines ∈ lw_gd := gd (List.mem_of_getElem? (i := 893) (by decide +kernel)) rfl
theorem tw_894 : Cond.selects RX7 yX5_shines yX5_shines ∈ lw_gd := gd (List.mem_of_getElem? (i := 894) (by decide +kernel)) rfl
theorem tw_895 : Cond.code yX5_shines cX5_shines 3 (some .int) ∈ lw_gd := gd (List.mem_of_getElem? (i := 895) (by decide +kernel)) rfl
theorem tw_896 : Cond.methodLink RX5 (17) yX5_lies ∈ lw_gd := gd (List.mem_of_getElem? (i := 896) (by decide +kernel)) rfl
theorem tw_897 : Cond.methodLink RX11 (267) yX5_drifts ∈ lw_gd := gd (List.mem_of_getElem? (i := 897) (by decide +kernel)) rfl
theorem tw_898 : Cond.instanceMethod yX0_drifts ∈ lw_gd := gd (List.mem_of_getElem? (i := 898) (by decide +kernel)) rfl
theorem tw_899 : Cond.code yX0_drifts cX0_drifts 3 (some .int) ∈ lw_gd := gd (List.mem_of_getElem? (i := 899) (by decide +kernel)) rfl
theorem tw_900 : Cond.methodLink RX0 (9) yX9_begin ∈ lw_gd := gd (List.mem_of_getElem? (i := 900) (by decide +kernel)) rfl
theorem tw_901 : Cond.methodLink RX0 (15) yX5_drifts ∈ lw_gd := gd (List.mem_of_getElem? (i := 901) (by decide +kernel)) rfl
theorem tw_902 : Cond.instanceMethod yX4_drifts ∈ lw_gd := gd (List.mem_of_getElem? (i := 902) (by decide +kernel)) rfl
theorem tw_903 : Cond.code yX4_drifts cX4_drifts 3 (some .int) ∈ lw_gd := gd (List.mem_of_getElem? (i := 903) (by decide +kernel)) rfl
theorem tw_904 : Cond.methodLink RX4 (24) yX9_begin ∈ lw_gd := gd (List.mem_of_getElem? (i := 904) (by decide +kernel)) rfl
theorem tw_905 : Cond.methodLink RX4 (30) yX0_drifts ∈ lw_gd := gd (List.mem_of_getElem? (i := 905) (by decide +kernel)) rfl
theorem tw_906 : Cond.methodLink RX11 (270) yX5_tells ∈ lw_gd := gd (List.mem_of_getElem? (i := 906) (by decide +kernel)) rfl
theorem tw_907 : Cond.instanceMethod yX5_tells ∈ lw_gd := gd (List.mem_of_getElem? (i := 907) (by decide +kernel)) rfl
theorem tw_908 : Cond.selects RX5 yX5_tells yX5_tells ∈ lw_gd := gd (List.mem_of_getElem? (i := 908) (by decide +kernel)) rfl
theorem tw_909 : Cond.sameMethod RX5 RX5 "tells" "(LDustSills$Speech;I)I" ∈ lw_gd := gd (List.mem_of_getElem? (i := 909) (by decide +kernel)) rfl
theorem tw_910 : Cond.selects RX0 yX5_tells yX5_tells ∈ lw_gd := gd (List.mem_of_getElem? (i := 910) (by decide +kernel)) rfl
theorem tw_911 : Cond.selects RX1 yX5_tells yX5_tells ∈ lw_gd := gd (List.mem_of_getElem? (i := 911) (by decide +kernel)) rfl
theorem tw_912 : Cond.selects RX2 yX5_tells yX5_tells ∈ lw_gd := gd (List.mem_of_getElem? (i := 912) (by decide +kernel)) rfl
theorem tw_913 : Cond.selects RX3 yX5_tells yX3_tells ∈ lw_gd := gd (List.mem_of_getElem? (i := 913) (by decide +kernel)) rfl
theorem tw_914 : Cond.instanceMethod yX3_tells ∈ lw_gd := gd (List.mem_of_getElem? (i := 914) (by decide +kernel)) rfl
theorem tw_915 : Cond.code yX3_tells cX3_tells 3 (some .int) ∈ lw_gd := gd (List.mem_of_getElem? (i := 915) (by decide +kernel)) rfl
theorem tw_916 : Cond.methodLink RX3 (17) yX9_begin ∈ lw_gd := gd (List.mem_of_getElem? (i := 916) (by decide +kernel)) rfl
theorem tw_920 : Cond.methodLink RX3 (27) ⟨"DustSills$General", "lies", "(LDustSills$Speech;I)I"⟩ ∈ lw_gd := gd (List.mem_of_getElem? (i := 920) (by decide +kernel)) rfl
theorem tw_921 : Cond.sameMethod RX3 RX7 "lies" "(LDustSills$Speech;I)I" ∈ lw_gd := gd (List.mem_of_getElem? (i := 921) (by decide +kernel)) rfl
theorem tw_923 : Cond.selects RX3 ⟨"DustSills$General", "lies", "(LDustSills$Speech;I)I"⟩ yX7_lies ∈ lw_gd := gd (List.mem_of_getElem? (i := 923) (by decide +kernel)) rfl
theorem tw_924 : Cond.selects RX4 yX5_tells yX4_tells ∈ lw_gd := gd (List.mem_of_getElem? (i := 924) (by decide +kernel)) rfl
theorem tw_925 : Cond.instanceMethod yX4_tells ∈ lw_gd := gd (List.mem_of_getElem? (i := 925) (by decide +kernel)) rfl
theorem tw_926 : Cond.code yX4_tells cX4_tells 3 (some .int) ∈ lw_gd := gd (List.mem_of_getElem? (i := 926) (by decide +kernel)) rfl
theorem tw_927 : Cond.methodLink RX4 (38) ⟨"DustSills$Girl", "shines", "(LDustSills$Speech;I)I"⟩ ∈ lw_gd := gd (List.mem_of_getElem? (i := 927) (by decide +kernel)) rfl
theorem tw_928 : Cond.sameMethod RX4 RX5 "shines" "(LDustSills$Speech;I)I" ∈ lw_gd := gd (List.mem_of_getElem? (i := 928) (by decide +kernel)) rfl
theorem tw_930 : Cond.selects RX4 ⟨"DustSills$Girl", "shines", "(LDustSills$Speech;I)I"⟩ yX5_shines ∈ lw_gd := gd (List.mem_of_getElem? (i := 930) (by decide +kernel)) rfl
theorem tw_933 : Cond.selects RX7 yX5_tells yX5_tells ∈ lw_gd := gd (List.mem_of_getElem? (i := 933) (by decide +kernel)) rfl
theorem tw_934 : Cond.code yX5_tells cX5_tells 3 (some .int) ∈ lw_gd := gd (List.mem_of_getElem? (i := 934) (by decide +kernel)) rfl
theorem tw_935 : Cond.methodLink RX5 (26) yX5_shines ∈ lw_gd := gd (List.mem_of_getElem? (i := 935) (by decide +kernel)) rfl
theorem tw_936 : Cond.methodLink RX5 (29) yX5_drifts ∈ lw_gd := gd (List.mem_of_getElem? (i := 936) (by decide +kernel)) rfl
theorem tw_940 : Cond.code yX11_trace cX11_trace 2 (some .int) ∈ lw_gd := gd (List.mem_of_getElem? (i := 940) (by decide +kernel)) rfl
theorem tw_944 : Cond.code yX11_sheet cX11_sheet 4 (some .int) ∈ lw_gd := gd (List.mem_of_getElem? (i := 944) (by decide +kernel)) rfl
theorem tw_945 : Cond.methodLink RX11 (279) yJ7_fill_53178 ∈ lw_gd := gd (List.mem_of_getElem? (i := 945) (by decide +kernel)) rfl
theorem tw_946 : Cond.static yJ7_fill_53178 ∈ lw_gd := gd (List.mem_of_getElem? (i := 946) (by decide +kernel)) rfl
theorem tw_947 : Cond.code yJ7_fill_53178 cJ7_fill_53178 4 none ∈ lw_gd := gd (List.mem_of_getElem? (i := 947) (by decide +kernel)) rfl
theorem tw_951 : Cond.code yX11_put cX11_put 4 (some .int) ∈ lw_gd := gd (List.mem_of_getElem? (i := 951) (by decide +kernel)) rfl
theorem tw_952 : Cond.methodLink RX11 (285) yX11_stand ∈ lw_gd := gd (List.mem_of_getElem? (i := 952) (by decide +kernel)) rfl
theorem tw_954 : Cond.instanceMethod yX11_stand ∈ lw_gd := gd (List.mem_of_getElem? (i := 954) (by decide +kernel)) rfl
theorem tw_955 : Cond.code yX11_stand cX11_stand 4 (some .boolean) ∈ lw_gd := gd (List.mem_of_getElem? (i := 955) (by decide +kernel)) rfl
theorem tw_956 : Cond.methodLink RX11 (288) yX11_lowestBits ∈ lw_gd := gd (List.mem_of_getElem? (i := 956) (by decide +kernel)) rfl
theorem tw_957 : Cond.static yX11_lowestBits ∈ lw_gd := gd (List.mem_of_getElem? (i := 957) (by decide +kernel)) rfl
theorem tw_958 : Cond.code yX11_lowestBits cX11_lowestBits 2 (some .int) ∈ lw_gd := gd (List.mem_of_getElem? (i := 958) (by decide +kernel)) rfl
theorem tw_962 : Cond.code yX11_move cX11_move 6 (some .int) ∈ lw_gd := gd (List.mem_of_getElem? (i := 962) (by decide +kernel)) rfl
theorem tw_963 : Cond.methodLink RX11 (291) ⟨"java/lang/System", "arraycopy", "(Ljava/lang/Object;ILjava/lang/Object;II)V"⟩ ∈ lw_gd := gd (List.mem_of_getElem? (i := 963) (by decide +kernel)) rfl
theorem tw_967 : Cond.code yX11_suns cX11_suns 5 (some .int) ∈ lw_gd := gd (List.mem_of_getElem? (i := 967) (by decide +kernel)) rfl
theorem tw_968 : Cond.methodLink RX11 (297) yJ9_min_7cf53 ∈ lw_gd := gd (List.mem_of_getElem? (i := 968) (by decide +kernel)) rfl
theorem tw_972 : Cond.code yX11_judge cX11_judge 4 (some .int) ∈ lw_gd := gd (List.mem_of_getElem? (i := 972) (by decide +kernel)) rfl
theorem tw_976 : Cond.code yX11_image cX11_image 1 (some .int) ∈ lw_gd := gd (List.mem_of_getElem? (i := 976) (by decide +kernel)) rfl
theorem tw_977 : Cond.methodLink RX11 (306) yX8_copy ∈ lw_gd := gd (List.mem_of_getElem? (i := 977) (by decide +kernel)) rfl
theorem tw_978 : Cond.instanceMethod yX8_copy ∈ lw_gd := gd (List.mem_of_getElem? (i := 978) (by decide +kernel)) rfl
theorem tw_979 : Cond.selects RX8 yX8_copy yX8_copy ∈ lw_gd := gd (List.mem_of_getElem? (i := 979) (by decide +kernel)) rfl
theorem tw_980 : Cond.code yX8_copy cX8_copy 2 none ∈ lw_gd := gd (List.mem_of_getElem? (i := 980) (by decide +kernel)) rfl
theorem tw_981 : Cond.methodLink RX8 (38) ⟨"java/lang/System", "arraycopy", "(Ljava/lang/Object;ILjava/lang/Object;II)V"⟩ ∈ lw_gd := gd (List.mem_of_getElem? (i := 981) (by decide +kernel)) rfl
theorem tw_982 : Cond.methodLink RX8 (44) yX6_copy ∈ lw_gd := gd (List.mem_of_getElem? (i := 982) (by decide +kernel)) rfl
theorem tw_983 : Cond.instanceMethod yX6_copy ∈ lw_gd := gd (List.mem_of_getElem? (i := 983) (by decide +kernel)) rfl
theorem tw_984 : Cond.selects RX6 yX6_copy yX6_copy ∈ lw_gd := gd (List.mem_of_getElem? (i := 984) (by decide +kernel)) rfl
theorem tw_985 : Cond.code yX6_copy cX6_copy 2 none ∈ lw_gd := gd (List.mem_of_getElem? (i := 985) (by decide +kernel)) rfl
theorem tw_989 : Cond.code yX11_restore cX11_restore 1 (some .int) ∈ lw_gd := gd (List.mem_of_getElem? (i := 989) (by decide +kernel)) rfl
theorem tw_993 : Cond.code yX11_tell cX11_tell 2 (some .int) ∈ lw_gd := gd (List.mem_of_getElem? (i := 993) (by decide +kernel)) rfl
theorem tw_994 : Cond.methodLink RX11 (314) yX8_keepWaiting ∈ lw_gd := gd (List.mem_of_getElem? (i := 994) (by decide +kernel)) rfl
theorem tw_995 : Cond.instanceMethod yX8_keepWaiting ∈ lw_gd := gd (List.mem_of_getElem? (i := 995) (by decide +kernel)) rfl
theorem tw_996 : Cond.selects RX8 yX8_keepWaiting yX8_keepWaiting ∈ lw_gd := gd (List.mem_of_getElem? (i := 996) (by decide +kernel)) rfl
theorem tw_997 : Cond.code yX8_keepWaiting cX8_keepWaiting 2 none ∈ lw_gd := gd (List.mem_of_getElem? (i := 997) (by decide +kernel)) rfl
theorem tw_1001 : Cond.code yX11_check cX11_check 3 (some .int) ∈ lw_gd := gd (List.mem_of_getElem? (i := 1001) (by decide +kernel)) rfl
theorem tw_1005 : Cond.code yX11_count cX11_count 2 (some .int) ∈ lw_gd := gd (List.mem_of_getElem? (i := 1005) (by decide +kernel)) rfl
theorem tw_1006 : Cond.methodLink RX11 (320) yX11_sumOf ∈ lw_gd := gd (List.mem_of_getElem? (i := 1006) (by decide +kernel)) rfl
theorem tw_1007 : Cond.static yX11_sumOf ∈ lw_gd := gd (List.mem_of_getElem? (i := 1007) (by decide +kernel)) rfl
theorem tw_1008 : Cond.code yX11_sumOf cX11_sumOf 4 (some .int) ∈ lw_gd := gd (List.mem_of_getElem? (i := 1008) (by decide +kernel)) rfl
theorem tw_1012 : Cond.code yX11_told cX11_told 2 (some .int) ∈ lw_gd := gd (List.mem_of_getElem? (i := 1012) (by decide +kernel)) rfl
theorem tw_1019 : Cond.fieldLink RX12 (7) RX12 "d" "[I" ∈ lw_gd := gd (List.mem_of_getElem? (i := 1019) (by decide +kernel)) rfl
theorem tw_1020 : Cond.fieldLink RX12 (13) RX12 "kept" "[I" ∈ lw_gd := gd (List.mem_of_getElem? (i := 1020) (by decide +kernel)) rfl
theorem tw_1021 : Cond.fieldLink RX12 (16) RX12 "aside" "[I" ∈ lw_gd := gd (List.mem_of_getElem? (i := 1021) (by decide +kernel)) rfl
theorem tw_1022 : Cond.fieldLink RX12 (276) RX12 "images" "I" ∈ lw_gd := gd (List.mem_of_getElem? (i := 1022) (by decide +kernel)) rfl
theorem tw_1023 : Cond.fieldLink RX12 (19) RX12 "found" "[I" ∈ lw_gd := gd (List.mem_of_getElem? (i := 1023) (by decide +kernel)) rfl
theorem tw_1024 : Cond.fieldLink RX12 (63) RX12 "base" "I" ∈ lw_gd := gd (List.mem_of_getElem? (i := 1024) (by decide +kernel)) rfl
theorem tw_1025 : Cond.fieldLink RX12 (53) RX12 "at" "I" ∈ lw_gd := gd (List.mem_of_getElem? (i := 1025) (by decide +kernel)) rfl
theorem tw_1026 : Cond.fieldLink RX12 (57) RX12 "size" "I" ∈ lw_gd := gd (List.mem_of_getElem? (i := 1026) (by decide +kernel)) rfl
theorem tw_1027 : Cond.fieldLink RX12 (60) RX12 "fault" "I" ∈ lw_gd := gd (List.mem_of_getElem? (i := 1027) (by decide +kernel)) rfl
theorem tw_1028 : Cond.fieldLink RX12 (100) RX12 "opened" "I" ∈ lw_gd := gd (List.mem_of_getElem? (i := 1028) (by decide +kernel)) rfl
theorem tw_1029 : Cond.fieldLink RX12 (70) RX12 "isLight" "Z" ∈ lw_gd := gd (List.mem_of_getElem? (i := 1029) (by decide +kernel)) rfl
theorem tw_1030 : Cond.fieldLink RX12 (22) RX12 "names" "[I" ∈ lw_gd := gd (List.mem_of_getElem? (i := 1030) (by decide +kernel)) rfl
theorem tw_1031 : Cond.fieldLink RX12 (25) RX12 "code" "[I" ∈ lw_gd := gd (List.mem_of_getElem? (i := 1031) (by decide +kernel)) rfl
theorem tw_1032 : Cond.fieldLink RX12 (74) RX12 "coded" "I" ∈ lw_gd := gd (List.mem_of_getElem? (i := 1032) (by decide +kernel)) rfl
theorem tw_1033 : Cond.fieldLink RX12 (28) RX12 "pile" "[I" ∈ lw_gd := gd (List.mem_of_getElem? (i := 1033) (by decide +kernel)) rfl
theorem tw_1034 : Cond.fieldLink RX12 (31) RX12 "traced" "[I" ∈ lw_gd := gd (List.mem_of_getElem? (i := 1034) (by decide +kernel)) rfl
theorem tw_1035 : Cond.fieldLink RX12 (255) RX12 "traceMany" "I" ∈ lw_gd := gd (List.mem_of_getElem? (i := 1035) (by decide +kernel)) rfl
theorem tw_1036 : Cond.fieldLink RX12 (261) RX12 "who" "I" ∈ lw_gd := gd (List.mem_of_getElem? (i := 1036) (by decide +kernel)) rfl
theorem tw_1037 : Cond.fieldLink RX12 (34) RX12 "bitsOf" "[I" ∈ lw_gd := gd (List.mem_of_getElem? (i := 1037) (by decide +kernel)) rfl
theorem tw_1038 : Cond.fieldLink RX12 (37) RX12 "sizeOf" "[I" ∈ lw_gd := gd (List.mem_of_getElem? (i := 1038) (by decide +kernel)) rfl
theorem tw_1039 : Cond.fieldLink RX12 (40) RX12 "number" "[I" ∈ lw_gd := gd (List.mem_of_getElem? (i := 1039) (by decide +kernel)) rfl
theorem tw_1040 : Cond.fieldLink RX12 (43) RX12 "lifted" "[I" ∈ lw_gd := gd (List.mem_of_getElem? (i := 1040) (by decide +kernel)) rfl
theorem tw_1089 : Cond.code yX12_feed cX12_feed 5 (some .int) ∈ lw_gd := gd (List.mem_of_getElem? (i := 1089) (by decide +kernel)) rfl
theorem tw_1090 : Cond.constantLong RX12 (124) (8) ∈ lw_gd := gd (List.mem_of_getElem? (i := 1090) (by decide +kernel)) rfl
theorem tw_1091 : Cond.methodLink RX12 (47) yX12_in ∈ lw_gd := gd (List.mem_of_getElem? (i := 1091) (by decide +kernel)) rfl
theorem tw_1092 : Cond.static yX12_in ∈ lw_gd := gd (List.mem_of_getElem? (i := 1092) (by decide +kernel)) rfl
theorem tw_1093 : Cond.code yX12_in cX12_in 6 (some .boolean) ∈ lw_gd := gd (List.mem_of_getElem? (i := 1093) (by decide +kernel)) rfl
theorem tw_1094 : Cond.methodLink RX12 (126) yX12_finds ∈ lw_gd := gd (List.mem_of_getElem? (i := 1094) (by decide +kernel)) rfl
theorem tw_1096 : Cond.instanceMethod yX12_finds ∈ lw_gd := gd (List.mem_of_getElem? (i := 1096) (by decide +kernel)) rfl
theorem tw_1097 : Cond.code yX12_finds cX12_finds 2 (some .int) ∈ lw_gd := gd (List.mem_of_getElem? (i := 1097) (by decide +kernel)) rfl
theorem tw_1098 : Cond.constant RX12 (46) (-1000000000) ∈ lw_gd := gd (List.mem_of_getElem? (i := 1098) (by decide +kernel)) rfl
theorem tw_1099 : Cond.constantLong RX12 (129) (255) ∈ lw_gd := gd (List.mem_of_getElem? (i := 1099) (by decide +kernel)) rfl
theorem tw_1103 : Cond.code yX12_text cX12_text 4 (some .int) ∈ lw_gd := gd (List.mem_of_getElem? (i := 1103) (by decide +kernel)) rfl
theorem tw_1104 : Cond.methodLink RX12 (131) yX12_reads ∈ lw_gd := gd (List.mem_of_getElem? (i := 1104) (by decide +kernel)) rfl
theorem tw_1106 : Cond.instanceMethod yX12_reads ∈ lw_gd := gd (List.mem_of_getElem? (i := 1106) (by decide +kernel)) rfl
theorem tw_1107 : Cond.code yX12_reads cX12_reads 4 none ∈ lw_gd := gd (List.mem_of_getElem? (i := 1107) (by decide +kernel)) rfl
theorem tw_1108 : Cond.methodLink RX12 (106) yX12_either ∈ lw_gd := gd (List.mem_of_getElem? (i := 1108) (by decide +kernel)) rfl
theorem tw_1110 : Cond.instanceMethod yX12_either ∈ lw_gd := gd (List.mem_of_getElem? (i := 1110) (by decide +kernel)) rfl
theorem tw_1111 : Cond.code yX12_either cX12_either 1 none ∈ lw_gd := gd (List.mem_of_getElem? (i := 1111) (by decide +kernel)) rfl
theorem tw_1112 : Cond.methodLink RX12 (77) yX12_both ∈ lw_gd := gd (List.mem_of_getElem? (i := 1112) (by decide +kernel)) rfl
theorem tw_1114 : Cond.instanceMethod yX12_both ∈ lw_gd := gd (List.mem_of_getElem? (i := 1114) (by decide +kernel)) rfl
theorem tw_1115 : Cond.code yX12_both cX12_both 1 none ∈ lw_gd := gd (List.mem_of_getElem? (i := 1115) (by decide +kernel)) rfl
theorem tw_1116 : Cond.methodLink RX12 (88) yX12_compared ∈ lw_gd := gd (List.mem_of_getElem? (i := 1116) (by decide +kernel)) rfl
theorem tw_1118 : Cond.instanceMethod yX12_compared ∈ lw_gd := gd (List.mem_of_getElem? (i := 1118) (by decide +kernel)) rfl
theorem tw_1119 : Cond.code yX12_compared cX12_compared 2 none ∈ lw_gd := gd (List.mem_of_getElem? (i := 1119) (by decide +kernel)) rfl
theorem tw_1120 : Cond.methodLink RX12 (91) yX12_sum ∈ lw_gd := gd (List.mem_of_getElem? (i := 1120) (by decide +kernel)) rfl
theorem tw_1122 : Cond.instanceMethod yX12_sum ∈ lw_gd := gd (List.mem_of_getElem? (i := 1122) (by decide +kernel)) rfl
theorem tw_1123 : Cond.code yX12_sum cX12_sum 2 none ∈ lw_gd := gd (List.mem_of_getElem? (i := 1123) (by decide +kernel)) rfl
theorem tw_1124 : Cond.methodLink RX12 (94) yX12_product ∈ lw_gd := gd (List.mem_of_getElem? (i := 1124) (by decide +kernel)) rfl
theorem tw_1126 : Cond.instanceMethod yX12_product ∈ lw_gd := gd (List.mem_of_getElem? (i := 1126) (by decide +kernel)) rfl
theorem tw_1127 : Cond.code yX12_product cX12_product 2 none ∈ lw_gd := gd (List.mem_of_getElem? (i := 1127) (by decide +kernel)) rfl
theorem tw_1128 : Cond.methodLink RX12 (97) yX12_unit ∈ lw_gd := gd (List.mem_of_getElem? (i := 1128) (by decide +kernel)) rfl
theorem tw_1130 : Cond.instanceMethod yX12_unit ∈ lw_gd := gd (List.mem_of_getElem? (i := 1130) (by decide +kernel)) rfl
theorem tw_1131 : Cond.code yX12_unit cX12_unit 5 none ∈ lw_gd := gd (List.mem_of_getElem? (i := 1131) (by decide +kernel)) rfl
theorem tw_1132 : Cond.methodLink RX12 (66) yX12_here ∈ lw_gd := gd (List.mem_of_getElem? (i := 1132) (by decide +kernel)) rfl
theorem tw_1134 : Cond.instanceMethod yX12_here ∈ lw_gd := gd (List.mem_of_getElem? (i := 1134) (by decide +kernel)) rfl
theorem tw_1135 : Cond.code yX12_here cX12_here 1 (some .int) ∈ lw_gd := gd (List.mem_of_getElem? (i := 1135) (by decide +kernel)) rfl
theorem tw_1136 : Cond.methodLink RX12 (109) yX12_opens ∈ lw_gd := gd (List.mem_of_getElem? (i := 1136) (by decide +kernel)) rfl
theorem tw_1138 : Cond.instanceMethod yX12_opens ∈ lw_gd := gd (List.mem_of_getElem? (i := 1138) (by decide +kernel)) rfl
theorem tw_1139 : Cond.code yX12_opens cX12_opens 2 none ∈ lw_gd := gd (List.mem_of_getElem? (i := 1139) (by decide +kernel)) rfl
theorem tw_1140 : Cond.methodLink RX12 (103) yX12_wrong ∈ lw_gd := gd (List.mem_of_getElem? (i := 1140) (by decide +kernel)) rfl
theorem tw_1142 : Cond.instanceMethod yX12_wrong ∈ lw_gd := gd (List.mem_of_getElem? (i := 1142) (by decide +kernel)) rfl
theorem tw_1143 : Cond.code yX12_wrong cX12_wrong 1 none ∈ lw_gd := gd (List.mem_of_getElem? (i := 1143) (by decide +kernel)) rfl
theorem tw_1144 : Cond.methodLink RX12 (84) yX12_lay ∈ lw_gd := gd (List.mem_of_getElem? (i := 1144) (by decide +kernel)) rfl
theorem tw_1146 : Cond.instanceMethod yX12_lay ∈ lw_gd := gd (List.mem_of_getElem? (i := 1146) (by decide +kernel)) rfl
theorem tw_1147 : Cond.code yX12_lay cX12_lay 2 none ∈ lw_gd := gd (List.mem_of_getElem? (i := 1147) (by decide +kernel)) rfl
theorem tw_1148 : Cond.methodLink RX12 (80) yX12_takes ∈ lw_gd := gd (List.mem_of_getElem? (i := 1148) (by decide +kernel)) rfl
theorem tw_1150 : Cond.instanceMethod yX12_takes ∈ lw_gd := gd (List.mem_of_getElem? (i := 1150) (by decide +kernel)) rfl
theorem tw_1151 : Cond.code yX12_takes cX12_takes 2 (some .boolean) ∈ lw_gd := gd (List.mem_of_getElem? (i := 1151) (by decide +kernel)) rfl
theorem tw_1152 : Cond.methodLink RX12 (112) yX12_nameOf ∈ lw_gd := gd (List.mem_of_getElem? (i := 1152) (by decide +kernel)) rfl
theorem tw_1154 : Cond.instanceMethod yX12_nameOf ∈ lw_gd := gd (List.mem_of_getElem? (i := 1154) (by decide +kernel)) rfl
theorem tw_1155 : Cond.code yX12_nameOf cX12_nameOf 2 (some .int) ∈ lw_gd := gd (List.mem_of_getElem? (i := 1155) (by decide +kernel)) rfl
theorem tw_1156 : Cond.constantLong RX12 (116) (48) ∈ lw_gd := gd (List.mem_of_getElem? (i := 1156) (by decide +kernel)) rfl
theorem tw_1157 : Cond.constantLong RX12 (118) (57) ∈ lw_gd := gd (List.mem_of_getElem? (i := 1157) (by decide +kernel)) rfl
theorem tw_1161 : Cond.code yX12_law cX12_law 5 (some .int) ∈ lw_gd := gd (List.mem_of_getElem? (i := 1161) (by decide +kernel)) rfl
theorem tw_1162 : Cond.methodLink RX12 (142) yX12_textGives ∈ lw_gd := gd (List.mem_of_getElem? (i := 1162) (by decide +kernel)) rfl
theorem tw_1164 : Cond.instanceMethod yX12_textGives ∈ lw_gd := gd (List.mem_of_getElem? (i := 1164) (by decide +kernel)) rfl
theorem tw_1165 : Cond.code yX12_textGives cX12_textGives 6 (some .int) ∈ lw_gd := gd (List.mem_of_getElem? (i := 1165) (by decide +kernel)) rfl
theorem tw_1166 : Cond.methodLink RX12 (135) yX12_worked ∈ lw_gd := gd (List.mem_of_getElem? (i := 1166) (by decide +kernel)) rfl
theorem tw_1168 : Cond.instanceMethod yX12_worked ∈ lw_gd := gd (List.mem_of_getElem? (i := 1168) (by decide +kernel)) rfl
theorem tw_1169 : Cond.code yX12_worked cX12_worked 6 (some .int) ∈ lw_gd := gd (List.mem_of_getElem? (i := 1169) (by decide +kernel)) rfl
theorem tw_1170 : Cond.methodLink RX12 (120) yX12_done ∈ lw_gd := gd (List.mem_of_getElem? (i := 1170) (by decide +kernel)) rfl
theorem tw_1171 : Cond.static yX12_done ∈ lw_gd := gd (List.mem_of_getElem? (i := 1171) (by decide +kernel)) rfl
theorem tw_1172 : Cond.code yX12_done cX12_done 3 (some .int) ∈ lw_gd := gd (List.mem_of_getElem? (i := 1172) (by decide +kernel)) rfl
theorem tw_1173 : Cond.methodLink RX12 (139) yX12_held ∈ lw_gd := gd (List.mem_of_getElem? (i := 1173) (by decide +kernel)) rfl
theorem tw_1174 : Cond.static yX12_held ∈ lw_gd := gd (List.mem_of_getElem? (i := 1174) (by decide +kernel)) rfl
theorem tw_1175 : Cond.code yX12_held cX12_held 3 (some .int) ∈ lw_gd := gd (List.mem_of_getElem? (i := 1175) (by decide +kernel)) rfl
theorem tw_1179 : Cond.code yX12_sill cX12_sill 4 (some .int) ∈ lw_gd := gd (List.mem_of_getElem? (i := 1179) (by decide +kernel)) rfl
theorem tw_1180 : Cond.methodLink RX12 (174) yX12_isSill ∈ lw_gd := gd (List.mem_of_getElem? (i := 1180) (by decide +kernel)) rfl
theorem tw_1181 : Cond.static yX12_isSill ∈ lw_gd := gd (List.mem_of_getElem? (i := 1181) (by decide +kernel)) rfl
theorem tw_1182 : Cond.code yX12_isSill cX12_isSill 1 (some .boolean) ∈ lw_gd := gd (List.mem_of_getElem? (i := 1182) (by decide +kernel)) rfl
theorem tw_1183 : Cond.constantLong RX12 (51) (15) ∈ lw_gd := gd (List.mem_of_getElem? (i := 1183) (by decide +kernel)) rfl
theorem tw_1184 : Cond.constantLong RX12 (177) (9) ∈ lw_gd := gd (List.mem_of_getElem? (i := 1184) (by decide +kernel)) rfl
theorem tw_1185 : Cond.methodLink RX12 (179) yX12_becomes ∈ lw_gd := gd (List.mem_of_getElem? (i := 1185) (by decide +kernel)) rfl
theorem tw_1187 : Cond.instanceMethod yX12_becomes ∈ lw_gd := gd (List.mem_of_getElem? (i := 1187) (by decide +kernel)) rfl
theorem tw_1188 : Cond.code yX12_becomes cX12_becomes 4 (some .int) ∈ lw_gd := gd (List.mem_of_getElem? (i := 1188) (by decide +kernel)) rfl
theorem tw_1192 : Cond.code yX12_ofSill cX12_ofSill 5 (some .int) ∈ lw_gd := gd (List.mem_of_getElem? (i := 1192) (by decide +kernel)) rfl
theorem tw_1193 : Cond.constantLong RX12 (182) (3) ∈ lw_gd := gd (List.mem_of_getElem? (i := 1193) (by decide +kernel)) rfl
theorem tw_1194 : Cond.methodLink RX12 (184) yX12_lying ∈ lw_gd := gd (List.mem_of_getElem? (i := 1194) (by decide +kernel)) rfl
theorem tw_1196 : Cond.instanceMethod yX12_lying ∈ lw_gd := gd (List.mem_of_getElem? (i := 1196) (by decide +kernel)) rfl
theorem tw_1197 : Cond.code yX12_lying cX12_lying 4 (some .int) ∈ lw_gd := gd (List.mem_of_getElem? (i := 1197) (by decide +kernel)) rfl
theorem tw_1198 : Cond.methodLink RX12 (146) yX12_of ∈ lw_gd := gd (List.mem_of_getElem? (i := 1198) (by decide +kernel)) rfl
theorem tw_1200 : Cond.instanceMethod yX12_of ∈ lw_gd := gd (List.mem_of_getElem? (i := 1200) (by decide +kernel)) rfl
theorem tw_1201 : Cond.code yX12_of cX12_of 3 (some .int) ∈ lw_gd := gd (List.mem_of_getElem? (i := 1201) (by decide +kernel)) rfl
theorem tw_1205 : Cond.code yX12_town cX12_town 4 (some .int) ∈ lw_gd := gd (List.mem_of_getElem? (i := 1205) (by decide +kernel)) rfl
theorem tw_1206 : Cond.constantLong RX12 (187) (30) ∈ lw_gd := gd (List.mem_of_getElem? (i := 1206) (by decide +kernel)) rfl
theorem tw_1207 : Cond.constantLong RX12 (189) (99999) ∈ lw_gd := gd (List.mem_of_getElem? (i := 1207) (by decide +kernel)) rfl
theorem tw_1211 : Cond.code yX12_heir cX12_heir 5 (some .int) ∈ lw_gd := gd (List.mem_of_getElem? (i := 1211) (by decide +kernel)) rfl
theorem tw_1212 : Cond.constantLong RX12 (191) (69) ∈ lw_gd := gd (List.mem_of_getElem? (i := 1212) (by decide +kernel)) rfl
theorem tw_1213 : Cond.constantLong RX12 (193) (99) ∈ lw_gd := gd (List.mem_of_getElem? (i := 1213) (by decide +kernel)) rfl
theorem tw_1214 : Cond.methodLink RX12 (164) yX12_sets ∈ lw_gd := gd (List.mem_of_getElem? (i := 1214) (by decide +kernel)) rfl
theorem tw_1216 : Cond.instanceMethod yX12_sets ∈ lw_gd := gd (List.mem_of_getElem? (i := 1216) (by decide +kernel)) rfl
theorem tw_1217 : Cond.code yX12_sets cX12_sets 4 none ∈ lw_gd := gd (List.mem_of_getElem? (i := 1217) (by decide +kernel)) rfl
theorem tw_1218 : Cond.methodLink RX12 (195) yX12_leaves ∈ lw_gd := gd (List.mem_of_getElem? (i := 1218) (by decide +kernel)) rfl
theorem tw_1220 : Cond.instanceMethod yX12_leaves ∈ lw_gd := gd (List.mem_of_getElem? (i := 1220) (by decide +kernel)) rfl
theorem tw_1221 : Cond.code yX12_leaves cX12_leaves 3 none ∈ lw_gd := gd (List.mem_of_getElem? (i := 1221) (by decide +kernel)) rfl
theorem tw_1225 : Cond.code yX12_ofHeir cX12_ofHeir 3 (some .int) ∈ lw_gd := gd (List.mem_of_getElem? (i := 1225) (by decide +kernel)) rfl
theorem tw_1226 : Cond.methodLink RX12 (199) yX12_isHeir ∈ lw_gd := gd (List.mem_of_getElem? (i := 1226) (by decide +kernel)) rfl
theorem tw_1228 : Cond.instanceMethod yX12_isHeir ∈ lw_gd := gd (List.mem_of_getElem? (i := 1228) (by decide +kernel)) rfl
theorem tw_1229 : Cond.code yX12_isHeir cX12_isHeir 2 (some .boolean) ∈ lw_gd := gd (List.mem_of_getElem? (i := 1229) (by decide +kernel)) rfl
theorem tw_1230 : Cond.methodLink RX12 (161) yX12_drifts ∈ lw_gd := gd (List.mem_of_getElem? (i := 1230) (by decide +kernel)) rfl
theorem tw_1232 : Cond.instanceMethod yX12_drifts ∈ lw_gd := gd (List.mem_of_getElem? (i := 1232) (by decide +kernel)) rfl
theorem tw_1233 : Cond.code yX12_drifts cX12_drifts 4 (some .int) ∈ lw_gd := gd (List.mem_of_getElem? (i := 1233) (by decide +kernel)) rfl
theorem tw_1234 : Cond.methodLink RX12 (152) yX12_sunOf ∈ lw_gd := gd (List.mem_of_getElem? (i := 1234) (by decide +kernel)) rfl
theorem tw_1236 : Cond.instanceMethod yX12_sunOf ∈ lw_gd := gd (List.mem_of_getElem? (i := 1236) (by decide +kernel)) rfl
theorem tw_1237 : Cond.code yX12_sunOf cX12_sunOf 2 (some .int) ∈ lw_gd := gd (List.mem_of_getElem? (i := 1237) (by decide +kernel)) rfl
theorem tw_1238 : Cond.methodLink RX12 (149) yX12_isDust ∈ lw_gd := gd (List.mem_of_getElem? (i := 1238) (by decide +kernel)) rfl
theorem tw_1240 : Cond.instanceMethod yX12_isDust ∈ lw_gd := gd (List.mem_of_getElem? (i := 1240) (by decide +kernel)) rfl
theorem tw_1241 : Cond.code yX12_isDust cX12_isDust 2 (some .boolean) ∈ lw_gd := gd (List.mem_of_getElem? (i := 1241) (by decide +kernel)) rfl
theorem tw_1242 : Cond.methodLink RX12 (167) yX12_shines ∈ lw_gd := gd (List.mem_of_getElem? (i := 1242) (by decide +kernel)) rfl
theorem tw_1244 : Cond.instanceMethod yX12_shines ∈ lw_gd := gd (List.mem_of_getElem? (i := 1244) (by decide +kernel)) rfl
theorem tw_1245 : Cond.code yX12_shines cX12_shines 4 (some .int) ∈ lw_gd := gd (List.mem_of_getElem? (i := 1245) (by decide +kernel)) rfl
theorem tw_1246 : Cond.methodLink RX12 (155) yX12_needs ∈ lw_gd := gd (List.mem_of_getElem? (i := 1246) (by decide +kernel)) rfl
theorem tw_1248 : Cond.instanceMethod yX12_needs ∈ lw_gd := gd (List.mem_of_getElem? (i := 1248) (by decide +kernel)) rfl
theorem tw_1249 : Cond.code yX12_needs cX12_needs 2 (some .int) ∈ lw_gd := gd (List.mem_of_getElem? (i := 1249) (by decide +kernel)) rfl
theorem tw_1250 : Cond.methodLink RX12 (202) yX12_isContent ∈ lw_gd := gd (List.mem_of_getElem? (i := 1250) (by decide +kernel)) rfl
theorem tw_1252 : Cond.instanceMethod yX12_isContent ∈ lw_gd := gd (List.mem_of_getElem? (i := 1252) (by decide +kernel)) rfl
theorem tw_1253 : Cond.code yX12_isContent cX12_isContent 2 (some .boolean) ∈ lw_gd := gd (List.mem_of_getElem? (i := 1253) (by decide +kernel)) rfl
theorem tw_1257 : Cond.code yX12_change cX12_change 5 (some .int) ∈ lw_gd := gd (List.mem_of_getElem? (i := 1257) (by decide +kernel)) rfl
theorem tw_1258 : Cond.constantLong RX12 (205) (9999) ∈ lw_gd := gd (List.mem_of_getElem? (i := 1258) (by decide +kernel)) rfl
theorem tw_1262 : Cond.code yX12_become cX12_become 3 (some .int) ∈ lw_gd := gd (List.mem_of_getElem? (i := 1262) (by decide +kernel)) rfl
theorem tw_1266 : Cond.code yX12_as cX12_as 4 (some .int) ∈ lw_gd := gd (List.mem_of_getElem? (i := 1266) (by decide +kernel)) rfl
theorem tw_1267 : Cond.constantLong RX12 (207) (6) ∈ lw_gd := gd (List.mem_of_getElem? (i := 1267) (by decide +kernel)) rfl
theorem tw_1268 : Cond.methodLink RX12 (209) yX12_above ∈ lw_gd := gd (List.mem_of_getElem? (i := 1268) (by decide +kernel)) rfl
theorem tw_1269 : Cond.static yX12_above ∈ lw_gd := gd (List.mem_of_getElem? (i := 1269) (by decide +kernel)) rfl
theorem tw_1270 : Cond.code yX12_above cX12_above 1 (some .int) ∈ lw_gd := gd (List.mem_of_getElem? (i := 1270) (by decide +kernel)) rfl
theorem tw_1274 : Cond.code yX12_days cX12_days 2 (some .int) ∈ lw_gd := gd (List.mem_of_getElem? (i := 1274) (by decide +kernel)) rfl
theorem tw_1275 : Cond.constantLong RX12 (212) (60) ∈ lw_gd := gd (List.mem_of_getElem? (i := 1275) (by decide +kernel)) rfl
theorem tw_1276 : Cond.methodLink RX12 (214) yX12_daysGo ∈ lw_gd := gd (List.mem_of_getElem? (i := 1276) (by decide +kernel)) rfl
theorem tw_1278 : Cond.instanceMethod yX12_daysGo ∈ lw_gd := gd (List.mem_of_getElem? (i := 1278) (by decide +kernel)) rfl
theorem tw_1279 : Cond.code yX12_daysGo cX12_daysGo 3 none ∈ lw_gd := gd (List.mem_of_getElem? (i := 1279) (by decide +kernel)) rfl
theorem tw_1280 : Cond.methodLink RX12 (171) yX12_dayGoes ∈ lw_gd := gd (List.mem_of_getElem? (i := 1280) (by decide +kernel)) rfl
theorem tw_1282 : Cond.instanceMethod yX12_dayGoes ∈ lw_gd := gd (List.mem_of_getElem? (i := 1282) (by decide +kernel)) rfl
theorem tw_1283 : Cond.code yX12_dayGoes cX12_dayGoes 4 none ∈ lw_gd := gd (List.mem_of_getElem? (i := 1283) (by decide +kernel)) rfl
theorem tw_1284 : Cond.methodLink RX12 (158) yX12_dusts ∈ lw_gd := gd (List.mem_of_getElem? (i := 1284) (by decide +kernel)) rfl
theorem tw_1286 : Cond.instanceMethod yX12_dusts ∈ lw_gd := gd (List.mem_of_getElem? (i := 1286) (by decide +kernel)) rfl
theorem tw_1287 : Cond.code yX12_dusts cX12_dusts 3 (some .int) ∈ lw_gd := gd (List.mem_of_getElem? (i := 1287) (by decide +kernel)) rfl
theorem tw_1288 : Cond.constant RX12 (170) (99999) ∈ lw_gd := gd (List.mem_of_getElem? (i := 1288) (by decide +kernel)) rfl
theorem tw_1292 : Cond.code yX12_loose cX12_loose 4 (some .int) ∈ lw_gd := gd (List.mem_of_getElem? (i := 1292) (by decide +kernel)) rfl
theorem tw_1293 : Cond.constantLong RX12 (218) (40) ∈ lw_gd := gd (List.mem_of_getElem? (i := 1293) (by decide +kernel)) rfl
theorem tw_1294 : Cond.methodLink RX12 (220) yX12_drawn ∈ lw_gd := gd (List.mem_of_getElem? (i := 1294) (by decide +kernel)) rfl
theorem tw_1296 : Cond.instanceMethod yX12_drawn ∈ lw_gd := gd (List.mem_of_getElem? (i := 1296) (by decide +kernel)) rfl
theorem tw_1297 : Cond.code yX12_drawn cX12_drawn 1 (some .int) ∈ lw_gd := gd (List.mem_of_getElem? (i := 1297) (by decide +kernel)) rfl
theorem tw_1298 : Cond.constant RX12 (217) (1103515245) ∈ lw_gd := gd (List.mem_of_getElem? (i := 1298) (by decide +kernel)) rfl
theorem tw_1302 : Cond.code yX12_then cX12_then 3 (some .int) ∈ lw_gd := gd (List.mem_of_getElem? (i := 1302) (by decide +kernel)) rfl
theorem tw_1303 : Cond.methodLink RX12 (226) yX12_keepAside ∈ lw_gd := gd (List.mem_of_getElem? (i := 1303) (by decide +kernel)) rfl
theorem tw_1305 : Cond.instanceMethod yX12_keepAside ∈ lw_gd := gd (List.mem_of_getElem? (i := 1305) (by decide +kernel)) rfl
theorem tw_1306 : Cond.code yX12_keepAside cX12_keepAside 2 none ∈ lw_gd := gd (List.mem_of_getElem? (i := 1306) (by decide +kernel)) rfl
theorem tw_1307 : Cond.methodLink RX12 (229) yX12_where ∈ lw_gd := gd (List.mem_of_getElem? (i := 1307) (by decide +kernel)) rfl
theorem tw_1308 : Cond.static yX12_where ∈ lw_gd := gd (List.mem_of_getElem? (i := 1308) (by decide +kernel)) rfl
theorem tw_1309 : Cond.code yX12_where cX12_where 2 (some .int) ∈ lw_gd := gd (List.mem_of_getElem? (i := 1309) (by decide +kernel)) rfl
theorem tw_1310 : Cond.methodLink RX12 (232) yX12_behind ∈ lw_gd := gd (List.mem_of_getElem? (i := 1310) (by decide +kernel)) rfl
theorem tw_1312 : Cond.instanceMethod yX12_behind ∈ lw_gd := gd (List.mem_of_getElem? (i := 1312) (by decide +kernel)) rfl
theorem tw_1313 : Cond.code yX12_behind cX12_behind 4 (some .int) ∈ lw_gd := gd (List.mem_of_getElem? (i := 1313) (by decide +kernel)) rfl
theorem tw_1314 : Cond.methodLink RX12 (223) yX12_putBack ∈ lw_gd := gd (List.mem_of_getElem? (i := 1314) (by decide +kernel)) rfl
theorem tw_1316 : Cond.instanceMethod yX12_putBack ∈ lw_gd := gd (List.mem_of_getElem? (i := 1316) (by decide +kernel)) rfl
theorem tw_1317 : Cond.code yX12_putBack cX12_putBack 2 none ∈ lw_gd := gd (List.mem_of_getElem? (i := 1317) (by decide +kernel)) rfl
theorem tw_1321 : Cond.code yX12_first cX12_first 5 (some .int) ∈ lw_gd := gd (List.mem_of_getElem? (i := 1321) (by decide +kernel)) rfl
theorem tw_1322 : Cond.methodLink RX12 (235) yX12_leastOf ∈ lw_gd := gd (List.mem_of_getElem? (i := 1322) (by decide +kernel)) rfl
theorem tw_1323 : Cond.static yX12_leastOf ∈ lw_gd := gd (List.mem_of_getElem? (i := 1323) (by decide +kernel)) rfl
theorem tw_1324 : Cond.code yX12_leastOf cX12_leastOf 2 (some .int) ∈ lw_gd := gd (List.mem_of_getElem? (i := 1324) (by decide +kernel)) rfl
theorem tw_1328 : Cond.code yX12_meet cX12_meet 5 (some .int) ∈ lw_gd := gd (List.mem_of_getElem? (i := 1328) (by decide +kernel)) rfl
theorem tw_1332 : Cond.code yX12_bright cX12_bright 5 (some .int) ∈ lw_gd := gd (List.mem_of_getElem? (i := 1332) (by decide +kernel)) rfl
theorem tw_1336 : Cond.code yX12_place cX12_place 8 (some .int) ∈ lw_gd := gd (List.mem_of_getElem? (i := 1336) (by decide +kernel)) rfl
theorem tw_1340 : Cond.code yX12_cartsFor cX12_cartsFor 5 (some .int) ∈ lw_gd := gd (List.mem_of_getElem? (i := 1340) (by decide +kernel)) rfl
theorem tw_1341 : Cond.methodLink RX12 (238) yX12_contents ∈ lw_gd := gd (List.mem_of_getElem? (i := 1341) (by decide +kernel)) rfl
theorem tw_1343 : Cond.instanceMethod yX12_contents ∈ lw_gd := gd (List.mem_of_getElem? (i := 1343) (by decide +kernel)) rfl
theorem tw_1344 : Cond.code yX12_contents cX12_contents 3 (some .int) ∈ lw_gd := gd (List.mem_of_getElem? (i := 1344) (by decide +kernel)) rfl
theorem tw_1348 : Cond.code yX12_stop cX12_stop 7 (some .int) ∈ lw_gd := gd (List.mem_of_getElem? (i := 1348) (by decide +kernel)) rfl
theorem tw_1349 : Cond.constantLong RX12 (241) (20) ∈ lw_gd := gd (List.mem_of_getElem? (i := 1349) (by decide +kernel)) rfl
theorem tw_1353 : Cond.code yX12_swap cX12_swap 8 (some .int) ∈ lw_gd := gd (List.mem_of_getElem? (i := 1353) (by decide +kernel)) rfl
theorem tw_1357 : Cond.code yX12_sunFor cX12_sunFor 5 (some .int) ∈ lw_gd := gd (List.mem_of_getElem? (i := 1357) (by decide +kernel)) rfl
theorem tw_1361 : Cond.code yX12_sweepFor cX12_sweepFor 7 (some .int) ∈ lw_gd := gd (List.mem_of_getElem? (i := 1361) (by decide +kernel)) rfl
theorem tw_1365 : Cond.code yX12_whence cX12_whence 9 (some .int) ∈ lw_gd := gd (List.mem_of_getElem? (i := 1365) (by decide +kernel)) rfl
theorem tw_1366 : Cond.methodLink RX12 (243) yX12_isSheet ∈ lw_gd := gd (List.mem_of_getElem? (i := 1366) (by decide +kernel)) rfl
theorem tw_1367 : Cond.static yX12_isSheet ∈ lw_gd := gd (List.mem_of_getElem? (i := 1367) (by decide +kernel)) rfl
theorem tw_1368 : Cond.code yX12_isSheet cX12_isSheet 1 (some .boolean) ∈ lw_gd := gd (List.mem_of_getElem? (i := 1368) (by decide +kernel)) rfl
theorem tw_1372 : Cond.code yX12_bare cX12_bare 4 (some .int) ∈ lw_gd := gd (List.mem_of_getElem? (i := 1372) (by decide +kernel)) rfl
theorem tw_1376 : Cond.code yX12_crowd cX12_crowd 5 (some .int) ∈ lw_gd := gd (List.mem_of_getElem? (i := 1376) (by decide +kernel)) rfl
theorem tw_1377 : Cond.methodLink RX12 (246) yX12_bits ∈ lw_gd := gd (List.mem_of_getElem? (i := 1377) (by decide +kernel)) rfl
theorem tw_1378 : Cond.static yX12_bits ∈ lw_gd := gd (List.mem_of_getElem? (i := 1378) (by decide +kernel)) rfl
theorem tw_1379 : Cond.code yX12_bits cX12_bits 3 (some .int) ∈ lw_gd := gd (List.mem_of_getElem? (i := 1379) (by decide +kernel)) rfl
theorem tw_1383 : Cond.code yX12_light cX12_light 2 (some .int) ∈ lw_gd := gd (List.mem_of_getElem? (i := 1383) (by decide +kernel)) rfl
theorem tw_1387 : Cond.code yX12_late cX12_late 4 (some .int) ∈ lw_gd := gd (List.mem_of_getElem? (i := 1387) (by decide +kernel)) rfl
theorem tw_1388 : Cond.methodLink RX12 (249) yX12_areDust ∈ lw_gd := gd (List.mem_of_getElem? (i := 1388) (by decide +kernel)) rfl
theorem tw_1390 : Cond.instanceMethod yX12_areDust ∈ lw_gd := gd (List.mem_of_getElem? (i := 1390) (by decide +kernel)) rfl
theorem tw_1391 : Cond.code yX12_areDust cX12_areDust 4 (some .boolean) ∈ lw_gd := gd (List.mem_of_getElem? (i := 1391) (by decide +kernel)) rfl
theorem tw_1395 : Cond.code yX12_odds cX12_odds 6 (some .int) ∈ lw_gd := gd (List.mem_of_getElem? (i := 1395) (by decide +kernel)) rfl
theorem tw_1396 : Cond.methodLink RX12 (252) yX12_common ∈ lw_gd := gd (List.mem_of_getElem? (i := 1396) (by decide +kernel)) rfl
theorem tw_1397 : Cond.static yX12_common ∈ lw_gd := gd (List.mem_of_getElem? (i := 1397) (by decide +kernel)) rfl
theorem tw_1398 : Cond.code yX12_common cX12_common 5 (some .int) ∈ lw_gd := gd (List.mem_of_getElem? (i := 1398) (by decide +kernel)) rfl
theorem tw_1402 : Cond.code yX12_seed cX12_seed 2 (some .int) ∈ lw_gd := gd (List.mem_of_getElem? (i := 1402) (by decide +kernel)) rfl
theorem tw_1406 : Cond.code yX12_voice cX12_voice 5 (some .int) ∈ lw_gd := gd (List.mem_of_getElem? (i := 1406) (by decide +kernel)) rfl
theorem tw_1407 : Cond.methodLink RX12 (264) yX12_liesBy ∈ lw_gd := gd (List.mem_of_getElem? (i := 1407) (by decide +kernel)) rfl
theorem tw_1409 : Cond.instanceMethod yX12_liesBy ∈ lw_gd := gd (List.mem_of_getElem? (i := 1409) (by decide +kernel)) rfl
theorem tw_1410 : Cond.code yX12_liesBy cX12_liesBy 3 (some .int) ∈ lw_gd := gd (List.mem_of_getElem? (i := 1410) (by decide +kernel)) rfl
theorem tw_1411 : Cond.methodLink RX12 (258) yX12_ran ∈ lw_gd := gd (List.mem_of_getElem? (i := 1411) (by decide +kernel)) rfl
theorem tw_1413 : Cond.instanceMethod yX12_ran ∈ lw_gd := gd (List.mem_of_getElem? (i := 1413) (by decide +kernel)) rfl
theorem tw_1414 : Cond.code yX12_ran cX12_ran 2 none ∈ lw_gd := gd (List.mem_of_getElem? (i := 1414) (by decide +kernel)) rfl
theorem tw_1415 : Cond.methodLink RX12 (267) yX12_shinesBy ∈ lw_gd := gd (List.mem_of_getElem? (i := 1415) (by decide +kernel)) rfl
theorem tw_1417 : Cond.instanceMethod yX12_shinesBy ∈ lw_gd := gd (List.mem_of_getElem? (i := 1417) (by decide +kernel)) rfl
theorem tw_1418 : Cond.code yX12_shinesBy cX12_shinesBy 4 (some .int) ∈ lw_gd := gd (List.mem_of_getElem? (i := 1418) (by decide +kernel)) rfl
theorem tw_1419 : Cond.methodLink RX12 (270) yX12_driftsBy ∈ lw_gd := gd (List.mem_of_getElem? (i := 1419) (by decide +kernel)) rfl
theorem tw_1421 : Cond.instanceMethod yX12_driftsBy ∈ lw_gd := gd (List.mem_of_getElem? (i := 1421) (by decide +kernel)) rfl
theorem tw_1422 : Cond.code yX12_driftsBy cX12_driftsBy 3 (some .int) ∈ lw_gd := gd (List.mem_of_getElem? (i := 1422) (by decide +kernel)) rfl
theorem tw_1423 : Cond.methodLink RX12 (273) yX12_tellsBy ∈ lw_gd := gd (List.mem_of_getElem? (i := 1423) (by decide +kernel)) rfl
theorem tw_1425 : Cond.instanceMethod yX12_tellsBy ∈ lw_gd := gd (List.mem_of_getElem? (i := 1425) (by decide +kernel)) rfl
theorem tw_1426 : Cond.code yX12_tellsBy cX12_tellsBy 4 (some .int) ∈ lw_gd := gd (List.mem_of_getElem? (i := 1426) (by decide +kernel)) rfl
theorem tw_1430 : Cond.code yX12_trace cX12_trace 2 (some .int) ∈ lw_gd := gd (List.mem_of_getElem? (i := 1430) (by decide +kernel)) rfl
theorem tw_1434 : Cond.code yX12_sheet cX12_sheet 5 (some .int) ∈ lw_gd := gd (List.mem_of_getElem? (i := 1434) (by decide +kernel)) rfl
theorem tw_1438 : Cond.code yX12_put cX12_put 4 (some .int) ∈ lw_gd := gd (List.mem_of_getElem? (i := 1438) (by decide +kernel)) rfl
theorem tw_1442 : Cond.code yX12_move cX12_move 7 (some .int) ∈ lw_gd := gd (List.mem_of_getElem? (i := 1442) (by decide +kernel)) rfl
theorem tw_1446 : Cond.code yX12_suns cX12_suns 3 (some .int) ∈ lw_gd := gd (List.mem_of_getElem? (i := 1446) (by decide +kernel)) rfl
theorem tw_1450 : Cond.code yX12_judge cX12_judge 3 (some .int) ∈ lw_gd := gd (List.mem_of_getElem? (i := 1450) (by decide +kernel)) rfl
theorem tw_1454 : Cond.code yX12_image cX12_image 2 (some .int) ∈ lw_gd := gd (List.mem_of_getElem? (i := 1454) (by decide +kernel)) rfl
theorem tw_1458 : Cond.code yX12_restore cX12_restore 2 (some .int) ∈ lw_gd := gd (List.mem_of_getElem? (i := 1458) (by decide +kernel)) rfl
theorem tw_1462 : Cond.code yX12_tell cX12_tell 2 (some .int) ∈ lw_gd := gd (List.mem_of_getElem? (i := 1462) (by decide +kernel)) rfl
theorem tw_1466 : Cond.code yX12_check cX12_check 4 (some .int) ∈ lw_gd := gd (List.mem_of_getElem? (i := 1466) (by decide +kernel)) rfl
theorem tw_1470 : Cond.code yX12_count cX12_count 2 (some .int) ∈ lw_gd := gd (List.mem_of_getElem? (i := 1470) (by decide +kernel)) rfl
theorem tw_1471 : Cond.methodLink RX12 (279) yX12_sumOf ∈ lw_gd := gd (List.mem_of_getElem? (i := 1471) (by decide +kernel)) rfl
theorem tw_1473 : Cond.instanceMethod yX12_sumOf ∈ lw_gd := gd (List.mem_of_getElem? (i := 1473) (by decide +kernel)) rfl
theorem tw_1474 : Cond.code yX12_sumOf cX12_sumOf 6 (some .int) ∈ lw_gd := gd (List.mem_of_getElem? (i := 1474) (by decide +kernel)) rfl
theorem tw_1478 : Cond.code yX12_told cX12_told 2 (some .int) ∈ lw_gd := gd (List.mem_of_getElem? (i := 1478) (by decide +kernel)) rfl
theorem tw_1479 : Cond.constantLong RX12 (282) (5) ∈ lw_gd := gd (List.mem_of_getElem? (i := 1479) (by decide +kernel)) rfl
theorem tw_1480 : Cond.constantLong RL (47) (4294967295) ∈ lw_gd := gd (List.mem_of_getElem? (i := 1480) (by decide +kernel)) rfl
theorem tw_1481 : Cond.sameMethod RX1 RX1 "driftsBy" "(III)I" ∈ lw_gd := gd (List.mem_of_getElem? (i := 1481) (by decide +kernel)) rfl
theorem tw_1482 : Cond.sameMethod RX0 RX0 "driftsBy" "(III)I" ∈ lw_gd := gd (List.mem_of_getElem? (i := 1482) (by decide +kernel)) rfl
theorem tw_1483 : Cond.sameMethod RX7 RX7 "shinesBy" "(III)I" ∈ lw_gd := gd (List.mem_of_getElem? (i := 1483) (by decide +kernel)) rfl
theorem tw_1484 : Cond.sameMethod RX0 RX0 "shinesBy" "(III)I" ∈ lw_gd := gd (List.mem_of_getElem? (i := 1484) (by decide +kernel)) rfl
theorem tw_1485 : Cond.sameMethod RX0 RX0 "needsBy" "(I)I" ∈ lw_gd := gd (List.mem_of_getElem? (i := 1485) (by decide +kernel)) rfl
theorem tw_1486 : Cond.sameMethod RX1 RX1 "shines" "(LDustSills$Speech;I)I" ∈ lw_gd := gd (List.mem_of_getElem? (i := 1486) (by decide +kernel)) rfl
theorem tw_1487 : Cond.sameMethod RX5 RX5 "drifts" "(LDustSills$Speech;I)I" ∈ lw_gd := gd (List.mem_of_getElem? (i := 1487) (by decide +kernel)) rfl
theorem tw_1488 : Cond.selects RX0 yX5_drifts yX0_drifts ∈ lw_gd := gd (List.mem_of_getElem? (i := 1488) (by decide +kernel)) rfl
theorem tw_1489 : Cond.selects RX1 yX5_drifts yX5_drifts ∈ lw_gd := gd (List.mem_of_getElem? (i := 1489) (by decide +kernel)) rfl
theorem tw_1490 : Cond.selects RX2 yX5_drifts yX5_drifts ∈ lw_gd := gd (List.mem_of_getElem? (i := 1490) (by decide +kernel)) rfl
theorem tw_1491 : Cond.selects RX3 yX5_drifts yX5_drifts ∈ lw_gd := gd (List.mem_of_getElem? (i := 1491) (by decide +kernel)) rfl
theorem tw_1492 : Cond.selects RX4 yX5_drifts yX4_drifts ∈ lw_gd := gd (List.mem_of_getElem? (i := 1492) (by decide +kernel)) rfl
theorem tw_1493 : Cond.sameMethod RX0 RX0 "drifts" "(LDustSills$Speech;I)I" ∈ lw_gd := gd (List.mem_of_getElem? (i := 1493) (by decide +kernel)) rfl
theorem tw_1494 : Cond.selects RX5 yX5_drifts yX5_drifts ∈ lw_gd := gd (List.mem_of_getElem? (i := 1494) (by decide +kernel)) rfl
theorem tw_1495 : Cond.selects RX7 yX5_drifts yX5_drifts ∈ lw_gd := gd (List.mem_of_getElem? (i := 1495) (by decide +kernel)) rfl
