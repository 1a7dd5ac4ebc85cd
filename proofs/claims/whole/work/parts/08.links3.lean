set_option maxRecDepth 100000 in
theorem md_X7_step : xMd mX7_step 0 := ⟨xTB_of (List.mem_of_getElem? (i := 640) rfl) rfl, xTB_of (List.mem_of_getElem? (i := 155) (by decide +kernel)) (by decide +kernel), by decide +kernel, by decide, by decide +kernel, by decide +kernel, by decide +kernel⟩
def mX7_takeDigits : xD := (cX7_takeDigits, yX7_takeDigits, 1, none, 0, 0)
set_option maxRecDepth 100000 in
theorem md_X7_takeDigits : xMd mX7_takeDigits 0 := ⟨xTB_of (List.mem_of_getElem? (i := 657) rfl) rfl, xTB_of (List.mem_of_getElem? (i := 155) (by decide +kernel)) (by decide +kernel), by decide +kernel, by decide, by decide +kernel, by decide +kernel, by decide +kernel⟩
def mX8_copy : xD := (cX8_copy, yX8_copy, 3, none, 0, 0)
set_option maxRecDepth 100000 in
theorem md_X8_copy : xMd mX8_copy 1 := ⟨xTB_of (List.mem_of_getElem? (i := 1325) rfl) rfl, xTB_of (List.mem_of_getElem? (i := 151) (by decide +kernel)) (by decide +kernel), by decide +kernel, by decide, by decide +kernel, by decide +kernel, by decide +kernel⟩
def mX8_init : xD := (cX8_init, yX8_init, 2, none, 39, 2183)
set_option maxRecDepth 100000 in
theorem md_X8_init : xMd mX8_init 0 := ⟨xTB_of (List.mem_of_getElem? (i := 182) rfl) rfl, xTB_of (List.mem_of_getElem? (i := 151) (by decide +kernel)) (by decide +kernel), by decide +kernel, by decide, by decide +kernel, by decide +kernel, by decide +kernel⟩
def mX8_putNumber : xD := (cX8_putNumber, yX8_putNumber, 3, none, 0, 0)
set_option maxRecDepth 100000 in
theorem md_X8_putNumber : xMd mX8_putNumber 1 := ⟨xTB_of (List.mem_of_getElem? (i := 605) rfl) rfl, xTB_of (List.mem_of_getElem? (i := 151) (by decide +kernel)) (by decide +kernel), by decide +kernel, by decide, by decide +kernel, by decide +kernel, by decide +kernel⟩
def mX9_allowed : xD := (cX9_allowed, yX9_allowed, 2, (some .int), 0, 0)
set_option maxRecDepth 100000 in
theorem md_X9_allowed : xMd mX9_allowed 1 := ⟨xTB_of (List.mem_of_getElem? (i := 1123) rfl) rfl, xTB_of (List.mem_of_getElem? (i := 161) (by decide +kernel)) (by decide +kernel), by decide +kernel, by decide, by decide +kernel, by decide +kernel, by decide +kernel⟩
def mX9_certainHours : xD := (cX9_certainHours, yX9_certainHours, 6, (some .int), 0, 0)
set_option maxRecDepth 100000 in
theorem md_X9_certainHours : xMd mX9_certainHours 1 := ⟨xTB_of (List.mem_of_getElem? (i := 1293) rfl) rfl, xTB_of (List.mem_of_getElem? (i := 161) (by decide +kernel)) (by decide +kernel), by decide +kernel, by decide, by decide +kernel, by decide +kernel, by decide +kernel⟩
def mX9_follow : xD := (cX9_follow, yX9_follow, 4, (some .boolean), 0, 0)
set_option maxRecDepth 100000 in
theorem md_X9_follow : xMd mX9_follow 2 := ⟨xTB_of (List.mem_of_getElem? (i := 1109) rfl) rfl, xTB_of (List.mem_of_getElem? (i := 161) (by decide +kernel)) (by decide +kernel), by decide +kernel, by decide, by decide +kernel, by decide +kernel, by decide +kernel⟩
def mX9_freeHours : xD := (cX9_freeHours, yX9_freeHours, 3, (some .int), 0, 0)
set_option maxRecDepth 100000 in
theorem md_X9_freeHours : xMd mX9_freeHours 0 := ⟨xTB_of (List.mem_of_getElem? (i := 1136) rfl) rfl, xTB_of (List.mem_of_getElem? (i := 161) (by decide +kernel)) (by decide +kernel), by decide +kernel, by decide, by decide +kernel, by decide +kernel, by decide +kernel⟩
def mX9_init : xD := (cX9_init, yX9_init, 1, none, 5, 500)
set_option maxRecDepth 100000 in
theorem md_X9_init : xMd mX9_init 0 := ⟨xTB_of (List.mem_of_getElem? (i := 548) rfl) rfl, xTB_of (List.mem_of_getElem? (i := 161) (by decide +kernel)) (by decide +kernel), by decide +kernel, by decide, by decide +kernel, by decide +kernel, by decide +kernel⟩
def mX9_lookBack : xD := (cX9_lookBack, yX9_lookBack, 6, none, 0, 0)
set_option maxRecDepth 100000 in
theorem md_X9_lookBack : xMd mX9_lookBack 1 := ⟨xTB_of (List.mem_of_getElem? (i := 1132) rfl) rfl, xTB_of (List.mem_of_getElem? (i := 161) (by decide +kernel)) (by decide +kernel), by decide +kernel, by decide, by decide +kernel, by decide +kernel, by decide +kernel⟩
def mX9_lookForward : xD := (cX9_lookForward, yX9_lookForward, 5, none, 0, 0)
set_option maxRecDepth 100000 in
theorem md_X9_lookForward : xMd mX9_lookForward 1 := ⟨xTB_of (List.mem_of_getElem? (i := 1119) rfl) rfl, xTB_of (List.mem_of_getElem? (i := 161) (by decide +kernel)) (by decide +kernel), by decide +kernel, by decide, by decide +kernel, by decide +kernel, by decide +kernel⟩
def mX9_noteSights : xD := (cX9_noteSights, yX9_noteSights, 7, (some .boolean), 0, 0)
set_option maxRecDepth 100000 in
theorem md_X9_noteSights : xMd mX9_noteSights 2 := ⟨xTB_of (List.mem_of_getElem? (i := 1113) rfl) rfl, xTB_of (List.mem_of_getElem? (i := 161) (by decide +kernel)) (by decide +kernel), by decide +kernel, by decide, by decide +kernel, by decide +kernel, by decide +kernel⟩
def mX9_rides : xD := (cX9_rides, yX9_rides, 4, (some .boolean), 0, 0)
set_option maxRecDepth 100000 in
theorem md_X9_rides : xMd mX9_rides 3 := ⟨xTB_of (List.mem_of_getElem? (i := 1128) rfl) rfl, xTB_of (List.mem_of_getElem? (i := 161) (by decide +kernel)) (by decide +kernel), by decide +kernel, by decide, by decide +kernel, by decide +kernel, by decide +kernel⟩
theorem kl_L_7 : Cond.classLink RL 7 RX11 ∈ xTB := xTB_of (List.mem_of_getElem? (i := 170) (by decide +kernel)) (by decide +kernel)
theorem kc_L_9 : xCI RL 9 mX11_init 0 := ⟨md_X11_init, Or.inl (xTB_of (List.mem_of_getElem? (i := 172) (by decide +kernel)) (by decide +kernel)), xTB_of (List.mem_of_getElem? (i := 173) (by decide +kernel)) (by decide +kernel), rfl, rfl⟩
theorem ko_X11_1 : Cond.methodLink RX11 1 objectInit ∈ xTB := xTB_of (List.mem_of_getElem? (i := 175) (by decide +kernel)) (by decide +kernel)
theorem kl_X11_7 : Cond.classLink RX11 7 RX8 ∈ xTB := xTB_of (List.mem_of_getElem? (i := 178) (by decide +kernel)) (by decide +kernel)
theorem kc_X11_9 : xCI RX11 9 mX8_init 0 := ⟨md_X8_init, Or.inl (xTB_of (List.mem_of_getElem? (i := 180) (by decide +kernel)) (by decide +kernel)), xTB_of (List.mem_of_getElem? (i := 181) (by decide +kernel)) (by decide +kernel), rfl, rfl⟩
theorem ko_X8_3 : Cond.methodLink RX8 3 objectInit ∈ xTB := xTB_of (List.mem_of_getElem? (i := 183) (by decide +kernel)) (by decide +kernel)
theorem kl_X8_29 : Cond.classLink RX8 29 RX3 ∈ xTB := xTB_of (List.mem_of_getElem? (i := 184) (by decide +kernel)) (by decide +kernel)
theorem kl_X8_35 : Cond.classLink RX8 35 RX6 ∈ xTB := xTB_of (List.mem_of_getElem? (i := 186) (by decide +kernel)) (by decide +kernel)
theorem kc_X8_44 : xCI RX8 44 mX3_init 0 := ⟨md_X3_init, Or.inr ⟨"ElsewhereStamps", List.mem_filter.mpr ⟨List.mem_of_getElem? (i := 189) (by decide +kernel), rfl⟩⟩, xTB_of (List.mem_of_getElem? (i := 190) (by decide +kernel)) (by decide +kernel), rfl, rfl⟩
theorem ko_X3_3 : Cond.methodLink RX3 3 objectInit ∈ xTB := xTB_of (List.mem_of_getElem? (i := 192) (by decide +kernel)) (by decide +kernel)
theorem kf_X3_11 : xFld RX3 11 3 0 (tyX3 0) false := ⟨RX3, TX3, 17, rfl, by decide, xTB_of (List.mem_of_getElem? (i := 193) (by decide +kernel)) (by decide +kernel), rfl, rfl, rfl⟩
theorem kf_X9_31 : xFld RX9 31 3 0 (tyX3 0) false := ⟨RX3, TX3, 17, rfl, by decide, xTB_of (List.mem_of_getElem? (i := 194) (by decide +kernel)) (by decide +kernel), rfl, rfl, rfl⟩
theorem kf_X10_16 : xFld RX10 16 3 0 (tyX3 0) false := ⟨RX3, TX3, 17, rfl, by decide, xTB_of (List.mem_of_getElem? (i := 195) (by decide +kernel)) (by decide +kernel), rfl, rfl, rfl⟩
theorem kf_X0_27 : xFld RX0 27 3 0 (tyX3 0) false := ⟨RX3, TX3, 17, rfl, by decide, xTB_of (List.mem_of_getElem? (i := 196) (by decide +kernel)) (by decide +kernel), rfl, rfl, rfl⟩
theorem kf_X2_34 : xFld RX2 34 3 0 (tyX3 0) false := ⟨RX3, TX3, 17, rfl, by decide, xTB_of (List.mem_of_getElem? (i := 197) (by decide +kernel)) (by decide +kernel), rfl, rfl, rfl⟩
theorem kf_X5_70 : xFld RX5 70 3 0 (tyX3 0) false := ⟨RX3, TX3, 17, rfl, by decide, xTB_of (List.mem_of_getElem? (i := 198) (by decide +kernel)) (by decide +kernel), rfl, rfl, rfl⟩
theorem kf_X4_156 : xFld RX4 156 3 0 (tyX3 0) false := ⟨RX3, TX3, 17, rfl, by decide, xTB_of (List.mem_of_getElem? (i := 199) (by decide +kernel)) (by decide +kernel), rfl, rfl, rfl⟩
theorem kf_X11_166 : xFld RX11 166 3 0 (tyX3 0) false := ⟨RX3, TX3, 17, rfl, by decide, xTB_of (List.mem_of_getElem? (i := 200) (by decide +kernel)) (by decide +kernel), rfl, rfl, rfl⟩
theorem kf_X1_155 : xFld RX1 155 3 0 (tyX3 0) false := ⟨RX3, TX3, 17, rfl, by decide, xTB_of (List.mem_of_getElem? (i := 201) (by decide +kernel)) (by decide +kernel), rfl, rfl, rfl⟩
theorem kf_X3_15 : xFld RX3 15 3 1 (tyX3 1) false := ⟨RX3, TX3, 17, rfl, by decide, xTB_of (List.mem_of_getElem? (i := 202) (by decide +kernel)) (by decide +kernel), rfl, rfl, rfl⟩
theorem kf_X10_22 : xFld RX10 22 3 1 (tyX3 1) false := ⟨RX3, TX3, 17, rfl, by decide, xTB_of (List.mem_of_getElem? (i := 203) (by decide +kernel)) (by decide +kernel), rfl, rfl, rfl⟩
theorem kf_X1_80 : xFld RX1 80 3 1 (tyX3 1) false := ⟨RX3, TX3, 17, rfl, by decide, xTB_of (List.mem_of_getElem? (i := 204) (by decide +kernel)) (by decide +kernel), rfl, rfl, rfl⟩
theorem kf_X9_67 : xFld RX9 67 3 1 (tyX3 1) false := ⟨RX3, TX3, 17, rfl, by decide, xTB_of (List.mem_of_getElem? (i := 205) (by decide +kernel)) (by decide +kernel), rfl, rfl, rfl⟩
theorem kf_X4_136 : xFld RX4 136 3 1 (tyX3 1) false := ⟨RX3, TX3, 17, rfl, by decide, xTB_of (List.mem_of_getElem? (i := 206) (by decide +kernel)) (by decide +kernel), rfl, rfl, rfl⟩
theorem kf_X11_176 : xFld RX11 176 3 1 (tyX3 1) false := ⟨RX3, TX3, 17, rfl, by decide, xTB_of (List.mem_of_getElem? (i := 207) (by decide +kernel)) (by decide +kernel), rfl, rfl, rfl⟩
theorem kf_X3_18 : xFld RX3 18 3 2 (tyX3 2) false := ⟨RX3, TX3, 17, rfl, by decide, xTB_of (List.mem_of_getElem? (i := 208) (by decide +kernel)) (by decide +kernel), rfl, rfl, rfl⟩
theorem kf_X0_15 : xFld RX0 15 3 2 (tyX3 2) false := ⟨RX3, TX3, 17, rfl, by decide, xTB_of (List.mem_of_getElem? (i := 209) (by decide +kernel)) (by decide +kernel), rfl, rfl, rfl⟩
theorem kf_X5_42 : xFld RX5 42 3 2 (tyX3 2) false := ⟨RX3, TX3, 17, rfl, by decide, xTB_of (List.mem_of_getElem? (i := 210) (by decide +kernel)) (by decide +kernel), rfl, rfl, rfl⟩
theorem kf_X1_83 : xFld RX1 83 3 2 (tyX3 2) false := ⟨RX3, TX3, 17, rfl, by decide, xTB_of (List.mem_of_getElem? (i := 211) (by decide +kernel)) (by decide +kernel), rfl, rfl, rfl⟩
theorem kf_X2_65 : xFld RX2 65 3 2 (tyX3 2) false := ⟨RX3, TX3, 17, rfl, by decide, xTB_of (List.mem_of_getElem? (i := 212) (by decide +kernel)) (by decide +kernel), rfl, rfl, rfl⟩
theorem kf_X4_139 : xFld RX4 139 3 2 (tyX3 2) false := ⟨RX3, TX3, 17, rfl, by decide, xTB_of (List.mem_of_getElem? (i := 213) (by decide +kernel)) (by decide +kernel), rfl, rfl, rfl⟩
theorem kf_X11_296 : xFld RX11 296 3 2 (tyX3 2) false := ⟨RX3, TX3, 17, rfl, by decide, xTB_of (List.mem_of_getElem? (i := 214) (by decide +kernel)) (by decide +kernel), rfl, rfl, rfl⟩
theorem kf_X3_21 : xFld RX3 21 3 3 (tyX3 3) false := ⟨RX3, TX3, 17, rfl, by decide, xTB_of (List.mem_of_getElem? (i := 215) (by decide +kernel)) (by decide +kernel), rfl, rfl, rfl⟩
theorem kf_X2_22 : xFld RX2 22 3 3 (tyX3 3) false := ⟨RX3, TX3, 17, rfl, by decide, xTB_of (List.mem_of_getElem? (i := 216) (by decide +kernel)) (by decide +kernel), rfl, rfl, rfl⟩
theorem kf_X4_142 : xFld RX4 142 3 3 (tyX3 3) false := ⟨RX3, TX3, 17, rfl, by decide, xTB_of (List.mem_of_getElem? (i := 217) (by decide +kernel)) (by decide +kernel), rfl, rfl, rfl⟩
theorem kf_X1_128 : xFld RX1 128 3 3 (tyX3 3) false := ⟨RX3, TX3, 17, rfl, by decide, xTB_of (List.mem_of_getElem? (i := 218) (by decide +kernel)) (by decide +kernel), rfl, rfl, rfl⟩
theorem kf_X3_24 : xFld RX3 24 3 4 (tyX3 4) false := ⟨RX3, TX3, 17, rfl, by decide, xTB_of (List.mem_of_getElem? (i := 219) (by decide +kernel)) (by decide +kernel), rfl, rfl, rfl⟩
theorem kf_X1_77 : xFld RX1 77 3 4 (tyX3 4) false := ⟨RX3, TX3, 17, rfl, by decide, xTB_of (List.mem_of_getElem? (i := 220) (by decide +kernel)) (by decide +kernel), rfl, rfl, rfl⟩
theorem kf_X10_58 : xFld RX10 58 3 4 (tyX3 4) false := ⟨RX3, TX3, 17, rfl, by decide, xTB_of (List.mem_of_getElem? (i := 221) (by decide +kernel)) (by decide +kernel), rfl, rfl, rfl⟩
theorem kf_X4_145 : xFld RX4 145 3 4 (tyX3 4) false := ⟨RX3, TX3, 17, rfl, by decide, xTB_of (List.mem_of_getElem? (i := 222) (by decide +kernel)) (by decide +kernel), rfl, rfl, rfl⟩
theorem kf_X2_69 : xFld RX2 69 3 4 (tyX3 4) false := ⟨RX3, TX3, 17, rfl, by decide, xTB_of (List.mem_of_getElem? (i := 223) (by decide +kernel)) (by decide +kernel), rfl, rfl, rfl⟩
theorem kf_X11_239 : xFld RX11 239 3 4 (tyX3 4) false := ⟨RX3, TX3, 17, rfl, by decide, xTB_of (List.mem_of_getElem? (i := 224) (by decide +kernel)) (by decide +kernel), rfl, rfl, rfl⟩
theorem kf_X3_27 : xFld RX3 27 3 5 (tyX3 5) true := ⟨RX3, TX3, 17, rfl, by decide, xTB_of (List.mem_of_getElem? (i := 225) (by decide +kernel)) (by decide +kernel), rfl, rfl, rfl⟩
theorem kf_X10_25 : xFld RX10 25 3 5 (tyX3 5) true := ⟨RX3, TX3, 17, rfl, by decide, xTB_of (List.mem_of_getElem? (i := 226) (by decide +kernel)) (by decide +kernel), rfl, rfl, rfl⟩
theorem kf_X9_70 : xFld RX9 70 3 5 (tyX3 5) true := ⟨RX3, TX3, 17, rfl, by decide, xTB_of (List.mem_of_getElem? (i := 227) (by decide +kernel)) (by decide +kernel), rfl, rfl, rfl⟩
theorem kf_X1_98 : xFld RX1 98 3 5 (tyX3 5) true := ⟨RX3, TX3, 17, rfl, by decide, xTB_of (List.mem_of_getElem? (i := 228) (by decide +kernel)) (by decide +kernel), rfl, rfl, rfl⟩
theorem kf_X4_179 : xFld RX4 179 3 5 (tyX3 5) true := ⟨RX3, TX3, 17, rfl, by decide, xTB_of (List.mem_of_getElem? (i := 229) (by decide +kernel)) (by decide +kernel), rfl, rfl, rfl⟩
theorem kf_X3_31 : xFld RX3 31 3 6 (tyX3 6) true := ⟨RX3, TX3, 17, rfl, by decide, xTB_of (List.mem_of_getElem? (i := 230) (by decide +kernel)) (by decide +kernel), rfl, rfl, rfl⟩
theorem kf_X10_36 : xFld RX10 36 3 6 (tyX3 6) true := ⟨RX3, TX3, 17, rfl, by decide, xTB_of (List.mem_of_getElem? (i := 231) (by decide +kernel)) (by decide +kernel), rfl, rfl, rfl⟩
theorem kf_X9_81 : xFld RX9 81 3 6 (tyX3 6) true := ⟨RX3, TX3, 17, rfl, by decide, xTB_of (List.mem_of_getElem? (i := 232) (by decide +kernel)) (by decide +kernel), rfl, rfl, rfl⟩
theorem kf_X1_107 : xFld RX1 107 3 6 (tyX3 6) true := ⟨RX3, TX3, 17, rfl, by decide, xTB_of (List.mem_of_getElem? (i := 233) (by decide +kernel)) (by decide +kernel), rfl, rfl, rfl⟩
theorem kf_X4_182 : xFld RX4 182 3 6 (tyX3 6) true := ⟨RX3, TX3, 17, rfl, by decide, xTB_of (List.mem_of_getElem? (i := 234) (by decide +kernel)) (by decide +kernel), rfl, rfl, rfl⟩
theorem kf_X3_34 : xFld RX3 34 3 7 (tyX3 7) true := ⟨RX3, TX3, 17, rfl, by decide, xTB_of (List.mem_of_getElem? (i := 235) (by decide +kernel)) (by decide +kernel), rfl, rfl, rfl⟩
theorem kf_X9_57 : xFld RX9 57 3 7 (tyX3 7) true := ⟨RX3, TX3, 17, rfl, by decide, xTB_of (List.mem_of_getElem? (i := 236) (by decide +kernel)) (by decide +kernel), rfl, rfl, rfl⟩
theorem kf_X4_185 : xFld RX4 185 3 7 (tyX3 7) true := ⟨RX3, TX3, 17, rfl, by decide, xTB_of (List.mem_of_getElem? (i := 237) (by decide +kernel)) (by decide +kernel), rfl, rfl, rfl⟩
theorem kf_X10_90 : xFld RX10 90 3 7 (tyX3 7) true := ⟨RX3, TX3, 17, rfl, by decide, xTB_of (List.mem_of_getElem? (i := 238) (by decide +kernel)) (by decide +kernel), rfl, rfl, rfl⟩
theorem kf_X3_37 : xFld RX3 37 3 8 (tyX3 8) true := ⟨RX3, TX3, 17, rfl, by decide, xTB_of (List.mem_of_getElem? (i := 239) (by decide +kernel)) (by decide +kernel), rfl, rfl, rfl⟩
theorem kf_X9_60 : xFld RX9 60 3 8 (tyX3 8) true := ⟨RX3, TX3, 17, rfl, by decide, xTB_of (List.mem_of_getElem? (i := 240) (by decide +kernel)) (by decide +kernel), rfl, rfl, rfl⟩
theorem kf_X1_104 : xFld RX1 104 3 8 (tyX3 8) true := ⟨RX3, TX3, 17, rfl, by decide, xTB_of (List.mem_of_getElem? (i := 241) (by decide +kernel)) (by decide +kernel), rfl, rfl, rfl⟩
theorem kf_X4_188 : xFld RX4 188 3 8 (tyX3 8) true := ⟨RX3, TX3, 17, rfl, by decide, xTB_of (List.mem_of_getElem? (i := 242) (by decide +kernel)) (by decide +kernel), rfl, rfl, rfl⟩
theorem kf_X10_93 : xFld RX10 93 3 8 (tyX3 8) true := ⟨RX3, TX3, 17, rfl, by decide, xTB_of (List.mem_of_getElem? (i := 243) (by decide +kernel)) (by decide +kernel), rfl, rfl, rfl⟩
theorem kf_X3_40 : xFld RX3 40 3 9 (tyX3 9) true := ⟨RX3, TX3, 17, rfl, by decide, xTB_of (List.mem_of_getElem? (i := 244) (by decide +kernel)) (by decide +kernel), rfl, rfl, rfl⟩
theorem kf_X0_21 : xFld RX0 21 3 9 (tyX3 9) true := ⟨RX3, TX3, 17, rfl, by decide, xTB_of (List.mem_of_getElem? (i := 245) (by decide +kernel)) (by decide +kernel), rfl, rfl, rfl⟩
theorem kf_X5_49 : xFld RX5 49 3 9 (tyX3 9) true := ⟨RX3, TX3, 17, rfl, by decide, xTB_of (List.mem_of_getElem? (i := 246) (by decide +kernel)) (by decide +kernel), rfl, rfl, rfl⟩
theorem kf_X2_88 : xFld RX2 88 3 9 (tyX3 9) true := ⟨RX3, TX3, 17, rfl, by decide, xTB_of (List.mem_of_getElem? (i := 247) (by decide +kernel)) (by decide +kernel), rfl, rfl, rfl⟩
theorem kf_X1_119 : xFld RX1 119 3 9 (tyX3 9) true := ⟨RX3, TX3, 17, rfl, by decide, xTB_of (List.mem_of_getElem? (i := 248) (by decide +kernel)) (by decide +kernel), rfl, rfl, rfl⟩
theorem kf_X4_197 : xFld RX4 197 3 9 (tyX3 9) true := ⟨RX3, TX3, 17, rfl, by decide, xTB_of (List.mem_of_getElem? (i := 249) (by decide +kernel)) (by decide +kernel), rfl, rfl, rfl⟩
theorem kf_X11_255 : xFld RX11 255 3 9 (tyX3 9) true := ⟨RX3, TX3, 17, rfl, by decide, xTB_of (List.mem_of_getElem? (i := 250) (by decide +kernel)) (by decide +kernel), rfl, rfl, rfl⟩
theorem kf_X3_43 : xFld RX3 43 3 10 (tyX3 10) true := ⟨RX3, TX3, 17, rfl, by decide, xTB_of (List.mem_of_getElem? (i := 251) (by decide +kernel)) (by decide +kernel), rfl, rfl, rfl⟩
theorem kf_X0_24 : xFld RX0 24 3 10 (tyX3 10) true := ⟨RX3, TX3, 17, rfl, by decide, xTB_of (List.mem_of_getElem? (i := 252) (by decide +kernel)) (by decide +kernel), rfl, rfl, rfl⟩
theorem kf_X2_48 : xFld RX2 48 3 10 (tyX3 10) true := ⟨RX3, TX3, 17, rfl, by decide, xTB_of (List.mem_of_getElem? (i := 253) (by decide +kernel)) (by decide +kernel), rfl, rfl, rfl⟩
theorem kf_X1_116 : xFld RX1 116 3 10 (tyX3 10) true := ⟨RX3, TX3, 17, rfl, by decide, xTB_of (List.mem_of_getElem? (i := 254) (by decide +kernel)) (by decide +kernel), rfl, rfl, rfl⟩
theorem kf_X4_199 : xFld RX4 199 3 10 (tyX3 10) true := ⟨RX3, TX3, 17, rfl, by decide, xTB_of (List.mem_of_getElem? (i := 255) (by decide +kernel)) (by decide +kernel), rfl, rfl, rfl⟩
theorem kf_X3_46 : xFld RX3 46 3 11 (tyX3 11) true := ⟨RX3, TX3, 17, rfl, by decide, xTB_of (List.mem_of_getElem? (i := 256) (by decide +kernel)) (by decide +kernel), rfl, rfl, rfl⟩
theorem kf_X2_28 : xFld RX2 28 3 11 (tyX3 11) true := ⟨RX3, TX3, 17, rfl, by decide, xTB_of (List.mem_of_getElem? (i := 257) (by decide +kernel)) (by decide +kernel), rfl, rfl, rfl⟩
theorem kf_X1_134 : xFld RX1 134 3 11 (tyX3 11) true := ⟨RX3, TX3, 17, rfl, by decide, xTB_of (List.mem_of_getElem? (i := 258) (by decide +kernel)) (by decide +kernel), rfl, rfl, rfl⟩
theorem kf_X4_201 : xFld RX4 201 3 11 (tyX3 11) true := ⟨RX3, TX3, 17, rfl, by decide, xTB_of (List.mem_of_getElem? (i := 259) (by decide +kernel)) (by decide +kernel), rfl, rfl, rfl⟩
theorem kf_X3_49 : xFld RX3 49 3 12 (tyX3 12) true := ⟨RX3, TX3, 17, rfl, by decide, xTB_of (List.mem_of_getElem? (i := 260) (by decide +kernel)) (by decide +kernel), rfl, rfl, rfl⟩
theorem kf_X2_31 : xFld RX2 31 3 12 (tyX3 12) true := ⟨RX3, TX3, 17, rfl, by decide, xTB_of (List.mem_of_getElem? (i := 261) (by decide +kernel)) (by decide +kernel), rfl, rfl, rfl⟩
theorem kf_X1_131 : xFld RX1 131 3 12 (tyX3 12) true := ⟨RX3, TX3, 17, rfl, by decide, xTB_of (List.mem_of_getElem? (i := 262) (by decide +kernel)) (by decide +kernel), rfl, rfl, rfl⟩
theorem kf_X4_204 : xFld RX4 204 3 12 (tyX3 12) true := ⟨RX3, TX3, 17, rfl, by decide, xTB_of (List.mem_of_getElem? (i := 263) (by decide +kernel)) (by decide +kernel), rfl, rfl, rfl⟩
theorem kf_X3_52 : xFld RX3 52 3 13 (tyX3 13) true := ⟨RX3, TX3, 17, rfl, by decide, xTB_of (List.mem_of_getElem? (i := 264) (by decide +kernel)) (by decide +kernel), rfl, rfl, rfl⟩
theorem kf_X2_72 : xFld RX2 72 3 13 (tyX3 13) true := ⟨RX3, TX3, 17, rfl, by decide, xTB_of (List.mem_of_getElem? (i := 265) (by decide +kernel)) (by decide +kernel), rfl, rfl, rfl⟩
theorem kf_X1_113 : xFld RX1 113 3 13 (tyX3 13) true := ⟨RX3, TX3, 17, rfl, by decide, xTB_of (List.mem_of_getElem? (i := 266) (by decide +kernel)) (by decide +kernel), rfl, rfl, rfl⟩
theorem kf_X4_207 : xFld RX4 207 3 13 (tyX3 13) true := ⟨RX3, TX3, 17, rfl, by decide, xTB_of (List.mem_of_getElem? (i := 267) (by decide +kernel)) (by decide +kernel), rfl, rfl, rfl⟩
theorem kf_X3_55 : xFld RX3 55 3 14 (tyX3 14) true := ⟨RX3, TX3, 17, rfl, by decide, xTB_of (List.mem_of_getElem? (i := 268) (by decide +kernel)) (by decide +kernel), rfl, rfl, rfl⟩
theorem kf_X1_44 : xFld RX1 44 3 14 (tyX3 14) true := ⟨RX3, TX3, 17, rfl, by decide, xTB_of (List.mem_of_getElem? (i := 269) (by decide +kernel)) (by decide +kernel), rfl, rfl, rfl⟩
theorem kf_X5_57 : xFld RX5 57 3 14 (tyX3 14) true := ⟨RX3, TX3, 17, rfl, by decide, xTB_of (List.mem_of_getElem? (i := 270) (by decide +kernel)) (by decide +kernel), rfl, rfl, rfl⟩
theorem kf_X10_61 : xFld RX10 61 3 14 (tyX3 14) true := ⟨RX3, TX3, 17, rfl, by decide, xTB_of (List.mem_of_getElem? (i := 271) (by decide +kernel)) (by decide +kernel), rfl, rfl, rfl⟩
theorem kf_X2_75 : xFld RX2 75 3 14 (tyX3 14) true := ⟨RX3, TX3, 17, rfl, by decide, xTB_of (List.mem_of_getElem? (i := 272) (by decide +kernel)) (by decide +kernel), rfl, rfl, rfl⟩
theorem kf_X4_210 : xFld RX4 210 3 14 (tyX3 14) true := ⟨RX3, TX3, 17, rfl, by decide, xTB_of (List.mem_of_getElem? (i := 273) (by decide +kernel)) (by decide +kernel), rfl, rfl, rfl⟩
theorem kf_X3_58 : xFld RX3 58 3 15 (tyX3 15) true := ⟨RX3, TX3, 17, rfl, by decide, xTB_of (List.mem_of_getElem? (i := 274) (by decide +kernel)) (by decide +kernel), rfl, rfl, rfl⟩
theorem kf_X10_51 : xFld RX10 51 3 15 (tyX3 15) true := ⟨RX3, TX3, 17, rfl, by decide, xTB_of (List.mem_of_getElem? (i := 275) (by decide +kernel)) (by decide +kernel), rfl, rfl, rfl⟩
theorem kf_X3_61 : xFld RX3 61 3 16 (tyX3 16) true := ⟨RX3, TX3, 17, rfl, by decide, xTB_of (List.mem_of_getElem? (i := 276) (by decide +kernel)) (by decide +kernel), rfl, rfl, rfl⟩
theorem kf_X10_44 : xFld RX10 44 3 16 (tyX3 16) true := ⟨RX3, TX3, 17, rfl, by decide, xTB_of (List.mem_of_getElem? (i := 277) (by decide +kernel)) (by decide +kernel), rfl, rfl, rfl⟩
theorem kc_X8_45 : xCI RX8 45 mX6_init 2 := ⟨md_X6_init, Or.inl (xTB_of (List.mem_of_getElem? (i := 316) (by decide +kernel)) (by decide +kernel)), xTB_of (List.mem_of_getElem? (i := 317) (by decide +kernel)) (by decide +kernel), rfl, rfl⟩
theorem ko_X6_3 : Cond.methodLink RX6 3 objectInit ∈ xTB := xTB_of (List.mem_of_getElem? (i := 319) (by decide +kernel)) (by decide +kernel)
theorem kf_X6_18 : xFld RX6 18 6 0 (tyX6 0) true := ⟨RX6, TX6, 4, rfl, by decide, xTB_of (List.mem_of_getElem? (i := 320) (by decide +kernel)) (by decide +kernel), rfl, rfl, rfl⟩
theorem kf_X6_15 : xFld RX6 15 6 1 (tyX6 1) true := ⟨RX6, TX6, 4, rfl, by decide, xTB_of (List.mem_of_getElem? (i := 321) (by decide +kernel)) (by decide +kernel), rfl, rfl, rfl⟩
theorem kf_X6_21 : xFld RX6 21 6 2 (tyX6 2) true := ⟨RX6, TX6, 4, rfl, by decide, xTB_of (List.mem_of_getElem? (i := 322) (by decide +kernel)) (by decide +kernel), rfl, rfl, rfl⟩
theorem kf_X6_9 : xFld RX6 9 6 3 (tyX6 3) false := ⟨RX6, TX6, 4, rfl, by decide, xTB_of (List.mem_of_getElem? (i := 323) (by decide +kernel)) (by decide +kernel), rfl, rfl, rfl⟩
theorem kf_X4_60 : xFld RX4 60 6 3 (tyX6 3) false := ⟨RX6, TX6, 4, rfl, by decide, xTB_of (List.mem_of_getElem? (i := 324) (by decide +kernel)) (by decide +kernel), rfl, rfl, rfl⟩
theorem kf_X1_53 : xFld RX1 53 6 3 (tyX6 3) false := ⟨RX6, TX6, 4, rfl, by decide, xTB_of (List.mem_of_getElem? (i := 325) (by decide +kernel)) (by decide +kernel), rfl, rfl, rfl⟩
theorem kf_X9_47 : xFld RX9 47 6 3 (tyX6 3) false := ⟨RX6, TX6, 4, rfl, by decide, xTB_of (List.mem_of_getElem? (i := 326) (by decide +kernel)) (by decide +kernel), rfl, rfl, rfl⟩
theorem kf_X8_9 : xFld RX8 9 8 0 (tyX8 0) true := ⟨RX8, TX8, 8, rfl, by decide, xTB_of (List.mem_of_getElem? (i := 336) (by decide +kernel)) (by decide +kernel), rfl, rfl, rfl⟩
theorem kf_X11_91 : xFld RX11 91 8 0 (tyX8 0) true := ⟨RX8, TX8, 8, rfl, by decide, xTB_of (List.mem_of_getElem? (i := 337) (by decide +kernel)) (by decide +kernel), rfl, rfl, rfl⟩
theorem kf_X8_15 : xFld RX8 15 8 1 (tyX8 1) false := ⟨RX8, TX8, 8, rfl, by decide, xTB_of (List.mem_of_getElem? (i := 338) (by decide +kernel)) (by decide +kernel), rfl, rfl, rfl⟩
theorem kf_X11_69 : xFld RX11 69 8 1 (tyX8 1) false := ⟨RX8, TX8, 8, rfl, by decide, xTB_of (List.mem_of_getElem? (i := 339) (by decide +kernel)) (by decide +kernel), rfl, rfl, rfl⟩
theorem kf_X8_19 : xFld RX8 19 8 2 (tyX8 2) false := ⟨RX8, TX8, 8, rfl, by decide, xTB_of (List.mem_of_getElem? (i := 340) (by decide +kernel)) (by decide +kernel), rfl, rfl, rfl⟩
theorem kf_X11_77 : xFld RX11 77 8 2 (tyX8 2) false := ⟨RX8, TX8, 8, rfl, by decide, xTB_of (List.mem_of_getElem? (i := 341) (by decide +kernel)) (by decide +kernel), rfl, rfl, rfl⟩
theorem kf_X8_22 : xFld RX8 22 8 3 (tyX8 3) false := ⟨RX8, TX8, 8, rfl, by decide, xTB_of (List.mem_of_getElem? (i := 342) (by decide +kernel)) (by decide +kernel), rfl, rfl, rfl⟩
theorem kf_X11_80 : xFld RX11 80 8 3 (tyX8 3) false := ⟨RX8, TX8, 8, rfl, by decide, xTB_of (List.mem_of_getElem? (i := 343) (by decide +kernel)) (by decide +kernel), rfl, rfl, rfl⟩
theorem kf_X8_25 : xFld RX8 25 8 4 (tyX8 4) true := ⟨RX8, TX8, 8, rfl, by decide, xTB_of (List.mem_of_getElem? (i := 344) (by decide +kernel)) (by decide +kernel), rfl, rfl, rfl⟩
theorem kf_X11_83 : xFld RX11 83 8 4 (tyX8 4) true := ⟨RX8, TX8, 8, rfl, by decide, xTB_of (List.mem_of_getElem? (i := 345) (by decide +kernel)) (by decide +kernel), rfl, rfl, rfl⟩
theorem kf_X8_31 : xFld RX8 31 8 5 (tyX8 5) true := ⟨RX8, TX8, 8, rfl, by decide, xTB_of (List.mem_of_getElem? (i := 346) (by decide +kernel)) (by decide +kernel), rfl, rfl, rfl⟩
theorem kf_X11_111 : xFld RX11 111 8 5 (tyX8 5) true := ⟨RX8, TX8, 8, rfl, by decide, xTB_of (List.mem_of_getElem? (i := 347) (by decide +kernel)) (by decide +kernel), rfl, rfl, rfl⟩
theorem kf_X8_37 : xFld RX8 37 8 6 (tyX8 6) true := ⟨RX8, TX8, 8, rfl, by decide, xTB_of (List.mem_of_getElem? (i := 348) (by decide +kernel)) (by decide +kernel), rfl, rfl, rfl⟩
theorem kf_X11_121 : xFld RX11 121 8 6 (tyX8 6) true := ⟨RX8, TX8, 8, rfl, by decide, xTB_of (List.mem_of_getElem? (i := 349) (by decide +kernel)) (by decide +kernel), rfl, rfl, rfl⟩
theorem kf_X8_41 : xFld RX8 41 8 7 (tyX8 7) true := ⟨RX8, TX8, 8, rfl, by decide, xTB_of (List.mem_of_getElem? (i := 350) (by decide +kernel)) (by decide +kernel), rfl, rfl, rfl⟩
theorem kf_X11_197 : xFld RX11 197 8 7 (tyX8 7) true := ⟨RX8, TX8, 8, rfl, by decide, xTB_of (List.mem_of_getElem? (i := 351) (by decide +kernel)) (by decide +kernel), rfl, rfl, rfl⟩
theorem kl_X11_20 : Cond.classLink RX11 20 RX4 ∈ xTB := xTB_of (List.mem_of_getElem? (i := 370) (by decide +kernel)) (by decide +kernel)
theorem kc_X11_22 : xCI RX11 22 mX4_init 0 := ⟨md_X4_init, Or.inr ⟨"ElsewhereStamps", List.mem_filter.mpr ⟨List.mem_of_getElem? (i := 372) (by decide +kernel), rfl⟩⟩, xTB_of (List.mem_of_getElem? (i := 373) (by decide +kernel)) (by decide +kernel), rfl, rfl⟩
theorem ko_X4_3 : Cond.methodLink RX4 3 objectInit ∈ xTB := xTB_of (List.mem_of_getElem? (i := 375) (by decide +kernel)) (by decide +kernel)
theorem kl_X4_9 : Cond.classLink RX4 9 RX3 ∈ xTB := xTB_of (List.mem_of_getElem? (i := 376) (by decide +kernel)) (by decide +kernel)
theorem kc_X4_11 : xCI RX4 11 mX3_init 0 := ⟨md_X3_init, Or.inr ⟨"ElsewhereStamps", List.mem_filter.mpr ⟨List.mem_of_getElem? (i := 377) (by decide +kernel), rfl⟩⟩, xTB_of (List.mem_of_getElem? (i := 190) (by decide +kernel)) (by decide +kernel), rfl, rfl⟩
theorem kl_X4_18 : Cond.classLink RX4 18 RX6 ∈ xTB := xTB_of (List.mem_of_getElem? (i := 378) (by decide +kernel)) (by decide +kernel)
theorem kc_X4_20 : xCI RX4 20 mX6_init 2 := ⟨md_X6_init, Or.inl (xTB_of (List.mem_of_getElem? (i := 379) (by decide +kernel)) (by decide +kernel)), xTB_of (List.mem_of_getElem? (i := 317) (by decide +kernel)) (by decide +kernel), rfl, rfl⟩
theorem kl_X4_37 : Cond.classLink RX4 37 RX7 ∈ xTB := xTB_of (List.mem_of_getElem? (i := 380) (by decide +kernel)) (by decide +kernel)
theorem kc_X4_39 : xCI RX4 39 mX7_init 0 := ⟨md_X7_init, Or.inr ⟨"ElsewhereStamps", List.mem_filter.mpr ⟨List.mem_of_getElem? (i := 382) (by decide +kernel), rfl⟩⟩, xTB_of (List.mem_of_getElem? (i := 383) (by decide +kernel)) (by decide +kernel), rfl, rfl⟩
theorem ko_X7_3 : Cond.methodLink RX7 3 objectInit ∈ xTB := xTB_of (List.mem_of_getElem? (i := 385) (by decide +kernel)) (by decide +kernel)
theorem kf_X7_9 : xFld RX7 9 7 0 (tyX7 0) true := ⟨RX7, TX7, 6, rfl, by decide, xTB_of (List.mem_of_getElem? (i := 386) (by decide +kernel)) (by decide +kernel), rfl, rfl, rfl⟩
theorem kf_X7_15 : xFld RX7 15 7 1 (tyX7 1) false := ⟨RX7, TX7, 6, rfl, by decide, xTB_of (List.mem_of_getElem? (i := 387) (by decide +kernel)) (by decide +kernel), rfl, rfl, rfl⟩
theorem kf_X7_19 : xFld RX7 19 7 2 (tyX7 2) false := ⟨RX7, TX7, 6, rfl, by decide, xTB_of (List.mem_of_getElem? (i := 388) (by decide +kernel)) (by decide +kernel), rfl, rfl, rfl⟩
theorem kf_X4_67 : xFld RX4 67 7 2 (tyX7 2) false := ⟨RX7, TX7, 6, rfl, by decide, xTB_of (List.mem_of_getElem? (i := 389) (by decide +kernel)) (by decide +kernel), rfl, rfl, rfl⟩
theorem kf_X7_22 : xFld RX7 22 7 3 (tyX7 3) false := ⟨RX7, TX7, 6, rfl, by decide, xTB_of (List.mem_of_getElem? (i := 390) (by decide +kernel)) (by decide +kernel), rfl, rfl, rfl⟩
theorem kf_X4_84 : xFld RX4 84 7 3 (tyX7 3) false := ⟨RX7, TX7, 6, rfl, by decide, xTB_of (List.mem_of_getElem? (i := 391) (by decide +kernel)) (by decide +kernel), rfl, rfl, rfl⟩
theorem kf_X7_25 : xFld RX7 25 7 4 (tyX7 4) false := ⟨RX7, TX7, 6, rfl, by decide, xTB_of (List.mem_of_getElem? (i := 392) (by decide +kernel)) (by decide +kernel), rfl, rfl, rfl⟩
theorem kf_X7_28 : xFld RX7 28 7 5 (tyX7 5) false := ⟨RX7, TX7, 6, rfl, by decide, xTB_of (List.mem_of_getElem? (i := 393) (by decide +kernel)) (by decide +kernel), rfl, rfl, rfl⟩
theorem kf_X4_93 : xFld RX4 93 7 5 (tyX7 5) false := ⟨RX7, TX7, 6, rfl, by decide, xTB_of (List.mem_of_getElem? (i := 394) (by decide +kernel)) (by decide +kernel), rfl, rfl, rfl⟩
theorem kf_X4_12 : xFld RX4 12 4 0 (tyX4 0) true := ⟨RX4, TX4, 10, rfl, by decide, xTB_of (List.mem_of_getElem? (i := 408) (by decide +kernel)) (by decide +kernel), rfl, rfl, rfl⟩
theorem kf_X11_279 : xFld RX11 279 4 0 (tyX4 0) true := ⟨RX4, TX4, 10, rfl, by decide, xTB_of (List.mem_of_getElem? (i := 409) (by decide +kernel)) (by decide +kernel), rfl, rfl, rfl⟩
theorem kf_X4_23 : xFld RX4 23 4 1 (tyX4 1) true := ⟨RX4, TX4, 10, rfl, by decide, xTB_of (List.mem_of_getElem? (i := 410) (by decide +kernel)) (by decide +kernel), rfl, rfl, rfl⟩
theorem kf_X11_286 : xFld RX11 286 4 1 (tyX4 1) true := ⟨RX4, TX4, 10, rfl, by decide, xTB_of (List.mem_of_getElem? (i := 411) (by decide +kernel)) (by decide +kernel), rfl, rfl, rfl⟩
theorem kf_X4_27 : xFld RX4 27 4 2 (tyX4 2) true := ⟨RX4, TX4, 10, rfl, by decide, xTB_of (List.mem_of_getElem? (i := 412) (by decide +kernel)) (by decide +kernel), rfl, rfl, rfl⟩
theorem kf_X11_293 : xFld RX11 293 4 2 (tyX4 2) true := ⟨RX4, TX4, 10, rfl, by decide, xTB_of (List.mem_of_getElem? (i := 413) (by decide +kernel)) (by decide +kernel), rfl, rfl, rfl⟩
theorem kf_X4_30 : xFld RX4 30 4 3 (tyX4 3) false := ⟨RX4, TX4, 10, rfl, by decide, xTB_of (List.mem_of_getElem? (i := 414) (by decide +kernel)) (by decide +kernel), rfl, rfl, rfl⟩
theorem kf_X11_99 : xFld RX11 99 4 3 (tyX4 3) false := ⟨RX4, TX4, 10, rfl, by decide, xTB_of (List.mem_of_getElem? (i := 415) (by decide +kernel)) (by decide +kernel), rfl, rfl, rfl⟩
theorem kf_X4_34 : xFld RX4 34 4 4 (tyX4 4) false := ⟨RX4, TX4, 10, rfl, by decide, xTB_of (List.mem_of_getElem? (i := 416) (by decide +kernel)) (by decide +kernel), rfl, rfl, rfl⟩
theorem kf_X11_100 : xFld RX11 100 4 4 (tyX4 4) false := ⟨RX4, TX4, 10, rfl, by decide, xTB_of (List.mem_of_getElem? (i := 417) (by decide +kernel)) (by decide +kernel), rfl, rfl, rfl⟩
theorem kf_X4_40 : xFld RX4 40 4 5 (tyX4 5) true := ⟨RX4, TX4, 10, rfl, by decide, xTB_of (List.mem_of_getElem? (i := 418) (by decide +kernel)) (by decide +kernel), rfl, rfl, rfl⟩
theorem kf_X4_44 : xFld RX4 44 4 6 (tyX4 6) true := ⟨RX4, TX4, 10, rfl, by decide, xTB_of (List.mem_of_getElem? (i := 419) (by decide +kernel)) (by decide +kernel), rfl, rfl, rfl⟩
theorem kf_X4_48 : xFld RX4 48 4 7 (tyX4 7) true := ⟨RX4, TX4, 10, rfl, by decide, xTB_of (List.mem_of_getElem? (i := 420) (by decide +kernel)) (by decide +kernel), rfl, rfl, rfl⟩
theorem kf_X4_51 : xFld RX4 51 4 8 (tyX4 8) false := ⟨RX4, TX4, 10, rfl, by decide, xTB_of (List.mem_of_getElem? (i := 421) (by decide +kernel)) (by decide +kernel), rfl, rfl, rfl⟩
theorem kf_X4_54 : xFld RX4 54 4 9 (tyX4 9) false := ⟨RX4, TX4, 10, rfl, by decide, xTB_of (List.mem_of_getElem? (i := 422) (by decide +kernel)) (by decide +kernel), rfl, rfl, rfl⟩
theorem kl_X11_27 : Cond.classLink RX11 27 RX1 ∈ xTB := xTB_of (List.mem_of_getElem? (i := 444) (by decide +kernel)) (by decide +kernel)
theorem kc_X11_29 : xCI RX11 29 mX1_init 0 := ⟨md_X1_init, Or.inr ⟨"ElsewhereStamps", List.mem_filter.mpr ⟨List.mem_of_getElem? (i := 446) (by decide +kernel), rfl⟩⟩, xTB_of (List.mem_of_getElem? (i := 447) (by decide +kernel)) (by decide +kernel), rfl, rfl⟩
theorem ko_X1_3 : Cond.methodLink RX1 3 objectInit ∈ xTB := xTB_of (List.mem_of_getElem? (i := 449) (by decide +kernel)) (by decide +kernel)
theorem kf_X1_9 : xFld RX1 9 1 0 (tyX1 0) true := ⟨RX1, TX1, 10, rfl, by decide, xTB_of (List.mem_of_getElem? (i := 450) (by decide +kernel)) (by decide +kernel), rfl, rfl, rfl⟩
theorem kf_X1_15 : xFld RX1 15 1 1 (tyX1 1) true := ⟨RX1, TX1, 10, rfl, by decide, xTB_of (List.mem_of_getElem? (i := 451) (by decide +kernel)) (by decide +kernel), rfl, rfl, rfl⟩
theorem kf_X1_18 : xFld RX1 18 1 2 (tyX1 2) true := ⟨RX1, TX1, 10, rfl, by decide, xTB_of (List.mem_of_getElem? (i := 452) (by decide +kernel)) (by decide +kernel), rfl, rfl, rfl⟩
theorem kf_X1_21 : xFld RX1 21 1 3 (tyX1 3) true := ⟨RX1, TX1, 10, rfl, by decide, xTB_of (List.mem_of_getElem? (i := 453) (by decide +kernel)) (by decide +kernel), rfl, rfl, rfl⟩
theorem kf_X1_24 : xFld RX1 24 1 4 (tyX1 4) true := ⟨RX1, TX1, 10, rfl, by decide, xTB_of (List.mem_of_getElem? (i := 454) (by decide +kernel)) (by decide +kernel), rfl, rfl, rfl⟩
theorem kf_X1_27 : xFld RX1 27 1 5 (tyX1 5) true := ⟨RX1, TX1, 10, rfl, by decide, xTB_of (List.mem_of_getElem? (i := 455) (by decide +kernel)) (by decide +kernel), rfl, rfl, rfl⟩
theorem kf_X1_30 : xFld RX1 30 1 6 (tyX1 6) true := ⟨RX1, TX1, 10, rfl, by decide, xTB_of (List.mem_of_getElem? (i := 456) (by decide +kernel)) (by decide +kernel), rfl, rfl, rfl⟩
theorem kf_X1_33 : xFld RX1 33 1 7 (tyX1 7) false := ⟨RX1, TX1, 10, rfl, by decide, xTB_of (List.mem_of_getElem? (i := 457) (by decide +kernel)) (by decide +kernel), rfl, rfl, rfl⟩
theorem kf_X1_37 : xFld RX1 37 1 8 (tyX1 8) false := ⟨RX1, TX1, 10, rfl, by decide, xTB_of (List.mem_of_getElem? (i := 458) (by decide +kernel)) (by decide +kernel), rfl, rfl, rfl⟩
theorem kf_X1_41 : xFld RX1 41 1 9 (tyX1 9) false := ⟨RX1, TX1, 10, rfl, by decide, xTB_of (List.mem_of_getElem? (i := 459) (by decide +kernel)) (by decide +kernel), rfl, rfl, rfl⟩
theorem kl_X11_34 : Cond.classLink RX11 34 RX10 ∈ xTB := xTB_of (List.mem_of_getElem? (i := 481) (by decide +kernel)) (by decide +kernel)
theorem kc_X11_36 : xCI RX11 36 mX10_init 0 := ⟨md_X10_init, Or.inr ⟨"ElsewhereStamps", List.mem_filter.mpr ⟨List.mem_of_getElem? (i := 483) (by decide +kernel), rfl⟩⟩, xTB_of (List.mem_of_getElem? (i := 484) (by decide +kernel)) (by decide +kernel), rfl, rfl⟩
theorem ko_X10_3 : Cond.methodLink RX10 3 objectInit ∈ xTB := xTB_of (List.mem_of_getElem? (i := 486) (by decide +kernel)) (by decide +kernel)
theorem kf_X10_9 : xFld RX10 9 10 0 (tyX10 0) true := ⟨RX10, TX10, 1, rfl, by decide, xTB_of (List.mem_of_getElem? (i := 487) (by decide +kernel)) (by decide +kernel), rfl, rfl, rfl⟩
theorem kl_X11_41 : Cond.classLink RX11 41 RX5 ∈ xTB := xTB_of (List.mem_of_getElem? (i := 491) (by decide +kernel)) (by decide +kernel)
theorem kc_X11_43 : xCI RX11 43 mX5_init 0 := ⟨md_X5_init, Or.inr ⟨"ElsewhereStamps", List.mem_filter.mpr ⟨List.mem_of_getElem? (i := 493) (by decide +kernel), rfl⟩⟩, xTB_of (List.mem_of_getElem? (i := 494) (by decide +kernel)) (by decide +kernel), rfl, rfl⟩
theorem ko_X5_3 : Cond.methodLink RX5 3 objectInit ∈ xTB := xTB_of (List.mem_of_getElem? (i := 496) (by decide +kernel)) (by decide +kernel)
theorem kl_X5_9 : Cond.classLink RX5 9 RX10 ∈ xTB := xTB_of (List.mem_of_getElem? (i := 497) (by decide +kernel)) (by decide +kernel)
theorem kc_X5_11 : xCI RX5 11 mX10_init 0 := ⟨md_X10_init, Or.inr ⟨"ElsewhereStamps", List.mem_filter.mpr ⟨List.mem_of_getElem? (i := 498) (by decide +kernel), rfl⟩⟩, xTB_of (List.mem_of_getElem? (i := 484) (by decide +kernel)) (by decide +kernel), rfl, rfl⟩
theorem kk_X5_32 : Cond.constant RX5 32 (99999) ∈ xTB := xTB_of (List.mem_of_getElem? (i := 499) (by decide +kernel)) (by decide +kernel)
theorem kf_X5_12 : xFld RX5 12 5 0 (tyX5 0) true := ⟨RX5, TX5, 6, rfl, by decide, xTB_of (List.mem_of_getElem? (i := 500) (by decide +kernel)) (by decide +kernel), rfl, rfl, rfl⟩
theorem kf_X5_18 : xFld RX5 18 5 1 (tyX5 1) true := ⟨RX5, TX5, 6, rfl, by decide, xTB_of (List.mem_of_getElem? (i := 501) (by decide +kernel)) (by decide +kernel), rfl, rfl, rfl⟩
theorem kf_X5_22 : xFld RX5 22 5 2 (tyX5 2) true := ⟨RX5, TX5, 6, rfl, by decide, xTB_of (List.mem_of_getElem? (i := 502) (by decide +kernel)) (by decide +kernel), rfl, rfl, rfl⟩
theorem kf_X5_25 : xFld RX5 25 5 3 (tyX5 3) true := ⟨RX5, TX5, 6, rfl, by decide, xTB_of (List.mem_of_getElem? (i := 503) (by decide +kernel)) (by decide +kernel), rfl, rfl, rfl⟩
theorem kf_X5_28 : xFld RX5 28 5 4 (tyX5 4) false := ⟨RX5, TX5, 6, rfl, by decide, xTB_of (List.mem_of_getElem? (i := 504) (by decide +kernel)) (by decide +kernel), rfl, rfl, rfl⟩
theorem kf_X5_33 : xFld RX5 33 5 5 (tyX5 5) false := ⟨RX5, TX5, 6, rfl, by decide, xTB_of (List.mem_of_getElem? (i := 505) (by decide +kernel)) (by decide +kernel), rfl, rfl, rfl⟩
theorem kl_X11_48 : Cond.classLink RX11 48 RX2 ∈ xTB := xTB_of (List.mem_of_getElem? (i := 519) (by decide +kernel)) (by decide +kernel)
theorem kc_X11_50 : xCI RX11 50 mX2_init 0 := ⟨md_X2_init, Or.inr ⟨"ElsewhereStamps", List.mem_filter.mpr ⟨List.mem_of_getElem? (i := 521) (by decide +kernel), rfl⟩⟩, xTB_of (List.mem_of_getElem? (i := 522) (by decide +kernel)) (by decide +kernel), rfl, rfl⟩
theorem ko_X2_3 : Cond.methodLink RX2 3 objectInit ∈ xTB := xTB_of (List.mem_of_getElem? (i := 524) (by decide +kernel)) (by decide +kernel)
theorem kl_X2_9 : Cond.classLink RX2 9 RX10 ∈ xTB := xTB_of (List.mem_of_getElem? (i := 525) (by decide +kernel)) (by decide +kernel)
theorem kc_X2_11 : xCI RX2 11 mX10_init 0 := ⟨md_X10_init, Or.inr ⟨"ElsewhereStamps", List.mem_filter.mpr ⟨List.mem_of_getElem? (i := 526) (by decide +kernel), rfl⟩⟩, xTB_of (List.mem_of_getElem? (i := 484) (by decide +kernel)) (by decide +kernel), rfl, rfl⟩
theorem kf_X2_12 : xFld RX2 12 2 0 (tyX2 0) true := ⟨RX2, TX2, 2, rfl, by decide, xTB_of (List.mem_of_getElem? (i := 527) (by decide +kernel)) (by decide +kernel), rfl, rfl, rfl⟩
theorem kf_X2_18 : xFld RX2 18 2 1 (tyX2 1) true := ⟨RX2, TX2, 2, rfl, by decide, xTB_of (List.mem_of_getElem? (i := 528) (by decide +kernel)) (by decide +kernel), rfl, rfl, rfl⟩
theorem kl_X11_55 : Cond.classLink RX11 55 RX0 ∈ xTB := xTB_of (List.mem_of_getElem? (i := 534) (by decide +kernel)) (by decide +kernel)
theorem kc_X11_57 : xCI RX11 57 mX0_init 0 := ⟨md_X0_init, Or.inr ⟨"ElsewhereStamps", List.mem_filter.mpr ⟨List.mem_of_getElem? (i := 536) (by decide +kernel), rfl⟩⟩, xTB_of (List.mem_of_getElem? (i := 537) (by decide +kernel)) (by decide +kernel), rfl, rfl⟩
theorem ko_X0_3 : Cond.methodLink RX0 3 objectInit ∈ xTB := xTB_of (List.mem_of_getElem? (i := 539) (by decide +kernel)) (by decide +kernel)
theorem kf_X0_9 : xFld RX0 9 0 0 (tyX0 0) true := ⟨RX0, TX0, 1, rfl, by decide, xTB_of (List.mem_of_getElem? (i := 540) (by decide +kernel)) (by decide +kernel), rfl, rfl, rfl⟩
theorem kl_X11_62 : Cond.classLink RX11 62 RX9 ∈ xTB := xTB_of (List.mem_of_getElem? (i := 544) (by decide +kernel)) (by decide +kernel)
theorem kc_X11_64 : xCI RX11 64 mX9_init 0 := ⟨md_X9_init, Or.inr ⟨"ElsewhereStamps", List.mem_filter.mpr ⟨List.mem_of_getElem? (i := 546) (by decide +kernel), rfl⟩⟩, xTB_of (List.mem_of_getElem? (i := 547) (by decide +kernel)) (by decide +kernel), rfl, rfl⟩
theorem ko_X9_3 : Cond.methodLink RX9 3 objectInit ∈ xTB := xTB_of (List.mem_of_getElem? (i := 549) (by decide +kernel)) (by decide +kernel)
theorem kf_X9_9 : xFld RX9 9 9 0 (tyX9 0) true := ⟨RX9, TX9, 6, rfl, by decide, xTB_of (List.mem_of_getElem? (i := 550) (by decide +kernel)) (by decide +kernel), rfl, rfl, rfl⟩
theorem kf_X11_207 : xFld RX11 207 9 0 (tyX9 0) true := ⟨RX9, TX9, 6, rfl, by decide, xTB_of (List.mem_of_getElem? (i := 551) (by decide +kernel)) (by decide +kernel), rfl, rfl, rfl⟩
theorem kf_X9_15 : xFld RX9 15 9 1 (tyX9 1) true := ⟨RX9, TX9, 6, rfl, by decide, xTB_of (List.mem_of_getElem? (i := 552) (by decide +kernel)) (by decide +kernel), rfl, rfl, rfl⟩
theorem kf_X9_18 : xFld RX9 18 9 2 (tyX9 2) true := ⟨RX9, TX9, 6, rfl, by decide, xTB_of (List.mem_of_getElem? (i := 553) (by decide +kernel)) (by decide +kernel), rfl, rfl, rfl⟩
theorem kf_X9_21 : xFld RX9 21 9 3 (tyX9 3) true := ⟨RX9, TX9, 6, rfl, by decide, xTB_of (List.mem_of_getElem? (i := 554) (by decide +kernel)) (by decide +kernel), rfl, rfl, rfl⟩
theorem kf_X9_24 : xFld RX9 24 9 4 (tyX9 4) true := ⟨RX9, TX9, 6, rfl, by decide, xTB_of (List.mem_of_getElem? (i := 555) (by decide +kernel)) (by decide +kernel), rfl, rfl, rfl⟩
theorem kf_X9_27 : xFld RX9 27 9 5 (tyX9 5) false := ⟨RX9, TX9, 6, rfl, by decide, xTB_of (List.mem_of_getElem? (i := 556) (by decide +kernel)) (by decide +kernel), rfl, rfl, rfl⟩
theorem kf_X11_10 : xFld RX11 10 11 0 (tyX11 0) true := ⟨RX11, TX11, 9, rfl, by decide, xTB_of (List.mem_of_getElem? (i := 570) (by decide +kernel)) (by decide +kernel), rfl, rfl, rfl⟩
theorem kf_X11_16 : xFld RX11 16 11 1 (tyX11 1) true := ⟨RX11, TX11, 9, rfl, by decide, xTB_of (List.mem_of_getElem? (i := 571) (by decide +kernel)) (by decide +kernel), rfl, rfl, rfl⟩
theorem kf_X11_23 : xFld RX11 23 11 2 (tyX11 2) true := ⟨RX11, TX11, 9, rfl, by decide, xTB_of (List.mem_of_getElem? (i := 572) (by decide +kernel)) (by decide +kernel), rfl, rfl, rfl⟩
theorem kf_X11_30 : xFld RX11 30 11 3 (tyX11 3) true := ⟨RX11, TX11, 9, rfl, by decide, xTB_of (List.mem_of_getElem? (i := 573) (by decide +kernel)) (by decide +kernel), rfl, rfl, rfl⟩
theorem kf_X11_37 : xFld RX11 37 11 4 (tyX11 4) true := ⟨RX11, TX11, 9, rfl, by decide, xTB_of (List.mem_of_getElem? (i := 574) (by decide +kernel)) (by decide +kernel), rfl, rfl, rfl⟩
theorem kf_X11_44 : xFld RX11 44 11 5 (tyX11 5) true := ⟨RX11, TX11, 9, rfl, by decide, xTB_of (List.mem_of_getElem? (i := 575) (by decide +kernel)) (by decide +kernel), rfl, rfl, rfl⟩
theorem kf_X11_51 : xFld RX11 51 11 6 (tyX11 6) true := ⟨RX11, TX11, 9, rfl, by decide, xTB_of (List.mem_of_getElem? (i := 576) (by decide +kernel)) (by decide +kernel), rfl, rfl, rfl⟩
theorem kf_X11_58 : xFld RX11 58 11 7 (tyX11 7) true := ⟨RX11, TX11, 9, rfl, by decide, xTB_of (List.mem_of_getElem? (i := 577) (by decide +kernel)) (by decide +kernel), rfl, rfl, rfl⟩
theorem kf_X11_65 : xFld RX11 65 11 8 (tyX11 8) true := ⟨RX11, TX11, 9, rfl, by decide, xTB_of (List.mem_of_getElem? (i := 578) (by decide +kernel)) (by decide +kernel), rfl, rfl, rfl⟩
theorem kc_L_13 : xCV RL 13 mX11_feed 5 11 := ⟨md_X11_feed, xTB_of (List.mem_of_getElem? (i := 598) (by decide +kernel)) (by decide +kernel), xTB_of (List.mem_of_getElem? (i := 599) (by decide +kernel)) (by decide +kernel), xTB_of (List.mem_of_getElem? (i := 600) (by decide +kernel)) (by decide +kernel), by decide +kernel⟩
theorem kc_X11_73 : xCV RX11 73 mX8_putNumber 1 8 := ⟨md_X8_putNumber, xTB_of (List.mem_of_getElem? (i := 602) (by decide +kernel)) (by decide +kernel), xTB_of (List.mem_of_getElem? (i := 603) (by decide +kernel)) (by decide +kernel), xTB_of (List.mem_of_getElem? (i := 604) (by decide +kernel)) (by decide +kernel), by decide +kernel⟩
theorem kc_L_18 : xCV RL 18 mX11_end 1 11 := ⟨md_X11_end, xTB_of (List.mem_of_getElem? (i := 606) (by decide +kernel)) (by decide +kernel), xTB_of (List.mem_of_getElem? (i := 607) (by decide +kernel)) (by decide +kernel), xTB_of (List.mem_of_getElem? (i := 608) (by decide +kernel)) (by decide +kernel), by decide +kernel⟩
theorem kc_L_23 : xCV RL 23 mX11_text 2 11 := ⟨md_X11_text, xTB_of (List.mem_of_getElem? (i := 610) (by decide +kernel)) (by decide +kernel), xTB_of (List.mem_of_getElem? (i := 611) (by decide +kernel)) (by decide +kernel), xTB_of (List.mem_of_getElem? (i := 612) (by decide +kernel)) (by decide +kernel), by decide +kernel⟩
theorem kc_X11_87 : xCV RX11 87 mX11_there 2 11 := ⟨md_X11_there, xTB_of (List.mem_of_getElem? (i := 614) (by decide +kernel)) (by decide +kernel), xTB_of (List.mem_of_getElem? (i := 616) (by decide +kernel)) (by decide +kernel), xTB_of (List.mem_of_getElem? (i := 0) (by decide +kernel)) (by decide +kernel), by decide +kernel⟩
theorem kc_X11_95 : xCV RX11 95 mX4_readText 3 4 := ⟨md_X4_readText, xTB_of (List.mem_of_getElem? (i := 618) (by decide +kernel)) (by decide +kernel), xTB_of (List.mem_of_getElem? (i := 619) (by decide +kernel)) (by decide +kernel), xTB_of (List.mem_of_getElem? (i := 620) (by decide +kernel)) (by decide +kernel), by decide +kernel⟩
theorem kc_X4_57 : xCV RX4 57 mX3_clear 0 3 := ⟨md_X3_clear, xTB_of (List.mem_of_getElem? (i := 622) (by decide +kernel)) (by decide +kernel), xTB_of (List.mem_of_getElem? (i := 623) (by decide +kernel)) (by decide +kernel), xTB_of (List.mem_of_getElem? (i := 624) (by decide +kernel)) (by decide +kernel), by decide +kernel⟩
theorem kc_X3_64 : xCV RX3 64 mX3_forgetRows 0 3 := ⟨md_X3_forgetRows, xTB_of (List.mem_of_getElem? (i := 626) (by decide +kernel)) (by decide +kernel), xTB_of (List.mem_of_getElem? (i := 628) (by decide +kernel)) (by decide +kernel), xTB_of (List.mem_of_getElem? (i := 1) (by decide +kernel)) (by decide +kernel), by decide +kernel⟩
theorem kc_X4_63 : xCV RX4 63 mX7_open 2 7 := ⟨md_X7_open, xTB_of (List.mem_of_getElem? (i := 630) (by decide +kernel)) (by decide +kernel), xTB_of (List.mem_of_getElem? (i := 631) (by decide +kernel)) (by decide +kernel), xTB_of (List.mem_of_getElem? (i := 632) (by decide +kernel)) (by decide +kernel), by decide +kernel⟩
theorem ka_X7_31 : Cond.methodLink RX7 31 arraycopyName ∈ xTB := xTB_of (List.mem_of_getElem? (i := 634) (by decide +kernel)) (by decide +kernel)
theorem kc_X7_37 : xCV RX7 37 mX7_step 0 7 := ⟨md_X7_step, xTB_of (List.mem_of_getElem? (i := 637) (by decide +kernel)) (by decide +kernel), xTB_of (List.mem_of_getElem? (i := 638) (by decide +kernel)) (by decide +kernel), xTB_of (List.mem_of_getElem? (i := 639) (by decide +kernel)) (by decide +kernel), by decide +kernel⟩
theorem kc_X7_40 : xCS RX7 40 mX7_isBlank 1 := ⟨md_X7_isBlank, Or.inl (xTB_of (List.mem_of_getElem? (i := 641) (by decide +kernel)) (by decide +kernel)), xTB_of (List.mem_of_getElem? (i := 642) (by decide +kernel)) (by decide +kernel)⟩
theorem kc_X7_44 : xCS RX7 44 mX7_isLetter 1 := ⟨md_X7_isLetter, Or.inl (xTB_of (List.mem_of_getElem? (i := 644) (by decide +kernel)) (by decide +kernel)), xTB_of (List.mem_of_getElem? (i := 645) (by decide +kernel)) (by decide +kernel)⟩
theorem kc_X7_47 : xCV RX7 47 mX7_skipLetters 0 7 := ⟨md_X7_skipLetters, xTB_of (List.mem_of_getElem? (i := 647) (by decide +kernel)) (by decide +kernel), xTB_of (List.mem_of_getElem? (i := 649) (by decide +kernel)) (by decide +kernel), xTB_of (List.mem_of_getElem? (i := 2) (by decide +kernel)) (by decide +kernel), by decide +kernel⟩
theorem kc_X7_50 : xCS RX7 50 mX7_isDigit 1 := ⟨md_X7_isDigit, Or.inl (xTB_of (List.mem_of_getElem? (i := 651) (by decide +kernel)) (by decide +kernel)), xTB_of (List.mem_of_getElem? (i := 652) (by decide +kernel)) (by decide +kernel)⟩
theorem kc_X7_53 : xCV RX7 53 mX7_takeDigits 0 7 := ⟨md_X7_takeDigits, xTB_of (List.mem_of_getElem? (i := 654) (by decide +kernel)) (by decide +kernel), xTB_of (List.mem_of_getElem? (i := 656) (by decide +kernel)) (by decide +kernel), xTB_of (List.mem_of_getElem? (i := 3) (by decide +kernel)) (by decide +kernel), by decide +kernel⟩
theorem kc_X4_70 : xCV RX4 70 mX4_readLine 1 4 := ⟨md_X4_readLine, xTB_of (List.mem_of_getElem? (i := 658) (by decide +kernel)) (by decide +kernel), xTB_of (List.mem_of_getElem? (i := 660) (by decide +kernel)) (by decide +kernel), xTB_of (List.mem_of_getElem? (i := 4) (by decide +kernel)) (by decide +kernel), by decide +kernel⟩
theorem kc_X4_77 : xCV RX4 77 mX4_lineByWord 1 4 := ⟨md_X4_lineByWord, xTB_of (List.mem_of_getElem? (i := 662) (by decide +kernel)) (by decide +kernel), xTB_of (List.mem_of_getElem? (i := 664) (by decide +kernel)) (by decide +kernel), xTB_of (List.mem_of_getElem? (i := 5) (by decide +kernel)) (by decide +kernel), by decide +kernel⟩
theorem kc_X4_108 : xCV RX4 108 mX4_railLineByWord 0 4 := ⟨md_X4_railLineByWord, xTB_of (List.mem_of_getElem? (i := 666) (by decide +kernel)) (by decide +kernel), xTB_of (List.mem_of_getElem? (i := 668) (by decide +kernel)) (by decide +kernel), xTB_of (List.mem_of_getElem? (i := 6) (by decide +kernel)) (by decide +kernel), by decide +kernel⟩
theorem kc_X4_114 : xCV RX4 114 mX7_isWord 1 7 := ⟨md_X7_isWord, xTB_of (List.mem_of_getElem? (i := 671) (by decide +kernel)) (by decide +kernel), xTB_of (List.mem_of_getElem? (i := 672) (by decide +kernel)) (by decide +kernel), xTB_of (List.mem_of_getElem? (i := 673) (by decide +kernel)) (by decide +kernel), by decide +kernel⟩
theorem kc_J0_495 : xCS RJ0 495 mJ1_charAt_3b067 2 := ⟨md_J1_charAt_3b067, Or.inl (xTB_of (List.mem_of_getElem? (i := 693) (by decide +kernel)) (by decide +kernel)), xTB_of (List.mem_of_getElem? (i := 694) (by decide +kernel)) (by decide +kernel)⟩
theorem kc_J1_9 : xCS RJ1 9 mJ0_checkIndex_df160 2 := ⟨md_J0_checkIndex_df160, Or.inl (xTB_of (List.mem_of_getElem? (i := 696) (by decide +kernel)) (by decide +kernel)), xTB_of (List.mem_of_getElem? (i := 697) (by decide +kernel)) (by decide +kernel)⟩
theorem kc_J0_1059 : xCS RJ0 1059 mJ3_checkIndex_8e157 3 := ⟨md_J3_checkIndex_8e157, Or.inl (xTB_of (List.mem_of_getElem? (i := 701) (by decide +kernel)) (by decide +kernel)), xTB_of (List.mem_of_getElem? (i := 702) (by decide +kernel)) (by decide +kernel)⟩
theorem kc_J0_498 : xCS RJ0 498 mJ2_charAt_3b067 2 := ⟨md_J2_charAt_3b067, Or.inl (xTB_of (List.mem_of_getElem? (i := 704) (by decide +kernel)) (by decide +kernel)), xTB_of (List.mem_of_getElem? (i := 705) (by decide +kernel)) (by decide +kernel)⟩
theorem kc_J2_67 : xCS RJ2 67 mJ2_checkIndex_2214a 2 := ⟨md_J2_checkIndex_2214a, Or.inl (xTB_of (List.mem_of_getElem? (i := 707) (by decide +kernel)) (by decide +kernel)), xTB_of (List.mem_of_getElem? (i := 708) (by decide +kernel)) (by decide +kernel)⟩
theorem kc_J2_48 : xCS RJ2 48 mJ2_length_9d52b 1 := ⟨md_J2_length_9d52b, Or.inl (xTB_of (List.mem_of_getElem? (i := 710) (by decide +kernel)) (by decide +kernel)), xTB_of (List.mem_of_getElem? (i := 711) (by decide +kernel)) (by decide +kernel)⟩
theorem kc_J2_414 : xCS RJ2 414 mJ0_checkIndex_df160 2 := ⟨md_J0_checkIndex_df160, Or.inl (xTB_of (List.mem_of_getElem? (i := 713) (by decide +kernel)) (by decide +kernel)), xTB_of (List.mem_of_getElem? (i := 697) (by decide +kernel)) (by decide +kernel)⟩
theorem kc_J2_71 : xCS RJ2 71 mJ2_getChar_3b067 2 := ⟨md_J2_getChar_3b067, Or.inl (xTB_of (List.mem_of_getElem? (i := 714) (by decide +kernel)) (by decide +kernel)), xTB_of (List.mem_of_getElem? (i := 715) (by decide +kernel)) (by decide +kernel)⟩
theorem kc_X4_81 : xCV RX4 81 mX4_noTextGoesOn 0 4 := ⟨md_X4_noTextGoesOn, xTB_of (List.mem_of_getElem? (i := 732) (by decide +kernel)) (by decide +kernel), xTB_of (List.mem_of_getElem? (i := 734) (by decide +kernel)) (by decide +kernel), xTB_of (List.mem_of_getElem? (i := 7) (by decide +kernel)) (by decide +kernel), by decide +kernel⟩
theorem kc_X4_87 : xCV RX4 87 mX7_step 0 7 := ⟨md_X7_step, xTB_of (List.mem_of_getElem? (i := 736) (by decide +kernel)) (by decide +kernel), xTB_of (List.mem_of_getElem? (i := 638) (by decide +kernel)) (by decide +kernel), xTB_of (List.mem_of_getElem? (i := 639) (by decide +kernel)) (by decide +kernel), by decide +kernel⟩
theorem kc_X4_96 : xCV RX4 96 mX4_room 1 4 := ⟨md_X4_room, xTB_of (List.mem_of_getElem? (i := 739) (by decide +kernel)) (by decide +kernel), xTB_of (List.mem_of_getElem? (i := 741) (by decide +kernel)) (by decide +kernel), xTB_of (List.mem_of_getElem? (i := 8) (by decide +kernel)) (by decide +kernel), by decide +kernel⟩
theorem kc_X4_148 : xCV RX4 148 mX6_room 0 6 := ⟨md_X6_room, xTB_of (List.mem_of_getElem? (i := 743) (by decide +kernel)) (by decide +kernel), xTB_of (List.mem_of_getElem? (i := 744) (by decide +kernel)) (by decide +kernel), xTB_of (List.mem_of_getElem? (i := 745) (by decide +kernel)) (by decide +kernel), by decide +kernel⟩
theorem kc_X4_99 : xCV RX4 99 mX4_noteFault 2 4 := ⟨md_X4_noteFault, xTB_of (List.mem_of_getElem? (i := 747) (by decide +kernel)) (by decide +kernel), xTB_of (List.mem_of_getElem? (i := 749) (by decide +kernel)) (by decide +kernel), xTB_of (List.mem_of_getElem? (i := 9) (by decide +kernel)) (by decide +kernel), by decide +kernel⟩
theorem kc_X4_102 : xCV RX4 102 mX4_checkNumbers 1 4 := ⟨md_X4_checkNumbers, xTB_of (List.mem_of_getElem? (i := 751) (by decide +kernel)) (by decide +kernel), xTB_of (List.mem_of_getElem? (i := 753) (by decide +kernel)) (by decide +kernel), xTB_of (List.mem_of_getElem? (i := 10) (by decide +kernel)) (by decide +kernel), by decide +kernel⟩
theorem kc_X4_105 : xCV RX4 105 mX4_keepLine 1 4 := ⟨md_X4_keepLine, xTB_of (List.mem_of_getElem? (i := 759) (by decide +kernel)) (by decide +kernel), xTB_of (List.mem_of_getElem? (i := 761) (by decide +kernel)) (by decide +kernel), xTB_of (List.mem_of_getElem? (i := 11) (by decide +kernel)) (by decide +kernel), by decide +kernel⟩
theorem kc_X4_158 : xCV RX4 158 mX4_keepTrain 0 4 := ⟨md_X4_keepTrain, xTB_of (List.mem_of_getElem? (i := 763) (by decide +kernel)) (by decide +kernel), xTB_of (List.mem_of_getElem? (i := 765) (by decide +kernel)) (by decide +kernel), xTB_of (List.mem_of_getElem? (i := 12) (by decide +kernel)) (by decide +kernel), by decide +kernel⟩
theorem kc_X4_191 : xCS RX4 191 mJ9_max_7cf53 2 := ⟨md_J9_max_7cf53, Or.inl (xTB_of (List.mem_of_getElem? (i := 767) (by decide +kernel)) (by decide +kernel)), xTB_of (List.mem_of_getElem? (i := 768) (by decide +kernel)) (by decide +kernel)⟩
theorem kc_X4_161 : xCV RX4 161 mX4_keepPermit 0 4 := ⟨md_X4_keepPermit, xTB_of (List.mem_of_getElem? (i := 770) (by decide +kernel)) (by decide +kernel), xTB_of (List.mem_of_getElem? (i := 772) (by decide +kernel)) (by decide +kernel), xTB_of (List.mem_of_getElem? (i := 13) (by decide +kernel)) (by decide +kernel), by decide +kernel⟩
theorem kc_X4_164 : xCV RX4 164 mX4_keepNeed 0 4 := ⟨md_X4_keepNeed, xTB_of (List.mem_of_getElem? (i := 774) (by decide +kernel)) (by decide +kernel), xTB_of (List.mem_of_getElem? (i := 776) (by decide +kernel)) (by decide +kernel), xTB_of (List.mem_of_getElem? (i := 14) (by decide +kernel)) (by decide +kernel), by decide +kernel⟩
theorem kc_X4_167 : xCV RX4 167 mX4_keepLaw 0 4 := ⟨md_X4_keepLaw, xTB_of (List.mem_of_getElem? (i := 778) (by decide +kernel)) (by decide +kernel), xTB_of (List.mem_of_getElem? (i := 780) (by decide +kernel)) (by decide +kernel), xTB_of (List.mem_of_getElem? (i := 15) (by decide +kernel)) (by decide +kernel), by decide +kernel⟩
theorem kc_X4_170 : xCV RX4 170 mX4_keepClerk 0 4 := ⟨md_X4_keepClerk, xTB_of (List.mem_of_getElem? (i := 782) (by decide +kernel)) (by decide +kernel), xTB_of (List.mem_of_getElem? (i := 784) (by decide +kernel)) (by decide +kernel), xTB_of (List.mem_of_getElem? (i := 16) (by decide +kernel)) (by decide +kernel), by decide +kernel⟩
theorem kc_X4_173 : xCV RX4 173 mX4_keepSight 0 4 := ⟨md_X4_keepSight, xTB_of (List.mem_of_getElem? (i := 786) (by decide +kernel)) (by decide +kernel), xTB_of (List.mem_of_getElem? (i := 788) (by decide +kernel)) (by decide +kernel), xTB_of (List.mem_of_getElem? (i := 17) (by decide +kernel)) (by decide +kernel), by decide +kernel⟩
theorem kc_X4_213 : xCV RX4 213 mX6_put 3 6 := ⟨md_X6_put, xTB_of (List.mem_of_getElem? (i := 790) (by decide +kernel)) (by decide +kernel), xTB_of (List.mem_of_getElem? (i := 791) (by decide +kernel)) (by decide +kernel), xTB_of (List.mem_of_getElem? (i := 792) (by decide +kernel)) (by decide +kernel), by decide +kernel⟩
theorem kc_X4_176 : xCV RX4 176 mX4_keepDeed 1 4 := ⟨md_X4_keepDeed, xTB_of (List.mem_of_getElem? (i := 794) (by decide +kernel)) (by decide +kernel), xTB_of (List.mem_of_getElem? (i := 796) (by decide +kernel)) (by decide +kernel), xTB_of (List.mem_of_getElem? (i := 18) (by decide +kernel)) (by decide +kernel), by decide +kernel⟩
theorem kc_X4_74 : xCV RX4 74 mX4_checkRail 1 4 := ⟨md_X4_checkRail, xTB_of (List.mem_of_getElem? (i := 798) (by decide +kernel)) (by decide +kernel), xTB_of (List.mem_of_getElem? (i := 800) (by decide +kernel)) (by decide +kernel), xTB_of (List.mem_of_getElem? (i := 19) (by decide +kernel)) (by decide +kernel), by decide +kernel⟩
theorem kc_X4_217 : xCS RX4 217 mX11_has 2 := ⟨md_X11_has, Or.inr ⟨"ElsewhereStamps", List.mem_filter.mpr ⟨List.mem_of_getElem? (i := 802) (by decide +kernel), rfl⟩⟩, xTB_of (List.mem_of_getElem? (i := 803) (by decide +kernel)) (by decide +kernel)⟩
theorem kc_X11_101 : xCS RX11 101 mJ9_max_7cf53 2 := ⟨md_J9_max_7cf53, Or.inl (xTB_of (List.mem_of_getElem? (i := 805) (by decide +kernel)) (by decide +kernel)), xTB_of (List.mem_of_getElem? (i := 768) (by decide +kernel)) (by decide +kernel)⟩
theorem kc_X11_107 : xCV RX11 107 mX11_keepRead 2 11 := ⟨md_X11_keepRead, xTB_of (List.mem_of_getElem? (i := 806) (by decide +kernel)) (by decide +kernel), xTB_of (List.mem_of_getElem? (i := 808) (by decide +kernel)) (by decide +kernel), xTB_of (List.mem_of_getElem? (i := 20) (by decide +kernel)) (by decide +kernel), by decide +kernel⟩
theorem kc_X11_283 : xCV RX11 283 mX3_copy 1 3 := ⟨md_X3_copy, xTB_of (List.mem_of_getElem? (i := 810) (by decide +kernel)) (by decide +kernel), xTB_of (List.mem_of_getElem? (i := 811) (by decide +kernel)) (by decide +kernel), xTB_of (List.mem_of_getElem? (i := 812) (by decide +kernel)) (by decide +kernel), by decide +kernel⟩
theorem ka_X3_67 : Cond.methodLink RX3 67 arraycopyName ∈ xTB := xTB_of (List.mem_of_getElem? (i := 814) (by decide +kernel)) (by decide +kernel)
theorem kc_X11_290 : xCV RX11 290 mX6_copy 1 6 := ⟨md_X6_copy, xTB_of (List.mem_of_getElem? (i := 815) (by decide +kernel)) (by decide +kernel), xTB_of (List.mem_of_getElem? (i := 816) (by decide +kernel)) (by decide +kernel), xTB_of (List.mem_of_getElem? (i := 817) (by decide +kernel)) (by decide +kernel), by decide +kernel⟩
theorem ka_X6_25 : Cond.methodLink RX6 25 arraycopyName ∈ xTB := xTB_of (List.mem_of_getElem? (i := 819) (by decide +kernel)) (by decide +kernel)
theorem kc_L_28 : xCV RL 28 mX11_fault 1 11 := ⟨md_X11_fault, xTB_of (List.mem_of_getElem? (i := 820) (by decide +kernel)) (by decide +kernel), xTB_of (List.mem_of_getElem? (i := 821) (by decide +kernel)) (by decide +kernel), xTB_of (List.mem_of_getElem? (i := 822) (by decide +kernel)) (by decide +kernel), by decide +kernel⟩
theorem kc_L_32 : xCV RL 32 mX11_rail 2 11 := ⟨md_X11_rail, xTB_of (List.mem_of_getElem? (i := 824) (by decide +kernel)) (by decide +kernel), xTB_of (List.mem_of_getElem? (i := 825) (by decide +kernel)) (by decide +kernel), xTB_of (List.mem_of_getElem? (i := 826) (by decide +kernel)) (by decide +kernel), by decide +kernel⟩
theorem kc_X11_115 : xCV RX11 115 mX3_answer 1 3 := ⟨md_X3_answer, xTB_of (List.mem_of_getElem? (i := 828) (by decide +kernel)) (by decide +kernel), xTB_of (List.mem_of_getElem? (i := 829) (by decide +kernel)) (by decide +kernel), xTB_of (List.mem_of_getElem? (i := 830) (by decide +kernel)) (by decide +kernel), by decide +kernel⟩
theorem kc_X3_73 : xCV RX3 73 mX3_answerTrain 2 3 := ⟨md_X3_answerTrain, xTB_of (List.mem_of_getElem? (i := 832) (by decide +kernel)) (by decide +kernel), xTB_of (List.mem_of_getElem? (i := 834) (by decide +kernel)) (by decide +kernel), xTB_of (List.mem_of_getElem? (i := 21) (by decide +kernel)) (by decide +kernel), by decide +kernel⟩
theorem kc_X3_77 : xCV RX3 77 mX3_answerHowMany 1 3 := ⟨md_X3_answerHowMany, xTB_of (List.mem_of_getElem? (i := 836) (by decide +kernel)) (by decide +kernel), xTB_of (List.mem_of_getElem? (i := 838) (by decide +kernel)) (by decide +kernel), xTB_of (List.mem_of_getElem? (i := 22) (by decide +kernel)) (by decide +kernel), by decide +kernel⟩
theorem kc_L_36 : xCV RL 36 mX11_deed 3 11 := ⟨md_X11_deed, xTB_of (List.mem_of_getElem? (i := 840) (by decide +kernel)) (by decide +kernel), xTB_of (List.mem_of_getElem? (i := 841) (by decide +kernel)) (by decide +kernel), xTB_of (List.mem_of_getElem? (i := 842) (by decide +kernel)) (by decide +kernel), by decide +kernel⟩
theorem kc_X11_125 : xCV RX11 125 mX6_answer 2 6 := ⟨md_X6_answer, xTB_of (List.mem_of_getElem? (i := 844) (by decide +kernel)) (by decide +kernel), xTB_of (List.mem_of_getElem? (i := 845) (by decide +kernel)) (by decide +kernel), xTB_of (List.mem_of_getElem? (i := 846) (by decide +kernel)) (by decide +kernel), by decide +kernel⟩
theorem kc_X6_31 : xCV RX6 31 mX6_at 2 6 := ⟨md_X6_at, xTB_of (List.mem_of_getElem? (i := 848) (by decide +kernel)) (by decide +kernel), xTB_of (List.mem_of_getElem? (i := 849) (by decide +kernel)) (by decide +kernel), xTB_of (List.mem_of_getElem? (i := 850) (by decide +kernel)) (by decide +kernel), by decide +kernel⟩
