def mJ0_charAt_5068e : xD := (cJ0_charAt_5068e, yJ0_charAt_5068e, 2, (some .char), 0, 0)
set_option maxRecDepth 100000 in
theorem md_J0_charAt_5068e : xMd mJ0_charAt_5068e 1 := ⟨xTB_of (List.mem_of_getElem? (i := 688) rfl) rfl, xTB_of (List.mem_of_getElem? (i := 164) (by decide +kernel)) (by decide +kernel), by decide +kernel, by decide, by decide +kernel, by decide +kernel, by decide +kernel⟩
def mJ0_checkIndex_df160 : xD := (cJ0_checkIndex_df160, yJ0_checkIndex_df160, 2, none, 0, 0)
set_option maxRecDepth 100000 in
theorem md_J0_checkIndex_df160 : xMd mJ0_checkIndex_df160 2 := ⟨xTB_of (List.mem_of_getElem? (i := 698) rfl) rfl, xTB_of (List.mem_of_getElem? (i := 164) (by decide +kernel)) (by decide +kernel), by decide +kernel, by decide, by decide +kernel, by decide +kernel, by decide +kernel⟩
def mJ0_coder_7d493 : xD := (cJ0_coder_7d493, yJ0_coder_7d493, 1, (some .byte), 0, 0)
set_option maxRecDepth 100000 in
theorem md_J0_coder_7d493 : xMd mJ0_coder_7d493 0 := ⟨xTB_of (List.mem_of_getElem? (i := 682) rfl) rfl, xTB_of (List.mem_of_getElem? (i := 164) (by decide +kernel)) (by decide +kernel), by decide +kernel, by decide, by decide +kernel, by decide +kernel, by decide +kernel⟩
def mJ0_isLatin1_aae02 : xD := (cJ0_isLatin1_aae02, yJ0_isLatin1_aae02, 1, (some .boolean), 0, 0)
set_option maxRecDepth 100000 in
theorem md_J0_isLatin1_aae02 : xMd mJ0_isLatin1_aae02 0 := ⟨xTB_of (List.mem_of_getElem? (i := 692) rfl) rfl, xTB_of (List.mem_of_getElem? (i := 164) (by decide +kernel)) (by decide +kernel), by decide +kernel, by decide, by decide +kernel, by decide +kernel, by decide +kernel⟩
def mJ0_length_8abf5 : xD := (cJ0_length_8abf5, yJ0_length_8abf5, 1, (some .int), 0, 0)
set_option maxRecDepth 100000 in
theorem md_J0_length_8abf5 : xMd mJ0_length_8abf5 0 := ⟨xTB_of (List.mem_of_getElem? (i := 678) rfl) rfl, xTB_of (List.mem_of_getElem? (i := 164) (by decide +kernel)) (by decide +kernel), by decide +kernel, by decide, by decide +kernel, by decide +kernel, by decide +kernel⟩
def mJ1_charAt_3b067 : xD := (cJ1_charAt_3b067, yJ1_charAt_3b067, 2, (some .char), 0, 0)
set_option maxRecDepth 100000 in
theorem md_J1_charAt_3b067 : xMd mJ1_charAt_3b067 2 := ⟨xTB_of (List.mem_of_getElem? (i := 695) rfl) rfl, xTB_of (List.mem_of_getElem? (i := 165) (by decide +kernel)) (by decide +kernel), by decide +kernel, by decide, by decide +kernel, by decide +kernel, by decide +kernel⟩
def mJ2_charAt_3b067 : xD := (cJ2_charAt_3b067, yJ2_charAt_3b067, 2, (some .char), 0, 0)
set_option maxRecDepth 100000 in
theorem md_J2_charAt_3b067 : xMd mJ2_charAt_3b067 2 := ⟨xTB_of (List.mem_of_getElem? (i := 706) rfl) rfl, xTB_of (List.mem_of_getElem? (i := 167) (by decide +kernel)) (by decide +kernel), by decide +kernel, by decide, by decide +kernel, by decide +kernel, by decide +kernel⟩
def mJ2_checkIndex_2214a : xD := (cJ2_checkIndex_2214a, yJ2_checkIndex_2214a, 2, none, 0, 0)
set_option maxRecDepth 100000 in
theorem md_J2_checkIndex_2214a : xMd mJ2_checkIndex_2214a 2 := ⟨xTB_of (List.mem_of_getElem? (i := 709) rfl) rfl, xTB_of (List.mem_of_getElem? (i := 167) (by decide +kernel)) (by decide +kernel), by decide +kernel, by decide, by decide +kernel, by decide +kernel, by decide +kernel⟩
def mJ2_getChar_3b067 : xD := (cJ2_getChar_3b067, yJ2_getChar_3b067, 2, (some .char), 0, 0)
set_option maxRecDepth 100000 in
theorem md_J2_getChar_3b067 : xMd mJ2_getChar_3b067 2 := ⟨xTB_of (List.mem_of_getElem? (i := 716) rfl) rfl, xTB_of (List.mem_of_getElem? (i := 167) (by decide +kernel)) (by decide +kernel), by decide +kernel, by decide, by decide +kernel, by decide +kernel, by decide +kernel⟩
def mJ2_length_9d52b : xD := (cJ2_length_9d52b, yJ2_length_9d52b, 1, (some .int), 0, 0)
set_option maxRecDepth 100000 in
theorem md_J2_length_9d52b : xMd mJ2_length_9d52b 1 := ⟨xTB_of (List.mem_of_getElem? (i := 712) rfl) rfl, xTB_of (List.mem_of_getElem? (i := 167) (by decide +kernel)) (by decide +kernel), by decide +kernel, by decide, by decide +kernel, by decide +kernel, by decide +kernel⟩
def mJ3_checkIndex_8e157 : xD := (cJ3_checkIndex_8e157, yJ3_checkIndex_8e157, 3, (some .int), 0, 0)
set_option maxRecDepth 100000 in
theorem md_J3_checkIndex_8e157 : xMd mJ3_checkIndex_8e157 3 := ⟨xTB_of (List.mem_of_getElem? (i := 703) rfl) rfl, xTB_of (List.mem_of_getElem? (i := 166) (by decide +kernel)) (by decide +kernel), by decide +kernel, by decide, by decide +kernel, by decide +kernel, by decide +kernel⟩
def mJ6_bitCount_0f7a4 : xD := (cJ6_bitCount_0f7a4, yJ6_bitCount_0f7a4, 1, (some .int), 0, 0)
set_option maxRecDepth 100000 in
theorem md_J6_bitCount_0f7a4 : xMd mJ6_bitCount_0f7a4 1 := ⟨xTB_of (List.mem_of_getElem? (i := 922) rfl) rfl, xTB_of (List.mem_of_getElem? (i := 169) (by decide +kernel)) (by decide +kernel), by decide +kernel, by decide, by decide +kernel, by decide +kernel, by decide +kernel⟩
def mJ9_floorMod_7cf53 : xD := (cJ9_floorMod_7cf53, yJ9_floorMod_7cf53, 3, (some .int), 0, 0)
set_option maxRecDepth 100000 in
theorem md_J9_floorMod_7cf53 : xMd mJ9_floorMod_7cf53 2 := ⟨xTB_of (List.mem_of_getElem? (i := 882) rfl) rfl, xTB_of (List.mem_of_getElem? (i := 168) (by decide +kernel)) (by decide +kernel), by decide +kernel, by decide, by decide +kernel, by decide +kernel, by decide +kernel⟩
def mJ9_max_7cf53 : xD := (cJ9_max_7cf53, yJ9_max_7cf53, 2, (some .int), 0, 0)
set_option maxRecDepth 100000 in
theorem md_J9_max_7cf53 : xMd mJ9_max_7cf53 2 := ⟨xTB_of (List.mem_of_getElem? (i := 769) rfl) rfl, xTB_of (List.mem_of_getElem? (i := 168) (by decide +kernel)) (by decide +kernel), by decide +kernel, by decide, by decide +kernel, by decide +kernel, by decide +kernel⟩
def mJ9_min_7cf53 : xD := (cJ9_min_7cf53, yJ9_min_7cf53, 2, (some .int), 0, 0)
set_option maxRecDepth 100000 in
theorem md_J9_min_7cf53 : xMd mJ9_min_7cf53 2 := ⟨xTB_of (List.mem_of_getElem? (i := 866) rfl) rfl, xTB_of (List.mem_of_getElem? (i := 168) (by decide +kernel)) (by decide +kernel), by decide +kernel, by decide, by decide +kernel, by decide +kernel, by decide +kernel⟩
def mL_law : xD := (cL_law, yL_law, 4, some .boolean, 600000, 7302250)
def mX0_answer : xD := (cX0_answer, yX0_answer, 4, (some .int), 0, 0)
set_option maxRecDepth 100000 in
theorem md_X0_answer : xMd mX0_answer 2 := ⟨xTB_of (List.mem_of_getElem? (i := 1054) rfl) rfl, xTB_of (List.mem_of_getElem? (i := 160) (by decide +kernel)) (by decide +kernel), by decide +kernel, by decide, by decide +kernel, by decide +kernel, by decide +kernel⟩
def mX0_askedBehind : xD := (cX0_askedBehind, yX0_askedBehind, 8, (some .int), 0, 0)
set_option maxRecDepth 100000 in
theorem md_X0_askedBehind : xMd mX0_askedBehind 3 := ⟨xTB_of (List.mem_of_getElem? (i := 1062) rfl) rfl, xTB_of (List.mem_of_getElem? (i := 160) (by decide +kernel)) (by decide +kernel), by decide +kernel, by decide, by decide +kernel, by decide +kernel, by decide +kernel⟩
def mX0_fewestToBreak : xD := (cX0_fewestToBreak, yX0_fewestToBreak, 5, (some .int), 0, 0)
set_option maxRecDepth 100000 in
theorem md_X0_fewestToBreak : xMd mX0_fewestToBreak 1 := ⟨xTB_of (List.mem_of_getElem? (i := 1067) rfl) rfl, xTB_of (List.mem_of_getElem? (i := 160) (by decide +kernel)) (by decide +kernel), by decide +kernel, by decide, by decide +kernel, by decide +kernel, by decide +kernel⟩
def mX0_init : xD := (cX0_init, yX0_init, 1, none, 1, 6)
set_option maxRecDepth 100000 in
theorem md_X0_init : xMd mX0_init 0 := ⟨xTB_of (List.mem_of_getElem? (i := 538) rfl) rfl, xTB_of (List.mem_of_getElem? (i := 160) (by decide +kernel)) (by decide +kernel), by decide +kernel, by decide, by decide +kernel, by decide +kernel, by decide +kernel⟩
def mX0_ringless : xD := (cX0_ringless, yX0_ringless, 6, (some .boolean), 0, 0)
set_option maxRecDepth 100000 in
theorem md_X0_ringless : xMd mX0_ringless 2 := ⟨xTB_of (List.mem_of_getElem? (i := 1072) rfl) rfl, xTB_of (List.mem_of_getElem? (i := 160) (by decide +kernel)) (by decide +kernel), by decide +kernel, by decide, by decide +kernel, by decide +kernel, by decide +kernel⟩
def mX0_shortestRing : xD := (cX0_shortestRing, yX0_shortestRing, 4, (some .int), 0, 0)
set_option maxRecDepth 100000 in
theorem md_X0_shortestRing : xMd mX0_shortestRing 1 := ⟨xTB_of (List.mem_of_getElem? (i := 1058) rfl) rfl, xTB_of (List.mem_of_getElem? (i := 160) (by decide +kernel)) (by decide +kernel), by decide +kernel, by decide, by decide +kernel, by decide +kernel, by decide +kernel⟩
def mX10_allHoursWithout : xD := (cX10_allHoursWithout, yX10_allHoursWithout, 6, (some .int), 0, 0)
set_option maxRecDepth 100000 in
theorem md_X10_allHoursWithout : xMd mX10_allHoursWithout 2 := ⟨xTB_of (List.mem_of_getElem? (i := 1185) rfl) rfl, xTB_of (List.mem_of_getElem? (i := 157) (by decide +kernel)) (by decide +kernel), by decide +kernel, by decide, by decide +kernel, by decide +kernel, by decide +kernel⟩
def mX10_arrival : xD := (cX10_arrival, yX10_arrival, 8, (some .int), 0, 0)
set_option maxRecDepth 100000 in
theorem md_X10_arrival : xMd mX10_arrival 4 := ⟨xTB_of (List.mem_of_getElem? (i := 949) rfl) rfl, xTB_of (List.mem_of_getElem? (i := 157) (by decide +kernel)) (by decide +kernel), by decide +kernel, by decide, by decide +kernel, by decide +kernel, by decide +kernel⟩
def mX10_bestOffices : xD := (cX10_bestOffices, yX10_bestOffices, 8, (some .int), 0, 0)
set_option maxRecDepth 100000 in
theorem md_X10_bestOffices : xMd mX10_bestOffices 3 := ⟨xTB_of (List.mem_of_getElem? (i := 1014) rfl) rfl, xTB_of (List.mem_of_getElem? (i := 157) (by decide +kernel)) (by decide +kernel), by decide +kernel, by decide, by decide +kernel, by decide +kernel, by decide +kernel⟩
def mX10_cutTrains : xD := (cX10_cutTrains, yX10_cutTrains, 10, (some .int), 0, 0)
set_option maxRecDepth 100000 in
theorem md_X10_cutTrains : xMd mX10_cutTrains 5 := ⟨xTB_of (List.mem_of_getElem? (i := 1028) rfl) rfl, xTB_of (List.mem_of_getElem? (i := 157) (by decide +kernel)) (by decide +kernel), by decide +kernel, by decide, by decide +kernel, by decide +kernel, by decide +kernel⟩
def mX10_firstTrain : xD := (cX10_firstTrain, yX10_firstTrain, 8, (some .int), 0, 0)
set_option maxRecDepth 100000 in
theorem md_X10_firstTrain : xMd mX10_firstTrain 4 := ⟨xTB_of (List.mem_of_getElem? (i := 962) rfl) rfl, xTB_of (List.mem_of_getElem? (i := 157) (by decide +kernel)) (by decide +kernel), by decide +kernel, by decide, by decide +kernel, by decide +kernel, by decide +kernel⟩
def mX10_gathering : xD := (cX10_gathering, yX10_gathering, 9, (some .int), 0, 0)
set_option maxRecDepth 100000 in
theorem md_X10_gathering : xMd mX10_gathering 3 := ⟨xTB_of (List.mem_of_getElem? (i := 1005) rfl) rfl, xTB_of (List.mem_of_getElem? (i := 157) (by decide +kernel)) (by decide +kernel), by decide +kernel, by decide, by decide +kernel, by decide +kernel, by decide +kernel⟩
def mX10_hoursBehindFirst : xD := (cX10_hoursBehindFirst, yX10_hoursBehindFirst, 8, (some .int), 0, 0)
set_option maxRecDepth 100000 in
theorem md_X10_hoursBehindFirst : xMd mX10_hoursBehindFirst 5 := ⟨xTB_of (List.mem_of_getElem? (i := 1036) rfl) rfl, xTB_of (List.mem_of_getElem? (i := 157) (by decide +kernel)) (by decide +kernel), by decide +kernel, by decide, by decide +kernel, by decide +kernel, by decide +kernel⟩
def mX10_hoursToOffices : xD := (cX10_hoursToOffices, yX10_hoursToOffices, 7, (some .int), 0, 0)
set_option maxRecDepth 100000 in
theorem md_X10_hoursToOffices : xMd mX10_hoursToOffices 2 := ⟨xTB_of (List.mem_of_getElem? (i := 1019) rfl) rfl, xTB_of (List.mem_of_getElem? (i := 157) (by decide +kernel)) (by decide +kernel), by decide +kernel, by decide, by decide +kernel, by decide +kernel, by decide +kernel⟩
def mX10_hoursWithout : xD := (cX10_hoursWithout, yX10_hoursWithout, 5, (some .int), 0, 0)
set_option maxRecDepth 100000 in
theorem md_X10_hoursWithout : xMd mX10_hoursWithout 4 := ⟨xTB_of (List.mem_of_getElem? (i := 1032) rfl) rfl, xTB_of (List.mem_of_getElem? (i := 157) (by decide +kernel)) (by decide +kernel), by decide +kernel, by decide, by decide +kernel, by decide +kernel, by decide +kernel⟩
def mX10_init : xD := (cX10_init, yX10_init, 1, none, 1, 6)
set_option maxRecDepth 100000 in
theorem md_X10_init : xMd mX10_init 0 := ⟨xTB_of (List.mem_of_getElem? (i := 485) rfl) rfl, xTB_of (List.mem_of_getElem? (i := 157) (by decide +kernel)) (by decide +kernel), by decide +kernel, by decide, by decide +kernel, by decide +kernel, by decide +kernel⟩
def mX10_keyTrain : xD := (cX10_keyTrain, yX10_keyTrain, 7, (some .int), 0, 0)
set_option maxRecDepth 100000 in
theorem md_X10_keyTrain : xMd mX10_keyTrain 2 := ⟨xTB_of (List.mem_of_getElem? (i := 1181) rfl) rfl, xTB_of (List.mem_of_getElem? (i := 157) (by decide +kernel)) (by decide +kernel), by decide +kernel, by decide, by decide +kernel, by decide +kernel, by decide +kernel⟩
def mX10_latestHour : xD := (cX10_latestHour, yX10_latestHour, 6, (some .int), 0, 0)
set_option maxRecDepth 100000 in
theorem md_X10_latestHour : xMd mX10_latestHour 4 := ⟨xTB_of (List.mem_of_getElem? (i := 1197) rfl) rfl, xTB_of (List.mem_of_getElem? (i := 157) (by decide +kernel)) (by decide +kernel), by decide +kernel, by decide, by decide +kernel, by decide +kernel, by decide +kernel⟩
def mX10_spareTrains : xD := (cX10_spareTrains, yX10_spareTrains, 5, (some .int), 0, 0)
set_option maxRecDepth 100000 in
theorem md_X10_spareTrains : xMd mX10_spareTrains 1 := ⟨xTB_of (List.mem_of_getElem? (i := 1189) rfl) rfl, xTB_of (List.mem_of_getElem? (i := 157) (by decide +kernel)) (by decide +kernel), by decide +kernel, by decide, by decide +kernel, by decide +kernel, by decide +kernel⟩
def mX10_spread : xD := (cX10_spread, yX10_spread, 10, none, 0, 0)
set_option maxRecDepth 100000 in
theorem md_X10_spread : xMd mX10_spread 4 := ⟨xTB_of (List.mem_of_getElem? (i := 955) rfl) rfl, xTB_of (List.mem_of_getElem? (i := 157) (by decide +kernel)) (by decide +kernel), by decide +kernel, by decide, by decide +kernel, by decide +kernel, by decide +kernel⟩
def mX10_widest : xD := (cX10_widest, yX10_widest, 6, (some .int), 0, 0)
set_option maxRecDepth 100000 in
theorem md_X10_widest : xMd mX10_widest 1 := ⟨xTB_of (List.mem_of_getElem? (i := 1162) rfl) rfl, xTB_of (List.mem_of_getElem? (i := 157) (by decide +kernel)) (by decide +kernel), by decide +kernel, by decide, by decide +kernel, by decide +kernel, by decide +kernel⟩
def mX11_after : xD := (cX11_after, yX11_after, 5, (some .int), 0, 0)
set_option maxRecDepth 100000 in
theorem md_X11_after : xMd mX11_after 3 := ⟨xTB_of (List.mem_of_getElem? (i := 1305) rfl) rfl, xTB_of (List.mem_of_getElem? (i := 150) (by decide +kernel)) (by decide +kernel), by decide +kernel, by decide, by decide +kernel, by decide +kernel, by decide +kernel⟩
def mX11_again : xD := (cX11_again, yX11_again, 2, (some .boolean), 0, 0)
set_option maxRecDepth 100000 in
theorem md_X11_again : xMd mX11_again 1 := ⟨xTB_of (List.mem_of_getElem? (i := 1332) rfl) rfl, xTB_of (List.mem_of_getElem? (i := 150) (by decide +kernel)) (by decide +kernel), by decide +kernel, by decide, by decide +kernel, by decide +kernel, by decide +kernel⟩
def mX11_board : xD := (cX11_board, yX11_board, 5, (some .int), 0, 0)
set_option maxRecDepth 100000 in
theorem md_X11_board : xMd mX11_board 4 := ⟨xTB_of (List.mem_of_getElem? (i := 1201) rfl) rfl, xTB_of (List.mem_of_getElem? (i := 150) (by decide +kernel)) (by decide +kernel), by decide +kernel, by decide, by decide +kernel, by decide +kernel, by decide +kernel⟩
def mX11_busy : xD := (cX11_busy, yX11_busy, 3, (some .int), 0, 0)
set_option maxRecDepth 100000 in
theorem md_X11_busy : xMd mX11_busy 2 := ⟨xTB_of (List.mem_of_getElem? (i := 1281) rfl) rfl, xTB_of (List.mem_of_getElem? (i := 150) (by decide +kernel)) (by decide +kernel), by decide +kernel, by decide, by decide +kernel, by decide +kernel, by decide +kernel⟩
def mX11_certain : xD := (cX11_certain, yX11_certain, 4, (some .int), 0, 0)
set_option maxRecDepth 100000 in
theorem md_X11_certain : xMd mX11_certain 3 := ⟨xTB_of (List.mem_of_getElem? (i := 1289) rfl) rfl, xTB_of (List.mem_of_getElem? (i := 150) (by decide +kernel)) (by decide +kernel), by decide +kernel, by decide, by decide +kernel, by decide +kernel, by decide +kernel⟩
def mX11_commonDivisor : xD := (cX11_commonDivisor, yX11_commonDivisor, 11, (some .long), 0, 0)
set_option maxRecDepth 100000 in
theorem md_X11_commonDivisor : xMd mX11_commonDivisor 2 := ⟨xTB_of (List.mem_of_getElem? (i := 1046) rfl) rfl, xTB_of (List.mem_of_getElem? (i := 150) (by decide +kernel)) (by decide +kernel), by decide +kernel, by decide, by decide +kernel, by decide +kernel, by decide +kernel⟩
def mX11_could : xD := (cX11_could, yX11_could, 5, (some .int), 0, 0)
set_option maxRecDepth 100000 in
theorem md_X11_could : xMd mX11_could 3 := ⟨xTB_of (List.mem_of_getElem? (i := 1101) rfl) rfl, xTB_of (List.mem_of_getElem? (i := 150) (by decide +kernel)) (by decide +kernel), by decide +kernel, by decide, by decide +kernel, by decide +kernel, by decide +kernel⟩
def mX11_count : xD := (cX11_count, yX11_count, 2, (some .int), 0, 0)
set_option maxRecDepth 100000 in
theorem md_X11_count : xMd mX11_count 1 := ⟨xTB_of (List.mem_of_getElem? (i := 1317) rfl) rfl, xTB_of (List.mem_of_getElem? (i := 150) (by decide +kernel)) (by decide +kernel), by decide +kernel, by decide, by decide +kernel, by decide +kernel, by decide +kernel⟩
def mX11_counts : xD := (cX11_counts, yX11_counts, 5, (some .int), 0, 0)
set_option maxRecDepth 100000 in
theorem md_X11_counts : xMd mX11_counts 3 := ⟨xTB_of (List.mem_of_getElem? (i := 1076) rfl) rfl, xTB_of (List.mem_of_getElem? (i := 150) (by decide +kernel)) (by decide +kernel), by decide +kernel, by decide, by decide +kernel, by decide +kernel, by decide +kernel⟩
def mX11_cut : xD := (cX11_cut, yX11_cut, 6, (some .int), 0, 0)
set_option maxRecDepth 100000 in
theorem md_X11_cut : xMd mX11_cut 5 := ⟨xTB_of (List.mem_of_getElem? (i := 1024) rfl) rfl, xTB_of (List.mem_of_getElem? (i := 150) (by decide +kernel)) (by decide +kernel), by decide +kernel, by decide, by decide +kernel, by decide +kernel, by decide +kernel⟩
def mX11_deed : xD := (cX11_deed, yX11_deed, 4, (some .int), 0, 0)
set_option maxRecDepth 100000 in
theorem md_X11_deed : xMd mX11_deed 3 := ⟨xTB_of (List.mem_of_getElem? (i := 843) rfl) rfl, xTB_of (List.mem_of_getElem? (i := 150) (by decide +kernel)) (by decide +kernel), by decide +kernel, by decide, by decide +kernel, by decide +kernel, by decide +kernel⟩
def mX11_drawn : xD := (cX11_drawn, yX11_drawn, 6, (some .int), 0, 0)
set_option maxRecDepth 100000 in
theorem md_X11_drawn : xMd mX11_drawn 4 := ⟨xTB_of (List.mem_of_getElem? (i := 1141) rfl) rfl, xTB_of (List.mem_of_getElem? (i := 150) (by decide +kernel)) (by decide +kernel), by decide +kernel, by decide, by decide +kernel, by decide +kernel, by decide +kernel⟩
def mX11_duty : xD := (cX11_duty, yX11_duty, 3, (some .int), 0, 0)
set_option maxRecDepth 100000 in
theorem md_X11_duty : xMd mX11_duty 2 := ⟨xTB_of (List.mem_of_getElem? (i := 967) rfl) rfl, xTB_of (List.mem_of_getElem? (i := 150) (by decide +kernel)) (by decide +kernel), by decide +kernel, by decide, by decide +kernel, by decide +kernel, by decide +kernel⟩
def mX11_end : xD := (cX11_end, yX11_end, 2, (some .int), 0, 0)
set_option maxRecDepth 100000 in
theorem md_X11_end : xMd mX11_end 1 := ⟨xTB_of (List.mem_of_getElem? (i := 609) rfl) rfl, xTB_of (List.mem_of_getElem? (i := 150) (by decide +kernel)) (by decide +kernel), by decide +kernel, by decide, by decide +kernel, by decide +kernel, by decide +kernel⟩
def mX11_fault : xD := (cX11_fault, yX11_fault, 2, (some .int), 0, 0)
set_option maxRecDepth 100000 in
theorem md_X11_fault : xMd mX11_fault 1 := ⟨xTB_of (List.mem_of_getElem? (i := 823) rfl) rfl, xTB_of (List.mem_of_getElem? (i := 150) (by decide +kernel)) (by decide +kernel), by decide +kernel, by decide, by decide +kernel, by decide +kernel, by decide +kernel⟩
def mX11_feed : xD := (cX11_feed, yX11_feed, 6, (some .int), 0, 0)
set_option maxRecDepth 100000 in
theorem md_X11_feed : xMd mX11_feed 5 := ⟨xTB_of (List.mem_of_getElem? (i := 601) rfl) rfl, xTB_of (List.mem_of_getElem? (i := 150) (by decide +kernel)) (by decide +kernel), by decide +kernel, by decide, by decide +kernel, by decide +kernel, by decide +kernel⟩
def mX11_gathered : xD := (cX11_gathered, yX11_gathered, 4, (some .int), 0, 0)
set_option maxRecDepth 100000 in
theorem md_X11_gathered : xMd mX11_gathered 2 := ⟨xTB_of (List.mem_of_getElem? (i := 1217) rfl) rfl, xTB_of (List.mem_of_getElem? (i := 150) (by decide +kernel)) (by decide +kernel), by decide +kernel, by decide, by decide +kernel, by decide +kernel, by decide +kernel⟩
def mX11_has : xD := (cX11_has, yX11_has, 2, (some .boolean), 0, 0)
set_option maxRecDepth 100000 in
theorem md_X11_has : xMd mX11_has 2 := ⟨xTB_of (List.mem_of_getElem? (i := 804) rfl) rfl, xTB_of (List.mem_of_getElem? (i := 150) (by decide +kernel)) (by decide +kernel), by decide +kernel, by decide, by decide +kernel, by decide +kernel, by decide +kernel⟩
def mX11_image : xD := (cX11_image, yX11_image, 2, (some .boolean), 40, 2191)
set_option maxRecDepth 100000 in
theorem md_X11_image : xMd mX11_image 1 := ⟨xTB_of (List.mem_of_getElem? (i := 1321) rfl) rfl, xTB_of (List.mem_of_getElem? (i := 150) (by decide +kernel)) (by decide +kernel), by decide +kernel, by decide, by decide +kernel, by decide +kernel, by decide +kernel⟩
def mX11_init : xD := (cX11_init, yX11_init, 1, none, 91, 4315)
set_option maxRecDepth 100000 in
theorem md_X11_init : xMd mX11_init 0 := ⟨xTB_of (List.mem_of_getElem? (i := 174) rfl) rfl, xTB_of (List.mem_of_getElem? (i := 150) (by decide +kernel)) (by decide +kernel), by decide +kernel, by decide, by decide +kernel, by decide +kernel, by decide +kernel⟩
def mX11_isHour : xD := (cX11_isHour, yX11_isHour, 1, (some .boolean), 0, 0)
set_option maxRecDepth 100000 in
theorem md_X11_isHour : xMd mX11_isHour 1 := ⟨xTB_of (List.mem_of_getElem? (i := 945) rfl) rfl, xTB_of (List.mem_of_getElem? (i := 150) (by decide +kernel)) (by decide +kernel), by decide +kernel, by decide, by decide +kernel, by decide +kernel, by decide +kernel⟩
def mX11_keepRead : xD := (cX11_keepRead, yX11_keepRead, 3, none, 0, 0)
set_option maxRecDepth 100000 in
theorem md_X11_keepRead : xMd mX11_keepRead 2 := ⟨xTB_of (List.mem_of_getElem? (i := 809) rfl) rfl, xTB_of (List.mem_of_getElem? (i := 150) (by decide +kernel)) (by decide +kernel), by decide +kernel, by decide, by decide +kernel, by decide +kernel, by decide +kernel⟩
def mX11_lacks : xD := (cX11_lacks, yX11_lacks, 6, (some .int), 0, 0)
set_option maxRecDepth 100000 in
theorem md_X11_lacks : xMd mX11_lacks 3 := ⟨xTB_of (List.mem_of_getElem? (i := 1252) rfl) rfl, xTB_of (List.mem_of_getElem? (i := 150) (by decide +kernel)) (by decide +kernel), by decide +kernel, by decide, by decide +kernel, by decide +kernel, by decide +kernel⟩
def mX11_lands : xD := (cX11_lands, yX11_lands, 4, (some .int), 0, 0)
set_option maxRecDepth 100000 in
theorem md_X11_lands : xMd mX11_lands 2 := ⟨xTB_of (List.mem_of_getElem? (i := 1158) rfl) rfl, xTB_of (List.mem_of_getElem? (i := 150) (by decide +kernel)) (by decide +kernel), by decide +kernel, by decide, by decide +kernel, by decide +kernel, by decide +kernel⟩
def mX11_latest : xD := (cX11_latest, yX11_latest, 5, (some .int), 0, 0)
set_option maxRecDepth 100000 in
theorem md_X11_latest : xMd mX11_latest 4 := ⟨xTB_of (List.mem_of_getElem? (i := 1193) rfl) rfl, xTB_of (List.mem_of_getElem? (i := 150) (by decide +kernel)) (by decide +kernel), by decide +kernel, by decide, by decide +kernel, by decide +kernel, by decide +kernel⟩
def mX11_ledge : xD := (cX11_ledge, yX11_ledge, 4, (some .int), 0, 0)
set_option maxRecDepth 100000 in
theorem md_X11_ledge : xMd mX11_ledge 3 := ⟨xTB_of (List.mem_of_getElem? (i := 1272) rfl) rfl, xTB_of (List.mem_of_getElem? (i := 150) (by decide +kernel)) (by decide +kernel), by decide +kernel, by decide, by decide +kernel, by decide +kernel, by decide +kernel⟩
def mX11_mean : xD := (cX11_mean, yX11_mean, 13, (some .long), 0, 0)
set_option maxRecDepth 100000 in
theorem md_X11_mean : xMd mX11_mean 5 := ⟨xTB_of (List.mem_of_getElem? (i := 1040) rfl) rfl, xTB_of (List.mem_of_getElem? (i := 150) (by decide +kernel)) (by decide +kernel), by decide +kernel, by decide, by decide +kernel, by decide +kernel, by decide +kernel⟩
def mX11_meeting : xD := (cX11_meeting, yX11_meeting, 5, (some .int), 0, 0)
set_option maxRecDepth 100000 in
theorem md_X11_meeting : xMd mX11_meeting 4 := ⟨xTB_of (List.mem_of_getElem? (i := 1001) rfl) rfl, xTB_of (List.mem_of_getElem? (i := 150) (by decide +kernel)) (by decide +kernel), by decide +kernel, by decide, by decide +kernel, by decide +kernel, by decide +kernel⟩
def mX11_offices : xD := (cX11_offices, yX11_offices, 4, (some .int), 0, 0)
set_option maxRecDepth 100000 in
theorem md_X11_offices : xMd mX11_offices 3 := ⟨xTB_of (List.mem_of_getElem? (i := 1010) rfl) rfl, xTB_of (List.mem_of_getElem? (i := 150) (by decide +kernel)) (by decide +kernel), by decide +kernel, by decide, by decide +kernel, by decide +kernel, by decide +kernel⟩
def mX11_orders : xD := (cX11_orders, yX11_orders, 5, (some .int), 0, 0)
set_option maxRecDepth 100000 in
theorem md_X11_orders : xMd mX11_orders 3 := ⟨xTB_of (List.mem_of_getElem? (i := 1221) rfl) rfl, xTB_of (List.mem_of_getElem? (i := 150) (by decide +kernel)) (by decide +kernel), by decide +kernel, by decide, by decide +kernel, by decide +kernel, by decide +kernel⟩
def mX11_rail : xD := (cX11_rail, yX11_rail, 3, (some .int), 0, 0)
set_option maxRecDepth 100000 in
theorem md_X11_rail : xMd mX11_rail 2 := ⟨xTB_of (List.mem_of_getElem? (i := 827) rfl) rfl, xTB_of (List.mem_of_getElem? (i := 150) (by decide +kernel)) (by decide +kernel), by decide +kernel, by decide, by decide +kernel, by decide +kernel, by decide +kernel⟩
def mX11_ring : xD := (cX11_ring, yX11_ring, 3, (some .int), 0, 0)
set_option maxRecDepth 100000 in
theorem md_X11_ring : xMd mX11_ring 2 := ⟨xTB_of (List.mem_of_getElem? (i := 1050) rfl) rfl, xTB_of (List.mem_of_getElem? (i := 150) (by decide +kernel)) (by decide +kernel), by decide +kernel, by decide, by decide +kernel, by decide +kernel, by decide +kernel⟩
def mX11_round : xD := (cX11_round, yX11_round, 4, (some .int), 0, 0)
set_option maxRecDepth 100000 in
theorem md_X11_round : xMd mX11_round 3 := ⟨xTB_of (List.mem_of_getElem? (i := 980) rfl) rfl, xTB_of (List.mem_of_getElem? (i := 150) (by decide +kernel)) (by decide +kernel), by decide +kernel, by decide, by decide +kernel, by decide +kernel, by decide +kernel⟩
def mX11_sight : xD := (cX11_sight, yX11_sight, 4, (some .int), 0, 0)
set_option maxRecDepth 100000 in
theorem md_X11_sight : xMd mX11_sight 3 := ⟨xTB_of (List.mem_of_getElem? (i := 1097) rfl) rfl, xTB_of (List.mem_of_getElem? (i := 150) (by decide +kernel)) (by decide +kernel), by decide +kernel, by decide, by decide +kernel, by decide +kernel, by decide +kernel⟩
def mX11_soonest : xD := (cX11_soonest, yX11_soonest, 8, (some .int), 0, 0)
set_option maxRecDepth 100000 in
theorem md_X11_soonest : xMd mX11_soonest 5 := ⟨xTB_of (List.mem_of_getElem? (i := 938) rfl) rfl, xTB_of (List.mem_of_getElem? (i := 150) (by decide +kernel)) (by decide +kernel), by decide +kernel, by decide, by decide +kernel, by decide +kernel, by decide +kernel⟩
def mX11_state : xD := (cX11_state, yX11_state, 6, (some .int), 0, 0)
set_option maxRecDepth 100000 in
theorem md_X11_state : xMd mX11_state 4 := ⟨xTB_of (List.mem_of_getElem? (i := 903) rfl) rfl, xTB_of (List.mem_of_getElem? (i := 150) (by decide +kernel)) (by decide +kernel), by decide +kernel, by decide, by decide +kernel, by decide +kernel, by decide +kernel⟩
def mX11_stuck : xD := (cX11_stuck, yX11_stuck, 2, (some .int), 0, 0)
set_option maxRecDepth 100000 in
theorem md_X11_stuck : xMd mX11_stuck 1 := ⟨xTB_of (List.mem_of_getElem? (i := 1297) rfl) rfl, xTB_of (List.mem_of_getElem? (i := 150) (by decide +kernel)) (by decide +kernel), by decide +kernel, by decide, by decide +kernel, by decide +kernel, by decide +kernel⟩
def mX11_text : xD := (cX11_text, yX11_text, 6, (some .int), 0, 0)
set_option maxRecDepth 100000 in
theorem md_X11_text : xMd mX11_text 2 := ⟨xTB_of (List.mem_of_getElem? (i := 613) rfl) rfl, xTB_of (List.mem_of_getElem? (i := 150) (by decide +kernel)) (by decide +kernel), by decide +kernel, by decide, by decide +kernel, by decide +kernel, by decide +kernel⟩
def mX11_there : xD := (cX11_there, yX11_there, 3, (some .boolean), 0, 0)
set_option maxRecDepth 100000 in
theorem md_X11_there : xMd mX11_there 2 := ⟨xTB_of (List.mem_of_getElem? (i := 617) rfl) rfl, xTB_of (List.mem_of_getElem? (i := 150) (by decide +kernel)) (by decide +kernel), by decide +kernel, by decide, by decide +kernel, by decide +kernel, by decide +kernel⟩
def mX11_thereClerk : xD := (cX11_thereClerk, yX11_thereClerk, 3, (some .boolean), 0, 0)
set_option maxRecDepth 100000 in
theorem md_X11_thereClerk : xMd mX11_thereClerk 2 := ⟨xTB_of (List.mem_of_getElem? (i := 971) rfl) rfl, xTB_of (List.mem_of_getElem? (i := 150) (by decide +kernel)) (by decide +kernel), by decide +kernel, by decide, by decide +kernel, by decide +kernel, by decide +kernel⟩
def mX11_thereLand : xD := (cX11_thereLand, yX11_thereLand, 3, (some .boolean), 0, 0)
set_option maxRecDepth 100000 in
theorem md_X11_thereLand : xMd mX11_thereLand 2 := ⟨xTB_of (List.mem_of_getElem? (i := 942) rfl) rfl, xTB_of (List.mem_of_getElem? (i := 150) (by decide +kernel)) (by decide +kernel), by decide +kernel, by decide, by decide +kernel, by decide +kernel, by decide +kernel⟩
def mX11_therePermit : xD := (cX11_therePermit, yX11_therePermit, 3, (some .boolean), 0, 0)
set_option maxRecDepth 100000 in
theorem md_X11_therePermit : xMd mX11_therePermit 2 := ⟨xTB_of (List.mem_of_getElem? (i := 1225) rfl) rfl, xTB_of (List.mem_of_getElem? (i := 150) (by decide +kernel)) (by decide +kernel), by decide +kernel, by decide, by decide +kernel, by decide +kernel, by decide +kernel⟩
def mX11_till : xD := (cX11_till, yX11_till, 3, (some .int), 0, 0)
set_option maxRecDepth 100000 in
theorem md_X11_till : xMd mX11_till 2 := ⟨xTB_of (List.mem_of_getElem? (i := 855) rfl) rfl, xTB_of (List.mem_of_getElem? (i := 150) (by decide +kernel)) (by decide +kernel), by decide +kernel, by decide, by decide +kernel, by decide +kernel, by decide +kernel⟩
def mX11_traceable : xD := (cX11_traceable, yX11_traceable, 3, (some .boolean), 0, 0)
set_option maxRecDepth 100000 in
theorem md_X11_traceable : xMd mX11_traceable 2 := ⟨xTB_of (List.mem_of_getElem? (i := 1105) rfl) rfl, xTB_of (List.mem_of_getElem? (i := 150) (by decide +kernel)) (by decide +kernel), by decide +kernel, by decide, by decide +kernel, by decide +kernel, by decide +kernel⟩
def mX11_trains : xD := (cX11_trains, yX11_trains, 4, (some .int), 0, 0)
set_option maxRecDepth 100000 in
theorem md_X11_trains : xMd mX11_trains 2 := ⟨xTB_of (List.mem_of_getElem? (i := 1177) rfl) rfl, xTB_of (List.mem_of_getElem? (i := 150) (by decide +kernel)) (by decide +kernel), by decide +kernel, by decide, by decide +kernel, by decide +kernel, by decide +kernel⟩
def mX12_after : xD := (cX12_after, yX12_after, 10, (some .int), 0, 0)
set_option maxRecDepth 100000 in
theorem md_X12_after : xMd mX12_after 3 := ⟨xTB_of (List.mem_of_getElem? (i := 2007) rfl) rfl, xTB_of (List.mem_of_getElem? (i := 162) (by decide +kernel)) (by decide +kernel), by decide +kernel, by decide, by decide +kernel, by decide +kernel, by decide +kernel⟩
def mX12_again : xD := (cX12_again, yX12_again, 2, (some .boolean), 0, 0)
set_option maxRecDepth 100000 in
theorem md_X12_again : xMd mX12_again 1 := ⟨xTB_of (List.mem_of_getElem? (i := 2026) rfl) rfl, xTB_of (List.mem_of_getElem? (i := 162) (by decide +kernel)) (by decide +kernel), by decide +kernel, by decide, by decide +kernel, by decide +kernel, by decide +kernel⟩
def mX12_ahead : xD := (cX12_ahead, yX12_ahead, 5, (some .int), 0, 0)
set_option maxRecDepth 100000 in
theorem md_X12_ahead : xMd mX12_ahead 2 := ⟨xTB_of (List.mem_of_getElem? (i := 1967) rfl) rfl, xTB_of (List.mem_of_getElem? (i := 162) (by decide +kernel)) (by decide +kernel), by decide +kernel, by decide, by decide +kernel, by decide +kernel, by decide +kernel⟩
def mX12_allSoonest : xD := (cX12_allSoonest, yX12_allSoonest, 6, (some .int), 0, 0)
set_option maxRecDepth 100000 in
theorem md_X12_allSoonest : xMd mX12_allSoonest 1 := ⟨xTB_of (List.mem_of_getElem? (i := 1935) rfl) rfl, xTB_of (List.mem_of_getElem? (i := 162) (by decide +kernel)) (by decide +kernel), by decide +kernel, by decide, by decide +kernel, by decide +kernel, by decide +kernel⟩
def mX12_asked : xD := (cX12_asked, yX12_asked, 4, (some .int), 0, 0)
set_option maxRecDepth 100000 in
theorem md_X12_asked : xMd mX12_asked 1 := ⟨xTB_of (List.mem_of_getElem? (i := 1826) rfl) rfl, xTB_of (List.mem_of_getElem? (i := 162) (by decide +kernel)) (by decide +kernel), by decide +kernel, by decide, by decide +kernel, by decide +kernel, by decide +kernel⟩
def mX12_at : xD := (cX12_at, yX12_at, 4, (some .int), 0, 0)
set_option maxRecDepth 100000 in
theorem md_X12_at : xMd mX12_at 3 := ⟨xTB_of (List.mem_of_getElem? (i := 1640) rfl) rfl, xTB_of (List.mem_of_getElem? (i := 162) (by decide +kernel)) (by decide +kernel), by decide +kernel, by decide, by decide +kernel, by decide +kernel, by decide +kernel⟩
def mX12_behindFirst : xD := (cX12_behindFirst, yX12_behindFirst, 5, (some .int), 0, 0)
set_option maxRecDepth 100000 in
theorem md_X12_behindFirst : xMd mX12_behindFirst 4 := ⟨xTB_of (List.mem_of_getElem? (i := 1794) rfl) rfl, xTB_of (List.mem_of_getElem? (i := 162) (by decide +kernel)) (by decide +kernel), by decide +kernel, by decide, by decide +kernel, by decide +kernel, by decide +kernel⟩
def mX12_better : xD := (cX12_better, yX12_better, 4, (some .int), 0, 0)
set_option maxRecDepth 100000 in
theorem md_X12_better : xMd mX12_better 3 := ⟨xTB_of (List.mem_of_getElem? (i := 1802) rfl) rfl, xTB_of (List.mem_of_getElem? (i := 162) (by decide +kernel)) (by decide +kernel), by decide +kernel, by decide, by decide +kernel, by decide +kernel, by decide +kernel⟩
def mX12_board : xD := (cX12_board, yX12_board, 9, (some .int), 0, 0)
set_option maxRecDepth 100000 in
theorem md_X12_board : xMd mX12_board 4 := ⟨xTB_of (List.mem_of_getElem? (i := 1947) rfl) rfl, xTB_of (List.mem_of_getElem? (i := 162) (by decide +kernel)) (by decide +kernel), by decide +kernel, by decide, by decide +kernel, by decide +kernel, by decide +kernel⟩
def mX12_breaks : xD := (cX12_breaks, yX12_breaks, 5, (some .int), 0, 0)
set_option maxRecDepth 100000 in
theorem md_X12_breaks : xMd mX12_breaks 0 := ⟨xTB_of (List.mem_of_getElem? (i := 1834) rfl) rfl, xTB_of (List.mem_of_getElem? (i := 162) (by decide +kernel)) (by decide +kernel), by decide +kernel, by decide, by decide +kernel, by decide +kernel, by decide +kernel⟩
def mX12_busy : xD := (cX12_busy, yX12_busy, 8, (some .int), 0, 0)
set_option maxRecDepth 100000 in
theorem md_X12_busy : xMd mX12_busy 2 := ⟨xTB_of (List.mem_of_getElem? (i := 1995) rfl) rfl, xTB_of (List.mem_of_getElem? (i := 162) (by decide +kernel)) (by decide +kernel), by decide +kernel, by decide, by decide +kernel, by decide +kernel, by decide +kernel⟩
def mX12_certain : xD := (cX12_certain, yX12_certain, 9, (some .int), 0, 0)
set_option maxRecDepth 100000 in
theorem md_X12_certain : xMd mX12_certain 3 := ⟨xTB_of (List.mem_of_getElem? (i := 1999) rfl) rfl, xTB_of (List.mem_of_getElem? (i := 162) (by decide +kernel)) (by decide +kernel), by decide +kernel, by decide, by decide +kernel, by decide +kernel, by decide +kernel⟩
def mX12_clerkComes : xD := (cX12_clerkComes, yX12_clerkComes, 5, (some .int), 0, 0)
set_option maxRecDepth 100000 in
theorem md_X12_clerkComes : xMd mX12_clerkComes 2 := ⟨xTB_of (List.mem_of_getElem? (i := 1983) rfl) rfl, xTB_of (List.mem_of_getElem? (i := 162) (by decide +kernel)) (by decide +kernel), by decide +kernel, by decide, by decide +kernel, by decide +kernel, by decide +kernel⟩
def mX12_comes : xD := (cX12_comes, yX12_comes, 4, (some .int), 0, 0)
set_option maxRecDepth 100000 in
theorem md_X12_comes : xMd mX12_comes 3 := ⟨xTB_of (List.mem_of_getElem? (i := 1732) rfl) rfl, xTB_of (List.mem_of_getElem? (i := 162) (by decide +kernel)) (by decide +kernel), by decide +kernel, by decide, by decide +kernel, by decide +kernel, by decide +kernel⟩
def mX12_common : xD := (cX12_common, yX12_common, 10, (some .long), 0, 0)
set_option maxRecDepth 100000 in
theorem md_X12_common : xMd mX12_common 2 := ⟨xTB_of (List.mem_of_getElem? (i := 1818) rfl) rfl, xTB_of (List.mem_of_getElem? (i := 162) (by decide +kernel)) (by decide +kernel), by decide +kernel, by decide, by decide +kernel, by decide +kernel, by decide +kernel⟩
def mX12_copyAll : xD := (cX12_copyAll, yX12_copyAll, 4, none, 0, 0)
set_option maxRecDepth 100000 in
theorem md_X12_copyAll : xMd mX12_copyAll 2 := ⟨xTB_of (List.mem_of_getElem? (i := 2019) rfl) rfl, xTB_of (List.mem_of_getElem? (i := 162) (by decide +kernel)) (by decide +kernel), by decide +kernel, by decide, by decide +kernel, by decide +kernel, by decide +kernel⟩
def mX12_copyRow : xD := (cX12_copyRow, yX12_copyRow, 5, none, 0, 0)
set_option maxRecDepth 100000 in
theorem md_X12_copyRow : xMd mX12_copyRow 4 := ⟨xTB_of (List.mem_of_getElem? (i := 2022) rfl) rfl, xTB_of (List.mem_of_getElem? (i := 162) (by decide +kernel)) (by decide +kernel), by decide +kernel, by decide, by decide +kernel, by decide +kernel, by decide +kernel⟩
def mX12_could : xD := (cX12_could, yX12_could, 6, (some .int), 0, 0)
set_option maxRecDepth 100000 in
theorem md_X12_could : xMd mX12_could 3 := ⟨xTB_of (List.mem_of_getElem? (i := 1866) rfl) rfl, xTB_of (List.mem_of_getElem? (i := 162) (by decide +kernel)) (by decide +kernel), by decide +kernel, by decide, by decide +kernel, by decide +kernel, by decide +kernel⟩
def mX12_couldAt : xD := (cX12_couldAt, yX12_couldAt, 4, (some .int), 0, 0)
set_option maxRecDepth 100000 in
theorem md_X12_couldAt : xMd mX12_couldAt 1 := ⟨xTB_of (List.mem_of_getElem? (i := 1890) rfl) rfl, xTB_of (List.mem_of_getElem? (i := 162) (by decide +kernel)) (by decide +kernel), by decide +kernel, by decide, by decide +kernel, by decide +kernel, by decide +kernel⟩
def mX12_count : xD := (cX12_count, yX12_count, 2, (some .int), 0, 0)
set_option maxRecDepth 100000 in
theorem md_X12_count : xMd mX12_count 1 := ⟨xTB_of (List.mem_of_getElem? (i := 2011) rfl) rfl, xTB_of (List.mem_of_getElem? (i := 162) (by decide +kernel)) (by decide +kernel), by decide +kernel, by decide, by decide +kernel, by decide +kernel, by decide +kernel⟩
def mX12_counts : xD := (cX12_counts, yX12_counts, 6, (some .int), 0, 0)
set_option maxRecDepth 100000 in
theorem md_X12_counts : xMd mX12_counts 3 := ⟨xTB_of (List.mem_of_getElem? (i := 1838) rfl) rfl, xTB_of (List.mem_of_getElem? (i := 162) (by decide +kernel)) (by decide +kernel), by decide +kernel, by decide, by decide +kernel, by decide +kernel, by decide +kernel⟩
def mX12_couplesWithout : xD := (cX12_couplesWithout, yX12_couplesWithout, 6, (some .int), 0, 0)
set_option maxRecDepth 100000 in
theorem md_X12_couplesWithout : xMd mX12_couplesWithout 1 := ⟨xTB_of (List.mem_of_getElem? (i := 1923) rfl) rfl, xTB_of (List.mem_of_getElem? (i := 162) (by decide +kernel)) (by decide +kernel), by decide +kernel, by decide, by decide +kernel, by decide +kernel, by decide +kernel⟩
def mX12_cut : xD := (cX12_cut, yX12_cut, 10, (some .int), 0, 0)
set_option maxRecDepth 100000 in
theorem md_X12_cut : xMd mX12_cut 5 := ⟨xTB_of (List.mem_of_getElem? (i := 1786) rfl) rfl, xTB_of (List.mem_of_getElem? (i := 162) (by decide +kernel)) (by decide +kernel), by decide +kernel, by decide, by decide +kernel, by decide +kernel, by decide +kernel⟩
def mX12_deed : xD := (cX12_deed, yX12_deed, 4, (some .int), 0, 0)
set_option maxRecDepth 100000 in
theorem md_X12_deed : xMd mX12_deed 3 := ⟨xTB_of (List.mem_of_getElem? (i := 1644) rfl) rfl, xTB_of (List.mem_of_getElem? (i := 162) (by decide +kernel)) (by decide +kernel), by decide +kernel, by decide, by decide +kernel, by decide +kernel, by decide +kernel⟩
def mX12_deedOf : xD := (cX12_deedOf, yX12_deedOf, 3, (some .int), 0, 0)
set_option maxRecDepth 100000 in
theorem md_X12_deedOf : xMd mX12_deedOf 2 := ⟨xTB_of (List.mem_of_getElem? (i := 1656) rfl) rfl, xTB_of (List.mem_of_getElem? (i := 162) (by decide +kernel)) (by decide +kernel), by decide +kernel, by decide, by decide +kernel, by decide +kernel, by decide +kernel⟩
def mX12_deeds : xD := (cX12_deeds, yX12_deeds, 1, (some .int), 0, 0)
set_option maxRecDepth 100000 in
theorem md_X12_deeds : xMd mX12_deeds 0 := ⟨xTB_of (List.mem_of_getElem? (i := 1652) rfl) rfl, xTB_of (List.mem_of_getElem? (i := 162) (by decide +kernel)) (by decide +kernel), by decide +kernel, by decide, by decide +kernel, by decide +kernel, by decide +kernel⟩
def mX12_does : xD := (cX12_does, yX12_does, 4, (some .boolean), 0, 0)
set_option maxRecDepth 100000 in
theorem md_X12_does : xMd mX12_does 3 := ⟨xTB_of (List.mem_of_getElem? (i := 1680) rfl) rfl, xTB_of (List.mem_of_getElem? (i := 162) (by decide +kernel)) (by decide +kernel), by decide +kernel, by decide, by decide +kernel, by decide +kernel, by decide +kernel⟩
def mX12_doesDeed : xD := (cX12_doesDeed, yX12_doesDeed, 2, (some .boolean), 0, 0)
set_option maxRecDepth 100000 in
theorem md_X12_doesDeed : xMd mX12_doesDeed 1 := ⟨xTB_of (List.mem_of_getElem? (i := 1676) rfl) rfl, xTB_of (List.mem_of_getElem? (i := 162) (by decide +kernel)) (by decide +kernel), by decide +kernel, by decide, by decide +kernel, by decide +kernel, by decide +kernel⟩
def mX12_doneSet : xD := (cX12_doneSet, yX12_doneSet, 3, (some .int), 0, 0)
set_option maxRecDepth 100000 in
theorem md_X12_doneSet : xMd mX12_doneSet 0 := ⟨xTB_of (List.mem_of_getElem? (i := 1720) rfl) rfl, xTB_of (List.mem_of_getElem? (i := 162) (by decide +kernel)) (by decide +kernel), by decide +kernel, by decide, by decide +kernel, by decide +kernel, by decide +kernel⟩
def mX12_draw : xD := (cX12_draw, yX12_draw, 2, (some .int), 0, 0)
set_option maxRecDepth 100000 in
theorem md_X12_draw : xMd mX12_draw 1 := ⟨xTB_of (List.mem_of_getElem? (i := 1902) rfl) rfl, xTB_of (List.mem_of_getElem? (i := 162) (by decide +kernel)) (by decide +kernel), by decide +kernel, by decide, by decide +kernel, by decide +kernel, by decide +kernel⟩
def mX12_drawDeed : xD := (cX12_drawDeed, yX12_drawDeed, 3, none, 0, 0)
set_option maxRecDepth 100000 in
theorem md_X12_drawDeed : xMd mX12_drawDeed 0 := ⟨xTB_of (List.mem_of_getElem? (i := 1898) rfl) rfl, xTB_of (List.mem_of_getElem? (i := 162) (by decide +kernel)) (by decide +kernel), by decide +kernel, by decide, by decide +kernel, by decide +kernel, by decide +kernel⟩
def mX12_drawn : xD := (cX12_drawn, yX12_drawn, 6, (some .int), 0, 0)
set_option maxRecDepth 100000 in
theorem md_X12_drawn : xMd mX12_drawn 4 := ⟨xTB_of (List.mem_of_getElem? (i := 1894) rfl) rfl, xTB_of (List.mem_of_getElem? (i := 162) (by decide +kernel)) (by decide +kernel), by decide +kernel, by decide, by decide +kernel, by decide +kernel, by decide +kernel⟩
def mX12_duty : xD := (cX12_duty, yX12_duty, 3, (some .int), 0, 0)
set_option maxRecDepth 100000 in
theorem md_X12_duty : xMd mX12_duty 2 := ⟨xTB_of (List.mem_of_getElem? (i := 1739) rfl) rfl, xTB_of (List.mem_of_getElem? (i := 162) (by decide +kernel)) (by decide +kernel), by decide +kernel, by decide, by decide +kernel, by decide +kernel, by decide +kernel⟩
def mX12_dutyOf : xD := (cX12_dutyOf, yX12_dutyOf, 4, (some .int), 0, 0)
set_option maxRecDepth 100000 in
theorem md_X12_dutyOf : xMd mX12_dutyOf 1 := ⟨xTB_of (List.mem_of_getElem? (i := 1743) rfl) rfl, xTB_of (List.mem_of_getElem? (i := 162) (by decide +kernel)) (by decide +kernel), by decide +kernel, by decide, by decide +kernel, by decide +kernel, by decide +kernel⟩
def mX12_elsewhere : xD := (cX12_elsewhere, yX12_elsewhere, 5, (some .int), 0, 0)
set_option maxRecDepth 100000 in
theorem md_X12_elsewhere : xMd mX12_elsewhere 2 := ⟨xTB_of (List.mem_of_getElem? (i := 1842) rfl) rfl, xTB_of (List.mem_of_getElem? (i := 162) (by decide +kernel)) (by decide +kernel), by decide +kernel, by decide, by decide +kernel, by decide +kernel, by decide +kernel⟩
def mX12_end : xD := (cX12_end, yX12_end, 2, (some .int), 0, 0)
set_option maxRecDepth 100000 in
theorem md_X12_end : xMd mX12_end 1 := ⟨xTB_of (List.mem_of_getElem? (i := 1508) rfl) rfl, xTB_of (List.mem_of_getElem? (i := 162) (by decide +kernel)) (by decide +kernel), by decide +kernel, by decide, by decide +kernel, by decide +kernel, by decide +kernel⟩
def mX12_endOf : xD := (cX12_endOf, yX12_endOf, 5, (some .int), 0, 0)
set_option maxRecDepth 100000 in
theorem md_X12_endOf : xMd mX12_endOf 1 := ⟨xTB_of (List.mem_of_getElem? (i := 1755) rfl) rfl, xTB_of (List.mem_of_getElem? (i := 162) (by decide +kernel)) (by decide +kernel), by decide +kernel, by decide, by decide +kernel, by decide +kernel, by decide +kernel⟩
def mX12_fails : xD := (cX12_fails, yX12_fails, 1, (some .boolean), 0, 0)
set_option maxRecDepth 100000 in
theorem md_X12_fails : xMd mX12_fails 0 := ⟨xTB_of (List.mem_of_getElem? (i := 1549) rfl) rfl, xTB_of (List.mem_of_getElem? (i := 162) (by decide +kernel)) (by decide +kernel), by decide +kernel, by decide, by decide +kernel, by decide +kernel, by decide +kernel⟩
def mX12_fault : xD := (cX12_fault, yX12_fault, 2, (some .int), 0, 0)
set_option maxRecDepth 100000 in
theorem md_X12_fault : xMd mX12_fault 1 := ⟨xTB_of (List.mem_of_getElem? (i := 1611) rfl) rfl, xTB_of (List.mem_of_getElem? (i := 162) (by decide +kernel)) (by decide +kernel), by decide +kernel, by decide, by decide +kernel, by decide +kernel, by decide +kernel⟩
def mX12_feed : xD := (cX12_feed, yX12_feed, 6, (some .int), 0, 0)
set_option maxRecDepth 100000 in
theorem md_X12_feed : xMd mX12_feed 5 := ⟨xTB_of (List.mem_of_getElem? (i := 1500) rfl) rfl, xTB_of (List.mem_of_getElem? (i := 162) (by decide +kernel)) (by decide +kernel), by decide +kernel, by decide, by decide +kernel, by decide +kernel, by decide +kernel⟩
def mX12_findBack : xD := (cX12_findBack, yX12_findBack, 6, none, 0, 0)
set_option maxRecDepth 100000 in
theorem md_X12_findBack : xMd mX12_findBack 0 := ⟨xTB_of (List.mem_of_getElem? (i := 1886) rfl) rfl, xTB_of (List.mem_of_getElem? (i := 162) (by decide +kernel)) (by decide +kernel), by decide +kernel, by decide, by decide +kernel, by decide +kernel, by decide +kernel⟩
def mX12_findForth : xD := (cX12_findForth, yX12_findForth, 6, none, 0, 0)
set_option maxRecDepth 100000 in
theorem md_X12_findForth : xMd mX12_findForth 0 := ⟨xTB_of (List.mem_of_getElem? (i := 1874) rfl) rfl, xTB_of (List.mem_of_getElem? (i := 162) (by decide +kernel)) (by decide +kernel), by decide +kernel, by decide, by decide +kernel, by decide +kernel, by decide +kernel⟩
def mX12_findLasts : xD := (cX12_findLasts, yX12_findLasts, 4, none, 0, 0)
set_option maxRecDepth 100000 in
theorem md_X12_findLasts : xMd mX12_findLasts 1 := ⟨xTB_of (List.mem_of_getElem? (i := 1627) rfl) rfl, xTB_of (List.mem_of_getElem? (i := 162) (by decide +kernel)) (by decide +kernel), by decide +kernel, by decide, by decide +kernel, by decide +kernel, by decide +kernel⟩
def mX12_findRound : xD := (cX12_findRound, yX12_findRound, 6, (some .int), 0, 0)
set_option maxRecDepth 100000 in
theorem md_X12_findRound : xMd mX12_findRound 1 := ⟨xTB_of (List.mem_of_getElem? (i := 1751) rfl) rfl, xTB_of (List.mem_of_getElem? (i := 162) (by decide +kernel)) (by decide +kernel), by decide +kernel, by decide, by decide +kernel, by decide +kernel, by decide +kernel⟩
def mX12_findWays : xD := (cX12_findWays, yX12_findWays, 5, (some .int), 0, 0)
set_option maxRecDepth 100000 in
theorem md_X12_findWays : xMd mX12_findWays 1 := ⟨xTB_of (List.mem_of_getElem? (i := 1959) rfl) rfl, xTB_of (List.mem_of_getElem? (i := 162) (by decide +kernel)) (by decide +kernel), by decide +kernel, by decide, by decide +kernel, by decide +kernel, by decide +kernel⟩
def mX12_firstComes : xD := (cX12_firstComes, yX12_firstComes, 3, (some .int), 0, 0)
set_option maxRecDepth 100000 in
theorem md_X12_firstComes : xMd mX12_firstComes 2 := ⟨xTB_of (List.mem_of_getElem? (i := 1771) rfl) rfl, xTB_of (List.mem_of_getElem? (i := 162) (by decide +kernel)) (by decide +kernel), by decide +kernel, by decide, by decide +kernel, by decide +kernel, by decide +kernel⟩
def mX12_four : xD := (cX12_four, yX12_four, 3, none, 0, 0)
set_option maxRecDepth 100000 in
theorem md_X12_four : xMd mX12_four 1 := ⟨xTB_of (List.mem_of_getElem? (i := 1504) rfl) rfl, xTB_of (List.mem_of_getElem? (i := 162) (by decide +kernel)) (by decide +kernel), by decide +kernel, by decide, by decide +kernel, by decide +kernel, by decide +kernel⟩
def mX12_full : xD := (cX12_full, yX12_full, 4, none, 0, 0)
set_option maxRecDepth 100000 in
theorem md_X12_full : xMd mX12_full 3 := ⟨xTB_of (List.mem_of_getElem? (i := 1553) rfl) rfl, xTB_of (List.mem_of_getElem? (i := 162) (by decide +kernel)) (by decide +kernel), by decide +kernel, by decide, by decide +kernel, by decide +kernel, by decide +kernel⟩
def mX12_gathered : xD := (cX12_gathered, yX12_gathered, 4, (some .int), 0, 0)
set_option maxRecDepth 100000 in
theorem md_X12_gathered : xMd mX12_gathered 2 := ⟨xTB_of (List.mem_of_getElem? (i := 1951) rfl) rfl, xTB_of (List.mem_of_getElem? (i := 162) (by decide +kernel)) (by decide +kernel), by decide +kernel, by decide, by decide +kernel, by decide +kernel, by decide +kernel⟩
def mX12_greater : xD := (cX12_greater, yX12_greater, 2, (some .int), 0, 0)
set_option maxRecDepth 100000 in
theorem md_X12_greater : xMd mX12_greater 2 := ⟨xTB_of (List.mem_of_getElem? (i := 1572) rfl) rfl, xTB_of (List.mem_of_getElem? (i := 162) (by decide +kernel)) (by decide +kernel), by decide +kernel, by decide, by decide +kernel, by decide +kernel, by decide +kernel⟩
def mX12_hand : xD := (cX12_hand, yX12_hand, 2, (some .boolean), 0, 0)
set_option maxRecDepth 100000 in
theorem md_X12_hand : xMd mX12_hand 1 := ⟨xTB_of (List.mem_of_getElem? (i := 1619) rfl) rfl, xTB_of (List.mem_of_getElem? (i := 162) (by decide +kernel)) (by decide +kernel), by decide +kernel, by decide, by decide +kernel, by decide +kernel, by decide +kernel⟩
def mX12_has : xD := (cX12_has, yX12_has, 2, (some .boolean), 0, 0)
set_option maxRecDepth 100000 in
theorem md_X12_has : xMd mX12_has 2 := ⟨xTB_of (List.mem_of_getElem? (i := 1603) rfl) rfl, xTB_of (List.mem_of_getElem? (i := 162) (by decide +kernel)) (by decide +kernel), by decide +kernel, by decide, by decide +kernel, by decide +kernel, by decide +kernel⟩
def mX12_hasLog : xD := (cX12_hasLog, yX12_hasLog, 2, (some .boolean), 0, 0)
set_option maxRecDepth 100000 in
theorem md_X12_hasLog : xMd mX12_hasLog 1 := ⟨xTB_of (List.mem_of_getElem? (i := 1854) rfl) rfl, xTB_of (List.mem_of_getElem? (i := 162) (by decide +kernel)) (by decide +kernel), by decide +kernel, by decide, by decide +kernel, by decide +kernel, by decide +kernel⟩
def mX12_hasMonth : xD := (cX12_hasMonth, yX12_hasMonth, 2, (some .boolean), 0, 0)
set_option maxRecDepth 100000 in
theorem md_X12_hasMonth : xMd mX12_hasMonth 1 := ⟨xTB_of (List.mem_of_getElem? (i := 1648) rfl) rfl, xTB_of (List.mem_of_getElem? (i := 162) (by decide +kernel)) (by decide +kernel), by decide +kernel, by decide, by decide +kernel, by decide +kernel, by decide +kernel⟩
def mX12_hourBy : xD := (cX12_hourBy, yX12_hourBy, 8, (some .int), 0, 0)
set_option maxRecDepth 100000 in
theorem md_X12_hourBy : xMd mX12_hourBy 3 := ⟨xTB_of (List.mem_of_getElem? (i := 1790) rfl) rfl, xTB_of (List.mem_of_getElem? (i := 162) (by decide +kernel)) (by decide +kernel), by decide +kernel, by decide, by decide +kernel, by decide +kernel, by decide +kernel⟩
def mX12_hub : xD := (cX12_hub, yX12_hub, 6, (some .int), 0, 0)
set_option maxRecDepth 100000 in
theorem md_X12_hub : xMd mX12_hub 1 := ⟨xTB_of (List.mem_of_getElem? (i := 1919) rfl) rfl, xTB_of (List.mem_of_getElem? (i := 162) (by decide +kernel)) (by decide +kernel), by decide +kernel, by decide, by decide +kernel, by decide +kernel, by decide +kernel⟩
def mX12_image : xD := (cX12_image, yX12_image, 2, (some .boolean), 0, 0)
set_option maxRecDepth 100000 in
theorem md_X12_image : xMd mX12_image 1 := ⟨xTB_of (List.mem_of_getElem? (i := 2015) rfl) rfl, xTB_of (List.mem_of_getElem? (i := 162) (by decide +kernel)) (by decide +kernel), by decide +kernel, by decide, by decide +kernel, by decide +kernel, by decide +kernel⟩
def mX12_in : xD := (cX12_in, yX12_in, 3, (some .boolean), 0, 0)
set_option maxRecDepth 100000 in
theorem md_X12_in : xMd mX12_in 3 := ⟨xTB_of (List.mem_of_getElem? (i := 1511) rfl) rfl, xTB_of (List.mem_of_getElem? (i := 162) (by decide +kernel)) (by decide +kernel), by decide +kernel, by decide, by decide +kernel, by decide +kernel, by decide +kernel⟩
def mX12_init : xD := (cX12_init, yX12_init, 1, none, 28, 6934)
set_option maxRecDepth 100000 in
theorem md_X12_init : xMd mX12_init 0 := ⟨xTB_of (List.mem_of_getElem? (i := 1337) rfl) rfl, xTB_of (List.mem_of_getElem? (i := 162) (by decide +kernel)) (by decide +kernel), by decide +kernel, by decide, by decide +kernel, by decide +kernel, by decide +kernel⟩
def mX12_is : xD := (cX12_is, yX12_is, 3, (some .boolean), 0, 0)
set_option maxRecDepth 100000 in
theorem md_X12_is : xMd mX12_is 2 := ⟨xTB_of (List.mem_of_getElem? (i := 1519) rfl) rfl, xTB_of (List.mem_of_getElem? (i := 162) (by decide +kernel)) (by decide +kernel), by decide +kernel, by decide, by decide +kernel, by decide +kernel, by decide +kernel⟩
def mX12_isClerk : xD := (cX12_isClerk, yX12_isClerk, 2, (some .boolean), 0, 0)
set_option maxRecDepth 100000 in
theorem md_X12_isClerk : xMd mX12_isClerk 1 := ⟨xTB_of (List.mem_of_getElem? (i := 1684) rfl) rfl, xTB_of (List.mem_of_getElem? (i := 162) (by decide +kernel)) (by decide +kernel), by decide +kernel, by decide, by decide +kernel, by decide +kernel, by decide +kernel⟩
def mX12_isElse : xD := (cX12_isElse, yX12_isElse, 7, (some .boolean), 0, 0)
set_option maxRecDepth 100000 in
theorem md_X12_isElse : xMd mX12_isElse 3 := ⟨xTB_of (List.mem_of_getElem? (i := 1846) rfl) rfl, xTB_of (List.mem_of_getElem? (i := 162) (by decide +kernel)) (by decide +kernel), by decide +kernel, by decide, by decide +kernel, by decide +kernel, by decide +kernel⟩
def mX12_isLand : xD := (cX12_isLand, yX12_isLand, 2, (some .boolean), 0, 0)
set_option maxRecDepth 100000 in
theorem md_X12_isLand : xMd mX12_isLand 1 := ⟨xTB_of (List.mem_of_getElem? (i := 1728) rfl) rfl, xTB_of (List.mem_of_getElem? (i := 162) (by decide +kernel)) (by decide +kernel), by decide +kernel, by decide, by decide +kernel, by decide +kernel, by decide +kernel⟩
def mX12_isPermit : xD := (cX12_isPermit, yX12_isPermit, 2, (some .boolean), 0, 0)
set_option maxRecDepth 100000 in
theorem md_X12_isPermit : xMd mX12_isPermit 1 := ⟨xTB_of (List.mem_of_getElem? (i := 1708) rfl) rfl, xTB_of (List.mem_of_getElem? (i := 162) (by decide +kernel)) (by decide +kernel), by decide +kernel, by decide, by decide +kernel, by decide +kernel, by decide +kernel⟩
def mX12_isTrain : xD := (cX12_isTrain, yX12_isTrain, 2, (some .boolean), 0, 0)
set_option maxRecDepth 100000 in
theorem md_X12_isTrain : xMd mX12_isTrain 1 := ⟨xTB_of (List.mem_of_getElem? (i := 1692) rfl) rfl, xTB_of (List.mem_of_getElem? (i := 162) (by decide +kernel)) (by decide +kernel), by decide +kernel, by decide, by decide +kernel, by decide +kernel, by decide +kernel⟩
def mX12_keep : xD := (cX12_keep, yX12_keep, 7, (some .boolean), 0, 0)
set_option maxRecDepth 100000 in
theorem md_X12_keep : xMd mX12_keep 4 := ⟨xTB_of (List.mem_of_getElem? (i := 1576) rfl) rfl, xTB_of (List.mem_of_getElem? (i := 162) (by decide +kernel)) (by decide +kernel), by decide +kernel, by decide, by decide +kernel, by decide +kernel, by decide +kernel⟩
def mX12_keepRow : xD := (cX12_keepRow, yX12_keepRow, 5, none, 0, 0)
set_option maxRecDepth 100000 in
theorem md_X12_keepRow : xMd mX12_keepRow 2 := ⟨xTB_of (List.mem_of_getElem? (i := 1591) rfl) rfl, xTB_of (List.mem_of_getElem? (i := 162) (by decide +kernel)) (by decide +kernel), by decide +kernel, by decide, by decide +kernel, by decide +kernel, by decide +kernel⟩
def mX12_key : xD := (cX12_key, yX12_key, 6, (some .int), 0, 0)
set_option maxRecDepth 100000 in
theorem md_X12_key : xMd mX12_key 1 := ⟨xTB_of (List.mem_of_getElem? (i := 1931) rfl) rfl, xTB_of (List.mem_of_getElem? (i := 162) (by decide +kernel)) (by decide +kernel), by decide +kernel, by decide, by decide +kernel, by decide +kernel, by decide +kernel⟩
def mX12_lackSet : xD := (cX12_lackSet, yX12_lackSet, 5, (some .int), 0, 0)
