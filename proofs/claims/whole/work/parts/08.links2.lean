set_option maxRecDepth 100000 in
theorem md_X12_lackSet : xMd mX12_lackSet 2 := ⟨xTB_of (List.mem_of_getElem? (i := 1979) rfl) rfl, xTB_of (List.mem_of_getElem? (i := 162) (by decide +kernel)) (by decide +kernel), by decide +kernel, by decide, by decide +kernel, by decide +kernel, by decide +kernel⟩
def mX12_lacks : xD := (cX12_lacks, yX12_lacks, 6, (some .int), 0, 0)
set_option maxRecDepth 100000 in
theorem md_X12_lacks : xMd mX12_lacks 3 := ⟨xTB_of (List.mem_of_getElem? (i := 1975) rfl) rfl, xTB_of (List.mem_of_getElem? (i := 162) (by decide +kernel)) (by decide +kernel), by decide +kernel, by decide, by decide +kernel, by decide +kernel, by decide +kernel⟩
def mX12_lands : xD := (cX12_lands, yX12_lands, 3, (some .int), 0, 0)
set_option maxRecDepth 100000 in
theorem md_X12_lands : xMd mX12_lands 2 := ⟨xTB_of (List.mem_of_getElem? (i := 1907) rfl) rfl, xTB_of (List.mem_of_getElem? (i := 162) (by decide +kernel)) (by decide +kernel), by decide +kernel, by decide, by decide +kernel, by decide +kernel, by decide +kernel⟩
def mX12_later : xD := (cX12_later, yX12_later, 3, none, 0, 0)
set_option maxRecDepth 100000 in
theorem md_X12_later : xMd mX12_later 2 := ⟨xTB_of (List.mem_of_getElem? (i := 1557) rfl) rfl, xTB_of (List.mem_of_getElem? (i := 162) (by decide +kernel)) (by decide +kernel), by decide +kernel, by decide, by decide +kernel, by decide +kernel, by decide +kernel⟩
def mX12_latest : xD := (cX12_latest, yX12_latest, 6, (some .int), 0, 0)
set_option maxRecDepth 100000 in
theorem md_X12_latest : xMd mX12_latest 4 := ⟨xTB_of (List.mem_of_getElem? (i := 1943) rfl) rfl, xTB_of (List.mem_of_getElem? (i := 162) (by decide +kernel)) (by decide +kernel), by decide +kernel, by decide, by decide +kernel, by decide +kernel, by decide +kernel⟩
def mX12_layAll : xD := (cX12_layAll, yX12_layAll, 3, (some .boolean), 0, 0)
set_option maxRecDepth 100000 in
theorem md_X12_layAll : xMd mX12_layAll 2 := ⟨xTB_of (List.mem_of_getElem? (i := 1664) rfl) rfl, xTB_of (List.mem_of_getElem? (i := 162) (by decide +kernel)) (by decide +kernel), by decide +kernel, by decide, by decide +kernel, by decide +kernel, by decide +kernel⟩
def mX12_layLog : xD := (cX12_layLog, yX12_layLog, 4, (some .boolean), 0, 0)
set_option maxRecDepth 100000 in
theorem md_X12_layLog : xMd mX12_layLog 2 := ⟨xTB_of (List.mem_of_getElem? (i := 1870) rfl) rfl, xTB_of (List.mem_of_getElem? (i := 162) (by decide +kernel)) (by decide +kernel), by decide +kernel, by decide, by decide +kernel, by decide +kernel, by decide +kernel⟩
def mX12_leaves : xD := (cX12_leaves, yX12_leaves, 3, (some .int), 0, 0)
set_option maxRecDepth 100000 in
theorem md_X12_leaves : xMd mX12_leaves 2 := ⟨xTB_of (List.mem_of_getElem? (i := 1636) rfl) rfl, xTB_of (List.mem_of_getElem? (i := 162) (by decide +kernel)) (by decide +kernel), by decide +kernel, by decide, by decide +kernel, by decide +kernel, by decide +kernel⟩
def mX12_ledge : xD := (cX12_ledge, yX12_ledge, 9, (some .int), 0, 0)
set_option maxRecDepth 100000 in
theorem md_X12_ledge : xMd mX12_ledge 3 := ⟨xTB_of (List.mem_of_getElem? (i := 1991) rfl) rfl, xTB_of (List.mem_of_getElem? (i := 162) (by decide +kernel)) (by decide +kernel), by decide +kernel, by decide, by decide +kernel, by decide +kernel, by decide +kernel⟩
def mX12_lesser : xD := (cX12_lesser, yX12_lesser, 2, (some .int), 0, 0)
set_option maxRecDepth 100000 in
theorem md_X12_lesser : xMd mX12_lesser 2 := ⟨xTB_of (List.mem_of_getElem? (i := 1735) rfl) rfl, xTB_of (List.mem_of_getElem? (i := 162) (by decide +kernel)) (by decide +kernel), by decide +kernel, by decide, by decide +kernel, by decide +kernel, by decide +kernel⟩
def mX12_lines : xD := (cX12_lines, yX12_lines, 6, (some .boolean), 0, 0)
set_option maxRecDepth 100000 in
theorem md_X12_lines : xMd mX12_lines 1 := ⟨xTB_of (List.mem_of_getElem? (i := 1535) rfl) rfl, xTB_of (List.mem_of_getElem? (i := 162) (by decide +kernel)) (by decide +kernel), by decide +kernel, by decide, by decide +kernel, by decide +kernel, by decide +kernel⟩
def mX12_logLine : xD := (cX12_logLine, yX12_logLine, 4, (some .boolean), 0, 0)
set_option maxRecDepth 100000 in
theorem md_X12_logLine : xMd mX12_logLine 2 := ⟨xTB_of (List.mem_of_getElem? (i := 1595) rfl) rfl, xTB_of (List.mem_of_getElem? (i := 162) (by decide +kernel)) (by decide +kernel), by decide +kernel, by decide, by decide +kernel, by decide +kernel, by decide +kernel⟩
def mX12_marked : xD := (cX12_marked, yX12_marked, 4, (some .boolean), 0, 0)
set_option maxRecDepth 100000 in
theorem md_X12_marked : xMd mX12_marked 2 := ⟨xTB_of (List.mem_of_getElem? (i := 1700) rfl) rfl, xTB_of (List.mem_of_getElem? (i := 162) (by decide +kernel)) (by decide +kernel), by decide +kernel, by decide, by decide +kernel, by decide +kernel, by decide +kernel⟩
def mX12_mayMark : xD := (cX12_mayMark, yX12_mayMark, 7, (some .boolean), 0, 0)
set_option maxRecDepth 100000 in
theorem md_X12_mayMark : xMd mX12_mayMark 2 := ⟨xTB_of (List.mem_of_getElem? (i := 1704) rfl) rfl, xTB_of (List.mem_of_getElem? (i := 162) (by decide +kernel)) (by decide +kernel), by decide +kernel, by decide, by decide +kernel, by decide +kernel, by decide +kernel⟩
def mX12_mayRide : xD := (cX12_mayRide, yX12_mayRide, 4, (some .boolean), 0, 0)
set_option maxRecDepth 100000 in
theorem md_X12_mayRide : xMd mX12_mayRide 2 := ⟨xTB_of (List.mem_of_getElem? (i := 1882) rfl) rfl, xTB_of (List.mem_of_getElem? (i := 162) (by decide +kernel)) (by decide +kernel), by decide +kernel, by decide, by decide +kernel, by decide +kernel, by decide +kernel⟩
def mX12_mayStand : xD := (cX12_mayStand, yX12_mayStand, 4, (some .boolean), 0, 0)
set_option maxRecDepth 100000 in
theorem md_X12_mayStand : xMd mX12_mayStand 2 := ⟨xTB_of (List.mem_of_getElem? (i := 1878) rfl) rfl, xTB_of (List.mem_of_getElem? (i := 162) (by decide +kernel)) (by decide +kernel), by decide +kernel, by decide, by decide +kernel, by decide +kernel, by decide +kernel⟩
def mX12_mean : xD := (cX12_mean, yX12_mean, 8, (some .long), 0, 0)
set_option maxRecDepth 100000 in
theorem md_X12_mean : xMd mX12_mean 5 := ⟨xTB_of (List.mem_of_getElem? (i := 1810) rfl) rfl, xTB_of (List.mem_of_getElem? (i := 162) (by decide +kernel)) (by decide +kernel), by decide +kernel, by decide, by decide +kernel, by decide +kernel, by decide +kernel⟩
def mX12_meetBy : xD := (cX12_meetBy, yX12_meetBy, 6, (some .int), 0, 0)
set_option maxRecDepth 100000 in
theorem md_X12_meetBy : xMd mX12_meetBy 1 := ⟨xTB_of (List.mem_of_getElem? (i := 1767) rfl) rfl, xTB_of (List.mem_of_getElem? (i := 162) (by decide +kernel)) (by decide +kernel), by decide +kernel, by decide, by decide +kernel, by decide +kernel, by decide +kernel⟩
def mX12_meeting : xD := (cX12_meeting, yX12_meeting, 6, (some .int), 0, 0)
set_option maxRecDepth 100000 in
theorem md_X12_meeting : xMd mX12_meeting 4 := ⟨xTB_of (List.mem_of_getElem? (i := 1763) rfl) rfl, xTB_of (List.mem_of_getElem? (i := 162) (by decide +kernel)) (by decide +kernel), by decide +kernel, by decide, by decide +kernel, by decide +kernel, by decide +kernel⟩
def mX12_monthLine : xD := (cX12_monthLine, yX12_monthLine, 5, (some .boolean), 0, 0)
set_option maxRecDepth 100000 in
theorem md_X12_monthLine : xMd mX12_monthLine 2 := ⟨xTB_of (List.mem_of_getElem? (i := 1584) rfl) rfl, xTB_of (List.mem_of_getElem? (i := 162) (by decide +kernel)) (by decide +kernel), by decide +kernel, by decide, by decide +kernel, by decide +kernel, by decide +kernel⟩
def mX12_needsLine : xD := (cX12_needsLine, yX12_needsLine, 1, (some .boolean), 0, 0)
set_option maxRecDepth 100000 in
theorem md_X12_needsLine : xMd mX12_needsLine 0 := ⟨xTB_of (List.mem_of_getElem? (i := 1580) rfl) rfl, xTB_of (List.mem_of_getElem? (i := 162) (by decide +kernel)) (by decide +kernel), by decide +kernel, by decide, by decide +kernel, by decide +kernel, by decide +kernel⟩
def mX12_needsOwn : xD := (cX12_needsOwn, yX12_needsOwn, 2, (some .boolean), 0, 0)
set_option maxRecDepth 100000 in
theorem md_X12_needsOwn : xMd mX12_needsOwn 0 := ⟨xTB_of (List.mem_of_getElem? (i := 1600) rfl) rfl, xTB_of (List.mem_of_getElem? (i := 162) (by decide +kernel)) (by decide +kernel), by decide +kernel, by decide, by decide +kernel, by decide +kernel, by decide +kernel⟩
def mX12_nextOrder : xD := (cX12_nextOrder, yX12_nextOrder, 6, (some .boolean), 0, 0)
set_option maxRecDepth 100000 in
theorem md_X12_nextOrder : xMd mX12_nextOrder 0 := ⟨xTB_of (List.mem_of_getElem? (i := 1759) rfl) rfl, xTB_of (List.mem_of_getElem? (i := 162) (by decide +kernel)) (by decide +kernel), by decide +kernel, by decide, by decide +kernel, by decide +kernel, by decide +kernel⟩
def mX12_of : xD := (cX12_of, yX12_of, 2, (some .int), 0, 0)
set_option maxRecDepth 100000 in
theorem md_X12_of : xMd mX12_of 1 := ⟨xTB_of (List.mem_of_getElem? (i := 1623) rfl) rfl, xTB_of (List.mem_of_getElem? (i := 162) (by decide +kernel)) (by decide +kernel), by decide +kernel, by decide, by decide +kernel, by decide +kernel, by decide +kernel⟩
def mX12_ofState : xD := (cX12_ofState, yX12_ofState, 6, (some .int), 0, 0)
set_option maxRecDepth 100000 in
theorem md_X12_ofState : xMd mX12_ofState 1 := ⟨xTB_of (List.mem_of_getElem? (i := 1716) rfl) rfl, xTB_of (List.mem_of_getElem? (i := 162) (by decide +kernel)) (by decide +kernel), by decide +kernel, by decide, by decide +kernel, by decide +kernel, by decide +kernel⟩
def mX12_offices : xD := (cX12_offices, yX12_offices, 8, (some .int), 0, 0)
set_option maxRecDepth 100000 in
theorem md_X12_offices : xMd mX12_offices 3 := ⟨xTB_of (List.mem_of_getElem? (i := 1775) rfl) rfl, xTB_of (List.mem_of_getElem? (i := 162) (by decide +kernel)) (by decide +kernel), by decide +kernel, by decide, by decide +kernel, by decide +kernel, by decide +kernel⟩
def mX12_oneTurn : xD := (cX12_oneTurn, yX12_oneTurn, 7, (some .int), 0, 0)
set_option maxRecDepth 100000 in
theorem md_X12_oneTurn : xMd mX12_oneTurn 4 := ⟨xTB_of (List.mem_of_getElem? (i := 1798) rfl) rfl, xTB_of (List.mem_of_getElem? (i := 162) (by decide +kernel)) (by decide +kernel), by decide +kernel, by decide, by decide +kernel, by decide +kernel, by decide +kernel⟩
def mX12_ones : xD := (cX12_ones, yX12_ones, 3, (some .int), 0, 0)
set_option maxRecDepth 100000 in
theorem md_X12_ones : xMd mX12_ones 1 := ⟨xTB_of (List.mem_of_getElem? (i := 1778) rfl) rfl, xTB_of (List.mem_of_getElem? (i := 162) (by decide +kernel)) (by decide +kernel), by decide +kernel, by decide, by decide +kernel, by decide +kernel, by decide +kernel⟩
def mX12_opens : xD := (cX12_opens, yX12_opens, 3, none, 0, 0)
set_option maxRecDepth 100000 in
theorem md_X12_opens : xMd mX12_opens 0 := ⟨xTB_of (List.mem_of_getElem? (i := 1672) rfl) rfl, xTB_of (List.mem_of_getElem? (i := 162) (by decide +kernel)) (by decide +kernel), by decide +kernel, by decide, by decide +kernel, by decide +kernel, by decide +kernel⟩
def mX12_orderOf : xD := (cX12_orderOf, yX12_orderOf, 7, (some .int), 0, 0)
set_option maxRecDepth 100000 in
theorem md_X12_orderOf : xMd mX12_orderOf 2 := ⟨xTB_of (List.mem_of_getElem? (i := 1971) rfl) rfl, xTB_of (List.mem_of_getElem? (i := 162) (by decide +kernel)) (by decide +kernel), by decide +kernel, by decide, by decide +kernel, by decide +kernel, by decide +kernel⟩
def mX12_orders : xD := (cX12_orders, yX12_orders, 6, (some .int), 0, 0)
set_option maxRecDepth 100000 in
theorem md_X12_orders : xMd mX12_orders 3 := ⟨xTB_of (List.mem_of_getElem? (i := 1955) rfl) rfl, xTB_of (List.mem_of_getElem? (i := 162) (by decide +kernel)) (by decide +kernel), by decide +kernel, by decide, by decide +kernel, by decide +kernel, by decide +kernel⟩
def mX12_part : xD := (cX12_part, yX12_part, 5, (some .long), 0, 0)
set_option maxRecDepth 100000 in
theorem md_X12_part : xMd mX12_part 3 := ⟨xTB_of (List.mem_of_getElem? (i := 1815) rfl) rfl, xTB_of (List.mem_of_getElem? (i := 162) (by decide +kernel)) (by decide +kernel), by decide +kernel, by decide, by decide +kernel, by decide +kernel, by decide +kernel⟩
def mX12_play : xD := (cX12_play, yX12_play, 3, (some .int), 0, 0)
set_option maxRecDepth 100000 in
theorem md_X12_play : xMd mX12_play 1 := ⟨xTB_of (List.mem_of_getElem? (i := 1668) rfl) rfl, xTB_of (List.mem_of_getElem? (i := 162) (by decide +kernel)) (by decide +kernel), by decide +kernel, by decide, by decide +kernel, by decide +kernel, by decide +kernel⟩
def mX12_rail : xD := (cX12_rail, yX12_rail, 4, (some .int), 0, 0)
set_option maxRecDepth 100000 in
theorem md_X12_rail : xMd mX12_rail 2 := ⟨xTB_of (List.mem_of_getElem? (i := 1615) rfl) rfl, xTB_of (List.mem_of_getElem? (i := 162) (by decide +kernel)) (by decide +kernel), by decide +kernel, by decide, by decide +kernel, by decide +kernel, by decide +kernel⟩
def mX12_railLine : xD := (cX12_railLine, yX12_railLine, 5, (some .boolean), 0, 0)
set_option maxRecDepth 100000 in
theorem md_X12_railLine : xMd mX12_railLine 2 := ⟨xTB_of (List.mem_of_getElem? (i := 1539) rfl) rfl, xTB_of (List.mem_of_getElem? (i := 162) (by decide +kernel)) (by decide +kernel), by decide +kernel, by decide, by decide +kernel, by decide +kernel, by decide +kernel⟩
def mX12_reach : xD := (cX12_reach, yX12_reach, 4, (some .int), 0, 0)
set_option maxRecDepth 100000 in
theorem md_X12_reach : xMd mX12_reach 1 := ⟨xTB_of (List.mem_of_getElem? (i := 1911) rfl) rfl, xTB_of (List.mem_of_getElem? (i := 162) (by decide +kernel)) (by decide +kernel), by decide +kernel, by decide, by decide +kernel, by decide +kernel, by decide +kernel⟩
def mX12_readText : xD := (cX12_readText, yX12_readText, 3, (some .boolean), 0, 0)
set_option maxRecDepth 100000 in
theorem md_X12_readText : xMd mX12_readText 1 := ⟨xTB_of (List.mem_of_getElem? (i := 1523) rfl) rfl, xTB_of (List.mem_of_getElem? (i := 162) (by decide +kernel)) (by decide +kernel), by decide +kernel, by decide, by decide +kernel, by decide +kernel, by decide +kernel⟩
def mX12_readyIn : xD := (cX12_readyIn, yX12_readyIn, 8, (some .int), 0, 0)
set_option maxRecDepth 100000 in
theorem md_X12_readyIn : xMd mX12_readyIn 2 := ⟨xTB_of (List.mem_of_getElem? (i := 1987) rfl) rfl, xTB_of (List.mem_of_getElem? (i := 162) (by decide +kernel)) (by decide +kernel), by decide +kernel, by decide, by decide +kernel, by decide +kernel, by decide +kernel⟩
def mX12_rides : xD := (cX12_rides, yX12_rides, 4, (some .boolean), 0, 0)
set_option maxRecDepth 100000 in
theorem md_X12_rides : xMd mX12_rides 2 := ⟨xTB_of (List.mem_of_getElem? (i := 1688) rfl) rfl, xTB_of (List.mem_of_getElem? (i := 162) (by decide +kernel)) (by decide +kernel), by decide +kernel, by decide, by decide +kernel, by decide +kernel, by decide +kernel⟩
def mX12_ring : xD := (cX12_ring, yX12_ring, 4, (some .int), 0, 0)
set_option maxRecDepth 100000 in
theorem md_X12_ring : xMd mX12_ring 2 := ⟨xTB_of (List.mem_of_getElem? (i := 1822) rfl) rfl, xTB_of (List.mem_of_getElem? (i := 162) (by decide +kernel)) (by decide +kernel), by decide +kernel, by decide, by decide +kernel, by decide +kernel, by decide +kernel⟩
def mX12_ringAmong : xD := (cX12_ringAmong, yX12_ringAmong, 8, (some .int), 0, 0)
set_option maxRecDepth 100000 in
theorem md_X12_ringAmong : xMd mX12_ringAmong 1 := ⟨xTB_of (List.mem_of_getElem? (i := 1830) rfl) rfl, xTB_of (List.mem_of_getElem? (i := 162) (by decide +kernel)) (by decide +kernel), by decide +kernel, by decide, by decide +kernel, by decide +kernel, by decide +kernel⟩
def mX12_round : xD := (cX12_round, yX12_round, 5, (some .int), 0, 0)
set_option maxRecDepth 100000 in
theorem md_X12_round : xMd mX12_round 3 := ⟨xTB_of (List.mem_of_getElem? (i := 1747) rfl) rfl, xTB_of (List.mem_of_getElem? (i := 162) (by decide +kernel)) (by decide +kernel), by decide +kernel, by decide, by decide +kernel, by decide +kernel, by decide +kernel⟩
def mX12_see : xD := (cX12_see, yX12_see, 1, (some .int), 0, 0)
set_option maxRecDepth 100000 in
theorem md_X12_see : xMd mX12_see 0 := ⟨xTB_of (List.mem_of_getElem? (i := 1531) rfl) rfl, xTB_of (List.mem_of_getElem? (i := 162) (by decide +kernel)) (by decide +kernel), by decide +kernel, by decide, by decide +kernel, by decide +kernel, by decide +kernel⟩
def mX12_shortens : xD := (cX12_shortens, yX12_shortens, 9, (some .boolean), 0, 0)
set_option maxRecDepth 100000 in
theorem md_X12_shortens : xMd mX12_shortens 1 := ⟨xTB_of (List.mem_of_getElem? (i := 1632) rfl) rfl, xTB_of (List.mem_of_getElem? (i := 162) (by decide +kernel)) (by decide +kernel), by decide +kernel, by decide, by decide +kernel, by decide +kernel, by decide +kernel⟩
def mX12_sight : xD := (cX12_sight, yX12_sight, 4, (some .int), 0, 0)
set_option maxRecDepth 100000 in
theorem md_X12_sight : xMd mX12_sight 3 := ⟨xTB_of (List.mem_of_getElem? (i := 1850) rfl) rfl, xTB_of (List.mem_of_getElem? (i := 162) (by decide +kernel)) (by decide +kernel), by decide +kernel, by decide, by decide +kernel, by decide +kernel, by decide +kernel⟩
def mX12_sightOf : xD := (cX12_sightOf, yX12_sightOf, 3, (some .int), 0, 0)
set_option maxRecDepth 100000 in
theorem md_X12_sightOf : xMd mX12_sightOf 2 := ⟨xTB_of (List.mem_of_getElem? (i := 1862) rfl) rfl, xTB_of (List.mem_of_getElem? (i := 162) (by decide +kernel)) (by decide +kernel), by decide +kernel, by decide, by decide +kernel, by decide +kernel, by decide +kernel⟩
def mX12_sights : xD := (cX12_sights, yX12_sights, 1, (some .int), 0, 0)
set_option maxRecDepth 100000 in
theorem md_X12_sights : xMd mX12_sights 0 := ⟨xTB_of (List.mem_of_getElem? (i := 1858) rfl) rfl, xTB_of (List.mem_of_getElem? (i := 162) (by decide +kernel)) (by decide +kernel), by decide +kernel, by decide, by decide +kernel, by decide +kernel, by decide +kernel⟩
def mX12_soonest : xD := (cX12_soonest, yX12_soonest, 9, (some .int), 0, 0)
set_option maxRecDepth 100000 in
theorem md_X12_soonest : xMd mX12_soonest 5 := ⟨xTB_of (List.mem_of_getElem? (i := 1724) rfl) rfl, xTB_of (List.mem_of_getElem? (i := 162) (by decide +kernel)) (by decide +kernel), by decide +kernel, by decide, by decide +kernel, by decide +kernel, by decide +kernel⟩
def mX12_spares : xD := (cX12_spares, yX12_spares, 5, (some .int), 0, 0)
set_option maxRecDepth 100000 in
theorem md_X12_spares : xMd mX12_spares 0 := ⟨xTB_of (List.mem_of_getElem? (i := 1939) rfl) rfl, xTB_of (List.mem_of_getElem? (i := 162) (by decide +kernel)) (by decide +kernel), by decide +kernel, by decide, by decide +kernel, by decide +kernel, by decide +kernel⟩
def mX12_state : xD := (cX12_state, yX12_state, 5, (some .int), 0, 0)
set_option maxRecDepth 100000 in
theorem md_X12_state : xMd mX12_state 4 := ⟨xTB_of (List.mem_of_getElem? (i := 1712) rfl) rfl, xTB_of (List.mem_of_getElem? (i := 162) (by decide +kernel)) (by decide +kernel), by decide +kernel, by decide, by decide +kernel, by decide +kernel, by decide +kernel⟩
def mX12_store : xD := (cX12_store, yX12_store, 5, none, 0, 0)
set_option maxRecDepth 100000 in
theorem md_X12_store : xMd mX12_store 3 := ⟨xTB_of (List.mem_of_getElem? (i := 1607) rfl) rfl, xTB_of (List.mem_of_getElem? (i := 162) (by decide +kernel)) (by decide +kernel), by decide +kernel, by decide, by decide +kernel, by decide +kernel, by decide +kernel⟩
def mX12_stuck : xD := (cX12_stuck, yX12_stuck, 4, (some .int), 0, 0)
set_option maxRecDepth 100000 in
theorem md_X12_stuck : xMd mX12_stuck 1 := ⟨xTB_of (List.mem_of_getElem? (i := 2003) rfl) rfl, xTB_of (List.mem_of_getElem? (i := 162) (by decide +kernel)) (by decide +kernel), by decide +kernel, by decide, by decide +kernel, by decide +kernel, by decide +kernel⟩
def mX12_take : xD := (cX12_take, yX12_take, 4, (some .boolean), 0, 0)
set_option maxRecDepth 100000 in
theorem md_X12_take : xMd mX12_take 3 := ⟨xTB_of (List.mem_of_getElem? (i := 1561) rfl) rfl, xTB_of (List.mem_of_getElem? (i := 162) (by decide +kernel)) (by decide +kernel), by decide +kernel, by decide, by decide +kernel, by decide +kernel, by decide +kernel⟩
def mX12_takeBut : xD := (cX12_takeBut, yX12_takeBut, 5, (some .boolean), 0, 0)
set_option maxRecDepth 100000 in
theorem md_X12_takeBut : xMd mX12_takeBut 4 := ⟨xTB_of (List.mem_of_getElem? (i := 1565) rfl) rfl, xTB_of (List.mem_of_getElem? (i := 162) (by decide +kernel)) (by decide +kernel), by decide +kernel, by decide, by decide +kernel, by decide +kernel, by decide +kernel⟩
def mX12_takeLand : xD := (cX12_takeLand, yX12_takeLand, 3, (some .boolean), 0, 0)
set_option maxRecDepth 100000 in
theorem md_X12_takeLand : xMd mX12_takeLand 2 := ⟨xTB_of (List.mem_of_getElem? (i := 1569) rfl) rfl, xTB_of (List.mem_of_getElem? (i := 162) (by decide +kernel)) (by decide +kernel), by decide +kernel, by decide, by decide +kernel, by decide +kernel, by decide +kernel⟩
def mX12_text : xD := (cX12_text, yX12_text, 4, (some .int), 0, 0)
set_option maxRecDepth 100000 in
theorem md_X12_text : xMd mX12_text 2 := ⟨xTB_of (List.mem_of_getElem? (i := 1515) rfl) rfl, xTB_of (List.mem_of_getElem? (i := 162) (by decide +kernel)) (by decide +kernel), by decide +kernel, by decide, by decide +kernel, by decide +kernel, by decide +kernel⟩
def mX12_till : xD := (cX12_till, yX12_till, 3, (some .int), 0, 0)
set_option maxRecDepth 100000 in
theorem md_X12_till : xMd mX12_till 2 := ⟨xTB_of (List.mem_of_getElem? (i := 1660) rfl) rfl, xTB_of (List.mem_of_getElem? (i := 162) (by decide +kernel)) (by decide +kernel), by decide +kernel, by decide, by decide +kernel, by decide +kernel, by decide +kernel⟩
def mX12_toOffice : xD := (cX12_toOffice, yX12_toOffice, 6, (some .int), 0, 0)
set_option maxRecDepth 100000 in
theorem md_X12_toOffice : xMd mX12_toOffice 1 := ⟨xTB_of (List.mem_of_getElem? (i := 1782) rfl) rfl, xTB_of (List.mem_of_getElem? (i := 162) (by decide +kernel)) (by decide +kernel), by decide +kernel, by decide, by decide +kernel, by decide +kernel, by decide +kernel⟩
def mX12_token : xD := (cX12_token, yX12_token, 3, none, 0, 0)
set_option maxRecDepth 100000 in
theorem md_X12_token : xMd mX12_token 0 := ⟨xTB_of (List.mem_of_getElem? (i := 1527) rfl) rfl, xTB_of (List.mem_of_getElem? (i := 162) (by decide +kernel)) (by decide +kernel), by decide +kernel, by decide, by decide +kernel, by decide +kernel, by decide +kernel⟩
def mX12_trains : xD := (cX12_trains, yX12_trains, 3, (some .int), 0, 0)
set_option maxRecDepth 100000 in
theorem md_X12_trains : xMd mX12_trains 2 := ⟨xTB_of (List.mem_of_getElem? (i := 1927) rfl) rfl, xTB_of (List.mem_of_getElem? (i := 162) (by decide +kernel)) (by decide +kernel), by decide +kernel, by decide, by decide +kernel, by decide +kernel, by decide +kernel⟩
def mX12_twoTurns : xD := (cX12_twoTurns, yX12_twoTurns, 7, (some .int), 0, 0)
set_option maxRecDepth 100000 in
theorem md_X12_twoTurns : xMd mX12_twoTurns 4 := ⟨xTB_of (List.mem_of_getElem? (i := 1806) rfl) rfl, xTB_of (List.mem_of_getElem? (i := 162) (by decide +kernel)) (by decide +kernel), by decide +kernel, by decide, by decide +kernel, by decide +kernel, by decide +kernel⟩
def mX12_waits : xD := (cX12_waits, yX12_waits, 3, (some .boolean), 0, 0)
set_option maxRecDepth 100000 in
theorem md_X12_waits : xMd mX12_waits 2 := ⟨xTB_of (List.mem_of_getElem? (i := 1696) rfl) rfl, xTB_of (List.mem_of_getElem? (i := 162) (by decide +kernel)) (by decide +kernel), by decide +kernel, by decide, by decide +kernel, by decide +kernel, by decide +kernel⟩
def mX12_waysBy : xD := (cX12_waysBy, yX12_waysBy, 5, (some .int), 0, 0)
set_option maxRecDepth 100000 in
theorem md_X12_waysBy : xMd mX12_waysBy 3 := ⟨xTB_of (List.mem_of_getElem? (i := 1963) rfl) rfl, xTB_of (List.mem_of_getElem? (i := 162) (by decide +kernel)) (by decide +kernel), by decide +kernel, by decide, by decide +kernel, by decide +kernel, by decide +kernel⟩
def mX12_widest : xD := (cX12_widest, yX12_widest, 5, (some .int), 0, 0)
set_option maxRecDepth 100000 in
theorem md_X12_widest : xMd mX12_widest 0 := ⟨xTB_of (List.mem_of_getElem? (i := 1915) rfl) rfl, xTB_of (List.mem_of_getElem? (i := 162) (by decide +kernel)) (by decide +kernel), by decide +kernel, by decide, by decide +kernel, by decide +kernel, by decide +kernel⟩
def mX1_answer : xD := (cX1_answer, yX1_answer, 4, (some .int), 0, 0)
set_option maxRecDepth 100000 in
theorem md_X1_answer : xMd mX1_answer 2 := ⟨xTB_of (List.mem_of_getElem? (i := 907) rfl) rfl, xTB_of (List.mem_of_getElem? (i := 156) (by decide +kernel)) (by decide +kernel), by decide +kernel, by decide, by decide +kernel, by decide +kernel, by decide +kernel⟩
def mX1_answerAfter : xD := (cX1_answerAfter, yX1_answerAfter, 4, (some .int), 0, 0)
set_option maxRecDepth 100000 in
theorem md_X1_answerAfter : xMd mX1_answerAfter 2 := ⟨xTB_of (List.mem_of_getElem? (i := 1309) rfl) rfl, xTB_of (List.mem_of_getElem? (i := 156) (by decide +kernel)) (by decide +kernel), by decide +kernel, by decide, by decide +kernel, by decide +kernel, by decide +kernel⟩
def mX1_answerAll : xD := (cX1_answerAll, yX1_answerAll, 3, (some .int), 0, 0)
set_option maxRecDepth 100000 in
theorem md_X1_answerAll : xMd mX1_answerAll 2 := ⟨xTB_of (List.mem_of_getElem? (i := 915) rfl) rfl, xTB_of (List.mem_of_getElem? (i := 156) (by decide +kernel)) (by decide +kernel), by decide +kernel, by decide, by decide +kernel, by decide +kernel, by decide +kernel⟩
def mX1_answerMarkHour : xD := (cX1_answerMarkHour, yX1_answerMarkHour, 4, (some .int), 0, 0)
set_option maxRecDepth 100000 in
theorem md_X1_answerMarkHour : xMd mX1_answerMarkHour 3 := ⟨xTB_of (List.mem_of_getElem? (i := 911) rfl) rfl, xTB_of (List.mem_of_getElem? (i := 156) (by decide +kernel)) (by decide +kernel), by decide +kernel, by decide, by decide +kernel, by decide +kernel, by decide +kernel⟩
def mX1_begin : xD := (cX1_begin, yX1_begin, 3, none, 0, 0)
set_option maxRecDepth 100000 in
theorem md_X1_begin : xMd mX1_begin 1 := ⟨xTB_of (List.mem_of_getElem? (i := 863) rfl) rfl, xTB_of (List.mem_of_getElem? (i := 156) (by decide +kernel)) (by decide +kernel), by decide +kernel, by decide, by decide +kernel, by decide +kernel, by decide +kernel⟩
def mX1_donePermits : xD := (cX1_donePermits, yX1_donePermits, 4, (some .int), 0, 0)
set_option maxRecDepth 100000 in
theorem md_X1_donePermits : xMd mX1_donePermits 1 := ⟨xTB_of (List.mem_of_getElem? (i := 929) rfl) rfl, xTB_of (List.mem_of_getElem? (i := 156) (by decide +kernel)) (by decide +kernel), by decide +kernel, by decide, by decide +kernel, by decide +kernel, by decide +kernel⟩
def mX1_draw : xD := (cX1_draw, yX1_draw, 2, (some .int), 0, 0)
set_option maxRecDepth 100000 in
theorem md_X1_draw : xMd mX1_draw 1 := ⟨xTB_of (List.mem_of_getElem? (i := 1153) rfl) rfl, xTB_of (List.mem_of_getElem? (i := 156) (by decide +kernel)) (by decide +kernel), by decide +kernel, by decide, by decide +kernel, by decide +kernel, by decide +kernel⟩
def mX1_drawTurn : xD := (cX1_drawTurn, yX1_drawTurn, 4, none, 0, 0)
set_option maxRecDepth 100000 in
theorem md_X1_drawTurn : xMd mX1_drawTurn 1 := ⟨xTB_of (List.mem_of_getElem? (i := 1149) rfl) rfl, xTB_of (List.mem_of_getElem? (i := 156) (by decide +kernel)) (by decide +kernel), by decide +kernel, by decide, by decide +kernel, by decide +kernel, by decide +kernel⟩
def mX1_howManyMarks : xD := (cX1_howManyMarks, yX1_howManyMarks, 4, (some .int), 0, 0)
set_option maxRecDepth 100000 in
theorem md_X1_howManyMarks : xMd mX1_howManyMarks 1 := ⟨xTB_of (List.mem_of_getElem? (i := 919) rfl) rfl, xTB_of (List.mem_of_getElem? (i := 156) (by decide +kernel)) (by decide +kernel), by decide +kernel, by decide, by decide +kernel, by decide +kernel, by decide +kernel⟩
def mX1_init : xD := (cX1_init, yX1_init, 1, none, 7, 76)
set_option maxRecDepth 100000 in
theorem md_X1_init : xMd mX1_init 0 := ⟨xTB_of (List.mem_of_getElem? (i := 448) rfl) rfl, xTB_of (List.mem_of_getElem? (i := 156) (by decide +kernel)) (by decide +kernel), by decide +kernel, by decide, by decide +kernel, by decide +kernel, by decide +kernel⟩
def mX1_latestClerk : xD := (cX1_latestClerk, yX1_latestClerk, 4, (some .int), 0, 0)
set_option maxRecDepth 100000 in
theorem md_X1_latestClerk : xMd mX1_latestClerk 1 := ⟨xTB_of (List.mem_of_getElem? (i := 933) rfl) rfl, xTB_of (List.mem_of_getElem? (i := 156) (by decide +kernel)) (by decide +kernel), by decide +kernel, by decide, by decide +kernel, by decide +kernel, by decide +kernel⟩
def mX1_lawsKept : xD := (cX1_lawsKept, yX1_lawsKept, 7, (some .boolean), 0, 0)
set_option maxRecDepth 100000 in
theorem md_X1_lawsKept : xMd mX1_lawsKept 3 := ⟨xTB_of (List.mem_of_getElem? (i := 899) rfl) rfl, xTB_of (List.mem_of_getElem? (i := 156) (by decide +kernel)) (by decide +kernel), by decide +kernel, by decide, by decide +kernel, by decide +kernel, by decide +kernel⟩
def mX1_mayMark : xD := (cX1_mayMark, yX1_mayMark, 5, (some .boolean), 0, 0)
set_option maxRecDepth 100000 in
theorem md_X1_mayMark : xMd mX1_mayMark 3 := ⟨xTB_of (List.mem_of_getElem? (i := 894) rfl) rfl, xTB_of (List.mem_of_getElem? (i := 156) (by decide +kernel)) (by decide +kernel), by decide +kernel, by decide, by decide +kernel, by decide +kernel, by decide +kernel⟩
def mX1_openPermits : xD := (cX1_openPermits, yX1_openPermits, 5, (some .int), 0, 0)
set_option maxRecDepth 100000 in
theorem md_X1_openPermits : xMd mX1_openPermits 2 := ⟨xTB_of (List.mem_of_getElem? (i := 1313) rfl) rfl, xTB_of (List.mem_of_getElem? (i := 156) (by decide +kernel)) (by decide +kernel), by decide +kernel, by decide, by decide +kernel, by decide +kernel, by decide +kernel⟩
def mX1_perform : xD := (cX1_perform, yX1_perform, 5, (some .boolean), 0, 0)
set_option maxRecDepth 100000 in
theorem md_X1_perform : xMd mX1_perform 4 := ⟨xTB_of (List.mem_of_getElem? (i := 871) rfl) rfl, xTB_of (List.mem_of_getElem? (i := 156) (by decide +kernel)) (by decide +kernel), by decide +kernel, by decide, by decide +kernel, by decide +kernel, by decide +kernel⟩
def mX1_runMonth : xD := (cX1_runMonth, yX1_runMonth, 6, (some .int), 0, 0)
set_option maxRecDepth 100000 in
theorem md_X1_runMonth : xMd mX1_runMonth 3 := ⟨xTB_of (List.mem_of_getElem? (i := 859) rfl) rfl, xTB_of (List.mem_of_getElem? (i := 156) (by decide +kernel)) (by decide +kernel), by decide +kernel, by decide, by decide +kernel, by decide +kernel, by decide +kernel⟩
def mX1_runSeed : xD := (cX1_runSeed, yX1_runSeed, 5, none, 0, 0)
set_option maxRecDepth 100000 in
theorem md_X1_runSeed : xMd mX1_runSeed 3 := ⟨xTB_of (List.mem_of_getElem? (i := 1145) rfl) rfl, xTB_of (List.mem_of_getElem? (i := 156) (by decide +kernel)) (by decide +kernel), by decide +kernel, by decide, by decide +kernel, by decide +kernel, by decide +kernel⟩
def mX1_tryMark : xD := (cX1_tryMark, yX1_tryMark, 5, (some .boolean), 0, 0)
set_option maxRecDepth 100000 in
theorem md_X1_tryMark : xMd mX1_tryMark 3 := ⟨xTB_of (List.mem_of_getElem? (i := 890) rfl) rfl, xTB_of (List.mem_of_getElem? (i := 156) (by decide +kernel)) (by decide +kernel), by decide +kernel, by decide, by decide +kernel, by decide +kernel, by decide +kernel⟩
def mX1_tryRide : xD := (cX1_tryRide, yX1_tryRide, 5, (some .boolean), 0, 0)
set_option maxRecDepth 100000 in
theorem md_X1_tryRide : xMd mX1_tryRide 3 := ⟨xTB_of (List.mem_of_getElem? (i := 875) rfl) rfl, xTB_of (List.mem_of_getElem? (i := 156) (by decide +kernel)) (by decide +kernel), by decide +kernel, by decide, by decide +kernel, by decide +kernel, by decide +kernel⟩
def mX1_tryWait : xD := (cX1_tryWait, yX1_tryWait, 3, (some .boolean), 0, 0)
set_option maxRecDepth 100000 in
theorem md_X1_tryWait : xMd mX1_tryWait 2 := ⟨xTB_of (List.mem_of_getElem? (i := 886) rfl) rfl, xTB_of (List.mem_of_getElem? (i := 156) (by decide +kernel)) (by decide +kernel), by decide +kernel, by decide, by decide +kernel, by decide +kernel, by decide +kernel⟩
def mX2_before : xD := (cX2_before, yX2_before, 5, (some .int), 0, 0)
set_option maxRecDepth 100000 in
theorem md_X2_before : xMd mX2_before 3 := ⟨xTB_of (List.mem_of_getElem? (i := 1237) rfl) rfl, xTB_of (List.mem_of_getElem? (i := 159) (by decide +kernel)) (by decide +kernel), by decide +kernel, by decide, by decide +kernel, by decide +kernel, by decide +kernel⟩
def mX2_bestPlace : xD := (cX2_bestPlace, yX2_bestPlace, 8, (some .int), 0, 0)
set_option maxRecDepth 100000 in
theorem md_X2_bestPlace : xMd mX2_bestPlace 3 := ⟨xTB_of (List.mem_of_getElem? (i := 1276) rfl) rfl, xTB_of (List.mem_of_getElem? (i := 159) (by decide +kernel)) (by decide +kernel), by decide +kernel, by decide, by decide +kernel, by decide +kernel, by decide +kernel⟩
def mX2_countNextMarks : xD := (cX2_countNextMarks, yX2_countNextMarks, 5, none, 0, 0)
set_option maxRecDepth 100000 in
theorem md_X2_countNextMarks : xMd mX2_countNextMarks 3 := ⟨xTB_of (List.mem_of_getElem? (i := 1233) rfl) rfl, xTB_of (List.mem_of_getElem? (i := 159) (by decide +kernel)) (by decide +kernel), by decide +kernel, by decide, by decide +kernel, by decide +kernel, by decide +kernel⟩
def mX2_firstOrder : xD := (cX2_firstOrder, yX2_firstOrder, 8, (some .int), 0, 0)
set_option maxRecDepth 100000 in
theorem md_X2_firstOrder : xMd mX2_firstOrder 3 := ⟨xTB_of (List.mem_of_getElem? (i := 1241) rfl) rfl, xTB_of (List.mem_of_getElem? (i := 159) (by decide +kernel)) (by decide +kernel), by decide +kernel, by decide, by decide +kernel, by decide +kernel, by decide +kernel⟩
def mX2_howManyOrders : xD := (cX2_howManyOrders, yX2_howManyOrders, 5, (some .int), 0, 0)
set_option maxRecDepth 100000 in
theorem md_X2_howManyOrders : xMd mX2_howManyOrders 2 := ⟨xTB_of (List.mem_of_getElem? (i := 1229) rfl) rfl, xTB_of (List.mem_of_getElem? (i := 159) (by decide +kernel)) (by decide +kernel), by decide +kernel, by decide, by decide +kernel, by decide +kernel, by decide +kernel⟩
def mX2_init : xD := (cX2_init, yX2_init, 1, none, 3, 71)
set_option maxRecDepth 100000 in
theorem md_X2_init : xMd mX2_init 0 := ⟨xTB_of (List.mem_of_getElem? (i := 523) rfl) rfl, xTB_of (List.mem_of_getElem? (i := 159) (by decide +kernel)) (by decide +kernel), by decide +kernel, by decide, by decide +kernel, by decide +kernel, by decide +kernel⟩
def mX2_lackedMarks : xD := (cX2_lackedMarks, yX2_lackedMarks, 5, (some .int), 0, 0)
set_option maxRecDepth 100000 in
theorem md_X2_lackedMarks : xMd mX2_lackedMarks 2 := ⟨xTB_of (List.mem_of_getElem? (i := 1256) rfl) rfl, xTB_of (List.mem_of_getElem? (i := 159) (by decide +kernel)) (by decide +kernel), by decide +kernel, by decide, by decide +kernel, by decide +kernel, by decide +kernel⟩
def mX2_nextMark : xD := (cX2_nextMark, yX2_nextMark, 4, (some .int), 0, 0)
set_option maxRecDepth 100000 in
theorem md_X2_nextMark : xMd mX2_nextMark 3 := ⟨xTB_of (List.mem_of_getElem? (i := 1248) rfl) rfl, xTB_of (List.mem_of_getElem? (i := 159) (by decide +kernel)) (by decide +kernel), by decide +kernel, by decide, by decide +kernel, by decide +kernel, by decide +kernel⟩
def mX2_orderly : xD := (cX2_orderly, yX2_orderly, 5, (some .boolean), 0, 0)
set_option maxRecDepth 100000 in
theorem md_X2_orderly : xMd mX2_orderly 2 := ⟨xTB_of (List.mem_of_getElem? (i := 1245) rfl) rfl, xTB_of (List.mem_of_getElem? (i := 159) (by decide +kernel)) (by decide +kernel), by decide +kernel, by decide, by decide +kernel, by decide +kernel, by decide +kernel⟩
def mX2_readyHour : xD := (cX2_readyHour, yX2_readyHour, 7, (some .int), 0, 0)
set_option maxRecDepth 100000 in
theorem md_X2_readyHour : xMd mX2_readyHour 3 := ⟨xTB_of (List.mem_of_getElem? (i := 1267) rfl) rfl, xTB_of (List.mem_of_getElem? (i := 159) (by decide +kernel)) (by decide +kernel), by decide +kernel, by decide, by decide +kernel, by decide +kernel, by decide +kernel⟩
def mX2_soonestClerk : xD := (cX2_soonestClerk, yX2_soonestClerk, 6, (some .int), 0, 0)
set_option maxRecDepth 100000 in
theorem md_X2_soonestClerk : xMd mX2_soonestClerk 3 := ⟨xTB_of (List.mem_of_getElem? (i := 1260) rfl) rfl, xTB_of (List.mem_of_getElem? (i := 159) (by decide +kernel)) (by decide +kernel), by decide +kernel, by decide, by decide +kernel, by decide +kernel, by decide +kernel⟩
def mX2_stuckPermits : xD := (cX2_stuckPermits, yX2_stuckPermits, 4, (some .int), 0, 0)
set_option maxRecDepth 100000 in
theorem md_X2_stuckPermits : xMd mX2_stuckPermits 1 := ⟨xTB_of (List.mem_of_getElem? (i := 1301) rfl) rfl, xTB_of (List.mem_of_getElem? (i := 159) (by decide +kernel)) (by decide +kernel), by decide +kernel, by decide, by decide +kernel, by decide +kernel, by decide +kernel⟩
def mX3_answer : xD := (cX3_answer, yX3_answer, 3, (some .int), 0, 0)
set_option maxRecDepth 100000 in
theorem md_X3_answer : xMd mX3_answer 1 := ⟨xTB_of (List.mem_of_getElem? (i := 831) rfl) rfl, xTB_of (List.mem_of_getElem? (i := 152) (by decide +kernel)) (by decide +kernel), by decide +kernel, by decide, by decide +kernel, by decide +kernel, by decide +kernel⟩
def mX3_answerHowMany : xD := (cX3_answerHowMany, yX3_answerHowMany, 2, (some .int), 0, 0)
set_option maxRecDepth 100000 in
theorem md_X3_answerHowMany : xMd mX3_answerHowMany 1 := ⟨xTB_of (List.mem_of_getElem? (i := 839) rfl) rfl, xTB_of (List.mem_of_getElem? (i := 152) (by decide +kernel)) (by decide +kernel), by decide +kernel, by decide, by decide +kernel, by decide +kernel, by decide +kernel⟩
def mX3_answerTrain : xD := (cX3_answerTrain, yX3_answerTrain, 3, (some .int), 0, 0)
set_option maxRecDepth 100000 in
theorem md_X3_answerTrain : xMd mX3_answerTrain 2 := ⟨xTB_of (List.mem_of_getElem? (i := 835) rfl) rfl, xTB_of (List.mem_of_getElem? (i := 152) (by decide +kernel)) (by decide +kernel), by decide +kernel, by decide, by decide +kernel, by decide +kernel, by decide +kernel⟩
def mX3_boardTrain : xD := (cX3_boardTrain, yX3_boardTrain, 5, (some .int), 0, 0)
set_option maxRecDepth 100000 in
theorem md_X3_boardTrain : xMd mX3_boardTrain 3 := ⟨xTB_of (List.mem_of_getElem? (i := 1205) rfl) rfl, xTB_of (List.mem_of_getElem? (i := 152) (by decide +kernel)) (by decide +kernel), by decide +kernel, by decide, by decide +kernel, by decide +kernel, by decide +kernel⟩
def mX3_busiest : xD := (cX3_busiest, yX3_busiest, 7, (some .int), 0, 0)
set_option maxRecDepth 100000 in
theorem md_X3_busiest : xMd mX3_busiest 1 := ⟨xTB_of (List.mem_of_getElem? (i := 1285) rfl) rfl, xTB_of (List.mem_of_getElem? (i := 152) (by decide +kernel)) (by decide +kernel), by decide +kernel, by decide, by decide +kernel, by decide +kernel, by decide +kernel⟩
def mX3_clear : xD := (cX3_clear, yX3_clear, 2, none, 0, 0)
set_option maxRecDepth 100000 in
theorem md_X3_clear : xMd mX3_clear 0 := ⟨xTB_of (List.mem_of_getElem? (i := 625) rfl) rfl, xTB_of (List.mem_of_getElem? (i := 152) (by decide +kernel)) (by decide +kernel), by decide +kernel, by decide, by decide +kernel, by decide +kernel, by decide +kernel⟩
def mX3_copy : xD := (cX3_copy, yX3_copy, 2, none, 0, 0)
set_option maxRecDepth 100000 in
theorem md_X3_copy : xMd mX3_copy 1 := ⟨xTB_of (List.mem_of_getElem? (i := 813) rfl) rfl, xTB_of (List.mem_of_getElem? (i := 152) (by decide +kernel)) (by decide +kernel), by decide +kernel, by decide, by decide +kernel, by decide +kernel, by decide +kernel⟩
def mX3_couplesWithout : xD := (cX3_couplesWithout, yX3_couplesWithout, 4, (some .int), 0, 0)
set_option maxRecDepth 100000 in
theorem md_X3_couplesWithout : xMd mX3_couplesWithout 1 := ⟨xTB_of (List.mem_of_getElem? (i := 1171) rfl) rfl, xTB_of (List.mem_of_getElem? (i := 152) (by decide +kernel)) (by decide +kernel), by decide +kernel, by decide, by decide +kernel, by decide +kernel, by decide +kernel⟩
def mX3_dutyOf : xD := (cX3_dutyOf, yX3_dutyOf, 4, (some .int), 0, 0)
set_option maxRecDepth 100000 in
theorem md_X3_dutyOf : xMd mX3_dutyOf 1 := ⟨xTB_of (List.mem_of_getElem? (i := 975) rfl) rfl, xTB_of (List.mem_of_getElem? (i := 152) (by decide +kernel)) (by decide +kernel), by decide +kernel, by decide, by decide +kernel, by decide +kernel, by decide +kernel⟩
def mX3_elsewhere : xD := (cX3_elsewhere, yX3_elsewhere, 4, (some .int), 0, 0)
set_option maxRecDepth 100000 in
theorem md_X3_elsewhere : xMd mX3_elsewhere 2 := ⟨xTB_of (List.mem_of_getElem? (i := 1084) rfl) rfl, xTB_of (List.mem_of_getElem? (i := 152) (by decide +kernel)) (by decide +kernel), by decide +kernel, by decide, by decide +kernel, by decide +kernel, by decide +kernel⟩
def mX3_forgetRows : xD := (cX3_forgetRows, yX3_forgetRows, 2, none, 0, 0)
set_option maxRecDepth 100000 in
theorem md_X3_forgetRows : xMd mX3_forgetRows 0 := ⟨xTB_of (List.mem_of_getElem? (i := 629) rfl) rfl, xTB_of (List.mem_of_getElem? (i := 152) (by decide +kernel)) (by decide +kernel), by decide +kernel, by decide, by decide +kernel, by decide +kernel, by decide +kernel⟩
def mX3_hub : xD := (cX3_hub, yX3_hub, 6, (some .int), 0, 0)
set_option maxRecDepth 100000 in
theorem md_X3_hub : xMd mX3_hub 1 := ⟨xTB_of (List.mem_of_getElem? (i := 1166) rfl) rfl, xTB_of (List.mem_of_getElem? (i := 152) (by decide +kernel)) (by decide +kernel), by decide +kernel, by decide, by decide +kernel, by decide +kernel, by decide +kernel⟩
def mX3_init : xD := (cX3_init, yX3_init, 1, none, 12, 522)
set_option maxRecDepth 100000 in
theorem md_X3_init : xMd mX3_init 0 := ⟨xTB_of (List.mem_of_getElem? (i := 191) rfl) rfl, xTB_of (List.mem_of_getElem? (i := 152) (by decide +kernel)) (by decide +kernel), by decide +kernel, by decide, by decide +kernel, by decide +kernel, by decide +kernel⟩
def mX3_nextArrival : xD := (cX3_nextArrival, yX3_nextArrival, 3, (some .int), 0, 0)
set_option maxRecDepth 100000 in
theorem md_X3_nextArrival : xMd mX3_nextArrival 2 := ⟨xTB_of (List.mem_of_getElem? (i := 879) rfl) rfl, xTB_of (List.mem_of_getElem? (i := 152) (by decide +kernel)) (by decide +kernel), by decide +kernel, by decide, by decide +kernel, by decide +kernel, by decide +kernel⟩
def mX3_nextLeave : xD := (cX3_nextLeave, yX3_nextLeave, 3, (some .int), 0, 0)
set_option maxRecDepth 100000 in
theorem md_X3_nextLeave : xMd mX3_nextLeave 2 := ⟨xTB_of (List.mem_of_getElem? (i := 1213) rfl) rfl, xTB_of (List.mem_of_getElem? (i := 152) (by decide +kernel)) (by decide +kernel), by decide +kernel, by decide, by decide +kernel, by decide +kernel, by decide +kernel⟩
def mX3_permitsRead : xD := (cX3_permitsRead, yX3_permitsRead, 4, (some .int), 0, 0)
set_option maxRecDepth 100000 in
theorem md_X3_permitsRead : xMd mX3_permitsRead 1 := ⟨xTB_of (List.mem_of_getElem? (i := 1080) rfl) rfl, xTB_of (List.mem_of_getElem? (i := 152) (by decide +kernel)) (by decide +kernel), by decide +kernel, by decide, by decide +kernel, by decide +kernel, by decide +kernel⟩
def mX3_reach : xD := (cX3_reach, yX3_reach, 7, (some .int), 0, 0)
set_option maxRecDepth 100000 in
theorem md_X3_reach : xMd mX3_reach 2 := ⟨xTB_of (List.mem_of_getElem? (i := 1092) rfl) rfl, xTB_of (List.mem_of_getElem? (i := 152) (by decide +kernel)) (by decide +kernel), by decide +kernel, by decide, by decide +kernel, by decide +kernel, by decide +kernel⟩
def mX3_trainsBefore : xD := (cX3_trainsBefore, yX3_trainsBefore, 7, (some .int), 0, 0)
set_option maxRecDepth 100000 in
theorem md_X3_trainsBefore : xMd mX3_trainsBefore 2 := ⟨xTB_of (List.mem_of_getElem? (i := 1209) rfl) rfl, xTB_of (List.mem_of_getElem? (i := 152) (by decide +kernel)) (by decide +kernel), by decide +kernel, by decide, by decide +kernel, by decide +kernel, by decide +kernel⟩
def mX3_trainsLink : xD := (cX3_trainsLink, yX3_trainsLink, 6, (some .int), 0, 0)
set_option maxRecDepth 100000 in
theorem md_X3_trainsLink : xMd mX3_trainsLink 2 := ⟨xTB_of (List.mem_of_getElem? (i := 1088) rfl) rfl, xTB_of (List.mem_of_getElem? (i := 152) (by decide +kernel)) (by decide +kernel), by decide +kernel, by decide, by decide +kernel, by decide +kernel, by decide +kernel⟩
def mX4_checkNumbers : xD := (cX4_checkNumbers, yX4_checkNumbers, 6, none, 0, 0)
set_option maxRecDepth 100000 in
theorem md_X4_checkNumbers : xMd mX4_checkNumbers 1 := ⟨xTB_of (List.mem_of_getElem? (i := 754) rfl) rfl, xTB_of (List.mem_of_getElem? (i := 154) (by decide +kernel)) (by decide +kernel), by decide +kernel, by decide, by decide +kernel, by decide +kernel, by decide +kernel⟩
def mX4_checkRail : xD := (cX4_checkRail, yX4_checkRail, 3, none, 0, 0)
set_option maxRecDepth 100000 in
theorem md_X4_checkRail : xMd mX4_checkRail 1 := ⟨xTB_of (List.mem_of_getElem? (i := 801) rfl) rfl, xTB_of (List.mem_of_getElem? (i := 154) (by decide +kernel)) (by decide +kernel), by decide +kernel, by decide, by decide +kernel, by decide +kernel, by decide +kernel⟩
def mX4_init : xD := (cX4_init, yX4_init, 1, none, 21, 1401)
set_option maxRecDepth 100000 in
theorem md_X4_init : xMd mX4_init 0 := ⟨xTB_of (List.mem_of_getElem? (i := 374) rfl) rfl, xTB_of (List.mem_of_getElem? (i := 154) (by decide +kernel)) (by decide +kernel), by decide +kernel, by decide, by decide +kernel, by decide +kernel, by decide +kernel⟩
def mX4_keepClerk : xD := (cX4_keepClerk, yX4_keepClerk, 1, none, 0, 0)
set_option maxRecDepth 100000 in
theorem md_X4_keepClerk : xMd mX4_keepClerk 0 := ⟨xTB_of (List.mem_of_getElem? (i := 785) rfl) rfl, xTB_of (List.mem_of_getElem? (i := 154) (by decide +kernel)) (by decide +kernel), by decide +kernel, by decide, by decide +kernel, by decide +kernel, by decide +kernel⟩
def mX4_keepDeed : xD := (cX4_keepDeed, yX4_keepDeed, 2, none, 0, 0)
set_option maxRecDepth 100000 in
theorem md_X4_keepDeed : xMd mX4_keepDeed 1 := ⟨xTB_of (List.mem_of_getElem? (i := 797) rfl) rfl, xTB_of (List.mem_of_getElem? (i := 154) (by decide +kernel)) (by decide +kernel), by decide +kernel, by decide, by decide +kernel, by decide +kernel, by decide +kernel⟩
def mX4_keepLaw : xD := (cX4_keepLaw, yX4_keepLaw, 1, none, 0, 0)
set_option maxRecDepth 100000 in
theorem md_X4_keepLaw : xMd mX4_keepLaw 0 := ⟨xTB_of (List.mem_of_getElem? (i := 781) rfl) rfl, xTB_of (List.mem_of_getElem? (i := 154) (by decide +kernel)) (by decide +kernel), by decide +kernel, by decide, by decide +kernel, by decide +kernel, by decide +kernel⟩
def mX4_keepLine : xD := (cX4_keepLine, yX4_keepLine, 2, none, 0, 0)
set_option maxRecDepth 100000 in
theorem md_X4_keepLine : xMd mX4_keepLine 1 := ⟨xTB_of (List.mem_of_getElem? (i := 762) rfl) rfl, xTB_of (List.mem_of_getElem? (i := 154) (by decide +kernel)) (by decide +kernel), by decide +kernel, by decide, by decide +kernel, by decide +kernel, by decide +kernel⟩
def mX4_keepNeed : xD := (cX4_keepNeed, yX4_keepNeed, 1, none, 0, 0)
set_option maxRecDepth 100000 in
theorem md_X4_keepNeed : xMd mX4_keepNeed 0 := ⟨xTB_of (List.mem_of_getElem? (i := 777) rfl) rfl, xTB_of (List.mem_of_getElem? (i := 154) (by decide +kernel)) (by decide +kernel), by decide +kernel, by decide, by decide +kernel, by decide +kernel, by decide +kernel⟩
def mX4_keepPermit : xD := (cX4_keepPermit, yX4_keepPermit, 1, none, 0, 0)
set_option maxRecDepth 100000 in
theorem md_X4_keepPermit : xMd mX4_keepPermit 0 := ⟨xTB_of (List.mem_of_getElem? (i := 773) rfl) rfl, xTB_of (List.mem_of_getElem? (i := 154) (by decide +kernel)) (by decide +kernel), by decide +kernel, by decide, by decide +kernel, by decide +kernel, by decide +kernel⟩
def mX4_keepSight : xD := (cX4_keepSight, yX4_keepSight, 1, none, 0, 0)
set_option maxRecDepth 100000 in
theorem md_X4_keepSight : xMd mX4_keepSight 0 := ⟨xTB_of (List.mem_of_getElem? (i := 789) rfl) rfl, xTB_of (List.mem_of_getElem? (i := 154) (by decide +kernel)) (by decide +kernel), by decide +kernel, by decide, by decide +kernel, by decide +kernel, by decide +kernel⟩
def mX4_keepTrain : xD := (cX4_keepTrain, yX4_keepTrain, 1, none, 0, 0)
set_option maxRecDepth 100000 in
theorem md_X4_keepTrain : xMd mX4_keepTrain 0 := ⟨xTB_of (List.mem_of_getElem? (i := 766) rfl) rfl, xTB_of (List.mem_of_getElem? (i := 154) (by decide +kernel)) (by decide +kernel), by decide +kernel, by decide, by decide +kernel, by decide +kernel, by decide +kernel⟩
def mX4_lineByWord : xD := (cX4_lineByWord, yX4_lineByWord, 2, (some .int), 0, 0)
set_option maxRecDepth 100000 in
theorem md_X4_lineByWord : xMd mX4_lineByWord 1 := ⟨xTB_of (List.mem_of_getElem? (i := 665) rfl) rfl, xTB_of (List.mem_of_getElem? (i := 154) (by decide +kernel)) (by decide +kernel), by decide +kernel, by decide, by decide +kernel, by decide +kernel, by decide +kernel⟩
def mX4_noTextGoesOn : xD := (cX4_noTextGoesOn, yX4_noTextGoesOn, 1, none, 0, 0)
set_option maxRecDepth 100000 in
theorem md_X4_noTextGoesOn : xMd mX4_noTextGoesOn 0 := ⟨xTB_of (List.mem_of_getElem? (i := 735) rfl) rfl, xTB_of (List.mem_of_getElem? (i := 154) (by decide +kernel)) (by decide +kernel), by decide +kernel, by decide, by decide +kernel, by decide +kernel, by decide +kernel⟩
def mX4_noteFault : xD := (cX4_noteFault, yX4_noteFault, 3, none, 0, 0)
set_option maxRecDepth 100000 in
theorem md_X4_noteFault : xMd mX4_noteFault 2 := ⟨xTB_of (List.mem_of_getElem? (i := 750) rfl) rfl, xTB_of (List.mem_of_getElem? (i := 154) (by decide +kernel)) (by decide +kernel), by decide +kernel, by decide, by decide +kernel, by decide +kernel, by decide +kernel⟩
def mX4_railLineByWord : xD := (cX4_railLineByWord, yX4_railLineByWord, 1, (some .int), 0, 0)
set_option maxRecDepth 100000 in
theorem md_X4_railLineByWord : xMd mX4_railLineByWord 0 := ⟨xTB_of (List.mem_of_getElem? (i := 669) rfl) rfl, xTB_of (List.mem_of_getElem? (i := 154) (by decide +kernel)) (by decide +kernel), by decide +kernel, by decide, by decide +kernel, by decide +kernel, by decide +kernel⟩
def mX4_readLine : xD := (cX4_readLine, yX4_readLine, 5, none, 0, 0)
set_option maxRecDepth 100000 in
theorem md_X4_readLine : xMd mX4_readLine 1 := ⟨xTB_of (List.mem_of_getElem? (i := 661) rfl) rfl, xTB_of (List.mem_of_getElem? (i := 154) (by decide +kernel)) (by decide +kernel), by decide +kernel, by decide, by decide +kernel, by decide +kernel, by decide +kernel⟩
def mX4_readText : xD := (cX4_readText, yX4_readText, 5, none, 0, 0)
set_option maxRecDepth 100000 in
theorem md_X4_readText : xMd mX4_readText 3 := ⟨xTB_of (List.mem_of_getElem? (i := 621) rfl) rfl, xTB_of (List.mem_of_getElem? (i := 154) (by decide +kernel)) (by decide +kernel), by decide +kernel, by decide, by decide +kernel, by decide +kernel, by decide +kernel⟩
def mX4_room : xD := (cX4_room, yX4_room, 2, (some .int), 0, 0)
set_option maxRecDepth 100000 in
theorem md_X4_room : xMd mX4_room 1 := ⟨xTB_of (List.mem_of_getElem? (i := 742) rfl) rfl, xTB_of (List.mem_of_getElem? (i := 154) (by decide +kernel)) (by decide +kernel), by decide +kernel, by decide, by decide +kernel, by decide +kernel, by decide +kernel⟩
def mX5_answer : xD := (cX5_answer, yX5_answer, 2, (some .int), 0, 0)
set_option maxRecDepth 100000 in
theorem md_X5_answer : xMd mX5_answer 1 := ⟨xTB_of (List.mem_of_getElem? (i := 997) rfl) rfl, xTB_of (List.mem_of_getElem? (i := 158) (by decide +kernel)) (by decide +kernel), by decide +kernel, by decide, by decide +kernel, by decide +kernel, by decide +kernel⟩
def mX5_go : xD := (cX5_go, yX5_go, 6, none, 0, 0)
set_option maxRecDepth 100000 in
theorem md_X5_go : xMd mX5_go 2 := ⟨xTB_of (List.mem_of_getElem? (i := 984) rfl) rfl, xTB_of (List.mem_of_getElem? (i := 158) (by decide +kernel)) (by decide +kernel), by decide +kernel, by decide, by decide +kernel, by decide +kernel, by decide +kernel⟩
def mX5_init : xD := (cX5_init, yX5_init, 1, none, 5, 25)
set_option maxRecDepth 100000 in
theorem md_X5_init : xMd mX5_init 0 := ⟨xTB_of (List.mem_of_getElem? (i := 495) rfl) rfl, xTB_of (List.mem_of_getElem? (i := 158) (by decide +kernel)) (by decide +kernel), by decide +kernel, by decide, by decide +kernel, by decide +kernel, by decide +kernel⟩
def mX5_visit : xD := (cX5_visit, yX5_visit, 8, none, 0, 0)
set_option maxRecDepth 100000 in
theorem md_X5_visit : xMd mX5_visit 5 := ⟨xTB_of (List.mem_of_getElem? (i := 991) rfl) rfl, xTB_of (List.mem_of_getElem? (i := 158) (by decide +kernel)) (by decide +kernel), by decide +kernel, by decide, by decide +kernel, by decide +kernel, by decide +kernel⟩
def mX6_answer : xD := (cX6_answer, yX6_answer, 4, (some .int), 0, 0)
set_option maxRecDepth 100000 in
theorem md_X6_answer : xMd mX6_answer 2 := ⟨xTB_of (List.mem_of_getElem? (i := 847) rfl) rfl, xTB_of (List.mem_of_getElem? (i := 153) (by decide +kernel)) (by decide +kernel), by decide +kernel, by decide, by decide +kernel, by decide +kernel, by decide +kernel⟩
def mX6_at : xD := (cX6_at, yX6_at, 3, (some .int), 0, 0)
set_option maxRecDepth 100000 in
theorem md_X6_at : xMd mX6_at 2 := ⟨xTB_of (List.mem_of_getElem? (i := 851) rfl) rfl, xTB_of (List.mem_of_getElem? (i := 153) (by decide +kernel)) (by decide +kernel), by decide +kernel, by decide, by decide +kernel, by decide +kernel, by decide +kernel⟩
def mX6_copy : xD := (cX6_copy, yX6_copy, 2, none, 0, 0)
set_option maxRecDepth 100000 in
theorem md_X6_copy : xMd mX6_copy 1 := ⟨xTB_of (List.mem_of_getElem? (i := 818) rfl) rfl, xTB_of (List.mem_of_getElem? (i := 153) (by decide +kernel)) (by decide +kernel), by decide +kernel, by decide, by decide +kernel, by decide +kernel, by decide +kernel⟩
def mX6_init : xD := (cX6_init, yX6_init, 3, none, 1, 120)
set_option maxRecDepth 100000 in
theorem md_X6_init : xMd mX6_init 2 := ⟨xTB_of (List.mem_of_getElem? (i := 318) rfl) rfl, xTB_of (List.mem_of_getElem? (i := 153) (by decide +kernel)) (by decide +kernel), by decide +kernel, by decide, by decide +kernel, by decide +kernel, by decide +kernel⟩
def mX6_put : xD := (cX6_put, yX6_put, 4, none, 0, 0)
set_option maxRecDepth 100000 in
theorem md_X6_put : xMd mX6_put 3 := ⟨xTB_of (List.mem_of_getElem? (i := 793) rfl) rfl, xTB_of (List.mem_of_getElem? (i := 153) (by decide +kernel)) (by decide +kernel), by decide +kernel, by decide, by decide +kernel, by decide +kernel, by decide +kernel⟩
def mX6_room : xD := (cX6_room, yX6_room, 1, (some .int), 0, 0)
set_option maxRecDepth 100000 in
theorem md_X6_room : xMd mX6_room 0 := ⟨xTB_of (List.mem_of_getElem? (i := 746) rfl) rfl, xTB_of (List.mem_of_getElem? (i := 153) (by decide +kernel)) (by decide +kernel), by decide +kernel, by decide, by decide +kernel, by decide +kernel, by decide +kernel⟩
def mX7_init : xD := (cX7_init, yX7_init, 1, none, 1, 600)
set_option maxRecDepth 100000 in
theorem md_X7_init : xMd mX7_init 0 := ⟨xTB_of (List.mem_of_getElem? (i := 384) rfl) rfl, xTB_of (List.mem_of_getElem? (i := 155) (by decide +kernel)) (by decide +kernel), by decide +kernel, by decide, by decide +kernel, by decide +kernel, by decide +kernel⟩
def mX7_isBlank : xD := (cX7_isBlank, yX7_isBlank, 1, (some .boolean), 0, 0)
set_option maxRecDepth 100000 in
theorem md_X7_isBlank : xMd mX7_isBlank 1 := ⟨xTB_of (List.mem_of_getElem? (i := 643) rfl) rfl, xTB_of (List.mem_of_getElem? (i := 155) (by decide +kernel)) (by decide +kernel), by decide +kernel, by decide, by decide +kernel, by decide +kernel, by decide +kernel⟩
def mX7_isDigit : xD := (cX7_isDigit, yX7_isDigit, 1, (some .boolean), 0, 0)
set_option maxRecDepth 100000 in
theorem md_X7_isDigit : xMd mX7_isDigit 1 := ⟨xTB_of (List.mem_of_getElem? (i := 653) rfl) rfl, xTB_of (List.mem_of_getElem? (i := 155) (by decide +kernel)) (by decide +kernel), by decide +kernel, by decide, by decide +kernel, by decide +kernel, by decide +kernel⟩
def mX7_isLetter : xD := (cX7_isLetter, yX7_isLetter, 1, (some .boolean), 0, 0)
set_option maxRecDepth 100000 in
theorem md_X7_isLetter : xMd mX7_isLetter 1 := ⟨xTB_of (List.mem_of_getElem? (i := 646) rfl) rfl, xTB_of (List.mem_of_getElem? (i := 155) (by decide +kernel)) (by decide +kernel), by decide +kernel, by decide, by decide +kernel, by decide +kernel, by decide +kernel⟩
def mX7_isWord : xD := (cX7_isWord, yX7_isWord, 3, (some .boolean), 0, 0)
set_option maxRecDepth 100000 in
theorem md_X7_isWord : xMd mX7_isWord 1 := ⟨xTB_of (List.mem_of_getElem? (i := 674) rfl) rfl, xTB_of (List.mem_of_getElem? (i := 155) (by decide +kernel)) (by decide +kernel), by decide +kernel, by decide, by decide +kernel, by decide +kernel, by decide +kernel⟩
def mX7_open : xD := (cX7_open, yX7_open, 3, none, 0, 0)
set_option maxRecDepth 100000 in
theorem md_X7_open : xMd mX7_open 2 := ⟨xTB_of (List.mem_of_getElem? (i := 633) rfl) rfl, xTB_of (List.mem_of_getElem? (i := 155) (by decide +kernel)) (by decide +kernel), by decide +kernel, by decide, by decide +kernel, by decide +kernel, by decide +kernel⟩
def mX7_skipLetters : xD := (cX7_skipLetters, yX7_skipLetters, 1, none, 0, 0)
set_option maxRecDepth 100000 in
theorem md_X7_skipLetters : xMd mX7_skipLetters 0 := ⟨xTB_of (List.mem_of_getElem? (i := 650) rfl) rfl, xTB_of (List.mem_of_getElem? (i := 155) (by decide +kernel)) (by decide +kernel), by decide +kernel, by decide, by decide +kernel, by decide +kernel, by decide +kernel⟩
def mX7_step : xD := (cX7_step, yX7_step, 1, none, 0, 0)
