def rm_X0_init : Room := { frames := 2, cells := 4, slots := 64, locals := 38 }
def rm_X1_init : Room := { frames := 2, cells := 2, slots := 32, locals := 38 }
def rm_X2_init : Room := { frames := 1, cells := 1, slots := 30, locals := 17 }
def rm_X2_isFull : Room := { frames := 0, cells := 0, slots := 0, locals := 0 }
def rm_X2_add : Room := { frames := 0, cells := 0, slots := 0, locals := 0 }
def rm_X2_at : Room := { frames := 0, cells := 0, slots := 0, locals := 0 }
def rm_X2_numberAt : Room := { frames := 1, cells := 0, slots := 0, locals := 21 }
def rm_X2_hasAground : Room := { frames := 1, cells := 0, slots := 0, locals := 21 }
def rm_X2_removeFirst : Room := { frames := 0, cells := 0, slots := 0, locals := 0 }
def rm_X3_init : Room := { frames := 3, cells := 6, slots := 68, locals := 58 }
def rm_X3_lane : Room := { frames := 0, cells := 0, slots := 0, locals := 0 }
def rm_X3_waysInside : Room := { frames := 0, cells := 0, slots := 0, locals := 0 }
def rm_X4_init : Room := { frames := 1, cells := 1, slots := 7, locals := 17 }
def rm_X4_isInSection : Room := { frames := 0, cells := 0, slots := 0, locals := 0 }
def rm_X4_isAground : Room := { frames := 0, cells := 0, slots := 0, locals := 0 }
def rm_X4_waitBy : Room := { frames := 0, cells := 0, slots := 0, locals := 0 }
def rm_X4_waitedInAll : Room := { frames := 0, cells := 0, slots := 0, locals := 0 }
def rm_X4_counts : Room := { frames := 1, cells := 0, slots := 0, locals := 20 }
def rm_X4_dues : Room := { frames := 1, cells := 0, slots := 0, locals := 17 }
def rm_X5_init : Room := { frames := 4, cells := 66, slots := 756, locals := 79 }
def rm_X5_section : Room := { frames := 1, cells := 0, slots := 0, locals := 22 }
def rm_X5_tide : Room := { frames := 1, cells := 0, slots := 0, locals := 22 }
def rm_X5_wind : Room := { frames := 1, cells := 0, slots := 0, locals := 22 }
def rm_X5_rule : Room := { frames := 1, cells := 0, slots := 0, locals := 22 }
def rm_X5_ship : Room := { frames := 2, cells := 2, slots := 23, locals := 44 }
def rm_X5_convoy : Room := { frames := 3, cells := 5, slots := 68, locals := 60 }
def rm_X5_book : Room := { frames := 1, cells := 0, slots := 0, locals := 21 }
def rm_X5_ground : Room := { frames := 1, cells := 0, slots := 0, locals := 22 }
def rm_X5_minutes : Room := { frames := 6, cells := 0, slots := 0, locals := 145 }
def rm_X5_startConvoys : Room := { frames := 2, cells := 0, slots := 0, locals := 44 }
def rm_X5_joinLine : Room := { frames := 1, cells := 0, slots := 0, locals := 21 }
def rm_X5_findLateShips : Room := { frames := 3, cells := 0, slots := 0, locals := 69 }
def rm_X5_missedConvoy : Room := { frames := 1, cells := 0, slots := 0, locals := 21 }
def rm_X5_takeLateShip : Room := { frames := 2, cells := 0, slots := 0, locals := 46 }
def rm_X5_nextConvoy : Room := { frames := 1, cells := 0, slots := 0, locals := 21 }
def rm_X5_moveShips : Room := { frames := 5, cells := 0, slots := 0, locals := 122 }
def rm_X5_moveWithin : Room := { frames := 4, cells := 0, slots := 0, locals := 95 }
def rm_X5_leaves : Room := { frames := 3, cells := 0, slots := 0, locals := 71 }
def rm_X5_letFirstIn : Room := { frames := 3, cells := 0, slots := 0, locals := 71 }
def rm_X5_comesInto : Room := { frames := 1, cells := 0, slots := 0, locals := 21 }
def rm_X5_causeAgainst : Room := { frames := 2, cells := 0, slots := 0, locals := 47 }
def rm_X5_reachesShip : Room := { frames := 1, cells := 0, slots := 0, locals := 21 }
def rm_X5_depthNow : Room := { frames := 1, cells := 0, slots := 0, locals := 22 }
def rm_X5_windBarsGreat : Room := { frames := 1, cells := 0, slots := 0, locals := 22 }
def rm_X5_ofThisHour : Room := { frames := 0, cells := 0, slots := 0, locals := 0 }
def rm_X5_told : Room := { frames := 2, cells := 0, slots := 0, locals := 40 }
def rm_X5_waited : Room := { frames := 1, cells := 0, slots := 0, locals := 22 }
def rm_X5_line : Room := { frames := 2, cells := 0, slots := 0, locals := 43 }
def rm_X5_in : Room := { frames := 2, cells := 0, slots := 0, locals := 43 }
def rm_X5_count : Room := { frames := 3, cells := 0, slots := 0, locals := 65 }
def rm_X5_shipsThat : Room := { frames := 2, cells := 0, slots := 0, locals := 41 }
def rm_X5_mostWaysInOneSection : Room := { frames := 1, cells := 0, slots := 0, locals := 21 }
def rm_X5_sectionAt : Room := { frames := 0, cells := 0, slots := 0, locals := 0 }
def rm_X5_convoyAt : Room := { frames := 0, cells := 0, slots := 0, locals := 0 }
def rm_X5_lineOf : Room := { frames := 0, cells := 0, slots := 0, locals := 0 }
def rm_X5_isWay : Room := { frames := 0, cells := 0, slots := 0, locals := 0 }
def rm_X5_within : Room := { frames := 0, cells := 0, slots := 0, locals := 0 }
def rm_X6_init : Room := { frames := 1, cells := 31, slots := 1780, locals := 17 }
def rm_X6_isIn : Room := { frames := 0, cells := 0, slots := 0, locals := 0 }
def rm_X6_section : Room := { frames := 1, cells := 0, slots := 0, locals := 22 }
def rm_X6_tide : Room := { frames := 1, cells := 0, slots := 0, locals := 22 }
def rm_X6_wind : Room := { frames := 1, cells := 0, slots := 0, locals := 22 }
def rm_X6_rule : Room := { frames := 1, cells := 0, slots := 0, locals := 22 }
def rm_X6_ship : Room := { frames := 1, cells := 0, slots := 0, locals := 22 }
def rm_X6_convoy : Room := { frames := 1, cells := 0, slots := 0, locals := 22 }
def rm_X6_book : Room := { frames := 1, cells := 0, slots := 0, locals := 22 }
def rm_X6_ground : Room := { frames := 1, cells := 0, slots := 0, locals := 22 }
def rm_X6_joins : Room := { frames := 0, cells := 0, slots := 0, locals := 0 }
def rm_X6_starts : Room := { frames := 1, cells := 0, slots := 0, locals := 22 }
def rm_X6_nextConvoy : Room := { frames := 0, cells := 0, slots := 0, locals := 0 }
def rm_X6_lates : Room := { frames := 1, cells := 0, slots := 0, locals := 24 }
def rm_X6_isAground : Room := { frames := 0, cells := 0, slots := 0, locals := 0 }
def rm_X6_isOncoming : Room := { frames := 0, cells := 0, slots := 0, locals := 0 }
def rm_X6_cause : Room := { frames := 1, cells := 0, slots := 0, locals := 25 }
def rm_X6_enters : Room := { frames := 0, cells := 0, slots := 0, locals := 0 }
def rm_X6_leaves : Room := { frames := 0, cells := 0, slots := 0, locals := 0 }
def rm_X6_moves : Room := { frames := 3, cells := 0, slots := 0, locals := 75 }
def rm_X6_goes : Room := { frames := 2, cells := 0, slots := 0, locals := 50 }
def rm_X6_comesIn : Room := { frames := 2, cells := 0, slots := 0, locals := 50 }
def rm_X6_minutes : Room := { frames := 4, cells := 0, slots := 0, locals := 102 }
def rm_X6_dues : Room := { frames := 0, cells := 0, slots := 0, locals := 0 }
def rm_X6_told : Room := { frames := 1, cells := 0, slots := 0, locals := 23 }
def rm_X6_waited : Room := { frames := 1, cells := 0, slots := 0, locals := 22 }
def rm_X6_line : Room := { frames := 1, cells := 0, slots := 0, locals := 22 }
def rm_X6_in : Room := { frames := 1, cells := 0, slots := 0, locals := 22 }
def rm_X6_several : Room := { frames := 0, cells := 0, slots := 0, locals := 0 }
def rm_X6_count : Room := { frames := 1, cells := 0, slots := 0, locals := 23 }
theorem mv_X0_init : MI yX0_init cX0_init 3 2 := ⟨⟨mc_X0_init, in_X0, by decide, by decide, by decide +kernel⟩, mi_X0_init, rfl⟩
theorem mv_X1_init : MI yX1_init cX1_init 1 0 := ⟨⟨mc_X1_init, in_X1, by decide, by decide, by decide +kernel⟩, mi_X1_init, rfl⟩
theorem mv_X2_init : MI yX2_init cX2_init 2 1 := ⟨⟨mc_X2_init, in_X2, by decide, by decide, by decide +kernel⟩, mi_X2_init, rfl⟩
theorem mv_X2_isFull : MV yX2_isFull cX2_isFull 1 (some .boolean) 0 2 := ⟨⟨mc_X2_isFull, in_X2, by decide, by decide, by decide +kernel⟩, mi_X2_isFull, ms_X2_isFull, rfl, by decide⟩
theorem mv_X2_add : MV yX2_add cX2_add 2 none 1 2 := ⟨⟨mc_X2_add, in_X2, by decide, by decide, by decide +kernel⟩, mi_X2_add, ms_X2_add, rfl, by decide⟩
theorem mv_X2_at : MV yX2_at cX2_at 2 (some (.object "ShipCut$Ship")) 1 2 := ⟨⟨mc_X2_at, in_X2, by decide, by decide, by decide +kernel⟩, mi_X2_at, ms_X2_at, rfl, by decide⟩
theorem mv_X2_numberAt : MV yX2_numberAt cX2_numberAt 3 (some .int) 1 2 := ⟨⟨mc_X2_numberAt, in_X2, by decide, by decide, by decide +kernel⟩, mi_X2_numberAt, ms_X2_numberAt, rfl, by decide⟩
theorem mv_X2_hasAground : MV yX2_hasAground cX2_hasAground 4 (some .boolean) 1 2 := ⟨⟨mc_X2_hasAground, in_X2, by decide, by decide, by decide +kernel⟩, mi_X2_hasAground, ms_X2_hasAground, rfl, by decide⟩
theorem mv_X2_removeFirst : MV yX2_removeFirst cX2_removeFirst 2 none 0 2 := ⟨⟨mc_X2_removeFirst, in_X2, by decide, by decide, by decide +kernel⟩, mi_X2_removeFirst, ms_X2_removeFirst, rfl, by decide⟩
theorem mv_X3_init : MI yX3_init cX3_init 2 1 := ⟨⟨mc_X3_init, in_X3, by decide, by decide, by decide +kernel⟩, mi_X3_init, rfl⟩
theorem mv_X3_lane : MV yX3_lane cX3_lane 2 (some (.object "ShipCut$Lane")) 1 3 := ⟨⟨mc_X3_lane, in_X3, by decide, by decide, by decide +kernel⟩, mi_X3_lane, ms_X3_lane, rfl, by decide⟩
theorem mv_X3_waysInside : MV yX3_waysInside cX3_waysInside 1 (some .int) 0 3 := ⟨⟨mc_X3_waysInside, in_X3, by decide, by decide, by decide +kernel⟩, mi_X3_waysInside, ms_X3_waysInside, rfl, by decide⟩
theorem mv_X4_init : MI yX4_init cX4_init 8 7 := ⟨⟨mc_X4_init, in_X4, by decide, by decide, by decide +kernel⟩, mi_X4_init, rfl⟩
theorem mv_X4_isInSection : MV yX4_isInSection cX4_isInSection 1 (some .boolean) 0 4 := ⟨⟨mc_X4_isInSection, in_X4, by decide, by decide, by decide +kernel⟩, mi_X4_isInSection, ms_X4_isInSection, rfl, by decide⟩
theorem mv_X4_isAground : MV yX4_isAground cX4_isAground 2 (some .boolean) 1 4 := ⟨⟨mc_X4_isAground, in_X4, by decide, by decide, by decide +kernel⟩, mi_X4_isAground, ms_X4_isAground, rfl, by decide⟩
theorem mv_X4_waitBy : MV yX4_waitBy cX4_waitBy 2 none 1 4 := ⟨⟨mc_X4_waitBy, in_X4, by decide, by decide, by decide +kernel⟩, mi_X4_waitBy, ms_X4_waitBy, rfl, by decide⟩
theorem mv_X4_waitedInAll : MV yX4_waitedInAll cX4_waitedInAll 3 (some .int) 0 4 := ⟨⟨mc_X4_waitedInAll, in_X4, by decide, by decide, by decide +kernel⟩, mi_X4_waitedInAll, ms_X4_waitedInAll, rfl, by decide⟩
theorem mv_X4_counts : MV yX4_counts cX4_counts 2 (some .boolean) 1 4 := ⟨⟨mc_X4_counts, in_X4, by decide, by decide, by decide +kernel⟩, mi_X4_counts, ms_X4_counts, rfl, by decide⟩
theorem mv_X4_dues : MV yX4_dues cX4_dues 4 (some .int) 0 4 := ⟨⟨mc_X4_dues, in_X4, by decide, by decide, by decide +kernel⟩, mi_X4_dues, ms_X4_dues, rfl, by decide⟩
theorem mv_X5_init : MI yX5_init cX5_init 2 0 := ⟨⟨mc_X5_init, in_X5, by decide, by decide, by decide +kernel⟩, mi_X5_init, rfl⟩
theorem mv_X5_section : MV yX5_section cX5_section 6 (some .int) 4 5 := ⟨⟨mc_X5_section, in_X5, by decide, by decide, by decide +kernel⟩, mi_X5_section, ms_X5_section, rfl, by decide⟩
theorem mv_X5_tide : MV yX5_tide cX5_tide 4 (some .int) 2 5 := ⟨⟨mc_X5_tide, in_X5, by decide, by decide, by decide +kernel⟩, mi_X5_tide, ms_X5_tide, rfl, by decide⟩
theorem mv_X5_wind : MV yX5_wind cX5_wind 4 (some .int) 2 5 := ⟨⟨mc_X5_wind, in_X5, by decide, by decide, by decide +kernel⟩, mi_X5_wind, ms_X5_wind, rfl, by decide⟩
theorem mv_X5_rule : MV yX5_rule cX5_rule 4 (some .int) 2 5 := ⟨⟨mc_X5_rule, in_X5, by decide, by decide, by decide +kernel⟩, mi_X5_rule, ms_X5_rule, rfl, by decide⟩
theorem mv_X5_ship : MV yX5_ship cX5_ship 8 (some .int) 6 5 := ⟨⟨mc_X5_ship, in_X5, by decide, by decide, by decide +kernel⟩, mi_X5_ship, ms_X5_ship, rfl, by decide⟩
theorem mv_X5_convoy : MV yX5_convoy cX5_convoy 3 (some .int) 2 5 := ⟨⟨mc_X5_convoy, in_X5, by decide, by decide, by decide +kernel⟩, mi_X5_convoy, ms_X5_convoy, rfl, by decide⟩
theorem mv_X5_book : MV yX5_book cX5_book 5 (some .int) 2 5 := ⟨⟨mc_X5_book, in_X5, by decide, by decide, by decide +kernel⟩, mi_X5_book, ms_X5_book, rfl, by decide⟩
theorem mv_X5_ground : MV yX5_ground cX5_ground 4 (some .int) 2 5 := ⟨⟨mc_X5_ground, in_X5, by decide, by decide, by decide +kernel⟩, mi_X5_ground, ms_X5_ground, rfl, by decide⟩
theorem mv_X5_minutes : MV yX5_minutes cX5_minutes 3 (some .int) 1 5 := ⟨⟨mc_X5_minutes, in_X5, by decide, by decide, by decide +kernel⟩, mi_X5_minutes, ms_X5_minutes, rfl, by decide⟩
theorem mv_X5_startConvoys : MV yX5_startConvoys cX5_startConvoys 3 none 0 5 := ⟨⟨mc_X5_startConvoys, in_X5, by decide, by decide, by decide +kernel⟩, mi_X5_startConvoys, ms_X5_startConvoys, rfl, by decide⟩
theorem mv_X5_joinLine : MV yX5_joinLine cX5_joinLine 4 none 1 5 := ⟨⟨mc_X5_joinLine, in_X5, by decide, by decide, by decide +kernel⟩, mi_X5_joinLine, ms_X5_joinLine, rfl, by decide⟩
theorem mv_X5_findLateShips : MV yX5_findLateShips cX5_findLateShips 3 none 0 5 := ⟨⟨mc_X5_findLateShips, in_X5, by decide, by decide, by decide +kernel⟩, mi_X5_findLateShips, ms_X5_findLateShips, rfl, by decide⟩
theorem mv_X5_missedConvoy : MV yX5_missedConvoy cX5_missedConvoy 3 (some .boolean) 1 5 := ⟨⟨mc_X5_missedConvoy, in_X5, by decide, by decide, by decide +kernel⟩, mi_X5_missedConvoy, ms_X5_missedConvoy, rfl, by decide⟩
theorem mv_X5_takeLateShip : MV yX5_takeLateShip cX5_takeLateShip 4 none 1 5 := ⟨⟨mc_X5_takeLateShip, in_X5, by decide, by decide, by decide +kernel⟩, mi_X5_takeLateShip, ms_X5_takeLateShip, rfl, by decide⟩
theorem mv_X5_nextConvoy : MV yX5_nextConvoy cX5_nextConvoy 6 (some .int) 1 5 := ⟨⟨mc_X5_nextConvoy, in_X5, by decide, by decide, by decide +kernel⟩, mi_X5_nextConvoy, ms_X5_nextConvoy, rfl, by decide⟩
theorem mv_X5_moveShips : MV yX5_moveShips cX5_moveShips 4 none 1 5 := ⟨⟨mc_X5_moveShips, in_X5, by decide, by decide, by decide +kernel⟩, mi_X5_moveShips, ms_X5_moveShips, rfl, by decide⟩
theorem mv_X5_moveWithin : MV yX5_moveWithin cX5_moveWithin 8 none 2 5 := ⟨⟨mc_X5_moveWithin, in_X5, by decide, by decide, by decide +kernel⟩, mi_X5_moveWithin, ms_X5_moveWithin, rfl, by decide⟩
theorem mv_X5_leaves : MV yX5_leaves cX5_leaves 5 (some .boolean) 3 5 := ⟨⟨mc_X5_leaves, in_X5, by decide, by decide, by decide +kernel⟩, mi_X5_leaves, ms_X5_leaves, rfl, by decide⟩
theorem mv_X5_letFirstIn : MV yX5_letFirstIn cX5_letFirstIn 7 none 1 5 := ⟨⟨mc_X5_letFirstIn, in_X5, by decide, by decide, by decide +kernel⟩, mi_X5_letFirstIn, ms_X5_letFirstIn, rfl, by decide⟩
theorem mv_X5_comesInto : MV yX5_comesInto cX5_comesInto 5 (some .boolean) 3 5 := ⟨⟨mc_X5_comesInto, in_X5, by decide, by decide, by decide +kernel⟩, mi_X5_comesInto, ms_X5_comesInto, rfl, by decide⟩
theorem mv_X5_causeAgainst : MV yX5_causeAgainst cX5_causeAgainst 5 (some .int) 2 5 := ⟨⟨mc_X5_causeAgainst, in_X5, by decide, by decide, by decide +kernel⟩, mi_X5_causeAgainst, ms_X5_causeAgainst, rfl, by decide⟩
theorem mv_X5_reachesShip : MV yX5_reachesShip cX5_reachesShip 7 (some .boolean) 3 5 := ⟨⟨mc_X5_reachesShip, in_X5, by decide, by decide, by decide +kernel⟩, mi_X5_reachesShip, ms_X5_reachesShip, rfl, by decide⟩
theorem mv_X5_depthNow : MV yX5_depthNow cX5_depthNow 3 (some .int) 1 5 := ⟨⟨mc_X5_depthNow, in_X5, by decide, by decide, by decide +kernel⟩, mi_X5_depthNow, ms_X5_depthNow, rfl, by decide⟩
theorem mv_X5_windBarsGreat : MV yX5_windBarsGreat cX5_windBarsGreat 2 (some .boolean) 0 5 := ⟨⟨mc_X5_windBarsGreat, in_X5, by decide, by decide, by decide +kernel⟩, mi_X5_windBarsGreat, ms_X5_windBarsGreat, rfl, by decide⟩
theorem mv_X5_ofThisHour : MV yX5_ofThisHour cX5_ofThisHour 3 (some .int) 1 5 := ⟨⟨mc_X5_ofThisHour, in_X5, by decide, by decide, by decide +kernel⟩, mi_X5_ofThisHour, ms_X5_ofThisHour, rfl, by decide⟩
theorem mv_X5_told : MV yX5_told cX5_told 4 (some .int) 2 5 := ⟨⟨mc_X5_told, in_X5, by decide, by decide, by decide +kernel⟩, mi_X5_told, ms_X5_told, rfl, by decide⟩
theorem mv_X5_waited : MV yX5_waited cX5_waited 4 (some .int) 2 5 := ⟨⟨mc_X5_waited, in_X5, by decide, by decide, by decide +kernel⟩, mi_X5_waited, ms_X5_waited, rfl, by decide⟩
theorem mv_X5_line : MV yX5_line cX5_line 3 (some .int) 2 5 := ⟨⟨mc_X5_line, in_X5, by decide, by decide, by decide +kernel⟩, mi_X5_line, ms_X5_line, rfl, by decide⟩
theorem mv_X5_in : MV yX5_in cX5_in 5 (some .int) 3 5 := ⟨⟨mc_X5_in, in_X5, by decide, by decide, by decide +kernel⟩, mi_X5_in, ms_X5_in, rfl, by decide⟩
theorem mv_X5_count : MV yX5_count cX5_count 2 (some .int) 1 5 := ⟨⟨mc_X5_count, in_X5, by decide, by decide, by decide +kernel⟩, mi_X5_count, ms_X5_count, rfl, by decide⟩
theorem mv_X5_shipsThat : MV yX5_shipsThat cX5_shipsThat 5 (some .int) 1 5 := ⟨⟨mc_X5_shipsThat, in_X5, by decide, by decide, by decide +kernel⟩, mi_X5_shipsThat, ms_X5_shipsThat, rfl, by decide⟩
theorem mv_X5_mostWaysInOneSection : MV yX5_mostWaysInOneSection cX5_mostWaysInOneSection 4 (some .int) 0 5 := ⟨⟨mc_X5_mostWaysInOneSection, in_X5, by decide, by decide, by decide +kernel⟩, mi_X5_mostWaysInOneSection, ms_X5_mostWaysInOneSection, rfl, by decide⟩
theorem mv_X5_sectionAt : MV yX5_sectionAt cX5_sectionAt 2 (some (.object "ShipCut$Section")) 1 5 := ⟨⟨mc_X5_sectionAt, in_X5, by decide, by decide, by decide +kernel⟩, mi_X5_sectionAt, ms_X5_sectionAt, rfl, by decide⟩
theorem mv_X5_convoyAt : MV yX5_convoyAt cX5_convoyAt 2 (some (.object "ShipCut$Convoy")) 1 5 := ⟨⟨mc_X5_convoyAt, in_X5, by decide, by decide, by decide +kernel⟩, mi_X5_convoyAt, ms_X5_convoyAt, rfl, by decide⟩
theorem mv_X5_lineOf : MV yX5_lineOf cX5_lineOf 2 (some (.object "ShipCut$Row")) 1 5 := ⟨⟨mc_X5_lineOf, in_X5, by decide, by decide, by decide +kernel⟩, mi_X5_lineOf, ms_X5_lineOf, rfl, by decide⟩
theorem mv_X5_isWay : MS yX5_isWay cX5_isWay 1 (some .boolean) 1 := ⟨⟨mc_X5_isWay, in_X5, by decide, by decide, by decide +kernel⟩, mt_X5_isWay⟩
theorem mv_X5_within : MS yX5_within cX5_within 3 (some .boolean) 3 := ⟨⟨mc_X5_within, in_X5, by decide, by decide, by decide +kernel⟩, mt_X5_within⟩
theorem mv_X6_init : MI yX6_init cX6_init 2 0 := ⟨⟨mc_X6_init, in_X6, by decide, by decide, by decide +kernel⟩, mi_X6_init, rfl⟩
theorem mv_X6_isIn : MS yX6_isIn cX6_isIn 3 (some .boolean) 3 := ⟨⟨mc_X6_isIn, in_X6, by decide, by decide, by decide +kernel⟩, mt_X6_isIn⟩
theorem mv_X6_section : MV yX6_section cX6_section 5 (some .int) 4 6 := ⟨⟨mc_X6_section, in_X6, by decide, by decide, by decide +kernel⟩, mi_X6_section, ms_X6_section, rfl, by decide⟩
theorem mv_X6_tide : MV yX6_tide cX6_tide 4 (some .int) 2 6 := ⟨⟨mc_X6_tide, in_X6, by decide, by decide, by decide +kernel⟩, mi_X6_tide, ms_X6_tide, rfl, by decide⟩
theorem mv_X6_wind : MV yX6_wind cX6_wind 4 (some .int) 2 6 := ⟨⟨mc_X6_wind, in_X6, by decide, by decide, by decide +kernel⟩, mi_X6_wind, ms_X6_wind, rfl, by decide⟩
theorem mv_X6_rule : MV yX6_rule cX6_rule 4 (some .int) 2 6 := ⟨⟨mc_X6_rule, in_X6, by decide, by decide, by decide +kernel⟩, mi_X6_rule, ms_X6_rule, rfl, by decide⟩
theorem mv_X6_ship : MV yX6_ship cX6_ship 7 (some .int) 6 6 := ⟨⟨mc_X6_ship, in_X6, by decide, by decide, by decide +kernel⟩, mi_X6_ship, ms_X6_ship, rfl, by decide⟩
theorem mv_X6_convoy : MV yX6_convoy cX6_convoy 3 (some .int) 2 6 := ⟨⟨mc_X6_convoy, in_X6, by decide, by decide, by decide +kernel⟩, mi_X6_convoy, ms_X6_convoy, rfl, by decide⟩
theorem mv_X6_book : MV yX6_book cX6_book 3 (some .int) 2 6 := ⟨⟨mc_X6_book, in_X6, by decide, by decide, by decide +kernel⟩, mi_X6_book, ms_X6_book, rfl, by decide⟩
theorem mv_X6_ground : MV yX6_ground cX6_ground 3 (some .int) 2 6 := ⟨⟨mc_X6_ground, in_X6, by decide, by decide, by decide +kernel⟩, mi_X6_ground, ms_X6_ground, rfl, by decide⟩
theorem mv_X6_joins : MV yX6_joins cX6_joins 3 none 1 6 := ⟨⟨mc_X6_joins, in_X6, by decide, by decide, by decide +kernel⟩, mi_X6_joins, ms_X6_joins, rfl, by decide⟩
theorem mv_X6_starts : MV yX6_starts cX6_starts 3 none 0 6 := ⟨⟨mc_X6_starts, in_X6, by decide, by decide, by decide +kernel⟩, mi_X6_starts, ms_X6_starts, rfl, by decide⟩
theorem mv_X6_nextConvoy : MV yX6_nextConvoy cX6_nextConvoy 5 (some .int) 1 6 := ⟨⟨mc_X6_nextConvoy, in_X6, by decide, by decide, by decide +kernel⟩, mi_X6_nextConvoy, ms_X6_nextConvoy, rfl, by decide⟩
theorem mv_X6_lates : MV yX6_lates cX6_lates 3 none 0 6 := ⟨⟨mc_X6_lates, in_X6, by decide, by decide, by decide +kernel⟩, mi_X6_lates, ms_X6_lates, rfl, by decide⟩
theorem mv_X6_isAground : MV yX6_isAground cX6_isAground 4 (some .boolean) 1 6 := ⟨⟨mc_X6_isAground, in_X6, by decide, by decide, by decide +kernel⟩, mi_X6_isAground, ms_X6_isAground, rfl, by decide⟩
theorem mv_X6_isOncoming : MV yX6_isOncoming cX6_isOncoming 6 (some .boolean) 2 6 := ⟨⟨mc_X6_isOncoming, in_X6, by decide, by decide, by decide +kernel⟩, mi_X6_isOncoming, ms_X6_isOncoming, rfl, by decide⟩
theorem mv_X6_cause : MV yX6_cause cX6_cause 6 (some .int) 2 6 := ⟨⟨mc_X6_cause, in_X6, by decide, by decide, by decide +kernel⟩, mi_X6_cause, ms_X6_cause, rfl, by decide⟩
theorem mv_X6_enters : MV yX6_enters cX6_enters 4 none 2 6 := ⟨⟨mc_X6_enters, in_X6, by decide, by decide, by decide +kernel⟩, mi_X6_enters, ms_X6_enters, rfl, by decide⟩
theorem mv_X6_leaves : MV yX6_leaves cX6_leaves 5 none 2 6 := ⟨⟨mc_X6_leaves, in_X6, by decide, by decide, by decide +kernel⟩, mi_X6_leaves, ms_X6_leaves, rfl, by decide⟩
theorem mv_X6_moves : MV yX6_moves cX6_moves 8 none 2 6 := ⟨⟨mc_X6_moves, in_X6, by decide, by decide, by decide +kernel⟩, mi_X6_moves, ms_X6_moves, rfl, by decide⟩
theorem mv_X6_goes : MV yX6_goes cX6_goes 6 (some .boolean) 2 6 := ⟨⟨mc_X6_goes, in_X6, by decide, by decide, by decide +kernel⟩, mi_X6_goes, ms_X6_goes, rfl, by decide⟩
theorem mv_X6_comesIn : MV yX6_comesIn cX6_comesIn 6 none 1 6 := ⟨⟨mc_X6_comesIn, in_X6, by decide, by decide, by decide +kernel⟩, mi_X6_comesIn, ms_X6_comesIn, rfl, by decide⟩
theorem mv_X6_minutes : MV yX6_minutes cX6_minutes 4 (some .int) 1 6 := ⟨⟨mc_X6_minutes, in_X6, by decide, by decide, by decide +kernel⟩, mi_X6_minutes, ms_X6_minutes, rfl, by decide⟩
theorem mv_X6_dues : MV yX6_dues cX6_dues 4 (some .int) 1 6 := ⟨⟨mc_X6_dues, in_X6, by decide, by decide, by decide +kernel⟩, mi_X6_dues, ms_X6_dues, rfl, by decide⟩
theorem mv_X6_told : MV yX6_told cX6_told 3 (some .int) 2 6 := ⟨⟨mc_X6_told, in_X6, by decide, by decide, by decide +kernel⟩, mi_X6_told, ms_X6_told, rfl, by decide⟩
theorem mv_X6_waited : MV yX6_waited cX6_waited 5 (some .int) 2 6 := ⟨⟨mc_X6_waited, in_X6, by decide, by decide, by decide +kernel⟩, mi_X6_waited, ms_X6_waited, rfl, by decide⟩
theorem mv_X6_line : MV yX6_line cX6_line 3 (some .int) 2 6 := ⟨⟨mc_X6_line, in_X6, by decide, by decide, by decide +kernel⟩, mi_X6_line, ms_X6_line, rfl, by decide⟩
theorem mv_X6_in : MV yX6_in cX6_in 4 (some .int) 3 6 := ⟨⟨mc_X6_in, in_X6, by decide, by decide, by decide +kernel⟩, mi_X6_in, ms_X6_in, rfl, by decide⟩
theorem mv_X6_several : MV yX6_several cX6_several 4 (some .int) 0 6 := ⟨⟨mc_X6_several, in_X6, by decide, by decide, by decide +kernel⟩, mi_X6_several, ms_X6_several, rfl, by decide⟩
theorem mv_X6_count : MV yX6_count cX6_count 7 (some .int) 1 6 := ⟨⟨mc_X6_count, in_X6, by decide, by decide, by decide +kernel⟩, mi_X6_count, ms_X6_count, rfl, by decide⟩
/-! ===== the reference's state: S k x is place x of its array k (or its number k, at 0) ===== -/
abbrev SS : Type := Nat → Int → Int
def u2 (S : SS) (k : Nat) (x v : Int) : SS := fun k' x' => if k' = k ∧ x' = x then v else S k' x'
theorem u2_self (S : SS) (k : Nat) (x v : Int) : u2 S k x v k x = v := by simp [u2]
theorem u2_ne {S : SS} {k k' : Nat} (h : k' ≠ k) (x v x' : Int) : u2 S k x v k' x' = S k' x' := by simp [u2, h]
theorem u2_at (S : SS) (k : Nat) (x v x' : Int) : u2 S k x v k x' = if x' = x then v else S k x' := by simp [u2]
def scal (k : Nat) : Bool := k == 0 || k == 1 || k == 2 || k == 8 || k == 24
def VR (S : SS) : Vw := fun σ i k => if σ = 50 then (if scal k = true then .inl (S k 0) else .inr (some (51, k))) else if σ = 51 then .inl (S i (k : Int)) else .inr none
def lvR : Lw := fun σ i => (σ == 50 && i == 0) || (σ == 51 && !(scal i) && decide (i < 36))
/-- the end of a method of the reference: its answer, its state -/
def PR (r : Option AV) (S' : SS) (sz : Nat) : Pst := fun r' lv' V' sz' => r' = r ∧ lv' = lvR ∧ V' = VR S' ∧ sz' = sz
theorem VR_arr (S : SS) (k i : Nat) : VR S 51 k i = .inl (S k (i : Int)) := by simp [VR]
theorem VR_at (S : SS) (k : Nat) {x : Int} (h : 0 ≤ x) : VR S 51 k x.toNat = .inl (S k x) := by rw [VR_arr, Int.toNat_of_nonneg h]
theorem VR_set (S : SS) (k : Nat) {x : Int} (h : 0 ≤ x) (hk : scal k = false) (v : Int) : s3 (VR S) 51 k x.toNat (.inl v) = VR (u2 S k x v) := by
  funext σ i q
  have hx := Int.toNat_of_nonneg h
  simp only [s3, VR, u2]
  by_cases h1 : σ = 50
  · subst h1
    by_cases h2 : scal q = true
    · have h3 : q ≠ k := fun e => by rw [e, hk] at h2; cases h2
      simp [h2, h3]
    · simp [h2]
  · by_cases h6 : σ = 51
    · subst h6
      by_cases h5 : i = k ∧ (q : Int) = x
      · have h7 : i = k ∧ q = x.toNat := ⟨h5.1, by omega⟩
        simp [h5.1, h7.2, hx]
      · have h7 : ¬ (i = k ∧ q = x.toNat) := fun g => h5 ⟨g.1, by omega⟩
        simp [h5, h7]
    · simp [h1, h6]
theorem VR_put (S : SS) (k : Nat) (hk : scal k = true) (v : Int) : s3 (VR S) 50 0 k (.inl v) 50 0 = VR (u2 S k 0 v) 50 0 := by
  funext q
  simp only [s3, VR, u2]
  by_cases h : q = k
  · subst h; simp [hk]
  · simp [h]
section RROW
variable {l : Launch} {D : va_G} {cA : Nat → ClassId} {A : Nat → Prop} {ad : Ad} {y : MethodName} {cc : ByteArray} {nL : Nat} {ret : Option FieldType} {R : Room} {Post : Pst} {cells slots : Nat} {S S0 : SS} {sz pc : Nat} {L : List (Option AV)} {st : List AV}
theorem rr_getA {idx k : Nat} (hd : decode cc pc = .ok (.getfield idx, 3)) (hf : FL y.cls idx 6 k) (hs : scal k = false) (hk : k < 36) (kk : AW l D cA A ad y cc nL ret R Post cells slots lvR (VR S) sz (pc + 3) L (.inr (some (51, k)) :: st)) : AW l D cA A ad y cc nL ret R Post cells slots lvR (VR S) sz pc L (.inr (some (50, 0)) :: st) :=
  aw_get hd hf (by decide) hk rfl rfl (by simp [VR, hs]) kk
theorem rr_getS {idx k : Nat} (hd : decode cc pc = .ok (.getfield idx, 3)) (hf : FL y.cls idx 6 k) (hs : scal k = true) (hk : k < 36) (hv : ∀ x, S k x = S0 k x) (kk : AW l D cA A ad y cc nL ret R Post cells slots lvR (VR S) sz (pc + 3) L (.inl (S0 k 0) :: st)) : AW l D cA A ad y cc nL ret R Post cells slots lvR (VR S) sz pc L (.inr (some (50, 0)) :: st) :=
  aw_get hd hf (by decide) hk rfl rfl (by simp [VR, hs, hv]) kk
theorem rr_iald {k n : Nat} {x : Int} (hd : decode cc pc = .ok (.iaload, 1)) (hk : Kd 51 k = .inr 0) (hl : lvR 51 k = true) (hn : LnR k = n) (h0 : 0 ≤ x) (h1 : x < (n : Int)) (hv : ∀ x, S k x = S0 k x) (kk : AW l D cA A ad y cc nL ret R Post cells slots lvR (VR S) sz (pc + 1) L (.inl (S0 k x) :: st)) : AW l D cA A ad y cc nL ret R Post cells slots lvR (VR S) sz pc L (.inl x :: .inr (some (51, k)) :: st) :=
  aw_iald hd hk hl h0 (by show x < ((LnR k : Nat) : Int); rw [hn]; exact h1) (by rw [VR_at S k h0, hv]) kk
theorem rr_zald {k n : Nat} {x : Int} (hd : decode cc pc = .ok (.baload, 1)) (hk : Kd 51 k = .inr 1) (hl : lvR 51 k = true) (hn : LnR k = n) (h0 : 0 ≤ x) (h1 : x < (n : Int)) (hv : ∀ x, S k x = S0 k x) (kk : AW l D cA A ad y cc nL ret R Post cells slots lvR (VR S) sz (pc + 1) L (.inl (S0 k x) :: st)) : AW l D cA A ad y cc nL ret R Post cells slots lvR (VR S) sz pc L (.inl x :: .inr (some (51, k)) :: st) :=
  aw_zald hd hk hl h0 (by show x < ((LnR k : Nat) : Int); rw [hn]; exact h1) (by rw [VR_at S k h0, hv]) kk
theorem lvR_scal {k : Nat} (h : lvR 51 k = true) : scal k = false := by
  by_cases hs : scal k = true
  · simp [lvR, hs] at h
  · simpa using hs
theorem rr_iast {k n : Nat} {x v : Int} (hd : decode cc pc = .ok (.iastore, 1)) (hk : Kd 51 k = .inr 0) (hl : lvR 51 k = true) (hn : LnR k = n) (h0 : 0 ≤ x) (h1 : x < (n : Int)) (kk : AW l D cA A ad y cc nL ret R Post cells slots lvR (VR (u2 S k x v)) sz (pc + 1) L st) : AW l D cA A ad y cc nL ret R Post cells slots lvR (VR S) sz pc L (.inl v :: .inl x :: .inr (some (51, k)) :: st) :=
  aw_iast hd hk hl h0 (by show x < ((LnR k : Nat) : Int); rw [hn]; exact h1) (by rw [VR_set S k h0 (lvR_scal hl)]; exact kk)
theorem rr_zast {k n : Nat} {x v : Int} (hd : decode cc pc = .ok (.bastore, 1)) (hk : Kd 51 k = .inr 1) (hl : lvR 51 k = true) (hn : LnR k = n) (h0 : 0 ≤ x) (h1 : x < (n : Int)) (hb : v = 0 ∨ v = 1) (kk : AW l D cA A ad y cc nL ret R Post cells slots lvR (VR (u2 S k x v)) sz (pc + 1) L st) : AW l D cA A ad y cc nL ret R Post cells slots lvR (VR S) sz pc L (.inl v :: .inl x :: .inr (some (51, k)) :: st) :=
  aw_zast hd hk hl h0 (by show x < ((LnR k : Nat) : Int); rw [hn]; exact h1) hb (by rw [VR_set S k h0 (lvR_scal hl)]; exact kk)
theorem AW.vw {lv : Lw} {V V' : Vw} (h : ∀ σ i, lv σ i = true → V' σ i = V σ i) (kk : AW l D cA A ad y cc nL ret R Post cells slots lv V' sz pc L st) : AW l D cA A ad y cc nL ret R Post cells slots lv V sz pc L st := by
  intro p e s m args below meth c H locs ls X hA hH hS hL
  refine kk p e s m args below meth c H locs ls X hA ⟨hH.1, fun σ i hl => ?_, hH.2.2⟩ hS hL
  rw [h σ i hl]
  exact hH.2.1 σ i hl
theorem rr_put {idx k : Nat} {v : Int} (hd : decode cc pc = .ok (.putfield idx, 3)) (hf : FL y.cls idx 6 k) (hs : scal k = true) (hk : k < 36) (hfin : (TT 6 k).2.2.2 = false) (hv : FT (tyT 6 k) (.inl v)) (kk : AW l D cA A ad y cc nL ret R Post cells slots lvR (VR (u2 S k 0 v)) sz (pc + 3) L st) : AW l D cA A ad y cc nL ret R Post cells slots lvR (VR S) sz pc L (.inl v :: .inr (some (50, 0)) :: st) := by
  refine aw_put hd hf (by decide) hk hfin rfl rfl hv (AW.vw (fun σ i hl => ?_) kk)
  by_cases h1 : σ = 50 ∧ i = 0
  · obtain ⟨rfl, rfl⟩ := h1
    exact (VR_put S k hs v).symm
  · rw [s3_cell h1]
    have h2 : σ = 51 ∧ scal i = false := by
      simp only [lvR, Bool.or_eq_true, Bool.and_eq_true, beq_iff_eq, Bool.not_eq_true', decide_eq_true_eq] at hl
      rcases hl with hl | hl
      · exact absurd hl h1
      · exact hl.1
    obtain ⟨rfl, h3⟩ := h2
    have h4 : i ≠ k := fun e => by rw [e, hs] at h3; cases h3
    funext q
    simp [VR, u2, h4]
end RROW

