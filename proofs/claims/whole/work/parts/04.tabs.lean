-- TABLES, printed by program out of the tables_1 words: methods, fields, constants, calls
def ab_cn (k : Nat) : String := match k with
  | 0 => RX0
  | 1 => RX1
  | 2 => RX2
  | 3 => RX3
  | 4 => RX4
  | 5 => RX5
  | 6 => RX6
  | 7 => RX7
  | 8 => RX8
  | 9 => RX9
  | 10 => RX10
  | 11 => RX11
  | 12 => RX12
  | 13 => RL
  | 20 => RJ0
  | 21 => RJ1
  | 22 => RJ2
  | 23 => RJ3
  | 26 => RJ6
  | 27 => RJ7
  | 29 => RJ9
  | 30 => RJ10
  | _ => ""
def ab_xs : List Cond := [.selects RX3 yX8_markStreets yX8_markStreets, .selects RX10 yX8_markStreets yX8_markStreets, .selects RX3 yX8_cheapest yX8_cheapest, .selects RX10 yX8_cheapest yX8_cheapest, .selects RX3 yX8_meetStreet yX8_meetStreet, .selects RX10 yX8_meetStreet yX8_meetStreet, .selects RX3 yX8_cheapestOn yX8_cheapestOn, .selects RX10 yX8_cheapestOn yX8_cheapestOn]
def ab_TB : List Cond := ab_xs ++ lw_tbl
def ab_TG : List Cond := ab_TB.filter goodWord
theorem ab_TG_good {w : Cond} (h : w ∈ ab_TG) : (w.onTables && w.keeps) = true ∨ ∃ ty, w = .arrayClass ty := good_of_word (List.mem_filter.mp h).2
def ab_at (i : Nat) (w : Cond) : Bool := decide (ab_TB[i]? = some w)
def ab_ag (i : Nat) (w : Cond) : Bool := ab_at i w && goodWord w
theorem ab_at_ok {i : Nat} {w : Cond} (h : ab_at i w = true) : w ∈ ab_TB := List.mem_of_getElem? (of_decide_eq_true h)
theorem ab_ag_ok {i : Nat} {w : Cond} (h : ab_ag i w = true) : w ∈ ab_TG := by
  have h2 : ab_at i w = true ∧ goodWord w = true := Bool.and_eq_true_iff.mp h
  exact List.mem_filter.mpr ⟨ab_at_ok h2.1, h2.2⟩
def ab_ws (M : ab_M) : List Cond := .code (ab_y M) (ab_cc M) (ab_ml M) (ab_rt M) :: ab_TG
def ab_rm (M : ab_M) : Room := { frames := ab_fr M, cells := 0, slots := 0, locals := ab_lo M }
def mdX7_lay : ab_M := (7, yX7_lay, cX7_lay, 4, none, 3, 72, 3)
def mdX7_change : ab_M := (7, yX7_change, cX7_change, 6, none, 2, 47, 3)
def mdX2_firstChange : ab_M := (2, yX2_firstChange, cX2_firstChange, 2, (some .int), 0, 0, 2)
def mdX7_shutBetween : ab_M := (7, yX7_shutBetween, cX7_shutBetween, 5, none, 1, 23, 3)
def mdX9_joins : ab_M := (9, yX9_joins, cX9_joins, 4, (some .boolean), 0, 0, 4)
def mdX7_joinNeighbours : ab_M := (7, yX7_joinNeighbours, cX7_joinNeighbours, 2, none, 1, 23, 1)
def mdJ7_fill_53178 : ab_M := (27, yJ7_fill_53178, cJ7_fill_53178, 4, none, 0, 0, 2)
def mdX7_join : ab_M := (7, yX7_join, cX7_join, 4, none, 0, 0, 4)
def mdX7_joinAll : ab_M := (7, yX7_joinAll, cX7_joinAll, 6, none, 0, 0, 1)
def mdX11_feed : ab_M := (11, yX11_feed, cX11_feed, 6, (some .int), 1, 22, 6)
def mdX6_append : ab_M := (6, yX6_append, cX6_append, 3, none, 0, 0, 2)
def mdX11_town : ab_M := (11, yX11_town, cX11_town, 3, (some .int), 11, 239, 2)
def mdX6_readTown : ab_M := (6, yX6_readTown, cX6_readTown, 4, (some .boolean), 10, 216, 3)
def mdX6_begin : ab_M := (6, yX6_begin, cX6_begin, 2, none, 2, 41, 2)
def mdX6_advance : ab_M := (6, yX6_advance, cX6_advance, 2, none, 1, 20, 1)
def mdX6_isLetter : ab_M := (6, yX6_isLetter, cX6_isLetter, 1, (some .boolean), 0, 0, 1)
def mdX6_isDigit : ab_M := (6, yX6_isDigit, cX6_isDigit, 1, (some .boolean), 0, 0, 1)
def mdX9_clear : ab_M := (9, yX9_clear, cX9_clear, 1, none, 1, 23, 1)
def mdX6_takeStatement : ab_M := (6, yX6_takeStatement, cX6_takeStatement, 3, (some .boolean), 9, 194, 2)
def mdX6_takeWord : ab_M := (6, yX6_takeWord, cX6_takeWord, 2, (some .boolean), 6, 128, 2)
def mdX6_isWord : ab_M := (6, yX6_isWord, cX6_isWord, 3, (some .boolean), 5, 106, 2)
def mdX6_takeCorner : ab_M := (6, yX6_takeCorner, cX6_takeCorner, 5, (some .boolean), 8, 170, 2)
def mdX6_takeNewName : ab_M := (6, yX6_takeNewName, cX6_takeNewName, 3, (some .boolean), 7, 148, 2)
def mdX6_isReserved : ab_M := (6, yX6_isReserved, cX6_isReserved, 1, (some .boolean), 6, 128, 1)
def mdX6_cornerNamed : ab_M := (6, yX6_cornerNamed, cX6_cornerNamed, 3, (some .int), 1, 23, 2)
def mdX6_isName : ab_M := (6, yX6_isName, cX6_isName, 4, (some .boolean), 0, 0, 3)
def mdX6_takeNumber : ab_M := (6, yX6_takeNumber, cX6_takeNumber, 4, (some .boolean), 2, 41, 3)
def mdX6_breadNamed : ab_M := (6, yX6_breadNamed, cX6_breadNamed, 1, (some .int), 6, 128, 1)
def mdX6_takeStreet : ab_M := (6, yX6_takeStreet, cX6_takeStreet, 6, (some .boolean), 7, 149, 2)
def mdX9_hasStreet : ab_M := (9, yX9_hasStreet, cX9_hasStreet, 4, (some .boolean), 1, 23, 3)
def mdX6_takeAsk : ab_M := (6, yX6_takeAsk, cX6_takeAsk, 3, (some .boolean), 3, 64, 2)
def mdX6_takeEnd : ab_M := (6, yX6_takeEnd, cX6_takeEnd, 1, (some .boolean), 2, 41, 1)
def mdX9_copyFrom : ab_M := (9, yX9_copyFrom, cX9_copyFrom, 2, none, 1, 60, 2)
def mdX0_clear : ab_M := (0, yX0_clear, cX0_clear, 1, none, 0, 0, 1)
def mdX11_changeRoads : ab_M := (11, yX11_changeRoads, cX11_changeRoads, 1, none, 4, 95, 1)
def mdX11_law : ab_M := (11, yX11_law, cX11_law, 3, (some .int), 9, 199, 2)
def mdX6_readLaw : ab_M := (6, yX6_readLaw, cX6_readLaw, 7, (some .boolean), 8, 173, 4)
def mdX2_clearNext : ab_M := (2, yX2_clearNext, cX2_clearNext, 1, none, 0, 0, 1)
def mdX6_takeRule : ab_M := (6, yX6_takeRule, cX6_takeRule, 5, (some .boolean), 7, 149, 4)
def mdX6_takeBetween : ab_M := (6, yX6_takeBetween, cX6_takeBetween, 7, (some .boolean), 3, 64, 5)
def mdX2_addChange : ab_M := (2, yX2_addChange, cX2_addChange, 5, none, 0, 0, 4)
def mdX11_fault : ab_M := (11, yX11_fault, cX11_fault, 1, (some .int), 0, 0, 1)
def mdX11_told : ab_M := (11, yX11_told, cX11_told, 2, (some .int), 1, 22, 2)
def mdX9_streetTold : ab_M := (9, yX9_streetTold, cX9_streetTold, 3, (some .int), 0, 0, 3)
def mdX9_plainTold : ab_M := (9, yX9_plainTold, cX9_plainTold, 2, (some .int), 0, 0, 2)
def mdX11_name : ab_M := (11, yX11_name, cX11_name, 3, (some .int), 1, 21, 3)
def mdX9_isCorner : ab_M := (9, yX9_isCorner, cX9_isCorner, 2, (some .boolean), 0, 0, 2)
def mdX11_far : ab_M := (11, yX11_far, cX11_far, 4, (some .int), 3, 74, 3)
def mdX9_isSpot : ab_M := (9, yX9_isSpot, cX9_isSpot, 3, (some .boolean), 1, 21, 2)
def mdX9_streetOf : ab_M := (9, yX9_streetOf, cX9_streetOf, 1, (some .int), 0, 0, 1)
def mdX9_placeOf : ab_M := (9, yX9_placeOf, cX9_placeOf, 1, (some .int), 0, 0, 1)
def mdX7_between : ab_M := (7, yX7_between, cX7_between, 6, (some .int), 2, 49, 3)
def mdX7_isShut : ab_M := (7, yX7_isShut, cX7_isShut, 2, (some .boolean), 1, 20, 2)
def mdX7_toCorner : ab_M := (7, yX7_toCorner, cX7_toCorner, 7, (some .int), 1, 23, 3)
def mdX11_force : ab_M := (11, yX11_force, cX11_force, 2, (some .boolean), 5, 115, 2)
def mdX11_seller : ab_M := (11, yX11_seller, cX11_seller, 8, (some .int), 3, 65, 6)
def mdX11_canStand : ab_M := (11, yX11_canStand, cX11_canStand, 3, (some .boolean), 2, 43, 3)
def mdX11_put : ab_M := (11, yX11_put, cX11_put, 4, (some .boolean), 3, 65, 4)
def mdX0_has : ab_M := (0, yX0_has, cX0_has, 2, (some .boolean), 0, 0, 2)
def mdX11_of : ab_M := (11, yX11_of, cX11_of, 3, (some .int), 1, 21, 3)
def mdX11_sold : ab_M := (11, yX11_sold, cX11_sold, 2, (some .long), 5, 153, 2)
def mdX11_sellToAll : ab_M := (11, yX11_sellToAll, cX11_sellToAll, 1, none, 4, 133, 1)
def mdX3_load : ab_M := (3, yX3_load, cX3_load, 3, none, 3, 111, 2)
def mdX8_place : ab_M := (8, yX8_place, cX8_place, 3, none, 2, 89, 3)
def mdX7_reach : ab_M := (7, yX7_reach, cX7_reach, 10, none, 1, 60, 4)
def mdX8_goRound : ab_M := (8, yX8_goRound, cX8_goRound, 2, none, 3, 79, 1)
def mdX3_open : ab_M := (3, yX3_open, cX3_open, 1, none, 1, 23, 1)
def mdX10_open : ab_M := (10, yX10_open, cX10_open, 1, none, 0, 0, 1)
def mdX8_markStreets : ab_M := (8, yX8_markStreets, cX8_markStreets, 2, none, 1, 23, 1)
def mdX8_cheapest : ab_M := (8, yX8_cheapest, cX8_cheapest, 4, (some .int), 1, 21, 2)
def mdX8_cheaper : ab_M := (8, yX8_cheaper, cX8_cheaper, 2, (some .int), 0, 0, 2)
def mdX3_meetCorner : ab_M := (3, yX3_meetCorner, cX3_meetCorner, 6, none, 0, 0, 2)
def mdX10_meetCorner : ab_M := (10, yX10_meetCorner, cX10_meetCorner, 3, none, 0, 0, 2)
def mdX8_meetStreet : ab_M := (8, yX8_meetStreet, cX8_meetStreet, 8, none, 2, 52, 2)
def mdX8_cheapestOn : ab_M := (8, yX8_cheapestOn, cX8_cheapestOn, 8, (some .int), 1, 23, 3)
def mdX3_meetStretch : ab_M := (3, yX3_meetStretch, cX3_meetStretch, 10, none, 1, 23, 5)
def mdX10_meetStretch : ab_M := (10, yX10_meetStretch, cX10_meetStretch, 13, none, 0, 0, 5)
def mdX3_close : ab_M := (3, yX3_close, cX3_close, 4, none, 1, 20, 1)
def mdJ6_bitCount_0f7a4 : ab_M := (26, yJ6_bitCount_0f7a4, cJ6_bitCount_0f7a4, 1, (some .int), 0, 0, 1)
def mdX10_close : ab_M := (10, yX10_close, cX10_close, 1, none, 0, 0, 1)
def mdX11_earns : ab_M := (11, yX11_earns, cX11_earns, 2, (some .long), 5, 153, 2)
def mdX3_takings : ab_M := (3, yX3_takings, cX3_takings, 5, (some .long), 1, 21, 2)
def mdX3_worth : ab_M := (3, yX3_worth, cX3_worth, 2, (some .long), 0, 0, 2)
def mdX11_home : ab_M := (11, yX11_home, cX11_home, 1, (some .long), 5, 153, 1)
def mdX11_buys : ab_M := (11, yX11_buys, cX11_buys, 2, (some .int), 5, 153, 2)
def mdX11_best : ab_M := (11, yX11_best, cX11_best, 3, (some .long), 5, 159, 3)
def mdX4_findBest : ab_M := (4, yX4_findBest, cX4_findBest, 7, none, 4, 133, 2)
def mdX4_standing : ab_M := (4, yX4_standing, cX4_standing, 2, (some .int), 0, 0, 2)
def mdX4_listOthers : ab_M := (4, yX4_listOthers, cX4_listOthers, 8, none, 3, 73, 2)
def mdX4_addOther : ab_M := (4, yX4_addOther, cX4_addOther, 3, none, 0, 0, 3)
def mdX3_isFarEnough : ab_M := (3, yX3_isFarEnough, cX3_isFarEnough, 4, (some .boolean), 2, 50, 3)
def mdX8_stepsTo : ab_M := (8, yX8_stepsTo, cX8_stepsTo, 8, (some .int), 1, 23, 3)
def mdX9_spotOn : ab_M := (9, yX9_spotOn, cX9_spotOn, 2, (some .int), 0, 0, 2)
def mdX4_take : ab_M := (4, yX4_take, cX4_take, 3, none, 3, 111, 3)
def mdX11_rest : ab_M := (11, yX11_rest, cX11_rest, 1, (some .int), 6, 180, 1)
def mdX4_firstRestless : ab_M := (4, yX4_firstRestless, cX4_firstRestless, 2, (some .int), 5, 159, 1)
def mdX11_turn : ab_M := (11, yX11_turn, cX11_turn, 2, (some .boolean), 5, 159, 2)
def mdX11_chase : ab_M := (11, yX11_chase, cX11_chase, 5, (some .int), 7, 206, 3)
def mdX4_runChase : ab_M := (4, yX4_runChase, cX4_runChase, 6, none, 6, 181, 3)
def mdX4_snapshot : ab_M := (4, yX4_snapshot, cX4_snapshot, 4, (some .long), 0, 0, 1)
def mdX4_endChase : ab_M := (4, yX4_endChase, cX4_endChase, 4, none, 0, 0, 4)
def mdX4_goOneRound : ab_M := (4, yX4_goOneRound, cX4_goOneRound, 3, (some .boolean), 5, 159, 1)
def mdX4_sameAgo : ab_M := (4, yX4_sameAgo, cX4_sameAgo, 3, (some .int), 0, 0, 2)
def mdX11_rests : ab_M := (11, yX11_rests, cX11_rests, 5, (some .int), 7, 186, 5)
def mdX11_isPair : ab_M := (11, yX11_isPair, cX11_isPair, 3, (some .boolean), 1, 21, 3)
def mdX1_prepare : ab_M := (1, yX1_prepare, cX1_prepare, 6, none, 6, 161, 5)
def mdX1_weighAll : ab_M := (1, yX1_weighAll, cX1_weighAll, 9, none, 5, 133, 4)
def mdX1_weighRow : ab_M := (1, yX1_weighRow, cX1_weighRow, 4, none, 4, 100, 2)
def mdX1_findRests : ab_M := (1, yX1_findRests, cX1_findRests, 3, none, 2, 48, 1)
def mdX1_isRest : ab_M := (1, yX1_isRest, cX1_isRest, 7, (some .boolean), 1, 22, 2)
def mdX1_cornerIn : ab_M := (1, yX1_cornerIn, cX1_cornerIn, 3, (some .int), 0, 0, 3)
def mdX1_cornersOf : ab_M := (1, yX1_cornersOf, cX1_cornersOf, 2, (some .int), 1, 22, 2)
def mdX11_lots : ab_M := (11, yX11_lots, cX11_lots, 6, (some .long), 5, 159, 6)
def mdX11_areTwoCorners : ab_M := (11, yX11_areTwoCorners, cX11_areTwoCorners, 3, (some .boolean), 1, 21, 3)
def mdX1_drawLots : ab_M := (1, yX1_drawLots, cX1_drawLots, 7, (some .long), 4, 133, 6)
def mdX11_standsStill : ab_M := (11, yX11_standsStill, cX11_standsStill, 3, (some .boolean), 0, 0, 3)
def mdX1_sumOf : ab_M := (1, yX1_sumOf, cX1_sumOf, 1, (some .long), 0, 0, 1)
def mdX1_inLowest : ab_M := (1, yX1_inLowest, cX1_inLowest, 9, (some .long), 1, 30, 3)
def mdX1_commonDivisor : ab_M := (1, yX1_commonDivisor, cX1_commonDivisor, 11, (some .long), 0, 0, 2)
def mdX11_lead : ab_M := (11, yX11_lead, cX11_lead, 6, (some .long), 7, 186, 4)
def mdX1_ledRow : ab_M := (1, yX1_ledRow, cX1_ledRow, 5, (some .int), 2, 49, 2)
def mdX1_answerTo : ab_M := (1, yX1_answerTo, cX1_answerTo, 8, (some .int), 1, 22, 3)
def mdX1_worthOf : ab_M := (1, yX1_worthOf, cX1_worthOf, 3, (some .long), 0, 0, 3)
def mdX11_prices : ab_M := (11, yX11_prices, cX11_prices, 4, (some .int), 6, 156, 4)
def mdX5_prepare : ab_M := (5, yX5_prepare, cX5_prepare, 4, none, 5, 133, 4)
def mdX5_findPairs : ab_M := (5, yX5_findPairs, cX5_findPairs, 6, none, 4, 100, 3)
def mdX5_isRest : ab_M := (5, yX5_isRest, cX5_isRest, 5, (some .boolean), 0, 0, 3)
def mdX5_pairAt : ab_M := (5, yX5_pairAt, cX5_pairAt, 2, (some .int), 0, 0, 2)
def mdX11_stage : ab_M := (11, yX11_stage, cX11_stage, 7, (some .int), 7, 173, 6)
def mdX5_firstStage : ab_M := (5, yX5_firstStage, cX5_firstStage, 6, (some .int), 6, 148, 5)
def mdX5_weighStage : ab_M := (5, yX5_weighStage, cX5_weighStage, 4, none, 5, 125, 4)
def mdX11_walk : ab_M := (11, yX11_walk, cX11_walk, 3, (some .long), 5, 133, 3)
def mdX10_toSpots : ab_M := (10, yX10_toSpots, cX10_toSpots, 3, (some .long), 4, 111, 3)
def mdX11_own : ab_M := (11, yX11_own, cX11_own, 3, (some .long), 7, 180, 3)
def mdX10_findOwn : ab_M := (10, yX10_findOwn, cX10_findOwn, 4, none, 6, 157, 2)
def mdX10_noteOwn : ab_M := (10, yX10_noteOwn, cX10_noteOwn, 5, none, 5, 133, 3)
def mdX11_loss : ab_M := (11, yX11_loss, cX11_loss, 3, (some .long), 7, 180, 1)
def mdX10_toBakers : ab_M := (10, yX10_toBakers, cX10_toBakers, 3, (some .long), 4, 111, 2)
def mdX11_bestLaw : ab_M := (11, yX11_bestLaw, cX11_bestLaw, 4, (some .long), 7, 188, 4)
def mdX1_choose : ab_M := (1, yX1_choose, cX1_choose, 8, none, 6, 161, 5)
def mdJ7_fill_d0a16 : ab_M := (27, yJ7_fill_d0a16, cJ7_fill_d0a16, 5, none, 0, 0, 2)
def mdX1_leastWalk : ab_M := (1, yX1_leastWalk, cX1_leastWalk, 6, (some .long), 5, 133, 1)
def mdX11_shift : ab_M := (11, yX11_shift, cX11_shift, 3, (some .int), 6, 191, 3)
def mdX4_leastShift : ab_M := (4, yX4_leastShift, cX4_leastShift, 5, (some .int), 5, 167, 3)
def mdX4_leastShiftFor : ab_M := (4, yX4_leastShiftFor, cX4_leastShiftFor, 15, (some .int), 4, 133, 4)
def mdX3_takingsOfOne : ab_M := (3, yX3_takingsOfOne, cX3_takingsOfOne, 7, (some .int), 1, 20, 3)
def mdX11_image : ab_M := (11, yX11_image, cX11_image, 1, (some .int), 2, 81, 1)
def mdX0_copyFrom : ab_M := (0, yX0_copyFrom, cX0_copyFrom, 2, none, 1, 60, 2)
def mdX11_back : ab_M := (11, yX11_back, cX11_back, 2, (some .boolean), 5, 115, 2)
def mdX11_count : ab_M := (11, yX11_count, cX11_count, 2, (some .int), 1, 22, 2)
def mdX7_openSpots : ab_M := (7, yX7_openSpots, cX7_openSpots, 3, (some .int), 0, 0, 1)
def mdX7_openPeople : ab_M := (7, yX7_openPeople, cX7_openPeople, 3, (some .int), 0, 0, 1)
def mdX12_feed : ab_M := (12, yX12_feed, cX12_feed, 8, (some .int), 0, 0, 6)
def mdX12_town : ab_M := (12, yX12_town, cX12_town, 5, (some .int), 5, 110, 2)
def mdX12_beginsText : ab_M := (12, yX12_beginsText, cX12_beginsText, 2, none, 2, 43, 2)
def mdX12_next : ab_M := (12, yX12_next, cX12_next, 2, none, 1, 22, 1)
def mdX12_here : ab_M := (12, yX12_here, cX12_here, 1, (some .int), 0, 0, 1)
def mdX12_within : ab_M := (12, yX12_within, cX12_within, 3, (some .boolean), 0, 0, 3)
def mdX12_min : ab_M := (12, yX12_min, cX12_min, 2, (some .int), 0, 0, 2)
def mdX12_errs : ab_M := (12, yX12_errs, cX12_errs, 1, none, 0, 0, 1)
def mdX12_readStatement : ab_M := (12, yX12_readStatement, cX12_readStatement, 2, none, 4, 89, 1)
def mdX12_wordHere : ab_M := (12, yX12_wordHere, cX12_wordHere, 1, (some .int), 1, 22, 1)
def mdX12_wordOf : ab_M := (12, yX12_wordOf, cX12_wordOf, 3, (some .int), 0, 0, 2)
def mdX12_readCorner : ab_M := (12, yX12_readCorner, cX12_readCorner, 3, none, 3, 66, 1)
def mdX12_isName : ab_M := (12, yX12_isName, cX12_isName, 1, (some .boolean), 1, 22, 1)
def mdX12_number : ab_M := (12, yX12_number, cX12_number, 4, (some .int), 2, 43, 3)
def mdX12_readStreet : ab_M := (12, yX12_readStreet, cX12_readStreet, 4, none, 3, 66, 1)
def mdX12_cornerHere : ab_M := (12, yX12_cornerHere, cX12_cornerHere, 5, (some .int), 2, 42, 3)
def mdX12_ends : ab_M := (12, yX12_ends, cX12_ends, 1, none, 2, 43, 1)
def mdX12_laysTown : ab_M := (12, yX12_laysTown, cX12_laysTown, 4, none, 1, 22, 1)
def mdX12_lays : ab_M := (12, yX12_lays, cX12_lays, 3, none, 0, 0, 2)
def mdX12_fault : ab_M := (12, yX12_fault, cX12_fault, 1, (some .int), 0, 0, 1)
def mdX12_told : ab_M := (12, yX12_told, cX12_told, 4, (some .int), 1, 22, 2)
def mdX12_name : ab_M := (12, yX12_name, cX12_name, 8, (some .int), 1, 22, 3)
def mdX12_law : ab_M := (12, yX12_law, cX12_law, 4, (some .int), 4, 89, 2)
def mdX12_readLaw : ab_M := (12, yX12_readLaw, cX12_readLaw, 4, none, 3, 66, 3)
def mdX12_force : ab_M := (12, yX12_force, cX12_force, 2, (some .boolean), 2, 45, 2)
def mdX12_far : ab_M := (12, yX12_far, cX12_far, 4, (some .int), 3, 68, 3)
def mdX12_isSpot : ab_M := (12, yX12_isSpot, cX12_isSpot, 2, (some .boolean), 1, 22, 2)
def mdX12_farOf : ab_M := (12, yX12_farOf, cX12_farOf, 5, (some .int), 2, 44, 3)
def mdX12_toCorner : ab_M := (12, yX12_toCorner, cX12_toCorner, 4, (some .int), 1, 21, 3)
def mdX12_streetOf : ab_M := (12, yX12_streetOf, cX12_streetOf, 1, (some .int), 0, 0, 1)
def mdX12_partOf : ab_M := (12, yX12_partOf, cX12_partOf, 1, (some .int), 0, 0, 1)
def mdX12_abs : ab_M := (12, yX12_abs, cX12_abs, 1, (some .int), 0, 0, 1)
def mdX12_seller : ab_M := (12, yX12_seller, cX12_seller, 6, (some .int), 2, 43, 6)
def mdX12_put : ab_M := (12, yX12_put, cX12_put, 4, (some .boolean), 2, 43, 4)
def mdX12_isSeller : ab_M := (12, yX12_isSeller, cX12_isSeller, 2, (some .boolean), 0, 0, 2)
def mdX12_of : ab_M := (12, yX12_of, cX12_of, 3, (some .int), 1, 22, 3)
def mdX12_priceOf : ab_M := (12, yX12_priceOf, cX12_priceOf, 2, (some .int), 0, 0, 2)
def mdX12_sold : ab_M := (12, yX12_sold, cX12_sold, 2, (some .long), 4, 88, 2)
def mdX12_sells : ab_M := (12, yX12_sells, cX12_sells, 3, none, 3, 66, 1)
def mdX12_paces : ab_M := (12, yX12_paces, cX12_paces, 3, none, 2, 44, 1)
def mdX12_buyersAt : ab_M := (12, yX12_buyersAt, cX12_buyersAt, 6, (some .int), 1, 21, 2)
def mdX12_gives : ab_M := (12, yX12_gives, cX12_gives, 6, none, 0, 0, 3)
def mdX12_buyersOn : ab_M := (12, yX12_buyersOn, cX12_buyersOn, 9, (some .int), 1, 21, 3)
def mdX12_earns : ab_M := (12, yX12_earns, cX12_earns, 2, (some .long), 4, 88, 2)
def mdX12_chainEarns : ab_M := (12, yX12_chainEarns, cX12_chainEarns, 5, (some .long), 2, 42, 2)
def mdX12_earnsOf : ab_M := (12, yX12_earnsOf, cX12_earnsOf, 2, (some .long), 1, 21, 2)
def mdX12_home : ab_M := (12, yX12_home, cX12_home, 1, (some .long), 4, 88, 1)
def mdX12_buys : ab_M := (12, yX12_buys, cX12_buys, 2, (some .int), 3, 66, 2)
def mdX12_best : ab_M := (12, yX12_best, cX12_best, 3, (some .long), 6, 137, 3)
def mdX12_findBest : ab_M := (12, yX12_findBest, cX12_findBest, 5, none, 5, 113, 2)
def mdX12_tries : ab_M := (12, yX12_tries, cX12_tries, 6, none, 4, 88, 4)
def mdX12_isLet : ab_M := (12, yX12_isLet, cX12_isLet, 5, (some .boolean), 3, 68, 3)
def mdX12_rest : ab_M := (12, yX12_rest, cX12_rest, 2, (some .int), 6, 137, 1)
def mdX12_turn : ab_M := (12, yX12_turn, cX12_turn, 2, (some .boolean), 6, 137, 2)
def mdX12_chase : ab_M := (12, yX12_chase, cX12_chase, 8, (some .int), 7, 158, 3)
def mdX12_notes : ab_M := (12, yX12_notes, cX12_notes, 3, none, 0, 0, 2)
def mdX12_isAs : ab_M := (12, yX12_isAs, cX12_isAs, 4, (some .boolean), 0, 0, 2)
def mdX12_rests : ab_M := (12, yX12_rests, cX12_rests, 9, (some .int), 6, 142, 5)
def mdX12_areTwo : ab_M := (12, yX12_areTwo, cX12_areTwo, 3, (some .boolean), 1, 21, 3)
def mdX12_plays : ab_M := (12, yX12_plays, cX12_plays, 8, none, 5, 115, 4)
def mdX12_rowOf : ab_M := (12, yX12_rowOf, cX12_rowOf, 3, (some .int), 0, 0, 3)
def mdX12_isRowLet : ab_M := (12, yX12_isRowLet, cX12_isRowLet, 6, (some .boolean), 4, 90, 4)
def mdX12_isApart : ab_M := (12, yX12_isApart, cX12_isApart, 3, (some .boolean), 3, 68, 3)
def mdX12_isRest : ab_M := (12, yX12_isRest, cX12_isRest, 8, (some .boolean), 1, 22, 5)
def mdX12_lots : ab_M := (12, yX12_lots, cX12_lots, 17, (some .long), 6, 142, 6)
def mdX12_isCorner : ab_M := (12, yX12_isCorner, cX12_isCorner, 2, (some .boolean), 0, 0, 2)
def mdX12_isRestOf : ab_M := (12, yX12_isRestOf, cX12_isRestOf, 7, (some .boolean), 1, 22, 4)
def mdX12_divisor : ab_M := (12, yX12_divisor, cX12_divisor, 10, (some .long), 0, 0, 2)
def mdX12_lead : ab_M := (12, yX12_lead, cX12_lead, 5, (some .long), 6, 142, 4)
def mdX12_leads : ab_M := (12, yX12_leads, cX12_leads, 8, (some .boolean), 2, 48, 2)
def mdX12_answerTo : ab_M := (12, yX12_answerTo, cX12_answerTo, 7, (some .int), 1, 22, 3)
def mdX12_prices : ab_M := (12, yX12_prices, cX12_prices, 5, (some .int), 5, 114, 4)
def mdX12_asks : ab_M := (12, yX12_asks, cX12_asks, 7, none, 4, 88, 3)
def mdX12_pairOf : ab_M := (12, yX12_pairOf, cX12_pairOf, 5, (some .int), 1, 24, 2)
def mdX12_arePrices : ab_M := (12, yX12_arePrices, cX12_arePrices, 5, (some .boolean), 0, 0, 3)
def mdX12_stage : ab_M := (12, yX12_stage, cX12_stage, 11, (some .int), 5, 115, 6)
def mdX12_walk : ab_M := (12, yX12_walk, cX12_walk, 3, (some .long), 4, 93, 3)
def mdX12_walkTo : ab_M := (12, yX12_walkTo, cX12_walkTo, 3, (some .long), 3, 71, 3)
def mdX12_walkOf : ab_M := (12, yX12_walkOf, cX12_walkOf, 7, (some .long), 2, 45, 1)
def mdX12_halves : ab_M := (12, yX12_halves, cX12_halves, 5, (some .int), 1, 21, 3)
def mdX12_own : ab_M := (12, yX12_own, cX12_own, 5, (some .long), 5, 120, 3)
def mdX12_ownOf : ab_M := (12, yX12_ownOf, cX12_ownOf, 8, (some .long), 4, 93, 2)
def mdX12_loss : ab_M := (12, yX12_loss, cX12_loss, 5, (some .long), 5, 120, 1)
def mdX12_bestLaw : ab_M := (12, yX12_bestLaw, cX12_bestLaw, 12, (some .long), 7, 170, 4)
def mdX12_lawWalk : ab_M := (12, yX12_lawWalk, cX12_lawWalk, 9, (some .long), 6, 142, 3)
def mdX12_shift : ab_M := (12, yX12_shift, cX12_shift, 7, (some .int), 7, 158, 3)
def mdX12_image : ab_M := (12, yX12_image, cX12_image, 3, (some .int), 0, 0, 1)
def mdX12_back : ab_M := (12, yX12_back, cX12_back, 4, (some .boolean), 2, 45, 2)
def mdX12_count : ab_M := (12, yX12_count, cX12_count, 2, (some .int), 1, 22, 2)
def mdX12_spotsOpen : ab_M := (12, yX12_spotsOpen, cX12_spotsOpen, 3, (some .int), 0, 0, 1)
def mdX12_partsOpen : ab_M := (12, yX12_partsOpen, cX12_partsOpen, 3, (some .int), 0, 0, 1)
theorem mwX7_lay : Cond.code (ab_y mdX7_lay) (ab_cc mdX7_lay) (ab_ml mdX7_lay) (ab_rt mdX7_lay) ∈ ab_TG := ab_ag_ok (i := 692) (by decide +kernel)
theorem mwX7_change : Cond.code (ab_y mdX7_change) (ab_cc mdX7_change) (ab_ml mdX7_change) (ab_rt mdX7_change) ∈ ab_TG := ab_ag_ok (i := 696) (by decide +kernel)
theorem mwX2_firstChange : Cond.code (ab_y mdX2_firstChange) (ab_cc mdX2_firstChange) (ab_ml mdX2_firstChange) (ab_rt mdX2_firstChange) ∈ ab_TG := ab_ag_ok (i := 700) (by decide +kernel)
theorem mwX7_shutBetween : Cond.code (ab_y mdX7_shutBetween) (ab_cc mdX7_shutBetween) (ab_ml mdX7_shutBetween) (ab_rt mdX7_shutBetween) ∈ ab_TG := ab_ag_ok (i := 704) (by decide +kernel)
theorem mwX9_joins : Cond.code (ab_y mdX9_joins) (ab_cc mdX9_joins) (ab_ml mdX9_joins) (ab_rt mdX9_joins) ∈ ab_TG := ab_ag_ok (i := 708) (by decide +kernel)
theorem mwX7_joinNeighbours : Cond.code (ab_y mdX7_joinNeighbours) (ab_cc mdX7_joinNeighbours) (ab_ml mdX7_joinNeighbours) (ab_rt mdX7_joinNeighbours) ∈ ab_TG := ab_ag_ok (i := 713) (by decide +kernel)
theorem mwJ7_fill_53178 : Cond.code (ab_y mdJ7_fill_53178) (ab_cc mdJ7_fill_53178) (ab_ml mdJ7_fill_53178) (ab_rt mdJ7_fill_53178) ∈ ab_TG := ab_ag_ok (i := 716) (by decide +kernel)
theorem mwX7_join : Cond.code (ab_y mdX7_join) (ab_cc mdX7_join) (ab_ml mdX7_join) (ab_rt mdX7_join) ∈ ab_TG := ab_ag_ok (i := 720) (by decide +kernel)
theorem mwX7_joinAll : Cond.code (ab_y mdX7_joinAll) (ab_cc mdX7_joinAll) (ab_ml mdX7_joinAll) (ab_rt mdX7_joinAll) ∈ ab_TG := ab_ag_ok (i := 724) (by decide +kernel)
theorem mwX11_feed : Cond.code (ab_y mdX11_feed) (ab_cc mdX11_feed) (ab_ml mdX11_feed) (ab_rt mdX11_feed) ∈ ab_TG := ab_ag_ok (i := 777) (by decide +kernel)
theorem mwX6_append : Cond.code (ab_y mdX6_append) (ab_cc mdX6_append) (ab_ml mdX6_append) (ab_rt mdX6_append) ∈ ab_TG := ab_ag_ok (i := 781) (by decide +kernel)
theorem mwX11_town : Cond.code (ab_y mdX11_town) (ab_cc mdX11_town) (ab_ml mdX11_town) (ab_rt mdX11_town) ∈ ab_TG := ab_ag_ok (i := 785) (by decide +kernel)
theorem mwX6_readTown : Cond.code (ab_y mdX6_readTown) (ab_cc mdX6_readTown) (ab_ml mdX6_readTown) (ab_rt mdX6_readTown) ∈ ab_TG := ab_ag_ok (i := 789) (by decide +kernel)
theorem mwX6_begin : Cond.code (ab_y mdX6_begin) (ab_cc mdX6_begin) (ab_ml mdX6_begin) (ab_rt mdX6_begin) ∈ ab_TG := ab_ag_ok (i := 793) (by decide +kernel)
theorem mwX6_advance : Cond.code (ab_y mdX6_advance) (ab_cc mdX6_advance) (ab_ml mdX6_advance) (ab_rt mdX6_advance) ∈ ab_TG := ab_ag_ok (i := 800) (by decide +kernel)
theorem mwX6_isLetter : Cond.code (ab_y mdX6_isLetter) (ab_cc mdX6_isLetter) (ab_ml mdX6_isLetter) (ab_rt mdX6_isLetter) ∈ ab_TG := ab_ag_ok (i := 803) (by decide +kernel)
theorem mwX6_isDigit : Cond.code (ab_y mdX6_isDigit) (ab_cc mdX6_isDigit) (ab_ml mdX6_isDigit) (ab_rt mdX6_isDigit) ∈ ab_TG := ab_ag_ok (i := 806) (by decide +kernel)
theorem mwX9_clear : Cond.code (ab_y mdX9_clear) (ab_cc mdX9_clear) (ab_ml mdX9_clear) (ab_rt mdX9_clear) ∈ ab_TG := ab_ag_ok (i := 810) (by decide +kernel)
theorem mwX6_takeStatement : Cond.code (ab_y mdX6_takeStatement) (ab_cc mdX6_takeStatement) (ab_ml mdX6_takeStatement) (ab_rt mdX6_takeStatement) ∈ ab_TG := ab_ag_ok (i := 815) (by decide +kernel)
theorem mwX6_takeWord : Cond.code (ab_y mdX6_takeWord) (ab_cc mdX6_takeWord) (ab_ml mdX6_takeWord) (ab_rt mdX6_takeWord) ∈ ab_TG := ab_ag_ok (i := 820) (by decide +kernel)
theorem mwX6_isWord : Cond.code (ab_y mdX6_isWord) (ab_cc mdX6_isWord) (ab_ml mdX6_isWord) (ab_rt mdX6_isWord) ∈ ab_TG := ab_ag_ok (i := 824) (by decide +kernel)
theorem mwX6_takeCorner : Cond.code (ab_y mdX6_takeCorner) (ab_cc mdX6_takeCorner) (ab_ml mdX6_takeCorner) (ab_rt mdX6_takeCorner) ∈ ab_TG := ab_ag_ok (i := 876) (by decide +kernel)
theorem mwX6_takeNewName : Cond.code (ab_y mdX6_takeNewName) (ab_cc mdX6_takeNewName) (ab_ml mdX6_takeNewName) (ab_rt mdX6_takeNewName) ∈ ab_TG := ab_ag_ok (i := 880) (by decide +kernel)
theorem mwX6_isReserved : Cond.code (ab_y mdX6_isReserved) (ab_cc mdX6_isReserved) (ab_ml mdX6_isReserved) (ab_rt mdX6_isReserved) ∈ ab_TG := ab_ag_ok (i := 884) (by decide +kernel)
theorem mwX6_cornerNamed : Cond.code (ab_y mdX6_cornerNamed) (ab_cc mdX6_cornerNamed) (ab_ml mdX6_cornerNamed) (ab_rt mdX6_cornerNamed) ∈ ab_TG := ab_ag_ok (i := 901) (by decide +kernel)
theorem mwX6_isName : Cond.code (ab_y mdX6_isName) (ab_cc mdX6_isName) (ab_ml mdX6_isName) (ab_rt mdX6_isName) ∈ ab_TG := ab_ag_ok (i := 905) (by decide +kernel)
theorem mwX6_takeNumber : Cond.code (ab_y mdX6_takeNumber) (ab_cc mdX6_takeNumber) (ab_ml mdX6_takeNumber) (ab_rt mdX6_takeNumber) ∈ ab_TG := ab_ag_ok (i := 912) (by decide +kernel)
theorem mwX6_breadNamed : Cond.code (ab_y mdX6_breadNamed) (ab_cc mdX6_breadNamed) (ab_ml mdX6_breadNamed) (ab_rt mdX6_breadNamed) ∈ ab_TG := ab_ag_ok (i := 916) (by decide +kernel)
theorem mwX6_takeStreet : Cond.code (ab_y mdX6_takeStreet) (ab_cc mdX6_takeStreet) (ab_ml mdX6_takeStreet) (ab_rt mdX6_takeStreet) ∈ ab_TG := ab_ag_ok (i := 920) (by decide +kernel)
theorem mwX9_hasStreet : Cond.code (ab_y mdX9_hasStreet) (ab_cc mdX9_hasStreet) (ab_ml mdX9_hasStreet) (ab_rt mdX9_hasStreet) ∈ ab_TG := ab_ag_ok (i := 924) (by decide +kernel)
theorem mwX6_takeAsk : Cond.code (ab_y mdX6_takeAsk) (ab_cc mdX6_takeAsk) (ab_ml mdX6_takeAsk) (ab_rt mdX6_takeAsk) ∈ ab_TG := ab_ag_ok (i := 929) (by decide +kernel)
theorem mwX6_takeEnd : Cond.code (ab_y mdX6_takeEnd) (ab_cc mdX6_takeEnd) (ab_ml mdX6_takeEnd) (ab_rt mdX6_takeEnd) ∈ ab_TG := ab_ag_ok (i := 933) (by decide +kernel)
theorem mwX9_copyFrom : Cond.code (ab_y mdX9_copyFrom) (ab_cc mdX9_copyFrom) (ab_ml mdX9_copyFrom) (ab_rt mdX9_copyFrom) ∈ ab_TG := ab_ag_ok (i := 937) (by decide +kernel)
theorem mwX0_clear : Cond.code (ab_y mdX0_clear) (ab_cc mdX0_clear) (ab_ml mdX0_clear) (ab_rt mdX0_clear) ∈ ab_TG := ab_ag_ok (i := 942) (by decide +kernel)
theorem mwX11_changeRoads : Cond.code (ab_y mdX11_changeRoads) (ab_cc mdX11_changeRoads) (ab_ml mdX11_changeRoads) (ab_rt mdX11_changeRoads) ∈ ab_TG := ab_ag_ok (i := 946) (by decide +kernel)
theorem mwX11_law : Cond.code (ab_y mdX11_law) (ab_cc mdX11_law) (ab_ml mdX11_law) (ab_rt mdX11_law) ∈ ab_TG := ab_ag_ok (i := 951) (by decide +kernel)
theorem mwX6_readLaw : Cond.code (ab_y mdX6_readLaw) (ab_cc mdX6_readLaw) (ab_ml mdX6_readLaw) (ab_rt mdX6_readLaw) ∈ ab_TG := ab_ag_ok (i := 955) (by decide +kernel)
theorem mwX2_clearNext : Cond.code (ab_y mdX2_clearNext) (ab_cc mdX2_clearNext) (ab_ml mdX2_clearNext) (ab_rt mdX2_clearNext) ∈ ab_TG := ab_ag_ok (i := 959) (by decide +kernel)
theorem mwX6_takeRule : Cond.code (ab_y mdX6_takeRule) (ab_cc mdX6_takeRule) (ab_ml mdX6_takeRule) (ab_rt mdX6_takeRule) ∈ ab_TG := ab_ag_ok (i := 963) (by decide +kernel)
theorem mwX6_takeBetween : Cond.code (ab_y mdX6_takeBetween) (ab_cc mdX6_takeBetween) (ab_ml mdX6_takeBetween) (ab_rt mdX6_takeBetween) ∈ ab_TG := ab_ag_ok (i := 967) (by decide +kernel)
theorem mwX2_addChange : Cond.code (ab_y mdX2_addChange) (ab_cc mdX2_addChange) (ab_ml mdX2_addChange) (ab_rt mdX2_addChange) ∈ ab_TG := ab_ag_ok (i := 971) (by decide +kernel)
theorem mwX11_fault : Cond.code (ab_y mdX11_fault) (ab_cc mdX11_fault) (ab_ml mdX11_fault) (ab_rt mdX11_fault) ∈ ab_TG := ab_ag_ok (i := 975) (by decide +kernel)
theorem mwX11_told : Cond.code (ab_y mdX11_told) (ab_cc mdX11_told) (ab_ml mdX11_told) (ab_rt mdX11_told) ∈ ab_TG := ab_ag_ok (i := 979) (by decide +kernel)
theorem mwX9_streetTold : Cond.code (ab_y mdX9_streetTold) (ab_cc mdX9_streetTold) (ab_ml mdX9_streetTold) (ab_rt mdX9_streetTold) ∈ ab_TG := ab_ag_ok (i := 983) (by decide +kernel)
theorem mwX9_plainTold : Cond.code (ab_y mdX9_plainTold) (ab_cc mdX9_plainTold) (ab_ml mdX9_plainTold) (ab_rt mdX9_plainTold) ∈ ab_TG := ab_ag_ok (i := 987) (by decide +kernel)
theorem mwX11_name : Cond.code (ab_y mdX11_name) (ab_cc mdX11_name) (ab_ml mdX11_name) (ab_rt mdX11_name) ∈ ab_TG := ab_ag_ok (i := 991) (by decide +kernel)
theorem mwX9_isCorner : Cond.code (ab_y mdX9_isCorner) (ab_cc mdX9_isCorner) (ab_ml mdX9_isCorner) (ab_rt mdX9_isCorner) ∈ ab_TG := ab_ag_ok (i := 995) (by decide +kernel)
theorem mwX11_far : Cond.code (ab_y mdX11_far) (ab_cc mdX11_far) (ab_ml mdX11_far) (ab_rt mdX11_far) ∈ ab_TG := ab_ag_ok (i := 999) (by decide +kernel)
theorem mwX9_isSpot : Cond.code (ab_y mdX9_isSpot) (ab_cc mdX9_isSpot) (ab_ml mdX9_isSpot) (ab_rt mdX9_isSpot) ∈ ab_TG := ab_ag_ok (i := 1003) (by decide +kernel)
theorem mwX9_streetOf : Cond.code (ab_y mdX9_streetOf) (ab_cc mdX9_streetOf) (ab_ml mdX9_streetOf) (ab_rt mdX9_streetOf) ∈ ab_TG := ab_ag_ok (i := 1007) (by decide +kernel)
theorem mwX9_placeOf : Cond.code (ab_y mdX9_placeOf) (ab_cc mdX9_placeOf) (ab_ml mdX9_placeOf) (ab_rt mdX9_placeOf) ∈ ab_TG := ab_ag_ok (i := 1010) (by decide +kernel)
theorem mwX7_between : Cond.code (ab_y mdX7_between) (ab_cc mdX7_between) (ab_ml mdX7_between) (ab_rt mdX7_between) ∈ ab_TG := ab_ag_ok (i := 1014) (by decide +kernel)
theorem mwX7_isShut : Cond.code (ab_y mdX7_isShut) (ab_cc mdX7_isShut) (ab_ml mdX7_isShut) (ab_rt mdX7_isShut) ∈ ab_TG := ab_ag_ok (i := 1018) (by decide +kernel)
theorem mwX7_toCorner : Cond.code (ab_y mdX7_toCorner) (ab_cc mdX7_toCorner) (ab_ml mdX7_toCorner) (ab_rt mdX7_toCorner) ∈ ab_TG := ab_ag_ok (i := 1023) (by decide +kernel)
theorem mwX11_force : Cond.code (ab_y mdX11_force) (ab_cc mdX11_force) (ab_ml mdX11_force) (ab_rt mdX11_force) ∈ ab_TG := ab_ag_ok (i := 1033) (by decide +kernel)
theorem mwX11_seller : Cond.code (ab_y mdX11_seller) (ab_cc mdX11_seller) (ab_ml mdX11_seller) (ab_rt mdX11_seller) ∈ ab_TG := ab_ag_ok (i := 1037) (by decide +kernel)
theorem mwX11_canStand : Cond.code (ab_y mdX11_canStand) (ab_cc mdX11_canStand) (ab_ml mdX11_canStand) (ab_rt mdX11_canStand) ∈ ab_TG := ab_ag_ok (i := 1041) (by decide +kernel)
theorem mwX11_put : Cond.code (ab_y mdX11_put) (ab_cc mdX11_put) (ab_ml mdX11_put) (ab_rt mdX11_put) ∈ ab_TG := ab_ag_ok (i := 1045) (by decide +kernel)
theorem mwX0_has : Cond.code (ab_y mdX0_has) (ab_cc mdX0_has) (ab_ml mdX0_has) (ab_rt mdX0_has) ∈ ab_TG := ab_ag_ok (i := 1049) (by decide +kernel)
theorem mwX11_of : Cond.code (ab_y mdX11_of) (ab_cc mdX11_of) (ab_ml mdX11_of) (ab_rt mdX11_of) ∈ ab_TG := ab_ag_ok (i := 1053) (by decide +kernel)
theorem mwX11_sold : Cond.code (ab_y mdX11_sold) (ab_cc mdX11_sold) (ab_ml mdX11_sold) (ab_rt mdX11_sold) ∈ ab_TG := ab_ag_ok (i := 1057) (by decide +kernel)
theorem mwX11_sellToAll : Cond.code (ab_y mdX11_sellToAll) (ab_cc mdX11_sellToAll) (ab_ml mdX11_sellToAll) (ab_rt mdX11_sellToAll) ∈ ab_TG := ab_ag_ok (i := 1062) (by decide +kernel)
theorem mwX3_load : Cond.code (ab_y mdX3_load) (ab_cc mdX3_load) (ab_ml mdX3_load) (ab_rt mdX3_load) ∈ ab_TG := ab_ag_ok (i := 1066) (by decide +kernel)
theorem mwX8_place : Cond.code (ab_y mdX8_place) (ab_cc mdX8_place) (ab_ml mdX8_place) (ab_rt mdX8_place) ∈ ab_TG := ab_ag_ok (i := 1072) (by decide +kernel)
theorem mwX7_reach : Cond.code (ab_y mdX7_reach) (ab_cc mdX7_reach) (ab_ml mdX7_reach) (ab_rt mdX7_reach) ∈ ab_TG := ab_ag_ok (i := 1076) (by decide +kernel)
theorem mwX8_goRound : Cond.code (ab_y mdX8_goRound) (ab_cc mdX8_goRound) (ab_ml mdX8_goRound) (ab_rt mdX8_goRound) ∈ ab_TG := ab_ag_ok (i := 1083) (by decide +kernel)
theorem mwX3_open : Cond.code (ab_y mdX3_open) (ab_cc mdX3_open) (ab_ml mdX3_open) (ab_rt mdX3_open) ∈ ab_TG := ab_ag_ok (i := 1089) (by decide +kernel)
theorem mwX10_open : Cond.code (ab_y mdX10_open) (ab_cc mdX10_open) (ab_ml mdX10_open) (ab_rt mdX10_open) ∈ ab_TG := ab_ag_ok (i := 1093) (by decide +kernel)
theorem mwX8_markStreets : Cond.code (ab_y mdX8_markStreets) (ab_cc mdX8_markStreets) (ab_ml mdX8_markStreets) (ab_rt mdX8_markStreets) ∈ ab_TG := ab_ag_ok (i := 1097) (by decide +kernel)
theorem mwX8_cheapest : Cond.code (ab_y mdX8_cheapest) (ab_cc mdX8_cheapest) (ab_ml mdX8_cheapest) (ab_rt mdX8_cheapest) ∈ ab_TG := ab_ag_ok (i := 1104) (by decide +kernel)
theorem mwX8_cheaper : Cond.code (ab_y mdX8_cheaper) (ab_cc mdX8_cheaper) (ab_ml mdX8_cheaper) (ab_rt mdX8_cheaper) ∈ ab_TG := ab_ag_ok (i := 1108) (by decide +kernel)
theorem mwX3_meetCorner : Cond.code (ab_y mdX3_meetCorner) (ab_cc mdX3_meetCorner) (ab_ml mdX3_meetCorner) (ab_rt mdX3_meetCorner) ∈ ab_TG := ab_ag_ok (i := 1114) (by decide +kernel)
theorem mwX10_meetCorner : Cond.code (ab_y mdX10_meetCorner) (ab_cc mdX10_meetCorner) (ab_ml mdX10_meetCorner) (ab_rt mdX10_meetCorner) ∈ ab_TG := ab_ag_ok (i := 1117) (by decide +kernel)
theorem mwX8_meetStreet : Cond.code (ab_y mdX8_meetStreet) (ab_cc mdX8_meetStreet) (ab_ml mdX8_meetStreet) (ab_rt mdX8_meetStreet) ∈ ab_TG := ab_ag_ok (i := 1123) (by decide +kernel)
theorem mwX8_cheapestOn : Cond.code (ab_y mdX8_cheapestOn) (ab_cc mdX8_cheapestOn) (ab_ml mdX8_cheapestOn) (ab_rt mdX8_cheapestOn) ∈ ab_TG := ab_ag_ok (i := 1127) (by decide +kernel)
theorem mwX3_meetStretch : Cond.code (ab_y mdX3_meetStretch) (ab_cc mdX3_meetStretch) (ab_ml mdX3_meetStretch) (ab_rt mdX3_meetStretch) ∈ ab_TG := ab_ag_ok (i := 1134) (by decide +kernel)
theorem mwX10_meetStretch : Cond.code (ab_y mdX10_meetStretch) (ab_cc mdX10_meetStretch) (ab_ml mdX10_meetStretch) (ab_rt mdX10_meetStretch) ∈ ab_TG := ab_ag_ok (i := 1141) (by decide +kernel)
theorem mwX3_close : Cond.code (ab_y mdX3_close) (ab_cc mdX3_close) (ab_ml mdX3_close) (ab_rt mdX3_close) ∈ ab_TG := ab_ag_ok (i := 1150) (by decide +kernel)
theorem mwJ6_bitCount_0f7a4 : Cond.code (ab_y mdJ6_bitCount_0f7a4) (ab_cc mdJ6_bitCount_0f7a4) (ab_ml mdJ6_bitCount_0f7a4) (ab_rt mdJ6_bitCount_0f7a4) ∈ ab_TG := ab_ag_ok (i := 1153) (by decide +kernel)
theorem mwX10_close : Cond.code (ab_y mdX10_close) (ab_cc mdX10_close) (ab_ml mdX10_close) (ab_rt mdX10_close) ∈ ab_TG := ab_ag_ok (i := 1159) (by decide +kernel)
theorem mwX11_earns : Cond.code (ab_y mdX11_earns) (ab_cc mdX11_earns) (ab_ml mdX11_earns) (ab_rt mdX11_earns) ∈ ab_TG := ab_ag_ok (i := 1163) (by decide +kernel)
theorem mwX3_takings : Cond.code (ab_y mdX3_takings) (ab_cc mdX3_takings) (ab_ml mdX3_takings) (ab_rt mdX3_takings) ∈ ab_TG := ab_ag_ok (i := 1167) (by decide +kernel)
theorem mwX3_worth : Cond.code (ab_y mdX3_worth) (ab_cc mdX3_worth) (ab_ml mdX3_worth) (ab_rt mdX3_worth) ∈ ab_TG := ab_ag_ok (i := 1171) (by decide +kernel)
theorem mwX11_home : Cond.code (ab_y mdX11_home) (ab_cc mdX11_home) (ab_ml mdX11_home) (ab_rt mdX11_home) ∈ ab_TG := ab_ag_ok (i := 1175) (by decide +kernel)
theorem mwX11_buys : Cond.code (ab_y mdX11_buys) (ab_cc mdX11_buys) (ab_ml mdX11_buys) (ab_rt mdX11_buys) ∈ ab_TG := ab_ag_ok (i := 1179) (by decide +kernel)
theorem mwX11_best : Cond.code (ab_y mdX11_best) (ab_cc mdX11_best) (ab_ml mdX11_best) (ab_rt mdX11_best) ∈ ab_TG := ab_ag_ok (i := 1183) (by decide +kernel)
theorem mwX4_findBest : Cond.code (ab_y mdX4_findBest) (ab_cc mdX4_findBest) (ab_ml mdX4_findBest) (ab_rt mdX4_findBest) ∈ ab_TG := ab_ag_ok (i := 1187) (by decide +kernel)
theorem mwX4_standing : Cond.code (ab_y mdX4_standing) (ab_cc mdX4_standing) (ab_ml mdX4_standing) (ab_rt mdX4_standing) ∈ ab_TG := ab_ag_ok (i := 1191) (by decide +kernel)
theorem mwX4_listOthers : Cond.code (ab_y mdX4_listOthers) (ab_cc mdX4_listOthers) (ab_ml mdX4_listOthers) (ab_rt mdX4_listOthers) ∈ ab_TG := ab_ag_ok (i := 1197) (by decide +kernel)
theorem mwX4_addOther : Cond.code (ab_y mdX4_addOther) (ab_cc mdX4_addOther) (ab_ml mdX4_addOther) (ab_rt mdX4_addOther) ∈ ab_TG := ab_ag_ok (i := 1201) (by decide +kernel)
theorem mwX3_isFarEnough : Cond.code (ab_y mdX3_isFarEnough) (ab_cc mdX3_isFarEnough) (ab_ml mdX3_isFarEnough) (ab_rt mdX3_isFarEnough) ∈ ab_TG := ab_ag_ok (i := 1205) (by decide +kernel)
theorem mwX8_stepsTo : Cond.code (ab_y mdX8_stepsTo) (ab_cc mdX8_stepsTo) (ab_ml mdX8_stepsTo) (ab_rt mdX8_stepsTo) ∈ ab_TG := ab_ag_ok (i := 1211) (by decide +kernel)
theorem mwX9_spotOn : Cond.code (ab_y mdX9_spotOn) (ab_cc mdX9_spotOn) (ab_ml mdX9_spotOn) (ab_rt mdX9_spotOn) ∈ ab_TG := ab_ag_ok (i := 1215) (by decide +kernel)
theorem mwX4_take : Cond.code (ab_y mdX4_take) (ab_cc mdX4_take) (ab_ml mdX4_take) (ab_rt mdX4_take) ∈ ab_TG := ab_ag_ok (i := 1219) (by decide +kernel)
theorem mwX11_rest : Cond.code (ab_y mdX11_rest) (ab_cc mdX11_rest) (ab_ml mdX11_rest) (ab_rt mdX11_rest) ∈ ab_TG := ab_ag_ok (i := 1224) (by decide +kernel)
theorem mwX4_firstRestless : Cond.code (ab_y mdX4_firstRestless) (ab_cc mdX4_firstRestless) (ab_ml mdX4_firstRestless) (ab_rt mdX4_firstRestless) ∈ ab_TG := ab_ag_ok (i := 1228) (by decide +kernel)
theorem mwX11_turn : Cond.code (ab_y mdX11_turn) (ab_cc mdX11_turn) (ab_ml mdX11_turn) (ab_rt mdX11_turn) ∈ ab_TG := ab_ag_ok (i := 1233) (by decide +kernel)
theorem mwX11_chase : Cond.code (ab_y mdX11_chase) (ab_cc mdX11_chase) (ab_ml mdX11_chase) (ab_rt mdX11_chase) ∈ ab_TG := ab_ag_ok (i := 1237) (by decide +kernel)
theorem mwX4_runChase : Cond.code (ab_y mdX4_runChase) (ab_cc mdX4_runChase) (ab_ml mdX4_runChase) (ab_rt mdX4_runChase) ∈ ab_TG := ab_ag_ok (i := 1241) (by decide +kernel)
theorem mwX4_snapshot : Cond.code (ab_y mdX4_snapshot) (ab_cc mdX4_snapshot) (ab_ml mdX4_snapshot) (ab_rt mdX4_snapshot) ∈ ab_TG := ab_ag_ok (i := 1246) (by decide +kernel)
theorem mwX4_endChase : Cond.code (ab_y mdX4_endChase) (ab_cc mdX4_endChase) (ab_ml mdX4_endChase) (ab_rt mdX4_endChase) ∈ ab_TG := ab_ag_ok (i := 1250) (by decide +kernel)
theorem mwX4_goOneRound : Cond.code (ab_y mdX4_goOneRound) (ab_cc mdX4_goOneRound) (ab_ml mdX4_goOneRound) (ab_rt mdX4_goOneRound) ∈ ab_TG := ab_ag_ok (i := 1254) (by decide +kernel)
theorem mwX4_sameAgo : Cond.code (ab_y mdX4_sameAgo) (ab_cc mdX4_sameAgo) (ab_ml mdX4_sameAgo) (ab_rt mdX4_sameAgo) ∈ ab_TG := ab_ag_ok (i := 1258) (by decide +kernel)
theorem mwX11_rests : Cond.code (ab_y mdX11_rests) (ab_cc mdX11_rests) (ab_ml mdX11_rests) (ab_rt mdX11_rests) ∈ ab_TG := ab_ag_ok (i := 1263) (by decide +kernel)
theorem mwX11_isPair : Cond.code (ab_y mdX11_isPair) (ab_cc mdX11_isPair) (ab_ml mdX11_isPair) (ab_rt mdX11_isPair) ∈ ab_TG := ab_ag_ok (i := 1267) (by decide +kernel)
theorem mwX1_prepare : Cond.code (ab_y mdX1_prepare) (ab_cc mdX1_prepare) (ab_ml mdX1_prepare) (ab_rt mdX1_prepare) ∈ ab_TG := ab_ag_ok (i := 1271) (by decide +kernel)
theorem mwX1_weighAll : Cond.code (ab_y mdX1_weighAll) (ab_cc mdX1_weighAll) (ab_ml mdX1_weighAll) (ab_rt mdX1_weighAll) ∈ ab_TG := ab_ag_ok (i := 1275) (by decide +kernel)
theorem mwX1_weighRow : Cond.code (ab_y mdX1_weighRow) (ab_cc mdX1_weighRow) (ab_ml mdX1_weighRow) (ab_rt mdX1_weighRow) ∈ ab_TG := ab_ag_ok (i := 1281) (by decide +kernel)
theorem mwX1_findRests : Cond.code (ab_y mdX1_findRests) (ab_cc mdX1_findRests) (ab_ml mdX1_findRests) (ab_rt mdX1_findRests) ∈ ab_TG := ab_ag_ok (i := 1289) (by decide +kernel)
theorem mwX1_isRest : Cond.code (ab_y mdX1_isRest) (ab_cc mdX1_isRest) (ab_ml mdX1_isRest) (ab_rt mdX1_isRest) ∈ ab_TG := ab_ag_ok (i := 1293) (by decide +kernel)
theorem mwX1_cornerIn : Cond.code (ab_y mdX1_cornerIn) (ab_cc mdX1_cornerIn) (ab_ml mdX1_cornerIn) (ab_rt mdX1_cornerIn) ∈ ab_TG := ab_ag_ok (i := 1297) (by decide +kernel)
theorem mwX1_cornersOf : Cond.code (ab_y mdX1_cornersOf) (ab_cc mdX1_cornersOf) (ab_ml mdX1_cornersOf) (ab_rt mdX1_cornersOf) ∈ ab_TG := ab_ag_ok (i := 1301) (by decide +kernel)
theorem mwX11_lots : Cond.code (ab_y mdX11_lots) (ab_cc mdX11_lots) (ab_ml mdX11_lots) (ab_rt mdX11_lots) ∈ ab_TG := ab_ag_ok (i := 1305) (by decide +kernel)
theorem mwX11_areTwoCorners : Cond.code (ab_y mdX11_areTwoCorners) (ab_cc mdX11_areTwoCorners) (ab_ml mdX11_areTwoCorners) (ab_rt mdX11_areTwoCorners) ∈ ab_TG := ab_ag_ok (i := 1309) (by decide +kernel)
theorem mwX1_drawLots : Cond.code (ab_y mdX1_drawLots) (ab_cc mdX1_drawLots) (ab_ml mdX1_drawLots) (ab_rt mdX1_drawLots) ∈ ab_TG := ab_ag_ok (i := 1313) (by decide +kernel)
theorem mwX11_standsStill : Cond.code (ab_y mdX11_standsStill) (ab_cc mdX11_standsStill) (ab_ml mdX11_standsStill) (ab_rt mdX11_standsStill) ∈ ab_TG := ab_ag_ok (i := 1316) (by decide +kernel)
theorem mwX1_sumOf : Cond.code (ab_y mdX1_sumOf) (ab_cc mdX1_sumOf) (ab_ml mdX1_sumOf) (ab_rt mdX1_sumOf) ∈ ab_TG := ab_ag_ok (i := 1319) (by decide +kernel)
theorem mwX1_inLowest : Cond.code (ab_y mdX1_inLowest) (ab_cc mdX1_inLowest) (ab_ml mdX1_inLowest) (ab_rt mdX1_inLowest) ∈ ab_TG := ab_ag_ok (i := 1322) (by decide +kernel)
theorem mwX1_commonDivisor : Cond.code (ab_y mdX1_commonDivisor) (ab_cc mdX1_commonDivisor) (ab_ml mdX1_commonDivisor) (ab_rt mdX1_commonDivisor) ∈ ab_TG := ab_ag_ok (i := 1328) (by decide +kernel)
theorem mwX11_lead : Cond.code (ab_y mdX11_lead) (ab_cc mdX11_lead) (ab_ml mdX11_lead) (ab_rt mdX11_lead) ∈ ab_TG := ab_ag_ok (i := 1332) (by decide +kernel)
theorem mwX1_ledRow : Cond.code (ab_y mdX1_ledRow) (ab_cc mdX1_ledRow) (ab_ml mdX1_ledRow) (ab_rt mdX1_ledRow) ∈ ab_TG := ab_ag_ok (i := 1337) (by decide +kernel)
theorem mwX1_answerTo : Cond.code (ab_y mdX1_answerTo) (ab_cc mdX1_answerTo) (ab_ml mdX1_answerTo) (ab_rt mdX1_answerTo) ∈ ab_TG := ab_ag_ok (i := 1341) (by decide +kernel)
theorem mwX1_worthOf : Cond.code (ab_y mdX1_worthOf) (ab_cc mdX1_worthOf) (ab_ml mdX1_worthOf) (ab_rt mdX1_worthOf) ∈ ab_TG := ab_ag_ok (i := 1345) (by decide +kernel)
theorem mwX11_prices : Cond.code (ab_y mdX11_prices) (ab_cc mdX11_prices) (ab_ml mdX11_prices) (ab_rt mdX11_prices) ∈ ab_TG := ab_ag_ok (i := 1351) (by decide +kernel)
theorem mwX5_prepare : Cond.code (ab_y mdX5_prepare) (ab_cc mdX5_prepare) (ab_ml mdX5_prepare) (ab_rt mdX5_prepare) ∈ ab_TG := ab_ag_ok (i := 1355) (by decide +kernel)
theorem mwX5_findPairs : Cond.code (ab_y mdX5_findPairs) (ab_cc mdX5_findPairs) (ab_ml mdX5_findPairs) (ab_rt mdX5_findPairs) ∈ ab_TG := ab_ag_ok (i := 1360) (by decide +kernel)
theorem mwX5_isRest : Cond.code (ab_y mdX5_isRest) (ab_cc mdX5_isRest) (ab_ml mdX5_isRest) (ab_rt mdX5_isRest) ∈ ab_TG := ab_ag_ok (i := 1367) (by decide +kernel)
theorem mwX5_pairAt : Cond.code (ab_y mdX5_pairAt) (ab_cc mdX5_pairAt) (ab_ml mdX5_pairAt) (ab_rt mdX5_pairAt) ∈ ab_TG := ab_ag_ok (i := 1371) (by decide +kernel)
theorem mwX11_stage : Cond.code (ab_y mdX11_stage) (ab_cc mdX11_stage) (ab_ml mdX11_stage) (ab_rt mdX11_stage) ∈ ab_TG := ab_ag_ok (i := 1375) (by decide +kernel)
theorem mwX5_firstStage : Cond.code (ab_y mdX5_firstStage) (ab_cc mdX5_firstStage) (ab_ml mdX5_firstStage) (ab_rt mdX5_firstStage) ∈ ab_TG := ab_ag_ok (i := 1379) (by decide +kernel)
theorem mwX5_weighStage : Cond.code (ab_y mdX5_weighStage) (ab_cc mdX5_weighStage) (ab_ml mdX5_weighStage) (ab_rt mdX5_weighStage) ∈ ab_TG := ab_ag_ok (i := 1384) (by decide +kernel)
theorem mwX11_walk : Cond.code (ab_y mdX11_walk) (ab_cc mdX11_walk) (ab_ml mdX11_walk) (ab_rt mdX11_walk) ∈ ab_TG := ab_ag_ok (i := 1392) (by decide +kernel)
theorem mwX10_toSpots : Cond.code (ab_y mdX10_toSpots) (ab_cc mdX10_toSpots) (ab_ml mdX10_toSpots) (ab_rt mdX10_toSpots) ∈ ab_TG := ab_ag_ok (i := 1396) (by decide +kernel)
theorem mwX11_own : Cond.code (ab_y mdX11_own) (ab_cc mdX11_own) (ab_ml mdX11_own) (ab_rt mdX11_own) ∈ ab_TG := ab_ag_ok (i := 1406) (by decide +kernel)
theorem mwX10_findOwn : Cond.code (ab_y mdX10_findOwn) (ab_cc mdX10_findOwn) (ab_ml mdX10_findOwn) (ab_rt mdX10_findOwn) ∈ ab_TG := ab_ag_ok (i := 1410) (by decide +kernel)
theorem mwX10_noteOwn : Cond.code (ab_y mdX10_noteOwn) (ab_cc mdX10_noteOwn) (ab_ml mdX10_noteOwn) (ab_rt mdX10_noteOwn) ∈ ab_TG := ab_ag_ok (i := 1414) (by decide +kernel)
theorem mwX11_loss : Cond.code (ab_y mdX11_loss) (ab_cc mdX11_loss) (ab_ml mdX11_loss) (ab_rt mdX11_loss) ∈ ab_TG := ab_ag_ok (i := 1419) (by decide +kernel)
theorem mwX10_toBakers : Cond.code (ab_y mdX10_toBakers) (ab_cc mdX10_toBakers) (ab_ml mdX10_toBakers) (ab_rt mdX10_toBakers) ∈ ab_TG := ab_ag_ok (i := 1423) (by decide +kernel)
theorem mwX11_bestLaw : Cond.code (ab_y mdX11_bestLaw) (ab_cc mdX11_bestLaw) (ab_ml mdX11_bestLaw) (ab_rt mdX11_bestLaw) ∈ ab_TG := ab_ag_ok (i := 1427) (by decide +kernel)
theorem mwX1_choose : Cond.code (ab_y mdX1_choose) (ab_cc mdX1_choose) (ab_ml mdX1_choose) (ab_rt mdX1_choose) ∈ ab_TG := ab_ag_ok (i := 1431) (by decide +kernel)
theorem mwJ7_fill_d0a16 : Cond.code (ab_y mdJ7_fill_d0a16) (ab_cc mdJ7_fill_d0a16) (ab_ml mdJ7_fill_d0a16) (ab_rt mdJ7_fill_d0a16) ∈ ab_TG := ab_ag_ok (i := 1434) (by decide +kernel)
theorem mwX1_leastWalk : Cond.code (ab_y mdX1_leastWalk) (ab_cc mdX1_leastWalk) (ab_ml mdX1_leastWalk) (ab_rt mdX1_leastWalk) ∈ ab_TG := ab_ag_ok (i := 1439) (by decide +kernel)
theorem mwX11_shift : Cond.code (ab_y mdX11_shift) (ab_cc mdX11_shift) (ab_ml mdX11_shift) (ab_rt mdX11_shift) ∈ ab_TG := ab_ag_ok (i := 1445) (by decide +kernel)
theorem mwX4_leastShift : Cond.code (ab_y mdX4_leastShift) (ab_cc mdX4_leastShift) (ab_ml mdX4_leastShift) (ab_rt mdX4_leastShift) ∈ ab_TG := ab_ag_ok (i := 1449) (by decide +kernel)
theorem mwX4_leastShiftFor : Cond.code (ab_y mdX4_leastShiftFor) (ab_cc mdX4_leastShiftFor) (ab_ml mdX4_leastShiftFor) (ab_rt mdX4_leastShiftFor) ∈ ab_TG := ab_ag_ok (i := 1453) (by decide +kernel)
theorem mwX3_takingsOfOne : Cond.code (ab_y mdX3_takingsOfOne) (ab_cc mdX3_takingsOfOne) (ab_ml mdX3_takingsOfOne) (ab_rt mdX3_takingsOfOne) ∈ ab_TG := ab_ag_ok (i := 1457) (by decide +kernel)
theorem mwX11_image : Cond.code (ab_y mdX11_image) (ab_cc mdX11_image) (ab_ml mdX11_image) (ab_rt mdX11_image) ∈ ab_TG := ab_ag_ok (i := 1465) (by decide +kernel)
theorem mwX0_copyFrom : Cond.code (ab_y mdX0_copyFrom) (ab_cc mdX0_copyFrom) (ab_ml mdX0_copyFrom) (ab_rt mdX0_copyFrom) ∈ ab_TG := ab_ag_ok (i := 1469) (by decide +kernel)
theorem mwX11_back : Cond.code (ab_y mdX11_back) (ab_cc mdX11_back) (ab_ml mdX11_back) (ab_rt mdX11_back) ∈ ab_TG := ab_ag_ok (i := 1474) (by decide +kernel)
theorem mwX11_count : Cond.code (ab_y mdX11_count) (ab_cc mdX11_count) (ab_ml mdX11_count) (ab_rt mdX11_count) ∈ ab_TG := ab_ag_ok (i := 1478) (by decide +kernel)
theorem mwX7_openSpots : Cond.code (ab_y mdX7_openSpots) (ab_cc mdX7_openSpots) (ab_ml mdX7_openSpots) (ab_rt mdX7_openSpots) ∈ ab_TG := ab_ag_ok (i := 1482) (by decide +kernel)
theorem mwX7_openPeople : Cond.code (ab_y mdX7_openPeople) (ab_cc mdX7_openPeople) (ab_ml mdX7_openPeople) (ab_rt mdX7_openPeople) ∈ ab_TG := ab_ag_ok (i := 1486) (by decide +kernel)
theorem mwX12_feed : Cond.code (ab_y mdX12_feed) (ab_cc mdX12_feed) (ab_ml mdX12_feed) (ab_rt mdX12_feed) ∈ ab_TG := ab_ag_ok (i := 1790) (by decide +kernel)
theorem mwX12_town : Cond.code (ab_y mdX12_town) (ab_cc mdX12_town) (ab_ml mdX12_town) (ab_rt mdX12_town) ∈ ab_TG := ab_ag_ok (i := 1794) (by decide +kernel)
theorem mwX12_beginsText : Cond.code (ab_y mdX12_beginsText) (ab_cc mdX12_beginsText) (ab_ml mdX12_beginsText) (ab_rt mdX12_beginsText) ∈ ab_TG := ab_ag_ok (i := 1798) (by decide +kernel)
theorem mwX12_next : Cond.code (ab_y mdX12_next) (ab_cc mdX12_next) (ab_ml mdX12_next) (ab_rt mdX12_next) ∈ ab_TG := ab_ag_ok (i := 1802) (by decide +kernel)
theorem mwX12_here : Cond.code (ab_y mdX12_here) (ab_cc mdX12_here) (ab_ml mdX12_here) (ab_rt mdX12_here) ∈ ab_TG := ab_ag_ok (i := 1806) (by decide +kernel)
theorem mwX12_within : Cond.code (ab_y mdX12_within) (ab_cc mdX12_within) (ab_ml mdX12_within) (ab_rt mdX12_within) ∈ ab_TG := ab_ag_ok (i := 1810) (by decide +kernel)
theorem mwX12_min : Cond.code (ab_y mdX12_min) (ab_cc mdX12_min) (ab_ml mdX12_min) (ab_rt mdX12_min) ∈ ab_TG := ab_ag_ok (i := 1815) (by decide +kernel)
theorem mwX12_errs : Cond.code (ab_y mdX12_errs) (ab_cc mdX12_errs) (ab_ml mdX12_errs) (ab_rt mdX12_errs) ∈ ab_TG := ab_ag_ok (i := 1819) (by decide +kernel)
theorem mwX12_readStatement : Cond.code (ab_y mdX12_readStatement) (ab_cc mdX12_readStatement) (ab_ml mdX12_readStatement) (ab_rt mdX12_readStatement) ∈ ab_TG := ab_ag_ok (i := 1823) (by decide +kernel)
theorem mwX12_wordHere : Cond.code (ab_y mdX12_wordHere) (ab_cc mdX12_wordHere) (ab_ml mdX12_wordHere) (ab_rt mdX12_wordHere) ∈ ab_TG := ab_ag_ok (i := 1827) (by decide +kernel)
theorem mwX12_wordOf : Cond.code (ab_y mdX12_wordOf) (ab_cc mdX12_wordOf) (ab_ml mdX12_wordOf) (ab_rt mdX12_wordOf) ∈ ab_TG := ab_ag_ok (i := 1831) (by decide +kernel)
theorem mwX12_readCorner : Cond.code (ab_y mdX12_readCorner) (ab_cc mdX12_readCorner) (ab_ml mdX12_readCorner) (ab_rt mdX12_readCorner) ∈ ab_TG := ab_ag_ok (i := 1849) (by decide +kernel)
theorem mwX12_isName : Cond.code (ab_y mdX12_isName) (ab_cc mdX12_isName) (ab_ml mdX12_isName) (ab_rt mdX12_isName) ∈ ab_TG := ab_ag_ok (i := 1853) (by decide +kernel)
theorem mwX12_number : Cond.code (ab_y mdX12_number) (ab_cc mdX12_number) (ab_ml mdX12_number) (ab_rt mdX12_number) ∈ ab_TG := ab_ag_ok (i := 1857) (by decide +kernel)
theorem mwX12_readStreet : Cond.code (ab_y mdX12_readStreet) (ab_cc mdX12_readStreet) (ab_ml mdX12_readStreet) (ab_rt mdX12_readStreet) ∈ ab_TG := ab_ag_ok (i := 1861) (by decide +kernel)
theorem mwX12_cornerHere : Cond.code (ab_y mdX12_cornerHere) (ab_cc mdX12_cornerHere) (ab_ml mdX12_cornerHere) (ab_rt mdX12_cornerHere) ∈ ab_TG := ab_ag_ok (i := 1865) (by decide +kernel)
theorem mwX12_ends : Cond.code (ab_y mdX12_ends) (ab_cc mdX12_ends) (ab_ml mdX12_ends) (ab_rt mdX12_ends) ∈ ab_TG := ab_ag_ok (i := 1869) (by decide +kernel)
theorem mwX12_laysTown : Cond.code (ab_y mdX12_laysTown) (ab_cc mdX12_laysTown) (ab_ml mdX12_laysTown) (ab_rt mdX12_laysTown) ∈ ab_TG := ab_ag_ok (i := 1873) (by decide +kernel)
theorem mwX12_lays : Cond.code (ab_y mdX12_lays) (ab_cc mdX12_lays) (ab_ml mdX12_lays) (ab_rt mdX12_lays) ∈ ab_TG := ab_ag_ok (i := 1877) (by decide +kernel)
theorem mwX12_fault : Cond.code (ab_y mdX12_fault) (ab_cc mdX12_fault) (ab_ml mdX12_fault) (ab_rt mdX12_fault) ∈ ab_TG := ab_ag_ok (i := 1881) (by decide +kernel)
theorem mwX12_told : Cond.code (ab_y mdX12_told) (ab_cc mdX12_told) (ab_ml mdX12_told) (ab_rt mdX12_told) ∈ ab_TG := ab_ag_ok (i := 1885) (by decide +kernel)
theorem mwX12_name : Cond.code (ab_y mdX12_name) (ab_cc mdX12_name) (ab_ml mdX12_name) (ab_rt mdX12_name) ∈ ab_TG := ab_ag_ok (i := 1889) (by decide +kernel)
theorem mwX12_law : Cond.code (ab_y mdX12_law) (ab_cc mdX12_law) (ab_ml mdX12_law) (ab_rt mdX12_law) ∈ ab_TG := ab_ag_ok (i := 1893) (by decide +kernel)
theorem mwX12_readLaw : Cond.code (ab_y mdX12_readLaw) (ab_cc mdX12_readLaw) (ab_ml mdX12_readLaw) (ab_rt mdX12_readLaw) ∈ ab_TG := ab_ag_ok (i := 1897) (by decide +kernel)
theorem mwX12_force : Cond.code (ab_y mdX12_force) (ab_cc mdX12_force) (ab_ml mdX12_force) (ab_rt mdX12_force) ∈ ab_TG := ab_ag_ok (i := 1901) (by decide +kernel)
theorem mwX12_far : Cond.code (ab_y mdX12_far) (ab_cc mdX12_far) (ab_ml mdX12_far) (ab_rt mdX12_far) ∈ ab_TG := ab_ag_ok (i := 1905) (by decide +kernel)
theorem mwX12_isSpot : Cond.code (ab_y mdX12_isSpot) (ab_cc mdX12_isSpot) (ab_ml mdX12_isSpot) (ab_rt mdX12_isSpot) ∈ ab_TG := ab_ag_ok (i := 1909) (by decide +kernel)
theorem mwX12_farOf : Cond.code (ab_y mdX12_farOf) (ab_cc mdX12_farOf) (ab_ml mdX12_farOf) (ab_rt mdX12_farOf) ∈ ab_TG := ab_ag_ok (i := 1913) (by decide +kernel)
theorem mwX12_toCorner : Cond.code (ab_y mdX12_toCorner) (ab_cc mdX12_toCorner) (ab_ml mdX12_toCorner) (ab_rt mdX12_toCorner) ∈ ab_TG := ab_ag_ok (i := 1917) (by decide +kernel)
theorem mwX12_streetOf : Cond.code (ab_y mdX12_streetOf) (ab_cc mdX12_streetOf) (ab_ml mdX12_streetOf) (ab_rt mdX12_streetOf) ∈ ab_TG := ab_ag_ok (i := 1920) (by decide +kernel)
theorem mwX12_partOf : Cond.code (ab_y mdX12_partOf) (ab_cc mdX12_partOf) (ab_ml mdX12_partOf) (ab_rt mdX12_partOf) ∈ ab_TG := ab_ag_ok (i := 1923) (by decide +kernel)
theorem mwX12_abs : Cond.code (ab_y mdX12_abs) (ab_cc mdX12_abs) (ab_ml mdX12_abs) (ab_rt mdX12_abs) ∈ ab_TG := ab_ag_ok (i := 1926) (by decide +kernel)
theorem mwX12_seller : Cond.code (ab_y mdX12_seller) (ab_cc mdX12_seller) (ab_ml mdX12_seller) (ab_rt mdX12_seller) ∈ ab_TG := ab_ag_ok (i := 1930) (by decide +kernel)
theorem mwX12_put : Cond.code (ab_y mdX12_put) (ab_cc mdX12_put) (ab_ml mdX12_put) (ab_rt mdX12_put) ∈ ab_TG := ab_ag_ok (i := 1934) (by decide +kernel)
theorem mwX12_isSeller : Cond.code (ab_y mdX12_isSeller) (ab_cc mdX12_isSeller) (ab_ml mdX12_isSeller) (ab_rt mdX12_isSeller) ∈ ab_TG := ab_ag_ok (i := 1938) (by decide +kernel)
theorem mwX12_of : Cond.code (ab_y mdX12_of) (ab_cc mdX12_of) (ab_ml mdX12_of) (ab_rt mdX12_of) ∈ ab_TG := ab_ag_ok (i := 1942) (by decide +kernel)
theorem mwX12_priceOf : Cond.code (ab_y mdX12_priceOf) (ab_cc mdX12_priceOf) (ab_ml mdX12_priceOf) (ab_rt mdX12_priceOf) ∈ ab_TG := ab_ag_ok (i := 1946) (by decide +kernel)
theorem mwX12_sold : Cond.code (ab_y mdX12_sold) (ab_cc mdX12_sold) (ab_ml mdX12_sold) (ab_rt mdX12_sold) ∈ ab_TG := ab_ag_ok (i := 1950) (by decide +kernel)
theorem mwX12_sells : Cond.code (ab_y mdX12_sells) (ab_cc mdX12_sells) (ab_ml mdX12_sells) (ab_rt mdX12_sells) ∈ ab_TG := ab_ag_ok (i := 1954) (by decide +kernel)
theorem mwX12_paces : Cond.code (ab_y mdX12_paces) (ab_cc mdX12_paces) (ab_ml mdX12_paces) (ab_rt mdX12_paces) ∈ ab_TG := ab_ag_ok (i := 1958) (by decide +kernel)
theorem mwX12_buyersAt : Cond.code (ab_y mdX12_buyersAt) (ab_cc mdX12_buyersAt) (ab_ml mdX12_buyersAt) (ab_rt mdX12_buyersAt) ∈ ab_TG := ab_ag_ok (i := 1963) (by decide +kernel)
theorem mwX12_gives : Cond.code (ab_y mdX12_gives) (ab_cc mdX12_gives) (ab_ml mdX12_gives) (ab_rt mdX12_gives) ∈ ab_TG := ab_ag_ok (i := 1967) (by decide +kernel)
theorem mwX12_buyersOn : Cond.code (ab_y mdX12_buyersOn) (ab_cc mdX12_buyersOn) (ab_ml mdX12_buyersOn) (ab_rt mdX12_buyersOn) ∈ ab_TG := ab_ag_ok (i := 1972) (by decide +kernel)
theorem mwX12_earns : Cond.code (ab_y mdX12_earns) (ab_cc mdX12_earns) (ab_ml mdX12_earns) (ab_rt mdX12_earns) ∈ ab_TG := ab_ag_ok (i := 1976) (by decide +kernel)
theorem mwX12_chainEarns : Cond.code (ab_y mdX12_chainEarns) (ab_cc mdX12_chainEarns) (ab_ml mdX12_chainEarns) (ab_rt mdX12_chainEarns) ∈ ab_TG := ab_ag_ok (i := 1980) (by decide +kernel)
theorem mwX12_earnsOf : Cond.code (ab_y mdX12_earnsOf) (ab_cc mdX12_earnsOf) (ab_ml mdX12_earnsOf) (ab_rt mdX12_earnsOf) ∈ ab_TG := ab_ag_ok (i := 1984) (by decide +kernel)
theorem mwX12_home : Cond.code (ab_y mdX12_home) (ab_cc mdX12_home) (ab_ml mdX12_home) (ab_rt mdX12_home) ∈ ab_TG := ab_ag_ok (i := 1988) (by decide +kernel)
theorem mwX12_buys : Cond.code (ab_y mdX12_buys) (ab_cc mdX12_buys) (ab_ml mdX12_buys) (ab_rt mdX12_buys) ∈ ab_TG := ab_ag_ok (i := 1992) (by decide +kernel)
theorem mwX12_best : Cond.code (ab_y mdX12_best) (ab_cc mdX12_best) (ab_ml mdX12_best) (ab_rt mdX12_best) ∈ ab_TG := ab_ag_ok (i := 1996) (by decide +kernel)
theorem mwX12_findBest : Cond.code (ab_y mdX12_findBest) (ab_cc mdX12_findBest) (ab_ml mdX12_findBest) (ab_rt mdX12_findBest) ∈ ab_TG := ab_ag_ok (i := 2000) (by decide +kernel)
theorem mwX12_tries : Cond.code (ab_y mdX12_tries) (ab_cc mdX12_tries) (ab_ml mdX12_tries) (ab_rt mdX12_tries) ∈ ab_TG := ab_ag_ok (i := 2004) (by decide +kernel)
theorem mwX12_isLet : Cond.code (ab_y mdX12_isLet) (ab_cc mdX12_isLet) (ab_ml mdX12_isLet) (ab_rt mdX12_isLet) ∈ ab_TG := ab_ag_ok (i := 2008) (by decide +kernel)
theorem mwX12_rest : Cond.code (ab_y mdX12_rest) (ab_cc mdX12_rest) (ab_ml mdX12_rest) (ab_rt mdX12_rest) ∈ ab_TG := ab_ag_ok (i := 2012) (by decide +kernel)
theorem mwX12_turn : Cond.code (ab_y mdX12_turn) (ab_cc mdX12_turn) (ab_ml mdX12_turn) (ab_rt mdX12_turn) ∈ ab_TG := ab_ag_ok (i := 2016) (by decide +kernel)
theorem mwX12_chase : Cond.code (ab_y mdX12_chase) (ab_cc mdX12_chase) (ab_ml mdX12_chase) (ab_rt mdX12_chase) ∈ ab_TG := ab_ag_ok (i := 2020) (by decide +kernel)
theorem mwX12_notes : Cond.code (ab_y mdX12_notes) (ab_cc mdX12_notes) (ab_ml mdX12_notes) (ab_rt mdX12_notes) ∈ ab_TG := ab_ag_ok (i := 2024) (by decide +kernel)
theorem mwX12_isAs : Cond.code (ab_y mdX12_isAs) (ab_cc mdX12_isAs) (ab_ml mdX12_isAs) (ab_rt mdX12_isAs) ∈ ab_TG := ab_ag_ok (i := 2029) (by decide +kernel)
theorem mwX12_rests : Cond.code (ab_y mdX12_rests) (ab_cc mdX12_rests) (ab_ml mdX12_rests) (ab_rt mdX12_rests) ∈ ab_TG := ab_ag_ok (i := 2033) (by decide +kernel)
theorem mwX12_areTwo : Cond.code (ab_y mdX12_areTwo) (ab_cc mdX12_areTwo) (ab_ml mdX12_areTwo) (ab_rt mdX12_areTwo) ∈ ab_TG := ab_ag_ok (i := 2037) (by decide +kernel)
theorem mwX12_plays : Cond.code (ab_y mdX12_plays) (ab_cc mdX12_plays) (ab_ml mdX12_plays) (ab_rt mdX12_plays) ∈ ab_TG := ab_ag_ok (i := 2041) (by decide +kernel)
theorem mwX12_rowOf : Cond.code (ab_y mdX12_rowOf) (ab_cc mdX12_rowOf) (ab_ml mdX12_rowOf) (ab_rt mdX12_rowOf) ∈ ab_TG := ab_ag_ok (i := 2044) (by decide +kernel)
theorem mwX12_isRowLet : Cond.code (ab_y mdX12_isRowLet) (ab_cc mdX12_isRowLet) (ab_ml mdX12_isRowLet) (ab_rt mdX12_isRowLet) ∈ ab_TG := ab_ag_ok (i := 2048) (by decide +kernel)
theorem mwX12_isApart : Cond.code (ab_y mdX12_isApart) (ab_cc mdX12_isApart) (ab_ml mdX12_isApart) (ab_rt mdX12_isApart) ∈ ab_TG := ab_ag_ok (i := 2052) (by decide +kernel)
theorem mwX12_isRest : Cond.code (ab_y mdX12_isRest) (ab_cc mdX12_isRest) (ab_ml mdX12_isRest) (ab_rt mdX12_isRest) ∈ ab_TG := ab_ag_ok (i := 2056) (by decide +kernel)
theorem mwX12_lots : Cond.code (ab_y mdX12_lots) (ab_cc mdX12_lots) (ab_ml mdX12_lots) (ab_rt mdX12_lots) ∈ ab_TG := ab_ag_ok (i := 2060) (by decide +kernel)
theorem mwX12_isCorner : Cond.code (ab_y mdX12_isCorner) (ab_cc mdX12_isCorner) (ab_ml mdX12_isCorner) (ab_rt mdX12_isCorner) ∈ ab_TG := ab_ag_ok (i := 2064) (by decide +kernel)
theorem mwX12_isRestOf : Cond.code (ab_y mdX12_isRestOf) (ab_cc mdX12_isRestOf) (ab_ml mdX12_isRestOf) (ab_rt mdX12_isRestOf) ∈ ab_TG := ab_ag_ok (i := 2068) (by decide +kernel)
theorem mwX12_divisor : Cond.code (ab_y mdX12_divisor) (ab_cc mdX12_divisor) (ab_ml mdX12_divisor) (ab_rt mdX12_divisor) ∈ ab_TG := ab_ag_ok (i := 2071) (by decide +kernel)
theorem mwX12_lead : Cond.code (ab_y mdX12_lead) (ab_cc mdX12_lead) (ab_ml mdX12_lead) (ab_rt mdX12_lead) ∈ ab_TG := ab_ag_ok (i := 2075) (by decide +kernel)
theorem mwX12_leads : Cond.code (ab_y mdX12_leads) (ab_cc mdX12_leads) (ab_ml mdX12_leads) (ab_rt mdX12_leads) ∈ ab_TG := ab_ag_ok (i := 2080) (by decide +kernel)
theorem mwX12_answerTo : Cond.code (ab_y mdX12_answerTo) (ab_cc mdX12_answerTo) (ab_ml mdX12_answerTo) (ab_rt mdX12_answerTo) ∈ ab_TG := ab_ag_ok (i := 2084) (by decide +kernel)
theorem mwX12_prices : Cond.code (ab_y mdX12_prices) (ab_cc mdX12_prices) (ab_ml mdX12_prices) (ab_rt mdX12_prices) ∈ ab_TG := ab_ag_ok (i := 2088) (by decide +kernel)
theorem mwX12_asks : Cond.code (ab_y mdX12_asks) (ab_cc mdX12_asks) (ab_ml mdX12_asks) (ab_rt mdX12_asks) ∈ ab_TG := ab_ag_ok (i := 2092) (by decide +kernel)
theorem mwX12_pairOf : Cond.code (ab_y mdX12_pairOf) (ab_cc mdX12_pairOf) (ab_ml mdX12_pairOf) (ab_rt mdX12_pairOf) ∈ ab_TG := ab_ag_ok (i := 2096) (by decide +kernel)
theorem mwX12_arePrices : Cond.code (ab_y mdX12_arePrices) (ab_cc mdX12_arePrices) (ab_ml mdX12_arePrices) (ab_rt mdX12_arePrices) ∈ ab_TG := ab_ag_ok (i := 2100) (by decide +kernel)
theorem mwX12_stage : Cond.code (ab_y mdX12_stage) (ab_cc mdX12_stage) (ab_ml mdX12_stage) (ab_rt mdX12_stage) ∈ ab_TG := ab_ag_ok (i := 2104) (by decide +kernel)
theorem mwX12_walk : Cond.code (ab_y mdX12_walk) (ab_cc mdX12_walk) (ab_ml mdX12_walk) (ab_rt mdX12_walk) ∈ ab_TG := ab_ag_ok (i := 2108) (by decide +kernel)
theorem mwX12_walkTo : Cond.code (ab_y mdX12_walkTo) (ab_cc mdX12_walkTo) (ab_ml mdX12_walkTo) (ab_rt mdX12_walkTo) ∈ ab_TG := ab_ag_ok (i := 2112) (by decide +kernel)
theorem mwX12_walkOf : Cond.code (ab_y mdX12_walkOf) (ab_cc mdX12_walkOf) (ab_ml mdX12_walkOf) (ab_rt mdX12_walkOf) ∈ ab_TG := ab_ag_ok (i := 2116) (by decide +kernel)
theorem mwX12_halves : Cond.code (ab_y mdX12_halves) (ab_cc mdX12_halves) (ab_ml mdX12_halves) (ab_rt mdX12_halves) ∈ ab_TG := ab_ag_ok (i := 2121) (by decide +kernel)
theorem mwX12_own : Cond.code (ab_y mdX12_own) (ab_cc mdX12_own) (ab_ml mdX12_own) (ab_rt mdX12_own) ∈ ab_TG := ab_ag_ok (i := 2125) (by decide +kernel)
theorem mwX12_ownOf : Cond.code (ab_y mdX12_ownOf) (ab_cc mdX12_ownOf) (ab_ml mdX12_ownOf) (ab_rt mdX12_ownOf) ∈ ab_TG := ab_ag_ok (i := 2129) (by decide +kernel)
theorem mwX12_loss : Cond.code (ab_y mdX12_loss) (ab_cc mdX12_loss) (ab_ml mdX12_loss) (ab_rt mdX12_loss) ∈ ab_TG := ab_ag_ok (i := 2133) (by decide +kernel)
theorem mwX12_bestLaw : Cond.code (ab_y mdX12_bestLaw) (ab_cc mdX12_bestLaw) (ab_ml mdX12_bestLaw) (ab_rt mdX12_bestLaw) ∈ ab_TG := ab_ag_ok (i := 2137) (by decide +kernel)
theorem mwX12_lawWalk : Cond.code (ab_y mdX12_lawWalk) (ab_cc mdX12_lawWalk) (ab_ml mdX12_lawWalk) (ab_rt mdX12_lawWalk) ∈ ab_TG := ab_ag_ok (i := 2141) (by decide +kernel)
theorem mwX12_shift : Cond.code (ab_y mdX12_shift) (ab_cc mdX12_shift) (ab_ml mdX12_shift) (ab_rt mdX12_shift) ∈ ab_TG := ab_ag_ok (i := 2145) (by decide +kernel)
theorem mwX12_image : Cond.code (ab_y mdX12_image) (ab_cc mdX12_image) (ab_ml mdX12_image) (ab_rt mdX12_image) ∈ ab_TG := ab_ag_ok (i := 2150) (by decide +kernel)
theorem mwX12_back : Cond.code (ab_y mdX12_back) (ab_cc mdX12_back) (ab_ml mdX12_back) (ab_rt mdX12_back) ∈ ab_TG := ab_ag_ok (i := 2154) (by decide +kernel)
theorem mwX12_count : Cond.code (ab_y mdX12_count) (ab_cc mdX12_count) (ab_ml mdX12_count) (ab_rt mdX12_count) ∈ ab_TG := ab_ag_ok (i := 2158) (by decide +kernel)
theorem mwX12_spotsOpen : Cond.code (ab_y mdX12_spotsOpen) (ab_cc mdX12_spotsOpen) (ab_ml mdX12_spotsOpen) (ab_rt mdX12_spotsOpen) ∈ ab_TG := ab_ag_ok (i := 2162) (by decide +kernel)
theorem mwX12_partsOpen : Cond.code (ab_y mdX12_partsOpen) (ab_cc mdX12_partsOpen) (ab_ml mdX12_partsOpen) (ab_rt mdX12_partsOpen) ∈ ab_TG := ab_ag_ok (i := 2166) (by decide +kernel)
/-- a call of an instance method: the words that it needs -/
def ab_cv (own idx ci : Nat) (M : ab_M) : Prop := Cond.instanceMethod (ab_y M) ∈ ab_TG ∧ Cond.initialized (ab_y M).cls ∈ ab_TG ∧ ((parseMethodDescriptor (ab_y M).desc).map (fun d => d.parameters.length) = some (ab_na M - 1) ∧ 0 < ab_na M) ∧ ((ab_y M).cls ≠ "java/lang/invoke/MethodHandle" ∧ (ab_y M).cls ≠ "java/lang/invoke/VarHandle") ∧ ∃ (C : String) (T : u_T) (N : Nat), vwCl[ci]? = some (C, T, N) ∧
  (((ab_y M).cls = C ∧ Cond.methodLink (ab_cn own) idx (ab_y M) ∈ ab_TG ∧ Cond.selects C (ab_y M) (ab_y M) ∈ ab_TG)
   ∨ ∃ (x : MethodName) (owner : String), (owner ≠ "java/lang/invoke/MethodHandle" ∧ owner ≠ "java/lang/invoke/VarHandle" ∧ x.desc = (ab_y M).desc) ∧ Cond.methodLink (ab_cn own) idx x ∈ ab_TG ∧ Cond.sameMethod x.cls owner x.name x.desc ∈ ab_TG ∧ Cond.selects C x (ab_y M) ∈ ab_TG ∧ (ab_y M = ⟨owner, x.name, x.desc⟩ ∨ Cond.declares ⟨owner, x.name, x.desc⟩ ∈ ab_TB))
abbrev ab_Rv : Type := Nat × Nat × Nat × ab_M × (Nat × Nat × Nat × Nat × Nat) × MethodName × String × Nat × Nat
def ab_cvB (own idx : Nat) (M : ab_M) (i : Nat × Nat × Nat × Nat × Nat) (x : MethodName) (ow : String) (iM iD : Nat) (C : String) : Bool :=
  if ow = "" then decide ((ab_y M).cls = C) && (ab_ag i.2.2.2.1 (.methodLink (ab_cn own) idx (ab_y M)) && ab_ag i.2.2.2.2 (.selects C (ab_y M) (ab_y M)))
  else decide (ow ≠ "java/lang/invoke/MethodHandle" ∧ ow ≠ "java/lang/invoke/VarHandle" ∧ x.desc = (ab_y M).desc) && (ab_ag i.2.2.2.1 (.methodLink (ab_cn own) idx x) && (ab_ag iM (.sameMethod x.cls ow x.name x.desc) && (ab_ag i.2.2.2.2 (.selects C x (ab_y M)) && (decide (ab_y M = ⟨ow, x.name, x.desc⟩) || ab_at iD (.declares ⟨ow, x.name, x.desc⟩)))))
def ab_cvC : ab_Rv → Bool := fun (own, idx, ci, M, i, x, ow, iM, iD) =>
  (ab_ag i.2.1 (.instanceMethod (ab_y M)) && (ab_ag i.2.2.1 (.initialized (ab_y M).cls) && (decide ((parseMethodDescriptor (ab_y M).desc).map (fun d => d.parameters.length) = some (ab_na M - 1) ∧ 0 < ab_na M) && (decide ((ab_y M).cls ≠ "java/lang/invoke/MethodHandle" ∧ (ab_y M).cls ≠ "java/lang/invoke/VarHandle") &&
  (match vwCl[ci]? with
   | some q => ab_cvB own idx M i x ow iM iD q.1
   | none => false)))))
theorem ab_cvC_ok {r : ab_Rv} (h : ab_cvC r = true) : ab_cv r.1 r.2.1 r.2.2.1 r.2.2.2.1 := by
  obtain ⟨own, idx, ci, M, i, x, ow, iM, iD⟩ := r
  obtain ⟨h2, h⟩ := Bool.and_eq_true_iff.mp h
  obtain ⟨h3, h⟩ := Bool.and_eq_true_iff.mp h
  obtain ⟨h4, h⟩ := Bool.and_eq_true_iff.mp h
  obtain ⟨h5, h⟩ := Bool.and_eq_true_iff.mp h
  refine ⟨ab_ag_ok h2, ab_ag_ok h3, of_decide_eq_true h4, of_decide_eq_true h5, ?_⟩
  dsimp only at h ⊢
  cases hq : vwCl[ci]? with
  | none => rw [hq] at h; cases h
  | some q =>
    rw [hq] at h
    obtain ⟨C, T, N⟩ := q
    refine ⟨C, T, N, rfl, ?_⟩
    dsimp only [ab_cvB] at h
    by_cases hw : ow = ""
    · rw [if_pos hw] at h
      obtain ⟨g1, h⟩ := Bool.and_eq_true_iff.mp h
      obtain ⟨g2, g3⟩ := Bool.and_eq_true_iff.mp h
      exact Or.inl ⟨of_decide_eq_true g1, ab_ag_ok g2, ab_ag_ok g3⟩
    · rw [if_neg hw] at h
      obtain ⟨g1, h⟩ := Bool.and_eq_true_iff.mp h
      obtain ⟨g2, h⟩ := Bool.and_eq_true_iff.mp h
      obtain ⟨g3, h⟩ := Bool.and_eq_true_iff.mp h
      obtain ⟨g4, h⟩ := Bool.and_eq_true_iff.mp h
      refine Or.inr ⟨x, ow, of_decide_eq_true g1, ab_ag_ok g2, ab_ag_ok g3, ab_ag_ok g4, ?_⟩
      rcases Bool.or_eq_true_iff.mp h with g | g
      · exact Or.inl (of_decide_eq_true g)
      · exact Or.inr (ab_at_ok g)
def ab_ivs_0 : List ab_Rv := [(1, 69, 1, mdX1_weighAll, (1275, 1274, 118, 1272, 43), yX1_weighAll, "", 0, 0),
  (1, 73, 1, mdX1_findRests, (1289, 1288, 118, 1286, 45), yX1_findRests, "", 0, 0),
  (1, 81, 3, mdX3_load, (1066, 1064, 115, 1276, 1065), yX3_load, "", 0, 0),
  (1, 87, 3, mdX8_place, (1072, 1071, 114, 1277, 1070), ⟨"TwoBakers$Market", "place", "(II)V"⟩, "TwoBakers$Survey", 1068, 1069),
  (1, 91, 1, mdX1_weighRow, (1281, 1280, 118, 1278, 44), yX1_weighRow, "", 0, 0),
  (1, 98, 3, mdX3_isFarEnough, (1205, 1203, 115, 1282, 1204), yX3_isFarEnough, "", 0, 0),
  (1, 102, 3, mdX8_goRound, (1083, 1082, 114, 1283, 1081), ⟨"TwoBakers$Market", "goRound", "()V"⟩, "TwoBakers$Survey", 1079, 1080),
  (1, 105, 3, mdX3_worth, (1171, 1169, 115, 1284, 1170), yX3_worth, "", 0, 0),
  (1, 110, 1, mdX1_isRest, (1293, 1292, 118, 1290, 46), yX1_isRest, "", 0, 0),
  (1, 114, 1, mdX1_cornerIn, (1297, 1295, 118, 1294, 1296), yX1_cornerIn, "", 0, 0),
  (1, 118, 1, mdX1_answerTo, (1341, 1340, 118, 1338, 48), yX1_answerTo, "", 0, 0),
  (1, 121, 1, mdX1_worthOf, (1345, 1343, 118, 1342, 1344), yX1_worthOf, "", 0, 0),
  (1, 162, 7, mdX7_lay, (692, 690, 112, 1435, 691), yX7_lay, "", 0, 0),
  (1, 168, 1, mdX1_leastWalk, (1439, 1438, 118, 1436, 53), yX1_leastWalk, "", 0, 0),
  (1, 179, 9, mdX10_toSpots, (1396, 1394, 116, 1440, 1395), yX10_toSpots, "", 0, 0),
  (3, 49, 3, mdX8_place, (1072, 1071, 114, 1067, 1070), ⟨"TwoBakers$Market", "place", "(II)V"⟩, "TwoBakers$Survey", 1068, 1069),
  (3, 100, 3, mdX3_worth, (1171, 1169, 115, 1168, 1170), yX3_worth, "", 0, 0),
  (3, 107, 3, mdX8_stepsTo, (1211, 1210, 114, 1206, 1209), ⟨"TwoBakers$Market", "stepsTo", "(II)I"⟩, "TwoBakers$Survey", 1207, 1208),
  (4, 74, 3, mdX8_place, (1072, 1071, 114, 1220, 1070), ⟨"TwoBakers$Market", "place", "(II)V"⟩, "TwoBakers$Survey", 1068, 1069),
  (4, 86, 4, mdX4_standing, (1191, 1190, 117, 1188, 34), yX4_standing, "", 0, 0),
  (4, 98, 4, mdX4_addOther, (1201, 1200, 117, 1198, 36), yX4_addOther, "", 0, 0),
  (4, 105, 3, mdX3_isFarEnough, (1205, 1203, 115, 1202, 1204), yX3_isFarEnough, "", 0, 0),
  (4, 126, 3, mdX8_goRound, (1083, 1082, 114, 1192, 1081), ⟨"TwoBakers$Market", "goRound", "()V"⟩, "TwoBakers$Survey", 1079, 1080),
  (4, 129, 3, mdX3_takings, (1167, 1165, 115, 1193, 1166), yX3_takings, "", 0, 0),
  (4, 133, 4, mdX4_listOthers, (1197, 1196, 117, 1194, 35), yX4_listOthers, "", 0, 0),
  (4, 137, 4, mdX4_take, (1219, 1218, 117, 1216, 37), yX4_take, "", 0, 0),
  (4, 143, 4, mdX4_findBest, (1187, 1185, 117, 1229, 1186), yX4_findBest, "", 0, 0),
  (4, 146, 3, mdX3_load, (1066, 1064, 115, 1242, 1065), yX3_load, "", 0, 0),
  (4, 150, 4, mdX4_snapshot, (1246, 1245, 117, 1243, 38), yX4_snapshot, "", 0, 0),
  (4, 154, 4, mdX4_endChase, (1250, 1249, 117, 1247, 39), yX4_endChase, "", 0, 0),
  (4, 158, 4, mdX4_goOneRound, (1254, 1253, 117, 1251, 40), yX4_goOneRound, "", 0, 0),
  (4, 162, 4, mdX4_sameAgo, (1258, 1257, 117, 1255, 41), yX4_sameAgo, "", 0, 0)]
theorem ab_ivs_0_ok : ab_ivs_0.all ab_cvC = true := by decide +kernel
def ab_ivs_1 : List ab_Rv := [(4, 174, 4, mdX4_leastShiftFor, (1453, 1452, 117, 1450, 54), yX4_leastShiftFor, "", 0, 0),
  (4, 183, 3, mdX3_takingsOfOne, (1457, 1455, 115, 1454, 1456), yX3_takingsOfOne, "", 0, 0),
  (5, 62, 3, mdX3_load, (1066, 1064, 115, 1356, 1065), yX3_load, "", 0, 0),
  (5, 68, 5, mdX5_findPairs, (1360, 1359, 119, 1357, 49), yX5_findPairs, "", 0, 0),
  (5, 97, 3, mdX8_goRound, (1083, 1082, 114, 1362, 1081), ⟨"TwoBakers$Market", "goRound", "()V"⟩, "TwoBakers$Survey", 1079, 1080),
  (5, 100, 3, mdX3_worth, (1171, 1169, 115, 1363, 1170), yX3_worth, "", 0, 0),
  (5, 104, 5, mdX5_isRest, (1367, 1366, 119, 1364, 50), yX5_isRest, "", 0, 0),
  (5, 108, 3, mdX8_place, (1072, 1071, 114, 1380, 1070), ⟨"TwoBakers$Market", "place", "(II)V"⟩, "TwoBakers$Survey", 1068, 1069),
  (5, 111, 5, mdX5_weighStage, (1384, 1383, 119, 1381, 51), yX5_weighStage, "", 0, 0),
  (5, 124, 3, mdX3_isFarEnough, (1205, 1203, 115, 1386, 1204), yX3_isFarEnough, "", 0, 0),
  (5, 127, 5, mdX5_pairAt, (1371, 1369, 119, 1387, 1370), yX5_pairAt, "", 0, 0),
  (6, 34, 6, mdX6_begin, (793, 792, 109, 790, 13), yX6_begin, "", 0, 0),
  (6, 38, 8, mdX9_clear, (810, 808, 110, 807, 809), yX9_clear, "", 0, 0),
  (6, 46, 6, mdX6_takeStatement, (815, 814, 109, 812, 15), yX6_takeStatement, "", 0, 0),
  (6, 53, 2, mdX2_clearNext, (959, 957, 111, 956, 958), yX2_clearNext, "", 0, 0),
  (6, 60, 6, mdX6_isWord, (824, 823, 109, 821, 17), yX6_isWord, "", 0, 0),
  (6, 64, 6, mdX6_takeRule, (963, 962, 109, 960, 29), yX6_takeRule, "", 0, 0),
  (6, 74, 6, mdX6_advance, (800, 799, 109, 797, 14), yX6_advance, "", 0, 0),
  (6, 119, 6, mdX6_isName, (905, 904, 109, 902, 22), yX6_isName, "", 0, 0),
  (6, 129, 6, mdX6_takeWord, (820, 819, 109, 817, 16), yX6_takeWord, "", 0, 0),
  (6, 132, 6, mdX6_takeCorner, (876, 875, 109, 873, 18), yX6_takeCorner, "", 0, 0),
  (6, 135, 6, mdX6_takeStreet, (920, 919, 109, 917, 25), yX6_takeStreet, "", 0, 0),
  (6, 138, 6, mdX6_takeNumber, (912, 911, 109, 909, 23), yX6_takeNumber, "", 0, 0),
  (6, 146, 6, mdX6_takeAsk, (929, 928, 109, 926, 26), yX6_takeAsk, "", 0, 0),
  (6, 149, 6, mdX6_takeEnd, (933, 932, 109, 930, 27), yX6_takeEnd, "", 0, 0),
  (6, 159, 6, mdX6_takeNewName, (880, 879, 109, 877, 19), yX6_takeNewName, "", 0, 0),
  (6, 164, 6, mdX6_breadNamed, (916, 915, 109, 913, 24), yX6_breadNamed, "", 0, 0),
  (6, 170, 6, mdX6_isReserved, (884, 883, 109, 881, 20), yX6_isReserved, "", 0, 0),
  (6, 173, 6, mdX6_cornerNamed, (901, 900, 109, 898, 21), yX6_cornerNamed, "", 0, 0),
  (6, 186, 8, mdX9_hasStreet, (924, 922, 110, 921, 923), yX9_hasStreet, "", 0, 0),
  (6, 208, 6, mdX6_takeBetween, (967, 966, 109, 964, 30), yX6_takeBetween, "", 0, 0),
  (6, 212, 2, mdX2_addChange, (971, 969, 111, 968, 970), yX2_addChange, "", 0, 0)]
theorem ab_ivs_1_ok : ab_ivs_1.all ab_cvC = true := by decide +kernel
def ab_ivs_2 : List ab_Rv := [(7, 51, 7, mdX7_change, (696, 695, 112, 693, 8), yX7_change, "", 0, 0),
  (7, 55, 7, mdX7_joinNeighbours, (713, 712, 112, 710, 10), yX7_joinNeighbours, "", 0, 0),
  (7, 58, 7, mdX7_joinAll, (724, 723, 112, 721, 12), yX7_joinAll, "", 0, 0),
  (7, 61, 2, mdX2_firstChange, (700, 698, 111, 697, 699), yX2_firstChange, "", 0, 0),
  (7, 77, 7, mdX7_shutBetween, (704, 703, 112, 701, 9), yX7_shutBetween, "", 0, 0),
  (7, 86, 8, mdX9_joins, (708, 706, 110, 705, 707), yX9_joins, "", 0, 0),
  (7, 107, 7, mdX7_join, (720, 719, 112, 717, 11), yX7_join, "", 0, 0),
  (7, 129, 7, mdX7_isShut, (1018, 1016, 112, 1015, 1017), yX7_isShut, "", 0, 0),
  (7, 133, 7, mdX7_toCorner, (1023, 1022, 112, 1020, 31), yX7_toCorner, "", 0, 0),
  (8, 42, 7, mdX7_reach, (1076, 1074, 112, 1073, 1075), yX7_reach, "", 0, 0),
  (8, 47, 3, mdX3_open, (1089, 1088, 115, 1084, 1087), ⟨"TwoBakers$Survey", "open", "()V"⟩, "TwoBakers$Survey", 1086, 1085),
  (8, 47, 9, mdX10_open, (1093, 1092, 116, 1084, 1091), ⟨"TwoBakers$Survey", "open", "()V"⟩, "TwoBakers$Survey", 1086, 1085),
  (8, 50, 3, mdX8_markStreets, (1097, 1096, 114, 1094, 0), ⟨"TwoBakers$Survey", "markStreets", "()V"⟩, "TwoBakers$Survey", 2167, 0),
  (8, 50, 9, mdX8_markStreets, (1097, 1096, 114, 1094, 1), ⟨"TwoBakers$Survey", "markStreets", "()V"⟩, "TwoBakers$Survey", 2167, 0),
  (8, 58, 3, mdX8_cheapest, (1104, 1103, 114, 1101, 2), ⟨"TwoBakers$Survey", "cheapest", "(I)I"⟩, "TwoBakers$Survey", 2168, 0),
  (8, 58, 9, mdX8_cheapest, (1104, 1103, 114, 1101, 3), ⟨"TwoBakers$Survey", "cheapest", "(I)I"⟩, "TwoBakers$Survey", 2168, 0),
  (8, 62, 3, mdX3_meetCorner, (1114, 1113, 115, 1109, 1112), ⟨"TwoBakers$Survey", "meetCorner", "(I)V"⟩, "TwoBakers$Survey", 1111, 1110),
  (8, 62, 9, mdX10_meetCorner, (1117, 1116, 116, 1109, 1115), ⟨"TwoBakers$Survey", "meetCorner", "(I)V"⟩, "TwoBakers$Survey", 1111, 1110),
  (8, 76, 3, mdX8_meetStreet, (1123, 1122, 114, 1120, 4), ⟨"TwoBakers$Survey", "meetStreet", "(I)V"⟩, "TwoBakers$Survey", 2169, 0),
  (8, 76, 9, mdX8_meetStreet, (1123, 1122, 114, 1120, 5), ⟨"TwoBakers$Survey", "meetStreet", "(I)V"⟩, "TwoBakers$Survey", 2169, 0),
  (8, 79, 3, mdX3_close, (1150, 1149, 115, 1145, 1148), ⟨"TwoBakers$Survey", "close", "()V"⟩, "TwoBakers$Survey", 1147, 1146),
  (8, 79, 9, mdX10_close, (1159, 1158, 116, 1145, 1157), ⟨"TwoBakers$Survey", "close", "()V"⟩, "TwoBakers$Survey", 1147, 1146),
  (8, 116, 3, mdX8_cheapestOn, (1127, 1126, 114, 1124, 6), ⟨"TwoBakers$Survey", "cheapestOn", "(II)I"⟩, "TwoBakers$Survey", 2170, 0),
  (8, 116, 9, mdX8_cheapestOn, (1127, 1126, 114, 1124, 7), ⟨"TwoBakers$Survey", "cheapestOn", "(II)I"⟩, "TwoBakers$Survey", 2170, 0),
  (8, 119, 3, mdX3_meetStretch, (1134, 1133, 115, 1129, 1132), ⟨"TwoBakers$Survey", "meetStretch", "(IIII)V"⟩, "TwoBakers$Survey", 1131, 1130),
  (8, 119, 9, mdX10_meetStretch, (1141, 1140, 116, 1129, 1139), ⟨"TwoBakers$Survey", "meetStretch", "(IIII)V"⟩, "TwoBakers$Survey", 1131, 1130),
  (9, 70, 8, mdX9_isCorner, (995, 993, 110, 1004, 994), yX9_isCorner, "", 0, 0),
  (9, 81, 8, mdX9_joins, (708, 706, 110, 925, 707), yX9_joins, "", 0, 0),
  (10, 56, 9, mdX8_place, (1072, 1071, 114, 1397, 1399), ⟨"TwoBakers$Walks", "place", "(II)V"⟩, "TwoBakers$Survey", 1398, 1069),
  (10, 60, 9, mdX8_goRound, (1083, 1082, 114, 1400, 1402), ⟨"TwoBakers$Walks", "goRound", "()V"⟩, "TwoBakers$Survey", 1401, 1080),
  (10, 73, 9, mdX10_noteOwn, (1414, 1413, 116, 1411, 52), yX10_noteOwn, "", 0, 0),
  (10, 76, 9, mdX10_toSpots, (1396, 1394, 116, 1415, 1395), yX10_toSpots, "", 0, 0)]
theorem ab_ivs_2_ok : ab_ivs_2.all ab_cvC = true := by decide +kernel
def ab_ivs_3 : List ab_Rv := [(11, 107, 7, mdX7_lay, (692, 690, 112, 689, 691), yX7_lay, "", 0, 0),
  (11, 114, 6, mdX6_append, (781, 779, 109, 778, 780), yX6_append, "", 0, 0),
  (11, 118, 6, mdX6_readTown, (789, 787, 109, 786, 788), yX6_readTown, "", 0, 0),
  (11, 125, 8, mdX9_copyFrom, (937, 935, 110, 934, 936), yX9_copyFrom, "", 0, 0),
  (11, 128, 0, mdX0_clear, (942, 940, 113, 939, 941), yX0_clear, "", 0, 0),
  (11, 134, 10, mdX11_changeRoads, (946, 945, 108, 943, 28), yX11_changeRoads, "", 0, 0),
  (11, 140, 6, mdX6_readLaw, (955, 953, 109, 952, 954), yX6_readLaw, "", 0, 0),
  (11, 154, 8, mdX9_streetTold, (983, 981, 110, 980, 982), yX9_streetTold, "", 0, 0),
  (11, 158, 8, mdX9_plainTold, (987, 985, 110, 984, 986), yX9_plainTold, "", 0, 0),
  (11, 162, 8, mdX9_isCorner, (995, 993, 110, 992, 994), yX9_isCorner, "", 0, 0),
  (11, 172, 8, mdX9_isSpot, (1003, 1001, 110, 1000, 1002), yX9_isSpot, "", 0, 0),
  (11, 175, 7, mdX7_between, (1014, 1012, 112, 1011, 1013), yX7_between, "", 0, 0),
  (11, 182, 10, mdX11_canStand, (1041, 1040, 108, 1038, 32), yX11_canStand, "", 0, 0),
  (11, 202, 0, mdX0_has, (1049, 1047, 113, 1046, 1048), yX0_has, "", 0, 0),
  (11, 209, 10, mdX11_sellToAll, (1062, 1061, 108, 1059, 33), yX11_sellToAll, "", 0, 0),
  (11, 215, 3, mdX3_takings, (1167, 1165, 115, 1164, 1166), yX3_takings, "", 0, 0),
  (11, 225, 3, mdX3_load, (1066, 1064, 115, 1063, 1065), yX3_load, "", 0, 0),
  (11, 229, 4, mdX4_findBest, (1187, 1185, 117, 1184, 1186), yX4_findBest, "", 0, 0),
  (11, 243, 4, mdX4_firstRestless, (1228, 1226, 117, 1225, 1227), yX4_firstRestless, "", 0, 0),
  (11, 247, 4, mdX4_runChase, (1241, 1239, 117, 1238, 1240), yX4_runChase, "", 0, 0),
  (11, 260, 10, mdX11_isPair, (1267, 1266, 108, 1264, 42), yX11_isPair, "", 0, 0),
  (11, 263, 1, mdX1_prepare, (1271, 1269, 118, 1268, 1270), yX1_prepare, "", 0, 0),
  (11, 273, 1, mdX1_cornersOf, (1301, 1299, 118, 1298, 1300), yX1_cornersOf, "", 0, 0),
  (11, 276, 10, mdX11_areTwoCorners, (1309, 1308, 108, 1306, 47), yX11_areTwoCorners, "", 0, 0),
  (11, 279, 1, mdX1_drawLots, (1313, 1311, 118, 1310, 1312), yX1_drawLots, "", 0, 0),
  (11, 285, 1, mdX1_ledRow, (1337, 1335, 118, 1334, 1336), yX1_ledRow, "", 0, 0),
  (11, 288, 1, mdX1_cornerIn, (1297, 1295, 118, 1346, 1296), yX1_cornerIn, "", 0, 0),
  (11, 291, 1, mdX1_worthOf, (1345, 1343, 118, 1347, 1344), yX1_worthOf, "", 0, 0),
  (11, 295, 5, mdX5_prepare, (1355, 1353, 119, 1352, 1354), yX5_prepare, "", 0, 0),
  (11, 299, 5, mdX5_pairAt, (1371, 1369, 119, 1368, 1370), yX5_pairAt, "", 0, 0),
  (11, 302, 5, mdX5_firstStage, (1379, 1377, 119, 1376, 1378), yX5_firstStage, "", 0, 0),
  (11, 309, 9, mdX10_toSpots, (1396, 1394, 116, 1393, 1395), yX10_toSpots, "", 0, 0)]
theorem ab_ivs_3_ok : ab_ivs_3.all ab_cvC = true := by decide +kernel
def ab_ivs_4 : List ab_Rv := [(11, 312, 9, mdX10_findOwn, (1410, 1408, 116, 1407, 1409), yX10_findOwn, "", 0, 0),
  (11, 324, 9, mdX10_toBakers, (1423, 1421, 116, 1420, 1422), yX10_toBakers, "", 0, 0),
  (11, 328, 1, mdX1_choose, (1431, 1429, 118, 1428, 1430), yX1_choose, "", 0, 0),
  (11, 336, 4, mdX4_leastShift, (1449, 1447, 117, 1446, 1448), yX4_leastShift, "", 0, 0),
  (11, 339, 0, mdX0_copyFrom, (1469, 1467, 113, 1466, 1468), yX0_copyFrom, "", 0, 0),
  (11, 341, 7, mdX7_openSpots, (1482, 1480, 112, 1479, 1481), yX7_openSpots, "", 0, 0),
  (11, 347, 7, mdX7_openPeople, (1486, 1484, 112, 1483, 1485), yX7_openPeople, "", 0, 0),
  (11, 350, 3, mdX8_goRound, (1083, 1082, 114, 1078, 1081), ⟨"TwoBakers$Market", "goRound", "()V"⟩, "TwoBakers$Survey", 1079, 1080),
  (12, 197, 11, mdX12_here, (1806, 1805, 121, 1803, 57), yX12_here, "", 0, 0),
  (12, 259, 11, mdX12_wordOf, (1831, 1830, 121, 1828, 61), yX12_wordOf, "", 0, 0),
  (12, 263, 11, mdX12_errs, (1819, 1818, 121, 1816, 58), yX12_errs, "", 0, 0),
  (12, 266, 11, mdX12_next, (1802, 1801, 121, 1799, 56), yX12_next, "", 0, 0),
  (12, 275, 11, mdX12_isName, (1853, 1852, 121, 1850, 63), yX12_isName, "", 0, 0),
  (12, 279, 11, mdX12_wordHere, (1827, 1826, 121, 1824, 60), yX12_wordHere, "", 0, 0),
  (12, 282, 11, mdX12_number, (1857, 1856, 121, 1854, 64), yX12_number, "", 0, 0),
  (12, 288, 11, mdX12_cornerHere, (1865, 1864, 121, 1862, 66), yX12_cornerHere, "", 0, 0),
  (12, 292, 11, mdX12_readCorner, (1849, 1848, 121, 1846, 62), yX12_readCorner, "", 0, 0),
  (12, 295, 11, mdX12_readStreet, (1861, 1860, 121, 1858, 65), yX12_readStreet, "", 0, 0),
  (12, 310, 11, mdX12_ends, (1869, 1868, 121, 1866, 67), yX12_ends, "", 0, 0),
  (12, 313, 11, mdX12_beginsText, (1798, 1797, 121, 1795, 55), yX12_beginsText, "", 0, 0),
  (12, 317, 11, mdX12_readStatement, (1823, 1822, 121, 1820, 59), yX12_readStatement, "", 0, 0),
  (12, 338, 11, mdX12_laysTown, (1873, 1872, 121, 1870, 68), yX12_laysTown, "", 0, 0),
  (12, 341, 11, mdX12_readLaw, (1897, 1896, 121, 1894, 70), yX12_readLaw, "", 0, 0),
  (12, 354, 11, mdX12_lays, (1877, 1876, 121, 1874, 69), yX12_lays, "", 0, 0),
  (12, 364, 11, mdX12_toCorner, (1917, 1916, 121, 1914, 73), yX12_toCorner, "", 0, 0),
  (12, 370, 11, mdX12_isSpot, (1909, 1908, 121, 1906, 71), yX12_isSpot, "", 0, 0),
  (12, 374, 11, mdX12_farOf, (1913, 1912, 121, 1910, 72), yX12_farOf, "", 0, 0),
  (12, 380, 11, mdX12_priceOf, (1946, 1945, 121, 1943, 75), yX12_priceOf, "", 0, 0),
  (12, 383, 11, mdX12_paces, (1958, 1957, 121, 1955, 77), yX12_paces, "", 0, 0),
  (12, 388, 11, mdX12_buyersAt, (1963, 1962, 121, 1960, 78), yX12_buyersAt, "", 0, 0),
  (12, 391, 11, mdX12_gives, (1967, 1966, 121, 1964, 79), yX12_gives, "", 0, 0),
  (12, 397, 11, mdX12_buyersOn, (1972, 1971, 121, 1969, 80), yX12_buyersOn, "", 0, 0)]
theorem ab_ivs_4_ok : ab_ivs_4.all ab_cvC = true := by decide +kernel
def ab_ivs_5 : List ab_Rv := [(12, 400, 11, mdX12_earnsOf, (1984, 1983, 121, 1981, 82), yX12_earnsOf, "", 0, 0),
  (12, 404, 11, mdX12_isSeller, (1938, 1937, 121, 1935, 74), yX12_isSeller, "", 0, 0),
  (12, 407, 11, mdX12_sells, (1954, 1953, 121, 1951, 76), yX12_sells, "", 0, 0),
  (12, 410, 11, mdX12_chainEarns, (1980, 1979, 121, 1977, 81), yX12_chainEarns, "", 0, 0),
  (12, 422, 11, mdX12_tries, (2004, 2003, 121, 2001, 84), yX12_tries, "", 0, 0),
  (12, 426, 11, mdX12_isLet, (2008, 2007, 121, 2005, 85), yX12_isLet, "", 0, 0),
  (12, 430, 11, mdX12_findBest, (2000, 1999, 121, 1997, 83), yX12_findBest, "", 0, 0),
  (12, 433, 11, mdX12_notes, (2024, 2023, 121, 2021, 86), yX12_notes, "", 0, 0),
  (12, 436, 11, mdX12_turn, (2016, 2014, 121, 2025, 2015), yX12_turn, "", 0, 0),
  (12, 439, 11, mdX12_isAs, (2029, 2028, 121, 2026, 87), yX12_isAs, "", 0, 0),
  (12, 442, 11, mdX12_isApart, (2052, 2051, 121, 2049, 91), yX12_isApart, "", 0, 0),
  (12, 458, 11, mdX12_isRowLet, (2048, 2047, 121, 2045, 90), yX12_isRowLet, "", 0, 0),
  (12, 461, 11, mdX12_areTwo, (2037, 2036, 121, 2034, 88), yX12_areTwo, "", 0, 0),
  (12, 464, 11, mdX12_plays, (2041, 2040, 121, 2038, 89), yX12_plays, "", 0, 0),
  (12, 468, 11, mdX12_isRest, (2056, 2055, 121, 2053, 92), yX12_isRest, "", 0, 0),
  (12, 472, 11, mdX12_isCorner, (2064, 2063, 121, 2061, 93), yX12_isCorner, "", 0, 0),
  (12, 475, 11, mdX12_isRestOf, (2068, 2067, 121, 2065, 94), yX12_isRestOf, "", 0, 0),
  (12, 485, 11, mdX12_answerTo, (2084, 2083, 121, 2081, 96), yX12_answerTo, "", 0, 0),
  (12, 494, 11, mdX12_leads, (2080, 2079, 121, 2077, 95), yX12_leads, "", 0, 0),
  (12, 504, 11, mdX12_arePrices, (2100, 2099, 121, 2097, 99), yX12_arePrices, "", 0, 0),
  (12, 507, 11, mdX12_asks, (2092, 2091, 121, 2089, 97), yX12_asks, "", 0, 0),
  (12, 510, 11, mdX12_pairOf, (2096, 2095, 121, 2093, 98), yX12_pairOf, "", 0, 0),
  (12, 518, 11, mdX12_halves, (2121, 2120, 121, 2118, 102), yX12_halves, "", 0, 0),
  (12, 521, 11, mdX12_walkOf, (2116, 2115, 121, 2113, 101), yX12_walkOf, "", 0, 0),
  (12, 525, 11, mdX12_walkTo, (2112, 2111, 121, 2109, 100), yX12_walkTo, "", 0, 0),
  (12, 535, 11, mdX12_ownOf, (2129, 2128, 121, 2126, 103), yX12_ownOf, "", 0, 0),
  (12, 541, 11, mdX12_lawWalk, (2141, 2140, 121, 2138, 104), yX12_lawWalk, "", 0, 0),
  (12, 544, 11, mdX12_rest, (2012, 2010, 121, 2146, 2011), yX12_rest, "", 0, 0),
  (12, 547, 11, mdX12_spotsOpen, (2162, 2161, 121, 2159, 105), yX12_spotsOpen, "", 0, 0),
  (12, 550, 11, mdX12_partsOpen, (2166, 2165, 121, 2163, 106), yX12_partsOpen, "", 0, 0)]
theorem ab_ivs_5_ok : ab_ivs_5.all ab_cvC = true := by decide +kernel
def ab_ivs : List ab_Rv := ab_ivs_0 ++ (ab_ivs_1 ++ (ab_ivs_2 ++ (ab_ivs_3 ++ (ab_ivs_4 ++ (ab_ivs_5)))))
theorem ab_ivs_ok : ab_ivs.all ab_cvC = true := by
  simp only [ab_ivs, List.all_append, Bool.and_eq_true]
  exact ⟨ab_ivs_0_ok, ⟨ab_ivs_1_ok, ⟨ab_ivs_2_ok, ⟨ab_ivs_3_ok, ⟨ab_ivs_4_ok, ab_ivs_5_ok⟩⟩⟩⟩⟩
def ab_iv (own idx ci : Nat) : Option ab_M := (ab_ivs.find? (fun r => r.1 == own && (r.2.1 == idx && r.2.2.1 == ci))).map (fun r => r.2.2.2.1)
theorem ab_iv_ok {own idx ci : Nat} {M : ab_M} (h : ab_iv own idx ci = some M) : ab_cv own idx ci M := by
  unfold ab_iv at h
  obtain ⟨r, hr, rfl⟩ := Option.map_eq_some_iff.mp h
  have h1 := List.find?_some hr
  have h2 := ab_cvC_ok (List.all_eq_true.mp ab_ivs_ok r (List.mem_of_find?_eq_some hr))
  simp only [Bool.and_eq_true, beq_iff_eq] at h1
  rw [h1.1, h1.2.1, h1.2.2] at h2
  exact h2
def ab_fnd (l : List (Nat × Nat × Nat)) (j a b c : Nat) : Bool := match l with
  | [] => false
  | r :: t => if r.1 = a ∧ r.2.1 = b ∧ r.2.2 = c then j == 0 else match j with
    | 0 => false
    | i + 1 => ab_fnd t i a b c
theorem ab_fnd_ok {α : Type} {k1 k2 k3 : α → Nat} : ∀ (l : List α) (j a b c : Nat), ab_fnd (l.map (fun r => (k1 r, k2 r, k3 r))) j a b c = true → l.find? (fun r => k1 r == a && (k2 r == b && k3 r == c)) = l[j]?
  | [], j, a, b, c, h => by simp [ab_fnd] at h
  | r :: t, j, a, b, c, h => by
    simp only [List.map_cons, ab_fnd] at h
    by_cases hc : k1 r = a ∧ k2 r = b ∧ k3 r = c
    · rw [if_pos hc] at h
      have : j = 0 := by simpa using h
      subst this
      rw [List.find?_cons_of_pos (by simp [hc])]
      rfl
    · rw [if_neg hc] at h
      cases j with
      | zero => simp at h
      | succ i =>
        rw [List.find?_cons_of_neg (by simpa using hc), ab_fnd_ok t i a b c h]
        simp
theorem ab_iv_at {own idx ci : Nat} {M : ab_M} (j : Nat) (h : ab_fnd (ab_ivs.map (fun r => (r.1, r.2.1, r.2.2.1))) j own idx ci = true) (e : (ab_ivs[j]?).map (fun r => r.2.2.2.1) = some M) : ab_iv own idx ci = some M := by
  unfold ab_iv
  rw [ab_fnd_ok ab_ivs j own idx ci h, e]
theorem iv1_69_1 : ab_iv 1 69 1 = some mdX1_weighAll := ab_iv_at 0 (by decide +kernel) rfl
theorem iv1_73_1 : ab_iv 1 73 1 = some mdX1_findRests := ab_iv_at 1 (by decide +kernel) rfl
theorem iv1_81_3 : ab_iv 1 81 3 = some mdX3_load := ab_iv_at 2 (by decide +kernel) rfl
theorem iv1_87_3 : ab_iv 1 87 3 = some mdX8_place := ab_iv_at 3 (by decide +kernel) rfl
theorem iv1_91_1 : ab_iv 1 91 1 = some mdX1_weighRow := ab_iv_at 4 (by decide +kernel) rfl
theorem iv1_98_3 : ab_iv 1 98 3 = some mdX3_isFarEnough := ab_iv_at 5 (by decide +kernel) rfl
theorem iv1_102_3 : ab_iv 1 102 3 = some mdX8_goRound := ab_iv_at 6 (by decide +kernel) rfl
theorem iv1_105_3 : ab_iv 1 105 3 = some mdX3_worth := ab_iv_at 7 (by decide +kernel) rfl
theorem iv1_110_1 : ab_iv 1 110 1 = some mdX1_isRest := ab_iv_at 8 (by decide +kernel) rfl
theorem iv1_114_1 : ab_iv 1 114 1 = some mdX1_cornerIn := ab_iv_at 9 (by decide +kernel) rfl
theorem iv1_118_1 : ab_iv 1 118 1 = some mdX1_answerTo := ab_iv_at 10 (by decide +kernel) rfl
theorem iv1_121_1 : ab_iv 1 121 1 = some mdX1_worthOf := ab_iv_at 11 (by decide +kernel) rfl
theorem iv1_162_7 : ab_iv 1 162 7 = some mdX7_lay := ab_iv_at 12 (by decide +kernel) rfl
theorem iv1_168_1 : ab_iv 1 168 1 = some mdX1_leastWalk := ab_iv_at 13 (by decide +kernel) rfl
theorem iv1_179_9 : ab_iv 1 179 9 = some mdX10_toSpots := ab_iv_at 14 (by decide +kernel) rfl
theorem iv3_49_3 : ab_iv 3 49 3 = some mdX8_place := ab_iv_at 15 (by decide +kernel) rfl
theorem iv3_100_3 : ab_iv 3 100 3 = some mdX3_worth := ab_iv_at 16 (by decide +kernel) rfl
theorem iv3_107_3 : ab_iv 3 107 3 = some mdX8_stepsTo := ab_iv_at 17 (by decide +kernel) rfl
theorem iv4_74_3 : ab_iv 4 74 3 = some mdX8_place := ab_iv_at 18 (by decide +kernel) rfl
theorem iv4_86_4 : ab_iv 4 86 4 = some mdX4_standing := ab_iv_at 19 (by decide +kernel) rfl
theorem iv4_98_4 : ab_iv 4 98 4 = some mdX4_addOther := ab_iv_at 20 (by decide +kernel) rfl
theorem iv4_105_3 : ab_iv 4 105 3 = some mdX3_isFarEnough := ab_iv_at 21 (by decide +kernel) rfl
theorem iv4_126_3 : ab_iv 4 126 3 = some mdX8_goRound := ab_iv_at 22 (by decide +kernel) rfl
theorem iv4_129_3 : ab_iv 4 129 3 = some mdX3_takings := ab_iv_at 23 (by decide +kernel) rfl
theorem iv4_133_4 : ab_iv 4 133 4 = some mdX4_listOthers := ab_iv_at 24 (by decide +kernel) rfl
theorem iv4_137_4 : ab_iv 4 137 4 = some mdX4_take := ab_iv_at 25 (by decide +kernel) rfl
theorem iv4_143_4 : ab_iv 4 143 4 = some mdX4_findBest := ab_iv_at 26 (by decide +kernel) rfl
theorem iv4_146_3 : ab_iv 4 146 3 = some mdX3_load := ab_iv_at 27 (by decide +kernel) rfl
theorem iv4_150_4 : ab_iv 4 150 4 = some mdX4_snapshot := ab_iv_at 28 (by decide +kernel) rfl
theorem iv4_154_4 : ab_iv 4 154 4 = some mdX4_endChase := ab_iv_at 29 (by decide +kernel) rfl
theorem iv4_158_4 : ab_iv 4 158 4 = some mdX4_goOneRound := ab_iv_at 30 (by decide +kernel) rfl
theorem iv4_162_4 : ab_iv 4 162 4 = some mdX4_sameAgo := ab_iv_at 31 (by decide +kernel) rfl
theorem iv4_174_4 : ab_iv 4 174 4 = some mdX4_leastShiftFor := ab_iv_at 32 (by decide +kernel) rfl
theorem iv4_183_3 : ab_iv 4 183 3 = some mdX3_takingsOfOne := ab_iv_at 33 (by decide +kernel) rfl
theorem iv5_62_3 : ab_iv 5 62 3 = some mdX3_load := ab_iv_at 34 (by decide +kernel) rfl
theorem iv5_68_5 : ab_iv 5 68 5 = some mdX5_findPairs := ab_iv_at 35 (by decide +kernel) rfl
theorem iv5_97_3 : ab_iv 5 97 3 = some mdX8_goRound := ab_iv_at 36 (by decide +kernel) rfl
theorem iv5_100_3 : ab_iv 5 100 3 = some mdX3_worth := ab_iv_at 37 (by decide +kernel) rfl
theorem iv5_104_5 : ab_iv 5 104 5 = some mdX5_isRest := ab_iv_at 38 (by decide +kernel) rfl
theorem iv5_108_3 : ab_iv 5 108 3 = some mdX8_place := ab_iv_at 39 (by decide +kernel) rfl
theorem iv5_111_5 : ab_iv 5 111 5 = some mdX5_weighStage := ab_iv_at 40 (by decide +kernel) rfl
theorem iv5_124_3 : ab_iv 5 124 3 = some mdX3_isFarEnough := ab_iv_at 41 (by decide +kernel) rfl
theorem iv5_127_5 : ab_iv 5 127 5 = some mdX5_pairAt := ab_iv_at 42 (by decide +kernel) rfl
theorem iv6_34_6 : ab_iv 6 34 6 = some mdX6_begin := ab_iv_at 43 (by decide +kernel) rfl
theorem iv6_38_8 : ab_iv 6 38 8 = some mdX9_clear := ab_iv_at 44 (by decide +kernel) rfl
theorem iv6_46_6 : ab_iv 6 46 6 = some mdX6_takeStatement := ab_iv_at 45 (by decide +kernel) rfl
theorem iv6_53_2 : ab_iv 6 53 2 = some mdX2_clearNext := ab_iv_at 46 (by decide +kernel) rfl
theorem iv6_60_6 : ab_iv 6 60 6 = some mdX6_isWord := ab_iv_at 47 (by decide +kernel) rfl
theorem iv6_64_6 : ab_iv 6 64 6 = some mdX6_takeRule := ab_iv_at 48 (by decide +kernel) rfl
theorem iv6_74_6 : ab_iv 6 74 6 = some mdX6_advance := ab_iv_at 49 (by decide +kernel) rfl
theorem iv6_119_6 : ab_iv 6 119 6 = some mdX6_isName := ab_iv_at 50 (by decide +kernel) rfl
theorem iv6_129_6 : ab_iv 6 129 6 = some mdX6_takeWord := ab_iv_at 51 (by decide +kernel) rfl
theorem iv6_132_6 : ab_iv 6 132 6 = some mdX6_takeCorner := ab_iv_at 52 (by decide +kernel) rfl
theorem iv6_135_6 : ab_iv 6 135 6 = some mdX6_takeStreet := ab_iv_at 53 (by decide +kernel) rfl
theorem iv6_138_6 : ab_iv 6 138 6 = some mdX6_takeNumber := ab_iv_at 54 (by decide +kernel) rfl
theorem iv6_146_6 : ab_iv 6 146 6 = some mdX6_takeAsk := ab_iv_at 55 (by decide +kernel) rfl
theorem iv6_149_6 : ab_iv 6 149 6 = some mdX6_takeEnd := ab_iv_at 56 (by decide +kernel) rfl
theorem iv6_159_6 : ab_iv 6 159 6 = some mdX6_takeNewName := ab_iv_at 57 (by decide +kernel) rfl
theorem iv6_164_6 : ab_iv 6 164 6 = some mdX6_breadNamed := ab_iv_at 58 (by decide +kernel) rfl
theorem iv6_170_6 : ab_iv 6 170 6 = some mdX6_isReserved := ab_iv_at 59 (by decide +kernel) rfl
theorem iv6_173_6 : ab_iv 6 173 6 = some mdX6_cornerNamed := ab_iv_at 60 (by decide +kernel) rfl
theorem iv6_186_8 : ab_iv 6 186 8 = some mdX9_hasStreet := ab_iv_at 61 (by decide +kernel) rfl
theorem iv6_208_6 : ab_iv 6 208 6 = some mdX6_takeBetween := ab_iv_at 62 (by decide +kernel) rfl
theorem iv6_212_2 : ab_iv 6 212 2 = some mdX2_addChange := ab_iv_at 63 (by decide +kernel) rfl
theorem iv7_51_7 : ab_iv 7 51 7 = some mdX7_change := ab_iv_at 64 (by decide +kernel) rfl
theorem iv7_55_7 : ab_iv 7 55 7 = some mdX7_joinNeighbours := ab_iv_at 65 (by decide +kernel) rfl
theorem iv7_58_7 : ab_iv 7 58 7 = some mdX7_joinAll := ab_iv_at 66 (by decide +kernel) rfl
theorem iv7_61_2 : ab_iv 7 61 2 = some mdX2_firstChange := ab_iv_at 67 (by decide +kernel) rfl
theorem iv7_77_7 : ab_iv 7 77 7 = some mdX7_shutBetween := ab_iv_at 68 (by decide +kernel) rfl
theorem iv7_86_8 : ab_iv 7 86 8 = some mdX9_joins := ab_iv_at 69 (by decide +kernel) rfl
theorem iv7_107_7 : ab_iv 7 107 7 = some mdX7_join := ab_iv_at 70 (by decide +kernel) rfl
theorem iv7_129_7 : ab_iv 7 129 7 = some mdX7_isShut := ab_iv_at 71 (by decide +kernel) rfl
theorem iv7_133_7 : ab_iv 7 133 7 = some mdX7_toCorner := ab_iv_at 72 (by decide +kernel) rfl
theorem iv8_42_7 : ab_iv 8 42 7 = some mdX7_reach := ab_iv_at 73 (by decide +kernel) rfl
theorem iv8_47_3 : ab_iv 8 47 3 = some mdX3_open := ab_iv_at 74 (by decide +kernel) rfl
theorem iv8_47_9 : ab_iv 8 47 9 = some mdX10_open := ab_iv_at 75 (by decide +kernel) rfl
theorem iv8_50_3 : ab_iv 8 50 3 = some mdX8_markStreets := ab_iv_at 76 (by decide +kernel) rfl
theorem iv8_50_9 : ab_iv 8 50 9 = some mdX8_markStreets := ab_iv_at 77 (by decide +kernel) rfl
theorem iv8_58_3 : ab_iv 8 58 3 = some mdX8_cheapest := ab_iv_at 78 (by decide +kernel) rfl
theorem iv8_58_9 : ab_iv 8 58 9 = some mdX8_cheapest := ab_iv_at 79 (by decide +kernel) rfl
theorem iv8_62_3 : ab_iv 8 62 3 = some mdX3_meetCorner := ab_iv_at 80 (by decide +kernel) rfl
theorem iv8_62_9 : ab_iv 8 62 9 = some mdX10_meetCorner := ab_iv_at 81 (by decide +kernel) rfl
theorem iv8_76_3 : ab_iv 8 76 3 = some mdX8_meetStreet := ab_iv_at 82 (by decide +kernel) rfl
theorem iv8_76_9 : ab_iv 8 76 9 = some mdX8_meetStreet := ab_iv_at 83 (by decide +kernel) rfl
theorem iv8_79_3 : ab_iv 8 79 3 = some mdX3_close := ab_iv_at 84 (by decide +kernel) rfl
theorem iv8_79_9 : ab_iv 8 79 9 = some mdX10_close := ab_iv_at 85 (by decide +kernel) rfl
theorem iv8_116_3 : ab_iv 8 116 3 = some mdX8_cheapestOn := ab_iv_at 86 (by decide +kernel) rfl
theorem iv8_116_9 : ab_iv 8 116 9 = some mdX8_cheapestOn := ab_iv_at 87 (by decide +kernel) rfl
theorem iv8_119_3 : ab_iv 8 119 3 = some mdX3_meetStretch := ab_iv_at 88 (by decide +kernel) rfl
theorem iv8_119_9 : ab_iv 8 119 9 = some mdX10_meetStretch := ab_iv_at 89 (by decide +kernel) rfl
theorem iv9_70_8 : ab_iv 9 70 8 = some mdX9_isCorner := ab_iv_at 90 (by decide +kernel) rfl
theorem iv9_81_8 : ab_iv 9 81 8 = some mdX9_joins := ab_iv_at 91 (by decide +kernel) rfl
theorem iv10_56_9 : ab_iv 10 56 9 = some mdX8_place := ab_iv_at 92 (by decide +kernel) rfl
theorem iv10_60_9 : ab_iv 10 60 9 = some mdX8_goRound := ab_iv_at 93 (by decide +kernel) rfl
theorem iv10_73_9 : ab_iv 10 73 9 = some mdX10_noteOwn := ab_iv_at 94 (by decide +kernel) rfl
theorem iv10_76_9 : ab_iv 10 76 9 = some mdX10_toSpots := ab_iv_at 95 (by decide +kernel) rfl
theorem iv11_107_7 : ab_iv 11 107 7 = some mdX7_lay := ab_iv_at 96 (by decide +kernel) rfl
theorem iv11_114_6 : ab_iv 11 114 6 = some mdX6_append := ab_iv_at 97 (by decide +kernel) rfl
theorem iv11_118_6 : ab_iv 11 118 6 = some mdX6_readTown := ab_iv_at 98 (by decide +kernel) rfl
theorem iv11_125_8 : ab_iv 11 125 8 = some mdX9_copyFrom := ab_iv_at 99 (by decide +kernel) rfl
theorem iv11_128_0 : ab_iv 11 128 0 = some mdX0_clear := ab_iv_at 100 (by decide +kernel) rfl
theorem iv11_134_10 : ab_iv 11 134 10 = some mdX11_changeRoads := ab_iv_at 101 (by decide +kernel) rfl
theorem iv11_140_6 : ab_iv 11 140 6 = some mdX6_readLaw := ab_iv_at 102 (by decide +kernel) rfl
theorem iv11_154_8 : ab_iv 11 154 8 = some mdX9_streetTold := ab_iv_at 103 (by decide +kernel) rfl
theorem iv11_158_8 : ab_iv 11 158 8 = some mdX9_plainTold := ab_iv_at 104 (by decide +kernel) rfl
theorem iv11_162_8 : ab_iv 11 162 8 = some mdX9_isCorner := ab_iv_at 105 (by decide +kernel) rfl
theorem iv11_172_8 : ab_iv 11 172 8 = some mdX9_isSpot := ab_iv_at 106 (by decide +kernel) rfl
theorem iv11_175_7 : ab_iv 11 175 7 = some mdX7_between := ab_iv_at 107 (by decide +kernel) rfl
theorem iv11_182_10 : ab_iv 11 182 10 = some mdX11_canStand := ab_iv_at 108 (by decide +kernel) rfl
theorem iv11_202_0 : ab_iv 11 202 0 = some mdX0_has := ab_iv_at 109 (by decide +kernel) rfl
theorem iv11_209_10 : ab_iv 11 209 10 = some mdX11_sellToAll := ab_iv_at 110 (by decide +kernel) rfl
theorem iv11_215_3 : ab_iv 11 215 3 = some mdX3_takings := ab_iv_at 111 (by decide +kernel) rfl
theorem iv11_225_3 : ab_iv 11 225 3 = some mdX3_load := ab_iv_at 112 (by decide +kernel) rfl
theorem iv11_229_4 : ab_iv 11 229 4 = some mdX4_findBest := ab_iv_at 113 (by decide +kernel) rfl
theorem iv11_243_4 : ab_iv 11 243 4 = some mdX4_firstRestless := ab_iv_at 114 (by decide +kernel) rfl
theorem iv11_247_4 : ab_iv 11 247 4 = some mdX4_runChase := ab_iv_at 115 (by decide +kernel) rfl
theorem iv11_260_10 : ab_iv 11 260 10 = some mdX11_isPair := ab_iv_at 116 (by decide +kernel) rfl
theorem iv11_263_1 : ab_iv 11 263 1 = some mdX1_prepare := ab_iv_at 117 (by decide +kernel) rfl
theorem iv11_273_1 : ab_iv 11 273 1 = some mdX1_cornersOf := ab_iv_at 118 (by decide +kernel) rfl
theorem iv11_276_10 : ab_iv 11 276 10 = some mdX11_areTwoCorners := ab_iv_at 119 (by decide +kernel) rfl
theorem iv11_279_1 : ab_iv 11 279 1 = some mdX1_drawLots := ab_iv_at 120 (by decide +kernel) rfl
theorem iv11_285_1 : ab_iv 11 285 1 = some mdX1_ledRow := ab_iv_at 121 (by decide +kernel) rfl
theorem iv11_288_1 : ab_iv 11 288 1 = some mdX1_cornerIn := ab_iv_at 122 (by decide +kernel) rfl
theorem iv11_291_1 : ab_iv 11 291 1 = some mdX1_worthOf := ab_iv_at 123 (by decide +kernel) rfl
theorem iv11_295_5 : ab_iv 11 295 5 = some mdX5_prepare := ab_iv_at 124 (by decide +kernel) rfl
theorem iv11_299_5 : ab_iv 11 299 5 = some mdX5_pairAt := ab_iv_at 125 (by decide +kernel) rfl
theorem iv11_302_5 : ab_iv 11 302 5 = some mdX5_firstStage := ab_iv_at 126 (by decide +kernel) rfl
theorem iv11_309_9 : ab_iv 11 309 9 = some mdX10_toSpots := ab_iv_at 127 (by decide +kernel) rfl
theorem iv11_312_9 : ab_iv 11 312 9 = some mdX10_findOwn := ab_iv_at 128 (by decide +kernel) rfl
theorem iv11_324_9 : ab_iv 11 324 9 = some mdX10_toBakers := ab_iv_at 129 (by decide +kernel) rfl
theorem iv11_328_1 : ab_iv 11 328 1 = some mdX1_choose := ab_iv_at 130 (by decide +kernel) rfl
theorem iv11_336_4 : ab_iv 11 336 4 = some mdX4_leastShift := ab_iv_at 131 (by decide +kernel) rfl
theorem iv11_339_0 : ab_iv 11 339 0 = some mdX0_copyFrom := ab_iv_at 132 (by decide +kernel) rfl
theorem iv11_341_7 : ab_iv 11 341 7 = some mdX7_openSpots := ab_iv_at 133 (by decide +kernel) rfl
theorem iv11_347_7 : ab_iv 11 347 7 = some mdX7_openPeople := ab_iv_at 134 (by decide +kernel) rfl
theorem iv11_350_3 : ab_iv 11 350 3 = some mdX8_goRound := ab_iv_at 135 (by decide +kernel) rfl
theorem iv12_197_11 : ab_iv 12 197 11 = some mdX12_here := ab_iv_at 136 (by decide +kernel) rfl
theorem iv12_259_11 : ab_iv 12 259 11 = some mdX12_wordOf := ab_iv_at 137 (by decide +kernel) rfl
theorem iv12_263_11 : ab_iv 12 263 11 = some mdX12_errs := ab_iv_at 138 (by decide +kernel) rfl
theorem iv12_266_11 : ab_iv 12 266 11 = some mdX12_next := ab_iv_at 139 (by decide +kernel) rfl
theorem iv12_275_11 : ab_iv 12 275 11 = some mdX12_isName := ab_iv_at 140 (by decide +kernel) rfl
theorem iv12_279_11 : ab_iv 12 279 11 = some mdX12_wordHere := ab_iv_at 141 (by decide +kernel) rfl
theorem iv12_282_11 : ab_iv 12 282 11 = some mdX12_number := ab_iv_at 142 (by decide +kernel) rfl
theorem iv12_288_11 : ab_iv 12 288 11 = some mdX12_cornerHere := ab_iv_at 143 (by decide +kernel) rfl
theorem iv12_292_11 : ab_iv 12 292 11 = some mdX12_readCorner := ab_iv_at 144 (by decide +kernel) rfl
theorem iv12_295_11 : ab_iv 12 295 11 = some mdX12_readStreet := ab_iv_at 145 (by decide +kernel) rfl
theorem iv12_310_11 : ab_iv 12 310 11 = some mdX12_ends := ab_iv_at 146 (by decide +kernel) rfl
theorem iv12_313_11 : ab_iv 12 313 11 = some mdX12_beginsText := ab_iv_at 147 (by decide +kernel) rfl
theorem iv12_317_11 : ab_iv 12 317 11 = some mdX12_readStatement := ab_iv_at 148 (by decide +kernel) rfl
theorem iv12_338_11 : ab_iv 12 338 11 = some mdX12_laysTown := ab_iv_at 149 (by decide +kernel) rfl
theorem iv12_341_11 : ab_iv 12 341 11 = some mdX12_readLaw := ab_iv_at 150 (by decide +kernel) rfl
theorem iv12_354_11 : ab_iv 12 354 11 = some mdX12_lays := ab_iv_at 151 (by decide +kernel) rfl
theorem iv12_364_11 : ab_iv 12 364 11 = some mdX12_toCorner := ab_iv_at 152 (by decide +kernel) rfl
theorem iv12_370_11 : ab_iv 12 370 11 = some mdX12_isSpot := ab_iv_at 153 (by decide +kernel) rfl
theorem iv12_374_11 : ab_iv 12 374 11 = some mdX12_farOf := ab_iv_at 154 (by decide +kernel) rfl
theorem iv12_380_11 : ab_iv 12 380 11 = some mdX12_priceOf := ab_iv_at 155 (by decide +kernel) rfl
theorem iv12_383_11 : ab_iv 12 383 11 = some mdX12_paces := ab_iv_at 156 (by decide +kernel) rfl
theorem iv12_388_11 : ab_iv 12 388 11 = some mdX12_buyersAt := ab_iv_at 157 (by decide +kernel) rfl
theorem iv12_391_11 : ab_iv 12 391 11 = some mdX12_gives := ab_iv_at 158 (by decide +kernel) rfl
theorem iv12_397_11 : ab_iv 12 397 11 = some mdX12_buyersOn := ab_iv_at 159 (by decide +kernel) rfl
theorem iv12_400_11 : ab_iv 12 400 11 = some mdX12_earnsOf := ab_iv_at 160 (by decide +kernel) rfl
theorem iv12_404_11 : ab_iv 12 404 11 = some mdX12_isSeller := ab_iv_at 161 (by decide +kernel) rfl
theorem iv12_407_11 : ab_iv 12 407 11 = some mdX12_sells := ab_iv_at 162 (by decide +kernel) rfl
theorem iv12_410_11 : ab_iv 12 410 11 = some mdX12_chainEarns := ab_iv_at 163 (by decide +kernel) rfl
theorem iv12_422_11 : ab_iv 12 422 11 = some mdX12_tries := ab_iv_at 164 (by decide +kernel) rfl
theorem iv12_426_11 : ab_iv 12 426 11 = some mdX12_isLet := ab_iv_at 165 (by decide +kernel) rfl
theorem iv12_430_11 : ab_iv 12 430 11 = some mdX12_findBest := ab_iv_at 166 (by decide +kernel) rfl
theorem iv12_433_11 : ab_iv 12 433 11 = some mdX12_notes := ab_iv_at 167 (by decide +kernel) rfl
theorem iv12_436_11 : ab_iv 12 436 11 = some mdX12_turn := ab_iv_at 168 (by decide +kernel) rfl
theorem iv12_439_11 : ab_iv 12 439 11 = some mdX12_isAs := ab_iv_at 169 (by decide +kernel) rfl
theorem iv12_442_11 : ab_iv 12 442 11 = some mdX12_isApart := ab_iv_at 170 (by decide +kernel) rfl
theorem iv12_458_11 : ab_iv 12 458 11 = some mdX12_isRowLet := ab_iv_at 171 (by decide +kernel) rfl
theorem iv12_461_11 : ab_iv 12 461 11 = some mdX12_areTwo := ab_iv_at 172 (by decide +kernel) rfl
theorem iv12_464_11 : ab_iv 12 464 11 = some mdX12_plays := ab_iv_at 173 (by decide +kernel) rfl
theorem iv12_468_11 : ab_iv 12 468 11 = some mdX12_isRest := ab_iv_at 174 (by decide +kernel) rfl
theorem iv12_472_11 : ab_iv 12 472 11 = some mdX12_isCorner := ab_iv_at 175 (by decide +kernel) rfl
theorem iv12_475_11 : ab_iv 12 475 11 = some mdX12_isRestOf := ab_iv_at 176 (by decide +kernel) rfl
theorem iv12_485_11 : ab_iv 12 485 11 = some mdX12_answerTo := ab_iv_at 177 (by decide +kernel) rfl
theorem iv12_494_11 : ab_iv 12 494 11 = some mdX12_leads := ab_iv_at 178 (by decide +kernel) rfl
theorem iv12_504_11 : ab_iv 12 504 11 = some mdX12_arePrices := ab_iv_at 179 (by decide +kernel) rfl
theorem iv12_507_11 : ab_iv 12 507 11 = some mdX12_asks := ab_iv_at 180 (by decide +kernel) rfl
theorem iv12_510_11 : ab_iv 12 510 11 = some mdX12_pairOf := ab_iv_at 181 (by decide +kernel) rfl
theorem iv12_518_11 : ab_iv 12 518 11 = some mdX12_halves := ab_iv_at 182 (by decide +kernel) rfl
theorem iv12_521_11 : ab_iv 12 521 11 = some mdX12_walkOf := ab_iv_at 183 (by decide +kernel) rfl
theorem iv12_525_11 : ab_iv 12 525 11 = some mdX12_walkTo := ab_iv_at 184 (by decide +kernel) rfl
theorem iv12_535_11 : ab_iv 12 535 11 = some mdX12_ownOf := ab_iv_at 185 (by decide +kernel) rfl
theorem iv12_541_11 : ab_iv 12 541 11 = some mdX12_lawWalk := ab_iv_at 186 (by decide +kernel) rfl
theorem iv12_544_11 : ab_iv 12 544 11 = some mdX12_rest := ab_iv_at 187 (by decide +kernel) rfl
theorem iv12_547_11 : ab_iv 12 547 11 = some mdX12_spotsOpen := ab_iv_at 188 (by decide +kernel) rfl
theorem iv12_550_11 : ab_iv 12 550 11 = some mdX12_partsOpen := ab_iv_at 189 (by decide +kernel) rfl
/-- a call of a static method -/
def ab_cs (own idx : Nat) (M : ab_M) : Prop := Cond.static (ab_y M) ∈ ab_TG ∧ Cond.initialized (ab_y M).cls ∈ ab_TG ∧ (parseMethodDescriptor (ab_y M).desc).map (fun d => d.parameters.length) = some (ab_na M) ∧ ((ab_y M).cls ≠ "java/lang/invoke/MethodHandle" ∧ (ab_y M).cls ≠ "java/lang/invoke/VarHandle") ∧
  (Cond.methodLink (ab_cn own) idx (ab_y M) ∈ ab_TG ∨ Cond.methodLinkNest (ab_cn own) idx (ab_y M) "TwoBakers" ∈ ab_TB)
abbrev ab_Rs : Type := Nat × Nat × ab_M × Nat × Nat × Nat × Nat
def ab_csC : ab_Rs → Bool := fun (own, idx, M, i1, i2, i3, i4) =>
  (ab_ag i2 (.static (ab_y M)) && (ab_ag i3 (.initialized (ab_y M).cls) && (decide ((parseMethodDescriptor (ab_y M).desc).map (fun d => d.parameters.length) = some (ab_na M)) && (decide ((ab_y M).cls ≠ "java/lang/invoke/MethodHandle" ∧ (ab_y M).cls ≠ "java/lang/invoke/VarHandle") && (ab_ag i4 (.methodLink (ab_cn own) idx (ab_y M)) || ab_at i4 (.methodLinkNest (ab_cn own) idx (ab_y M) "TwoBakers"))))))
theorem ab_csC_ok {r : ab_Rs} (h : ab_csC r = true) : ab_cs r.1 r.2.1 r.2.2.1 := by
  obtain ⟨own, idx, M, i1, i2, i3, i4⟩ := r
  obtain ⟨h2, h⟩ := Bool.and_eq_true_iff.mp h
  obtain ⟨h3, h⟩ := Bool.and_eq_true_iff.mp h
  obtain ⟨h4, h⟩ := Bool.and_eq_true_iff.mp h
  obtain ⟨h5, h⟩ := Bool.and_eq_true_iff.mp h
  refine ⟨ab_ag_ok h2, ab_ag_ok h3, of_decide_eq_true h4, of_decide_eq_true h5, ?_⟩
  rcases Bool.or_eq_true_iff.mp h with g | g
  · exact Or.inl (ab_ag_ok g)
  · exact Or.inr (ab_at_ok g)
def ab_iss : List ab_Rs := [(1, 125, mdX11_standsStill, 1316, 1315, 108, 1314),
  (1, 129, mdX1_sumOf, 1319, 1318, 118, 1317),
  (1, 133, mdX1_inLowest, 1322, 1321, 118, 1320),
  (1, 143, mdX1_commonDivisor, 1328, 1327, 118, 1326),
  (1, 147, mdJ7_fill_d0a16, 1434, 1433, 120, 1432),
  (3, 67, mdJ7_fill_53178, 716, 715, 120, 1090),
  (3, 94, mdJ6_bitCount_0f7a4, 1153, 1152, 128, 1151),
  (4, 119, mdX9_spotOn, 1215, 1214, 110, 1213),
  (5, 115, mdX11_standsStill, 1316, 1315, 108, 1388),
  (6, 77, mdX6_isLetter, 803, 802, 109, 801),
  (6, 81, mdX6_isDigit, 806, 805, 109, 804),
  (7, 91, mdJ7_fill_53178, 716, 715, 120, 714),
  (7, 111, mdX9_streetOf, 1007, 1006, 110, 1019),
  (7, 114, mdX9_placeOf, 1010, 1009, 110, 1024),
  (8, 82, mdX9_streetOf, 1007, 1006, 110, 1099),
  (8, 85, mdX9_placeOf, 1010, 1009, 110, 1100),
  (8, 106, mdJ7_fill_53178, 716, 715, 120, 1098),
  (8, 113, mdX8_cheaper, 1108, 1107, 114, 1106),
  (9, 58, mdJ7_fill_53178, 716, 715, 120, 811),
  (9, 74, mdX9_streetOf, 1007, 1006, 110, 1005),
  (9, 78, mdX9_placeOf, 1010, 1009, 110, 1008),
  (12, 216, mdX12_within, 1810, 1809, 121, 1808),
  (12, 223, mdX12_min, 1815, 1814, 121, 1813),
  (12, 357, mdX12_streetOf, 1920, 1919, 121, 1918),
  (12, 361, mdX12_partOf, 1923, 1922, 121, 1921),
  (12, 367, mdX12_abs, 1926, 1925, 121, 1924),
  (12, 454, mdX12_rowOf, 2044, 2043, 121, 2042),
  (12, 478, mdX12_divisor, 2071, 2070, 121, 2069)]
theorem ab_iss_ok : ab_iss.all ab_csC = true := by decide +kernel
def ab_is (own idx : Nat) : Option ab_M := (ab_iss.find? (fun r => r.1 == own && (r.2.1 == idx && (0 : Nat) == 0))).map (fun r => r.2.2.1)
theorem ab_is_ok {own idx : Nat} {M : ab_M} (h : ab_is own idx = some M) : ab_cs own idx M := by
  unfold ab_is at h
  obtain ⟨r, hr, rfl⟩ := Option.map_eq_some_iff.mp h
  have h1 := List.find?_some hr
  have h2 := ab_csC_ok (List.all_eq_true.mp ab_iss_ok r (List.mem_of_find?_eq_some hr))
  simp only [Bool.and_eq_true, beq_iff_eq] at h1
  rw [h1.1, h1.2.1] at h2
  exact h2
theorem ab_is_at {own idx : Nat} {M : ab_M} (j : Nat) (h : ab_fnd (ab_iss.map (fun r => (r.1, r.2.1, (0 : Nat)))) j own idx 0 = true) (e : (ab_iss[j]?).map (fun r => r.2.2.1) = some M) : ab_is own idx = some M := by
  unfold ab_is
  rw [ab_fnd_ok ab_iss j own idx 0 h, e]
theorem ab_is_no {own idx : Nat} (h : ab_iss.all (fun r => !(r.1 == own && (r.2.1 == idx && (0 : Nat) == 0))) = true) : ab_is own idx = none := by
  unfold ab_is
  rw [List.find?_eq_none.mpr (fun r hr => by have q := List.all_eq_true.mp h r hr; simp only [Bool.not_eq_true'] at q; rw [q]; exact Bool.false_ne_true)]
  rfl
theorem is1_125 : ab_is 1 125 = some mdX11_standsStill := ab_is_at 0 (by decide +kernel) rfl
theorem is1_129 : ab_is 1 129 = some mdX1_sumOf := ab_is_at 1 (by decide +kernel) rfl
theorem is1_133 : ab_is 1 133 = some mdX1_inLowest := ab_is_at 2 (by decide +kernel) rfl
theorem is1_143 : ab_is 1 143 = some mdX1_commonDivisor := ab_is_at 3 (by decide +kernel) rfl
theorem is1_147 : ab_is 1 147 = some mdJ7_fill_d0a16 := ab_is_at 4 (by decide +kernel) rfl
theorem is3_67 : ab_is 3 67 = some mdJ7_fill_53178 := ab_is_at 5 (by decide +kernel) rfl
theorem is3_94 : ab_is 3 94 = some mdJ6_bitCount_0f7a4 := ab_is_at 6 (by decide +kernel) rfl
theorem is4_119 : ab_is 4 119 = some mdX9_spotOn := ab_is_at 7 (by decide +kernel) rfl
theorem is5_115 : ab_is 5 115 = some mdX11_standsStill := ab_is_at 8 (by decide +kernel) rfl
theorem is6_77 : ab_is 6 77 = some mdX6_isLetter := ab_is_at 9 (by decide +kernel) rfl
theorem is6_81 : ab_is 6 81 = some mdX6_isDigit := ab_is_at 10 (by decide +kernel) rfl
theorem is7_91 : ab_is 7 91 = some mdJ7_fill_53178 := ab_is_at 11 (by decide +kernel) rfl
theorem is7_111 : ab_is 7 111 = some mdX9_streetOf := ab_is_at 12 (by decide +kernel) rfl
theorem is7_114 : ab_is 7 114 = some mdX9_placeOf := ab_is_at 13 (by decide +kernel) rfl
theorem is8_82 : ab_is 8 82 = some mdX9_streetOf := ab_is_at 14 (by decide +kernel) rfl
theorem is8_85 : ab_is 8 85 = some mdX9_placeOf := ab_is_at 15 (by decide +kernel) rfl
theorem is8_106 : ab_is 8 106 = some mdJ7_fill_53178 := ab_is_at 16 (by decide +kernel) rfl
theorem is8_113 : ab_is 8 113 = some mdX8_cheaper := ab_is_at 17 (by decide +kernel) rfl
theorem is9_58 : ab_is 9 58 = some mdJ7_fill_53178 := ab_is_at 18 (by decide +kernel) rfl
theorem is9_74 : ab_is 9 74 = some mdX9_streetOf := ab_is_at 19 (by decide +kernel) rfl
theorem is9_78 : ab_is 9 78 = some mdX9_placeOf := ab_is_at 20 (by decide +kernel) rfl
theorem is12_216 : ab_is 12 216 = some mdX12_within := ab_is_at 21 (by decide +kernel) rfl
theorem is12_223 : ab_is 12 223 = some mdX12_min := ab_is_at 22 (by decide +kernel) rfl
theorem is12_357 : ab_is 12 357 = some mdX12_streetOf := ab_is_at 23 (by decide +kernel) rfl
theorem is12_361 : ab_is 12 361 = some mdX12_partOf := ab_is_at 24 (by decide +kernel) rfl
theorem is12_367 : ab_is 12 367 = some mdX12_abs := ab_is_at 25 (by decide +kernel) rfl
theorem is12_454 : ab_is 12 454 = some mdX12_rowOf := ab_is_at 26 (by decide +kernel) rfl
theorem is12_478 : ab_is 12 478 = some mdX12_divisor := ab_is_at 27 (by decide +kernel) rfl
theorem is0_34 : ab_is 0 34 = none := ab_is_no (by decide +kernel)
theorem is1_137 : ab_is 1 137 = none := ab_is_no (by decide +kernel)
theorem is3_85 : ab_is 3 85 = none := ab_is_no (by decide +kernel)
theorem is3_91 : ab_is 3 91 = none := ab_is_no (by decide +kernel)
theorem is4_165 : ab_is 4 165 = none := ab_is_no (by decide +kernel)
theorem is4_178 : ab_is 4 178 = none := ab_is_no (by decide +kernel)
theorem is4_186 : ab_is 4 186 = none := ab_is_no (by decide +kernel)
theorem is5_89 : ab_is 5 89 = none := ab_is_no (by decide +kernel)
theorem is6_68 : ab_is 6 68 = none := ab_is_no (by decide +kernel)
theorem is6_177 : ab_is 6 177 = none := ab_is_no (by decide +kernel)
theorem is7_117 : ab_is 7 117 = none := ab_is_no (by decide +kernel)
theorem is7_123 : ab_is 7 123 = none := ab_is_no (by decide +kernel)
theorem is7_136 : ab_is 7 136 = none := ab_is_no (by decide +kernel)
theorem is8_97 : ab_is 8 97 = none := ab_is_no (by decide +kernel)
theorem is8_103 : ab_is 8 103 = none := ab_is_no (by decide +kernel)
theorem is9_64 : ab_is 9 64 = none := ab_is_no (by decide +kernel)
/-- the library calls: 0 min, 1 max, 2 abs, 3 min of longs, 4 abs of longs, 5 arraycopy -/
def ab_prn (n : Nat) : MethodName := match n with
  | 0 => ⟨"java/lang/Math", "min", "(II)I"⟩
  | 1 => ⟨"java/lang/Math", "max", "(II)I"⟩
  | 2 => ⟨"java/lang/Math", "abs", "(I)I"⟩
  | 3 => ⟨"java/lang/Math", "min", "(JJ)J"⟩
  | 4 => ⟨"java/lang/Math", "abs", "(J)J"⟩
  | _ => ⟨"java/lang/System", "arraycopy", "(Ljava/lang/Object;ILjava/lang/Object;II)V"⟩
def ab_prs : List (Nat × Nat × Nat × Nat) := [(0, 34, 5, 1470), (1, 137, 4, 1323), (3, 85, 0, 1135), (3, 91, 1, 1136), (4, 165, 5, 1259), (4, 178, 0, 1461), (4, 186, 3, 1458), (5, 89, 0, 1361), (6, 68, 0, 794), (6, 177, 5, 906), (7, 117, 0, 1025), (7, 123, 5, 1077), (7, 136, 2, 1026), (8, 97, 0, 1212), (8, 103, 2, 1128), (9, 64, 5, 938)]
theorem ab_prs_ok : ab_prs.all (fun r => ab_ag r.2.2.2 (.methodLink (ab_cn r.1) r.2.1 (ab_prn r.2.2.1))) = true := by decide +kernel
def ab_pr (own idx : Nat) : Option Nat := (ab_prs.find? (fun r => r.1 == own && r.2.1 == idx)).map (fun r => r.2.2.1)
theorem ab_pr_ok {own idx n : Nat} (h : ab_pr own idx = some n) : Cond.methodLink (ab_cn own) idx (ab_prn n) ∈ ab_TG := by
  unfold ab_pr at h
  obtain ⟨r, hr, rfl⟩ := Option.map_eq_some_iff.mp h
  have h1 := List.find?_some hr
  have h2 := ab_ag_ok (List.all_eq_true.mp ab_prs_ok r (List.mem_of_find?_eq_some hr))
  simp only [Bool.and_eq_true, beq_iff_eq] at h1
  rw [h1.1, h1.2] at h2
  exact h2
theorem pr0_34 : ab_pr 0 34 = some 5 := by decide +kernel
theorem pr1_137 : ab_pr 1 137 = some 4 := by decide +kernel
theorem pr3_85 : ab_pr 3 85 = some 0 := by decide +kernel
theorem pr3_91 : ab_pr 3 91 = some 1 := by decide +kernel
theorem pr4_165 : ab_pr 4 165 = some 5 := by decide +kernel
theorem pr4_178 : ab_pr 4 178 = some 0 := by decide +kernel
theorem pr4_186 : ab_pr 4 186 = some 3 := by decide +kernel
theorem pr5_89 : ab_pr 5 89 = some 0 := by decide +kernel
theorem pr6_68 : ab_pr 6 68 = some 0 := by decide +kernel
theorem pr6_177 : ab_pr 6 177 = some 5 := by decide +kernel
theorem pr7_117 : ab_pr 7 117 = some 0 := by decide +kernel
theorem pr7_123 : ab_pr 7 123 = some 5 := by decide +kernel
theorem pr7_136 : ab_pr 7 136 = some 2 := by decide +kernel
theorem pr8_97 : ab_pr 8 97 = some 0 := by decide +kernel
theorem pr8_103 : ab_pr 8 103 = some 2 := by decide +kernel
theorem pr9_64 : ab_pr 9 64 = some 5 := by decide +kernel
theorem pw0 : Cond.static (ab_prn 0) ∈ ab_TG := ab_ag_ok (i := 795) (by decide +kernel)
theorem pc0 : Cond.code (ab_prn 0) prog_16_method_69_code 2 (some .int) ∈ ab_TG := ab_ag_ok (i := 796) (by decide +kernel)
theorem pw1 : Cond.static (ab_prn 1) ∈ ab_TG := ab_ag_ok (i := 1137) (by decide +kernel)
theorem pc1 : Cond.code (ab_prn 1) prog_16_method_65_code 2 (some .int) ∈ ab_TG := ab_ag_ok (i := 1138) (by decide +kernel)
theorem pw2 : Cond.static (ab_prn 2) ∈ ab_TG := ab_ag_ok (i := 1027) (by decide +kernel)
theorem pc2 : Cond.code (ab_prn 2) prog_16_method_59_code 1 (some .int) ∈ ab_TG := ab_ag_ok (i := 1028) (by decide +kernel)
theorem pw3 : Cond.static (ab_prn 3) ∈ ab_TG := ab_ag_ok (i := 1459) (by decide +kernel)
theorem pc3 : Cond.code (ab_prn 3) prog_16_method_70_code 4 (some .long) ∈ ab_TG := ab_ag_ok (i := 1460) (by decide +kernel)
theorem pw4 : Cond.static (ab_prn 4) ∈ ab_TG := ab_ag_ok (i := 1324) (by decide +kernel)
theorem pc4 : Cond.code (ab_prn 4) prog_16_method_61_code 2 (some .long) ∈ ab_TG := ab_ag_ok (i := 1325) (by decide +kernel)
theorem pw5 : Cond.static (ab_prn 5) ∈ ab_TG := ab_ag_ok (i := 907) (by decide +kernel)
theorem pn5 : Cond.native (ab_prn 5) ∈ ab_TG := ab_ag_ok (i := 908) (by decide +kernel)
theorem pim : Cond.initialized "java/lang/Math" ∈ ab_TG := ab_ag_ok (i := 122) (by decide +kernel)
theorem pis : Cond.initialized "java/lang/System" ∈ ab_TG := ab_ag_ok (i := 127) (by decide +kernel)
/-- a field by the constant pool: place k in the objects of class ci -/
def ab_fl (own idx ci k : Nat) : Prop := ∃ (C : String) (T : u_T) (N : Nat) (ref : String), vwCl[ci]? = some (C, T, N) ∧ k < N ∧ Cond.fieldLink (ab_cn own) idx ref (T k).2.1 (T k).2.2.1 ∈ ab_TG ∧ (ref = (T k).1 ∨ Cond.sameField ref (T k).1 (T k).2.1 (T k).2.2.1 ∈ ab_TG)
abbrev ab_Rf : Type := Nat × Nat × Nat × Nat × String × Nat × Nat
def ab_flC : ab_Rf → Bool := fun (own, idx, ci, k, ref, i, j) => match vwCl[ci]? with
  | some q => decide (k < q.2.2) && (ab_ag i (.fieldLink (ab_cn own) idx ref (q.2.1 k).2.1 (q.2.1 k).2.2.1) && (decide (ref = (q.2.1 k).1) || ab_ag j (.sameField ref (q.2.1 k).1 (q.2.1 k).2.1 (q.2.1 k).2.2.1)))
  | none => false
theorem ab_flC_ok {r : ab_Rf} (h : ab_flC r = true) : ab_fl r.1 r.2.1 r.2.2.1 r.2.2.2.1 := by
  obtain ⟨own, idx, ci, k, ref, i, j⟩ := r
  dsimp only [ab_flC] at h ⊢
  cases hq : vwCl[ci]? with
  | none => rw [hq] at h; cases h
  | some q =>
    rw [hq] at h
    obtain ⟨C, T, N⟩ := q
    dsimp only at h
    obtain ⟨g1, h⟩ := Bool.and_eq_true_iff.mp h
    obtain ⟨g2, h⟩ := Bool.and_eq_true_iff.mp h
    refine ⟨C, T, N, ref, hq, of_decide_eq_true g1, ab_ag_ok g2, ?_⟩
    rcases Bool.or_eq_true_iff.mp h with g | g
    · exact Or.inl (of_decide_eq_true g)
    · exact Or.inr (ab_ag_ok g)
def ab_fxs_0 : List ab_Rf := [(6, 9, 6, 0, "TwoBakers$Reader", 143, 0),
  (6, 15, 6, 1, "TwoBakers$Reader", 144, 0),
  (11, 111, 6, 1, "TwoBakers$Reader", 145, 0),
  (6, 19, 6, 2, "TwoBakers$Reader", 146, 0),
  (6, 22, 6, 3, "TwoBakers$Reader", 147, 0),
  (6, 25, 6, 4, "TwoBakers$Reader", 148, 0),
  (6, 28, 6, 5, "TwoBakers$Reader", 149, 0),
  (11, 122, 6, 5, "TwoBakers$Reader", 150, 0),
  (6, 31, 6, 6, "TwoBakers$Reader", 151, 0),
  (9, 9, 8, 0, "TwoBakers$Town", 174, 0),
  (11, 169, 8, 0, "TwoBakers$Town", 175, 0),
  (6, 126, 8, 0, "TwoBakers$Town", 176, 0),
  (9, 15, 8, 1, "TwoBakers$Town", 177, 0),
  (11, 166, 8, 1, "TwoBakers$Town", 178, 0),
  (6, 123, 8, 1, "TwoBakers$Town", 179, 0),
  (9, 18, 8, 2, "TwoBakers$Town", 180, 0),
  (10, 35, 8, 2, "TwoBakers$Town", 181, 0),
  (3, 82, 8, 2, "TwoBakers$Town", 182, 0),
  (11, 144, 8, 2, "TwoBakers$Town", 183, 0),
  (4, 171, 8, 2, "TwoBakers$Town", 184, 0),
  (7, 139, 8, 2, "TwoBakers$Town", 185, 0),
  (6, 162, 8, 2, "TwoBakers$Town", 186, 0),
  (9, 21, 8, 3, "TwoBakers$Town", 187, 0),
  (3, 79, 8, 3, "TwoBakers$Town", 188, 0),
  (11, 148, 8, 3, "TwoBakers$Town", 189, 0),
  (6, 167, 8, 3, "TwoBakers$Town", 190, 0),
  (9, 24, 8, 4, "TwoBakers$Town", 191, 0),
  (7, 100, 8, 4, "TwoBakers$Town", 192, 0),
  (8, 88, 8, 4, "TwoBakers$Town", 193, 0),
  (6, 189, 8, 4, "TwoBakers$Town", 194, 0),
  (9, 27, 8, 5, "TwoBakers$Town", 195, 0),
  (7, 103, 8, 5, "TwoBakers$Town", 196, 0),
  (8, 94, 8, 5, "TwoBakers$Town", 197, 0),
  (6, 192, 8, 5, "TwoBakers$Town", 198, 0),
  (9, 30, 8, 6, "TwoBakers$Town", 199, 0),
  (4, 112, 8, 6, "TwoBakers$Town", 200, 0),
  (7, 106, 8, 6, "TwoBakers$Town", 201, 0),
  (8, 91, 8, 6, "TwoBakers$Town", 202, 0),
  (6, 195, 8, 6, "TwoBakers$Town", 203, 0),
  (9, 33, 8, 7, "TwoBakers$Town", 204, 0),
  (8, 69, 8, 7, "TwoBakers$Town", 205, 0),
  (7, 142, 8, 7, "TwoBakers$Town", 206, 0),
  (6, 198, 8, 7, "TwoBakers$Town", 207, 0),
  (9, 36, 8, 8, "TwoBakers$Town", 208, 0),
  (1, 76, 8, 8, "TwoBakers$Town", 209, 0),
  (6, 43, 8, 8, "TwoBakers$Town", 210, 0),
  (11, 137, 8, 8, "TwoBakers$Town", 211, 0),
  (4, 102, 8, 8, "TwoBakers$Town", 212, 0),
  (7, 97, 8, 8, "TwoBakers$Town", 213, 0),
  (8, 53, 8, 8, "TwoBakers$Town", 214, 0),
  (10, 70, 8, 8, "TwoBakers$Town", 215, 0),
  (9, 40, 8, 9, "TwoBakers$Town", 216, 0),
  (7, 81, 8, 9, "TwoBakers$Town", 217, 0),
  (4, 109, 8, 9, "TwoBakers$Town", 218, 0),
  (11, 151, 8, 9, "TwoBakers$Town", 219, 0),
  (8, 66, 8, 9, "TwoBakers$Town", 220, 0),
  (6, 183, 8, 9, "TwoBakers$Town", 221, 0),
  (9, 43, 8, 10, "TwoBakers$Town", 222, 0),
  (3, 38, 8, 10, "TwoBakers$Town", 223, 0),
  (6, 142, 8, 10, "TwoBakers$Town", 224, 0)]
theorem ab_fxs_0_ok : ab_fxs_0.all ab_flC = true := by decide +kernel
def ab_fxs_1 : List ab_Rf := [(11, 344, 8, 10, "TwoBakers$Town", 225, 0),
  (9, 46, 8, 11, "TwoBakers$Town", 226, 0),
  (3, 73, 8, 11, "TwoBakers$Town", 227, 0),
  (6, 144, 8, 11, "TwoBakers$Town", 228, 0),
  (9, 49, 8, 12, "TwoBakers$Town", 229, 0),
  (5, 81, 8, 12, "TwoBakers$Town", 230, 0),
  (4, 90, 8, 12, "TwoBakers$Town", 231, 0),
  (6, 153, 8, 12, "TwoBakers$Town", 232, 0),
  (11, 353, 8, 12, "TwoBakers$Town", 233, 0),
  (9, 52, 8, 13, "TwoBakers$Town", 234, 0),
  (5, 86, 8, 13, "TwoBakers$Town", 235, 0),
  (4, 95, 8, 13, "TwoBakers$Town", 236, 0),
  (6, 156, 8, 13, "TwoBakers$Town", 237, 0),
  (11, 356, 8, 13, "TwoBakers$Town", 238, 0),
  (9, 55, 8, 14, "TwoBakers$Town", 239, 0),
  (6, 50, 8, 14, "TwoBakers$Town", 240, 0),
  (2, 9, 2, 0, "TwoBakers$LawBook", 278, 0),
  (7, 47, 2, 0, "TwoBakers$LawBook", 279, 0),
  (6, 201, 2, 0, "TwoBakers$LawBook", 280, 0),
  (2, 15, 2, 1, "TwoBakers$LawBook", 281, 0),
  (7, 49, 2, 1, "TwoBakers$LawBook", 282, 0),
  (6, 206, 2, 1, "TwoBakers$LawBook", 283, 0),
  (2, 18, 2, 2, "TwoBakers$LawBook", 284, 0),
  (7, 65, 2, 2, "TwoBakers$LawBook", 285, 0),
  (2, 21, 2, 3, "TwoBakers$LawBook", 286, 0),
  (7, 71, 2, 3, "TwoBakers$LawBook", 287, 0),
  (2, 24, 2, 4, "TwoBakers$LawBook", 288, 0),
  (7, 74, 2, 4, "TwoBakers$LawBook", 289, 0),
  (2, 27, 2, 5, "TwoBakers$LawBook", 290, 0),
  (7, 68, 2, 5, "TwoBakers$LawBook", 291, 0),
  (2, 30, 2, 6, "TwoBakers$LawBook", 292, 0),
  (7, 42, 2, 6, "TwoBakers$LawBook", 293, 0),
  (11, 131, 2, 6, "TwoBakers$LawBook", 294, 0),
  (1, 153, 2, 6, "TwoBakers$LawBook", 295, 0),
  (6, 203, 2, 6, "TwoBakers$LawBook", 296, 0),
  (7, 38, 7, 0, "TwoBakers$Roads", 318, 0),
  (7, 9, 7, 1, "TwoBakers$Roads", 319, 0),
  (7, 15, 7, 2, "TwoBakers$Roads", 320, 0),
  (4, 115, 7, 2, "TwoBakers$Roads", 321, 0),
  (8, 72, 7, 2, "TwoBakers$Roads", 322, 0),
  (7, 19, 7, 3, "TwoBakers$Roads", 323, 0),
  (7, 22, 7, 4, "TwoBakers$Roads", 324, 0),
  (7, 25, 7, 5, "TwoBakers$Roads", 325, 0),
  (7, 28, 7, 6, "TwoBakers$Roads", 326, 0),
  (7, 32, 7, 7, "TwoBakers$Roads", 327, 0),
  (3, 104, 7, 7, "TwoBakers$Roads", 328, 0),
  (7, 35, 7, 8, "TwoBakers$Roads", 329, 0),
  (3, 60, 7, 8, "TwoBakers$Roads", 330, 0),
  (5, 76, 7, 8, "TwoBakers$Roads", 331, 0),
  (4, 82, 7, 8, "TwoBakers$Roads", 332, 0),
  (11, 205, 7, 8, "TwoBakers$Roads", 333, 0),
  (0, 9, 0, 0, "TwoBakers$Bakers", 360, 0),
  (3, 46, 0, 0, "TwoBakers$Bakers", 361, 0),
  (10, 67, 0, 0, "TwoBakers$Bakers", 362, 0),
  (11, 187, 0, 0, "TwoBakers$Bakers", 363, 0),
  (0, 15, 0, 1, "TwoBakers$Bakers", 364, 0),
  (3, 64, 0, 1, "TwoBakers$Bakers", 365, 0),
  (11, 190, 0, 1, "TwoBakers$Bakers", 366, 0),
  (0, 18, 0, 2, "TwoBakers$Bakers", 367, 0),
  (3, 65, 0, 2, "TwoBakers$Bakers", 368, 0)]
theorem ab_fxs_1_ok : ab_fxs_1.all ab_flC = true := by decide +kernel
def ab_fxs_2 : List ab_Rf := [(11, 193, 0, 2, "TwoBakers$Bakers", 369, 0),
  (0, 21, 0, 3, "TwoBakers$Bakers", 370, 0),
  (3, 66, 0, 3, "TwoBakers$Bakers", 371, 0),
  (11, 196, 0, 3, "TwoBakers$Bakers", 372, 0),
  (0, 24, 0, 4, "TwoBakers$Bakers", 373, 0),
  (4, 61, 0, 4, "TwoBakers$Bakers", 374, 0),
  (11, 199, 0, 4, "TwoBakers$Bakers", 375, 0),
  (0, 27, 0, 5, "TwoBakers$Bakers", 376, 0),
  (3, 27, 0, 5, "TwoBakers$Bakers", 377, 0),
  (10, 64, 0, 5, "TwoBakers$Bakers", 378, 0),
  (11, 186, 0, 5, "TwoBakers$Bakers", 379, 0),
  (0, 31, 0, 6, "TwoBakers$Bakers", 380, 0),
  (11, 179, 0, 6, "TwoBakers$Bakers", 381, 0),
  (1, 174, 0, 6, "TwoBakers$Bakers", 382, 0),
  (3, 9, 3, 9, "TwoBakers$Market", 408, 0),
  (3, 15, 3, 10, "TwoBakers$Market", 409, 0),
  (4, 123, 3, 10, "TwoBakers$Market", 410, 0),
  (3, 18, 3, 11, "TwoBakers$Market", 411, 0),
  (11, 219, 3, 11, "TwoBakers$Market", 412, 0),
  (3, 21, 3, 12, "TwoBakers$Market", 413, 0),
  (11, 222, 3, 12, "TwoBakers$Market", 414, 0),
  (3, 24, 3, 13, "TwoBakers$Market", 415, 0),
  (11, 212, 3, 13, "TwoBakers$Market", 416, 0),
  (8, 34, 3, 0, "TwoBakers$Survey", 417, 0),
  (8, 34, 9, 0, "TwoBakers$Survey", 417, 0),
  (3, 34, 3, 0, "TwoBakers$Market", 418, 419),
  (10, 31, 9, 0, "TwoBakers$Walks", 420, 421),
  (8, 38, 3, 1, "TwoBakers$Survey", 422, 0),
  (8, 38, 9, 1, "TwoBakers$Survey", 422, 0),
  (3, 56, 3, 1, "TwoBakers$Market", 423, 424),
  (5, 72, 3, 1, "TwoBakers$Market", 425, 424),
  (4, 78, 3, 1, "TwoBakers$Market", 426, 424),
  (1, 158, 3, 1, "TwoBakers$Market", 427, 424),
  (8, 9, 3, 2, "TwoBakers$Survey", 428, 0),
  (8, 9, 9, 2, "TwoBakers$Survey", 428, 0),
  (4, 71, 3, 2, "TwoBakers$Market", 429, 430),
  (1, 95, 3, 2, "TwoBakers$Market", 431, 430),
  (5, 121, 3, 2, "TwoBakers$Market", 432, 430),
  (8, 15, 3, 3, "TwoBakers$Survey", 433, 0),
  (8, 15, 9, 3, "TwoBakers$Survey", 433, 0),
  (4, 66, 3, 3, "TwoBakers$Market", 434, 435),
  (3, 53, 3, 3, "TwoBakers$Market", 436, 435),
  (5, 95, 3, 3, "TwoBakers$Market", 437, 435),
  (8, 18, 3, 4, "TwoBakers$Survey", 438, 0),
  (8, 18, 9, 4, "TwoBakers$Survey", 438, 0),
  (3, 76, 3, 4, "TwoBakers$Market", 439, 440),
  (8, 21, 3, 5, "TwoBakers$Survey", 441, 0),
  (8, 21, 9, 5, "TwoBakers$Survey", 441, 0),
  (10, 41, 9, 5, "TwoBakers$Walks", 442, 443),
  (8, 24, 3, 6, "TwoBakers$Survey", 444, 0),
  (8, 24, 9, 6, "TwoBakers$Survey", 444, 0),
  (8, 27, 3, 7, "TwoBakers$Survey", 445, 0),
  (8, 27, 9, 7, "TwoBakers$Survey", 445, 0),
  (3, 33, 3, 7, "TwoBakers$Market", 446, 447),
  (10, 53, 9, 7, "TwoBakers$Walks", 448, 449),
  (4, 140, 3, 7, "TwoBakers$Market", 450, 447),
  (8, 31, 3, 8, "TwoBakers$Survey", 451, 0),
  (8, 31, 9, 8, "TwoBakers$Survey", 451, 0),
  (3, 43, 3, 8, "TwoBakers$Market", 452, 453),
  (10, 9, 9, 9, "TwoBakers$Walks", 490, 0)]
theorem ab_fxs_2_ok : ab_fxs_2.all ab_flC = true := by decide +kernel
def ab_fxs_3 : List ab_Rf := [(10, 15, 9, 10, "TwoBakers$Walks", 491, 0),
  (10, 21, 9, 11, "TwoBakers$Walks", 492, 0),
  (11, 315, 9, 11, "TwoBakers$Walks", 493, 0),
  (10, 24, 9, 12, "TwoBakers$Walks", 494, 0),
  (11, 318, 9, 12, "TwoBakers$Walks", 495, 0),
  (10, 28, 9, 13, "TwoBakers$Walks", 496, 0),
  (11, 321, 9, 13, "TwoBakers$Walks", 497, 0),
  (4, 49, 4, 0, "TwoBakers$Moves", 524, 0),
  (4, 53, 4, 1, "TwoBakers$Moves", 525, 0),
  (4, 57, 4, 2, "TwoBakers$Moves", 526, 0),
  (4, 11, 4, 3, "TwoBakers$Moves", 527, 0),
  (4, 15, 4, 4, "TwoBakers$Moves", 528, 0),
  (4, 19, 4, 5, "TwoBakers$Moves", 529, 0),
  (11, 251, 4, 5, "TwoBakers$Moves", 530, 0),
  (4, 22, 4, 6, "TwoBakers$Moves", 531, 0),
  (11, 254, 4, 6, "TwoBakers$Moves", 532, 0),
  (4, 25, 4, 7, "TwoBakers$Moves", 533, 0),
  (11, 257, 4, 7, "TwoBakers$Moves", 534, 0),
  (4, 28, 4, 8, "TwoBakers$Moves", 535, 0),
  (4, 32, 4, 9, "TwoBakers$Moves", 536, 0),
  (11, 232, 4, 9, "TwoBakers$Moves", 537, 0),
  (4, 35, 4, 10, "TwoBakers$Moves", 538, 0),
  (11, 235, 4, 10, "TwoBakers$Moves", 539, 0),
  (4, 39, 4, 11, "TwoBakers$Moves", 540, 0),
  (11, 239, 4, 11, "TwoBakers$Moves", 541, 0),
  (4, 43, 4, 12, "TwoBakers$Moves", 542, 0),
  (4, 46, 4, 13, "TwoBakers$Moves", 543, 0),
  (1, 53, 1, 0, "TwoBakers$Grid", 580, 0),
  (1, 57, 1, 1, "TwoBakers$Grid", 581, 0),
  (1, 61, 1, 2, "TwoBakers$Grid", 582, 0),
  (1, 65, 1, 3, "TwoBakers$Grid", 583, 0),
  (1, 11, 1, 4, "TwoBakers$Grid", 584, 0),
  (1, 15, 1, 5, "TwoBakers$Grid", 585, 0),
  (11, 270, 1, 5, "TwoBakers$Grid", 586, 0),
  (1, 19, 1, 6, "TwoBakers$Grid", 587, 0),
  (1, 22, 1, 7, "TwoBakers$Grid", 588, 0),
  (1, 25, 1, 8, "TwoBakers$Grid", 589, 0),
  (1, 28, 1, 9, "TwoBakers$Grid", 590, 0),
  (1, 31, 1, 10, "TwoBakers$Grid", 591, 0),
  (11, 332, 1, 10, "TwoBakers$Grid", 592, 0),
  (1, 34, 1, 11, "TwoBakers$Grid", 593, 0),
  (1, 38, 1, 12, "TwoBakers$Grid", 594, 0),
  (11, 267, 1, 12, "TwoBakers$Grid", 595, 0),
  (1, 41, 1, 13, "TwoBakers$Grid", 596, 0),
  (1, 44, 1, 14, "TwoBakers$Grid", 597, 0),
  (1, 47, 1, 15, "TwoBakers$Grid", 598, 0),
  (1, 50, 1, 16, "TwoBakers$Grid", 599, 0),
  (5, 50, 5, 0, "TwoBakers$Pricing", 641, 0),
  (5, 54, 5, 1, "TwoBakers$Pricing", 642, 0),
  (5, 58, 5, 2, "TwoBakers$Pricing", 643, 0),
  (5, 11, 5, 3, "TwoBakers$Pricing", 644, 0),
  (5, 15, 5, 4, "TwoBakers$Pricing", 645, 0),
  (5, 18, 5, 5, "TwoBakers$Pricing", 646, 0),
  (5, 22, 5, 6, "TwoBakers$Pricing", 647, 0),
  (5, 25, 5, 7, "TwoBakers$Pricing", 648, 0),
  (5, 28, 5, 8, "TwoBakers$Pricing", 649, 0),
  (11, 306, 5, 8, "TwoBakers$Pricing", 650, 0),
  (5, 31, 5, 9, "TwoBakers$Pricing", 651, 0),
  (11, 298, 5, 9, "TwoBakers$Pricing", 652, 0),
  (5, 35, 5, 10, "TwoBakers$Pricing", 653, 0)]
theorem ab_fxs_3_ok : ab_fxs_3.all ab_flC = true := by decide +kernel
def ab_fxs_4 : List ab_Rf := [(5, 38, 5, 11, "TwoBakers$Pricing", 654, 0),
  (5, 41, 5, 12, "TwoBakers$Pricing", 655, 0),
  (5, 44, 5, 13, "TwoBakers$Pricing", 656, 0),
  (5, 47, 5, 14, "TwoBakers$Pricing", 657, 0),
  (11, 10, 10, 0, "TwoBakers", 725, 0),
  (11, 19, 10, 1, "TwoBakers", 726, 0),
  (11, 23, 10, 2, "TwoBakers", 727, 0),
  (11, 29, 10, 3, "TwoBakers", 728, 0),
  (11, 38, 10, 4, "TwoBakers", 729, 0),
  (11, 45, 10, 5, "TwoBakers", 730, 0),
  (11, 49, 10, 6, "TwoBakers", 731, 0),
  (11, 58, 10, 7, "TwoBakers", 732, 0),
  (11, 65, 10, 8, "TwoBakers", 733, 0),
  (11, 74, 10, 9, "TwoBakers", 734, 0),
  (11, 83, 10, 10, "TwoBakers", 735, 0),
  (11, 90, 10, 11, "TwoBakers", 736, 0),
  (11, 94, 10, 12, "TwoBakers", 737, 0),
  (11, 98, 10, 13, "TwoBakers", 738, 0),
  (11, 101, 10, 14, "TwoBakers", 739, 0),
  (11, 104, 10, 15, "TwoBakers", 740, 0),
  (12, 326, 11, 0, "TwoBakersModel", 1493, 0),
  (12, 272, 11, 1, "TwoBakersModel", 1494, 0),
  (12, 320, 11, 2, "TwoBakersModel", 1495, 0),
  (12, 323, 11, 3, "TwoBakersModel", 1496, 0),
  (12, 7, 11, 4, "TwoBakersModel", 1497, 0),
  (12, 13, 11, 5, "TwoBakersModel", 1498, 0),
  (12, 16, 11, 6, "TwoBakersModel", 1499, 0),
  (12, 19, 11, 7, "TwoBakersModel", 1500, 0),
  (12, 22, 11, 8, "TwoBakersModel", 1501, 0),
  (12, 26, 11, 9, "TwoBakersModel", 1502, 0),
  (12, 29, 11, 10, "TwoBakersModel", 1503, 0),
  (12, 33, 11, 11, "TwoBakersModel", 1504, 0),
  (12, 36, 11, 12, "TwoBakersModel", 1505, 0),
  (12, 39, 11, 13, "TwoBakersModel", 1506, 0),
  (12, 42, 11, 14, "TwoBakersModel", 1507, 0),
  (12, 45, 11, 15, "TwoBakersModel", 1508, 0),
  (12, 48, 11, 16, "TwoBakersModel", 1509, 0),
  (12, 51, 11, 17, "TwoBakersModel", 1510, 0),
  (12, 54, 11, 18, "TwoBakersModel", 1511, 0),
  (12, 57, 11, 19, "TwoBakersModel", 1512, 0),
  (12, 60, 11, 20, "TwoBakersModel", 1513, 0),
  (12, 63, 11, 21, "TwoBakersModel", 1514, 0),
  (12, 269, 11, 22, "TwoBakersModel", 1515, 0),
  (12, 285, 11, 23, "TwoBakersModel", 1516, 0),
  (12, 298, 11, 24, "TwoBakersModel", 1517, 0),
  (12, 301, 11, 25, "TwoBakersModel", 1518, 0),
  (12, 304, 11, 26, "TwoBakersModel", 1519, 0),
  (12, 307, 11, 27, "TwoBakersModel", 1520, 0),
  (12, 66, 11, 28, "TwoBakersModel", 1521, 0),
  (12, 188, 11, 29, "TwoBakersModel", 1522, 0),
  (12, 70, 11, 30, "TwoBakersModel", 1523, 0),
  (12, 194, 11, 31, "TwoBakersModel", 1524, 0),
  (12, 191, 11, 32, "TwoBakersModel", 1525, 0),
  (12, 201, 11, 33, "TwoBakersModel", 1526, 0),
  (12, 213, 11, 34, "TwoBakersModel", 1527, 0),
  (12, 210, 11, 35, "TwoBakersModel", 1528, 0),
  (12, 206, 11, 36, "TwoBakersModel", 1529, 0),
  (12, 227, 11, 37, "TwoBakersModel", 1530, 0),
  (12, 332, 11, 38, "TwoBakersModel", 1531, 0),
  (12, 73, 11, 39, "TwoBakersModel", 1532, 0)]
theorem ab_fxs_4_ok : ab_fxs_4.all ab_flC = true := by decide +kernel
def ab_fxs_5 : List ab_Rf := [(12, 76, 11, 40, "TwoBakersModel", 1533, 0),
  (12, 79, 11, 41, "TwoBakersModel", 1534, 0),
  (12, 82, 11, 42, "TwoBakersModel", 1535, 0),
  (12, 85, 11, 43, "TwoBakersModel", 1536, 0),
  (12, 88, 11, 44, "TwoBakersModel", 1537, 0),
  (12, 345, 11, 45, "TwoBakersModel", 1538, 0),
  (12, 348, 11, 46, "TwoBakersModel", 1539, 0),
  (12, 351, 11, 47, "TwoBakersModel", 1540, 0),
  (12, 91, 11, 48, "TwoBakersModel", 1541, 0),
  (12, 94, 11, 49, "TwoBakersModel", 1542, 0),
  (12, 97, 11, 50, "TwoBakersModel", 1543, 0),
  (12, 100, 11, 51, "TwoBakersModel", 1544, 0),
  (12, 103, 11, 52, "TwoBakersModel", 1545, 0),
  (12, 329, 11, 53, "TwoBakersModel", 1546, 0),
  (12, 107, 11, 54, "TwoBakersModel", 1547, 0),
  (12, 110, 11, 55, "TwoBakersModel", 1548, 0),
  (12, 113, 11, 56, "TwoBakersModel", 1549, 0),
  (12, 116, 11, 57, "TwoBakersModel", 1550, 0),
  (12, 119, 11, 58, "TwoBakersModel", 1551, 0),
  (12, 122, 11, 59, "TwoBakersModel", 1552, 0),
  (12, 377, 11, 60, "TwoBakersModel", 1553, 0),
  (12, 125, 11, 62, "TwoBakersModel", 1554, 0),
  (12, 413, 11, 63, "TwoBakersModel", 1555, 0),
  (12, 416, 11, 64, "TwoBakersModel", 1556, 0),
  (12, 419, 11, 65, "TwoBakersModel", 1557, 0),
  (12, 128, 11, 66, "TwoBakersModel", 1558, 0),
  (12, 131, 11, 67, "TwoBakersModel", 1559, 0),
  (12, 134, 11, 68, "TwoBakersModel", 1560, 0),
  (12, 137, 11, 69, "TwoBakersModel", 1561, 0),
  (12, 140, 11, 70, "TwoBakersModel", 1562, 0),
  (12, 143, 11, 71, "TwoBakersModel", 1563, 0),
  (12, 445, 11, 72, "TwoBakersModel", 1564, 0),
  (12, 448, 11, 73, "TwoBakersModel", 1565, 0),
  (12, 451, 11, 74, "TwoBakersModel", 1566, 0),
  (12, 482, 11, 75, "TwoBakersModel", 1567, 0),
  (12, 489, 11, 76, "TwoBakersModel", 1568, 0),
  (12, 146, 11, 77, "TwoBakersModel", 1569, 0),
  (12, 149, 11, 78, "TwoBakersModel", 1570, 0),
  (12, 498, 11, 79, "TwoBakersModel", 1571, 0),
  (12, 501, 11, 80, "TwoBakersModel", 1572, 0),
  (12, 152, 11, 81, "TwoBakersModel", 1573, 0),
  (12, 155, 11, 82, "TwoBakersModel", 1574, 0),
  (12, 158, 11, 83, "TwoBakersModel", 1575, 0),
  (12, 161, 11, 84, "TwoBakersModel", 1576, 0),
  (12, 164, 11, 85, "TwoBakersModel", 1577, 0),
  (12, 513, 11, 86, "TwoBakersModel", 1578, 0),
  (12, 529, 11, 87, "TwoBakersModel", 1579, 0),
  (12, 532, 11, 88, "TwoBakersModel", 1580, 0),
  (12, 538, 11, 89, "TwoBakersModel", 1581, 0),
  (12, 335, 11, 90, "TwoBakersModel", 1582, 0),
  (12, 167, 11, 91, "TwoBakersModel", 1583, 0),
  (12, 170, 11, 92, "TwoBakersModel", 1584, 0),
  (12, 173, 11, 93, "TwoBakersModel", 1585, 0),
  (12, 176, 11, 94, "TwoBakersModel", 1586, 0),
  (12, 179, 11, 95, "TwoBakersModel", 1587, 0),
  (12, 182, 11, 96, "TwoBakersModel", 1588, 0),
  (12, 185, 11, 97, "TwoBakersModel", 1589, 0)]
theorem ab_fxs_5_ok : ab_fxs_5.all ab_flC = true := by decide +kernel
def ab_fxs : List ab_Rf := ab_fxs_0 ++ (ab_fxs_1 ++ (ab_fxs_2 ++ (ab_fxs_3 ++ (ab_fxs_4 ++ (ab_fxs_5)))))
theorem ab_fxs_ok : ab_fxs.all ab_flC = true := by
  simp only [ab_fxs, List.all_append, Bool.and_eq_true]
  exact ⟨ab_fxs_0_ok, ⟨ab_fxs_1_ok, ⟨ab_fxs_2_ok, ⟨ab_fxs_3_ok, ⟨ab_fxs_4_ok, ab_fxs_5_ok⟩⟩⟩⟩⟩
def ab_fx (own idx ci : Nat) : Option Nat := (ab_fxs.find? (fun r => r.1 == own && (r.2.1 == idx && r.2.2.1 == ci))).map (fun r => r.2.2.2.1)
theorem ab_fx_ok {own idx ci k : Nat} (h : ab_fx own idx ci = some k) : ab_fl own idx ci k := by
  unfold ab_fx at h
  obtain ⟨r, hr, rfl⟩ := Option.map_eq_some_iff.mp h
  have h1 := List.find?_some hr
  have h2 := ab_flC_ok (List.all_eq_true.mp ab_fxs_ok r (List.mem_of_find?_eq_some hr))
  simp only [Bool.and_eq_true, beq_iff_eq] at h1
  rw [h1.1, h1.2.1, h1.2.2] at h2
  exact h2
theorem fx6_9_6 : ab_fx 6 9 6 = some 0 := by decide +kernel
theorem fx6_15_6 : ab_fx 6 15 6 = some 1 := by decide +kernel
theorem fx11_111_6 : ab_fx 11 111 6 = some 1 := by decide +kernel
theorem fx6_19_6 : ab_fx 6 19 6 = some 2 := by decide +kernel
theorem fx6_22_6 : ab_fx 6 22 6 = some 3 := by decide +kernel
theorem fx6_25_6 : ab_fx 6 25 6 = some 4 := by decide +kernel
theorem fx6_28_6 : ab_fx 6 28 6 = some 5 := by decide +kernel
theorem fx11_122_6 : ab_fx 11 122 6 = some 5 := by decide +kernel
theorem fx6_31_6 : ab_fx 6 31 6 = some 6 := by decide +kernel
theorem fx9_9_8 : ab_fx 9 9 8 = some 0 := by decide +kernel
theorem fx11_169_8 : ab_fx 11 169 8 = some 0 := by decide +kernel
theorem fx6_126_8 : ab_fx 6 126 8 = some 0 := by decide +kernel
theorem fx9_15_8 : ab_fx 9 15 8 = some 1 := by decide +kernel
theorem fx11_166_8 : ab_fx 11 166 8 = some 1 := by decide +kernel
theorem fx6_123_8 : ab_fx 6 123 8 = some 1 := by decide +kernel
theorem fx9_18_8 : ab_fx 9 18 8 = some 2 := by decide +kernel
theorem fx10_35_8 : ab_fx 10 35 8 = some 2 := by decide +kernel
theorem fx3_82_8 : ab_fx 3 82 8 = some 2 := by decide +kernel
theorem fx11_144_8 : ab_fx 11 144 8 = some 2 := by decide +kernel
theorem fx4_171_8 : ab_fx 4 171 8 = some 2 := by decide +kernel
theorem fx7_139_8 : ab_fx 7 139 8 = some 2 := by decide +kernel
theorem fx6_162_8 : ab_fx 6 162 8 = some 2 := by decide +kernel
theorem fx9_21_8 : ab_fx 9 21 8 = some 3 := by decide +kernel
theorem fx3_79_8 : ab_fx 3 79 8 = some 3 := by decide +kernel
theorem fx11_148_8 : ab_fx 11 148 8 = some 3 := by decide +kernel
theorem fx6_167_8 : ab_fx 6 167 8 = some 3 := by decide +kernel
theorem fx9_24_8 : ab_fx 9 24 8 = some 4 := by decide +kernel
theorem fx7_100_8 : ab_fx 7 100 8 = some 4 := by decide +kernel
theorem fx8_88_8 : ab_fx 8 88 8 = some 4 := by decide +kernel
theorem fx6_189_8 : ab_fx 6 189 8 = some 4 := by decide +kernel
theorem fx9_27_8 : ab_fx 9 27 8 = some 5 := by decide +kernel
theorem fx7_103_8 : ab_fx 7 103 8 = some 5 := by decide +kernel
theorem fx8_94_8 : ab_fx 8 94 8 = some 5 := by decide +kernel
theorem fx6_192_8 : ab_fx 6 192 8 = some 5 := by decide +kernel
theorem fx9_30_8 : ab_fx 9 30 8 = some 6 := by decide +kernel
theorem fx4_112_8 : ab_fx 4 112 8 = some 6 := by decide +kernel
theorem fx7_106_8 : ab_fx 7 106 8 = some 6 := by decide +kernel
theorem fx8_91_8 : ab_fx 8 91 8 = some 6 := by decide +kernel
theorem fx6_195_8 : ab_fx 6 195 8 = some 6 := by decide +kernel
theorem fx9_33_8 : ab_fx 9 33 8 = some 7 := by decide +kernel
theorem fx8_69_8 : ab_fx 8 69 8 = some 7 := by decide +kernel
theorem fx7_142_8 : ab_fx 7 142 8 = some 7 := by decide +kernel
theorem fx6_198_8 : ab_fx 6 198 8 = some 7 := by decide +kernel
theorem fx9_36_8 : ab_fx 9 36 8 = some 8 := by decide +kernel
theorem fx1_76_8 : ab_fx 1 76 8 = some 8 := by decide +kernel
theorem fx6_43_8 : ab_fx 6 43 8 = some 8 := by decide +kernel
theorem fx11_137_8 : ab_fx 11 137 8 = some 8 := by decide +kernel
theorem fx4_102_8 : ab_fx 4 102 8 = some 8 := by decide +kernel
theorem fx7_97_8 : ab_fx 7 97 8 = some 8 := by decide +kernel
theorem fx8_53_8 : ab_fx 8 53 8 = some 8 := by decide +kernel
theorem fx10_70_8 : ab_fx 10 70 8 = some 8 := by decide +kernel
theorem fx9_40_8 : ab_fx 9 40 8 = some 9 := by decide +kernel
theorem fx7_81_8 : ab_fx 7 81 8 = some 9 := by decide +kernel
theorem fx4_109_8 : ab_fx 4 109 8 = some 9 := by decide +kernel
theorem fx11_151_8 : ab_fx 11 151 8 = some 9 := by decide +kernel
theorem fx8_66_8 : ab_fx 8 66 8 = some 9 := by decide +kernel
theorem fx6_183_8 : ab_fx 6 183 8 = some 9 := by decide +kernel
theorem fx9_43_8 : ab_fx 9 43 8 = some 10 := by decide +kernel
theorem fx3_38_8 : ab_fx 3 38 8 = some 10 := by decide +kernel
theorem fx6_142_8 : ab_fx 6 142 8 = some 10 := by decide +kernel
theorem fx11_344_8 : ab_fx 11 344 8 = some 10 := by decide +kernel
theorem fx9_46_8 : ab_fx 9 46 8 = some 11 := by decide +kernel
theorem fx3_73_8 : ab_fx 3 73 8 = some 11 := by decide +kernel
theorem fx6_144_8 : ab_fx 6 144 8 = some 11 := by decide +kernel
theorem fx9_49_8 : ab_fx 9 49 8 = some 12 := by decide +kernel
theorem fx5_81_8 : ab_fx 5 81 8 = some 12 := by decide +kernel
theorem fx4_90_8 : ab_fx 4 90 8 = some 12 := by decide +kernel
theorem fx6_153_8 : ab_fx 6 153 8 = some 12 := by decide +kernel
theorem fx11_353_8 : ab_fx 11 353 8 = some 12 := by decide +kernel
theorem fx9_52_8 : ab_fx 9 52 8 = some 13 := by decide +kernel
theorem fx5_86_8 : ab_fx 5 86 8 = some 13 := by decide +kernel
theorem fx4_95_8 : ab_fx 4 95 8 = some 13 := by decide +kernel
theorem fx6_156_8 : ab_fx 6 156 8 = some 13 := by decide +kernel
theorem fx11_356_8 : ab_fx 11 356 8 = some 13 := by decide +kernel
theorem fx9_55_8 : ab_fx 9 55 8 = some 14 := by decide +kernel
theorem fx6_50_8 : ab_fx 6 50 8 = some 14 := by decide +kernel
theorem fx2_9_2 : ab_fx 2 9 2 = some 0 := by decide +kernel
theorem fx7_47_2 : ab_fx 7 47 2 = some 0 := by decide +kernel
theorem fx6_201_2 : ab_fx 6 201 2 = some 0 := by decide +kernel
theorem fx2_15_2 : ab_fx 2 15 2 = some 1 := by decide +kernel
theorem fx7_49_2 : ab_fx 7 49 2 = some 1 := by decide +kernel
theorem fx6_206_2 : ab_fx 6 206 2 = some 1 := by decide +kernel
theorem fx2_18_2 : ab_fx 2 18 2 = some 2 := by decide +kernel
theorem fx7_65_2 : ab_fx 7 65 2 = some 2 := by decide +kernel
theorem fx2_21_2 : ab_fx 2 21 2 = some 3 := by decide +kernel
theorem fx7_71_2 : ab_fx 7 71 2 = some 3 := by decide +kernel
theorem fx2_24_2 : ab_fx 2 24 2 = some 4 := by decide +kernel
theorem fx7_74_2 : ab_fx 7 74 2 = some 4 := by decide +kernel
theorem fx2_27_2 : ab_fx 2 27 2 = some 5 := by decide +kernel
theorem fx7_68_2 : ab_fx 7 68 2 = some 5 := by decide +kernel
theorem fx2_30_2 : ab_fx 2 30 2 = some 6 := by decide +kernel
theorem fx7_42_2 : ab_fx 7 42 2 = some 6 := by decide +kernel
theorem fx11_131_2 : ab_fx 11 131 2 = some 6 := by decide +kernel
theorem fx1_153_2 : ab_fx 1 153 2 = some 6 := by decide +kernel
theorem fx6_203_2 : ab_fx 6 203 2 = some 6 := by decide +kernel
theorem fx7_38_7 : ab_fx 7 38 7 = some 0 := by decide +kernel
theorem fx7_9_7 : ab_fx 7 9 7 = some 1 := by decide +kernel
theorem fx7_15_7 : ab_fx 7 15 7 = some 2 := by decide +kernel
theorem fx4_115_7 : ab_fx 4 115 7 = some 2 := by decide +kernel
theorem fx8_72_7 : ab_fx 8 72 7 = some 2 := by decide +kernel
theorem fx7_19_7 : ab_fx 7 19 7 = some 3 := by decide +kernel
theorem fx7_22_7 : ab_fx 7 22 7 = some 4 := by decide +kernel
theorem fx7_25_7 : ab_fx 7 25 7 = some 5 := by decide +kernel
theorem fx7_28_7 : ab_fx 7 28 7 = some 6 := by decide +kernel
theorem fx7_32_7 : ab_fx 7 32 7 = some 7 := by decide +kernel
theorem fx3_104_7 : ab_fx 3 104 7 = some 7 := by decide +kernel
theorem fx7_35_7 : ab_fx 7 35 7 = some 8 := by decide +kernel
theorem fx3_60_7 : ab_fx 3 60 7 = some 8 := by decide +kernel
theorem fx5_76_7 : ab_fx 5 76 7 = some 8 := by decide +kernel
theorem fx4_82_7 : ab_fx 4 82 7 = some 8 := by decide +kernel
theorem fx11_205_7 : ab_fx 11 205 7 = some 8 := by decide +kernel
theorem fx0_9_0 : ab_fx 0 9 0 = some 0 := by decide +kernel
theorem fx3_46_0 : ab_fx 3 46 0 = some 0 := by decide +kernel
theorem fx10_67_0 : ab_fx 10 67 0 = some 0 := by decide +kernel
theorem fx11_187_0 : ab_fx 11 187 0 = some 0 := by decide +kernel
theorem fx0_15_0 : ab_fx 0 15 0 = some 1 := by decide +kernel
theorem fx3_64_0 : ab_fx 3 64 0 = some 1 := by decide +kernel
theorem fx11_190_0 : ab_fx 11 190 0 = some 1 := by decide +kernel
theorem fx0_18_0 : ab_fx 0 18 0 = some 2 := by decide +kernel
theorem fx3_65_0 : ab_fx 3 65 0 = some 2 := by decide +kernel
theorem fx11_193_0 : ab_fx 11 193 0 = some 2 := by decide +kernel
theorem fx0_21_0 : ab_fx 0 21 0 = some 3 := by decide +kernel
theorem fx3_66_0 : ab_fx 3 66 0 = some 3 := by decide +kernel
theorem fx11_196_0 : ab_fx 11 196 0 = some 3 := by decide +kernel
theorem fx0_24_0 : ab_fx 0 24 0 = some 4 := by decide +kernel
theorem fx4_61_0 : ab_fx 4 61 0 = some 4 := by decide +kernel
theorem fx11_199_0 : ab_fx 11 199 0 = some 4 := by decide +kernel
theorem fx0_27_0 : ab_fx 0 27 0 = some 5 := by decide +kernel
theorem fx3_27_0 : ab_fx 3 27 0 = some 5 := by decide +kernel
theorem fx10_64_0 : ab_fx 10 64 0 = some 5 := by decide +kernel
theorem fx11_186_0 : ab_fx 11 186 0 = some 5 := by decide +kernel
theorem fx0_31_0 : ab_fx 0 31 0 = some 6 := by decide +kernel
theorem fx11_179_0 : ab_fx 11 179 0 = some 6 := by decide +kernel
theorem fx1_174_0 : ab_fx 1 174 0 = some 6 := by decide +kernel
theorem fx3_9_3 : ab_fx 3 9 3 = some 9 := by decide +kernel
theorem fx3_15_3 : ab_fx 3 15 3 = some 10 := by decide +kernel
theorem fx4_123_3 : ab_fx 4 123 3 = some 10 := by decide +kernel
theorem fx3_18_3 : ab_fx 3 18 3 = some 11 := by decide +kernel
theorem fx11_219_3 : ab_fx 11 219 3 = some 11 := by decide +kernel
theorem fx3_21_3 : ab_fx 3 21 3 = some 12 := by decide +kernel
theorem fx11_222_3 : ab_fx 11 222 3 = some 12 := by decide +kernel
theorem fx3_24_3 : ab_fx 3 24 3 = some 13 := by decide +kernel
theorem fx11_212_3 : ab_fx 11 212 3 = some 13 := by decide +kernel
theorem fx8_34_3 : ab_fx 8 34 3 = some 0 := by decide +kernel
theorem fx8_34_9 : ab_fx 8 34 9 = some 0 := by decide +kernel
theorem fx3_34_3 : ab_fx 3 34 3 = some 0 := by decide +kernel
theorem fx10_31_9 : ab_fx 10 31 9 = some 0 := by decide +kernel
theorem fx8_38_3 : ab_fx 8 38 3 = some 1 := by decide +kernel
theorem fx8_38_9 : ab_fx 8 38 9 = some 1 := by decide +kernel
theorem fx3_56_3 : ab_fx 3 56 3 = some 1 := by decide +kernel
theorem fx5_72_3 : ab_fx 5 72 3 = some 1 := by decide +kernel
theorem fx4_78_3 : ab_fx 4 78 3 = some 1 := by decide +kernel
theorem fx1_158_3 : ab_fx 1 158 3 = some 1 := by decide +kernel
theorem fx8_9_3 : ab_fx 8 9 3 = some 2 := by decide +kernel
theorem fx8_9_9 : ab_fx 8 9 9 = some 2 := by decide +kernel
theorem fx4_71_3 : ab_fx 4 71 3 = some 2 := by decide +kernel
theorem fx1_95_3 : ab_fx 1 95 3 = some 2 := by decide +kernel
theorem fx5_121_3 : ab_fx 5 121 3 = some 2 := by decide +kernel
theorem fx8_15_3 : ab_fx 8 15 3 = some 3 := by decide +kernel
theorem fx8_15_9 : ab_fx 8 15 9 = some 3 := by decide +kernel
theorem fx4_66_3 : ab_fx 4 66 3 = some 3 := by decide +kernel
theorem fx3_53_3 : ab_fx 3 53 3 = some 3 := by decide +kernel
theorem fx5_95_3 : ab_fx 5 95 3 = some 3 := by decide +kernel
theorem fx8_18_3 : ab_fx 8 18 3 = some 4 := by decide +kernel
theorem fx8_18_9 : ab_fx 8 18 9 = some 4 := by decide +kernel
theorem fx3_76_3 : ab_fx 3 76 3 = some 4 := by decide +kernel
theorem fx8_21_3 : ab_fx 8 21 3 = some 5 := by decide +kernel
theorem fx8_21_9 : ab_fx 8 21 9 = some 5 := by decide +kernel
theorem fx10_41_9 : ab_fx 10 41 9 = some 5 := by decide +kernel
theorem fx8_24_3 : ab_fx 8 24 3 = some 6 := by decide +kernel
theorem fx8_24_9 : ab_fx 8 24 9 = some 6 := by decide +kernel
theorem fx8_27_3 : ab_fx 8 27 3 = some 7 := by decide +kernel
theorem fx8_27_9 : ab_fx 8 27 9 = some 7 := by decide +kernel
theorem fx3_33_3 : ab_fx 3 33 3 = some 7 := by decide +kernel
theorem fx10_53_9 : ab_fx 10 53 9 = some 7 := by decide +kernel
theorem fx4_140_3 : ab_fx 4 140 3 = some 7 := by decide +kernel
theorem fx8_31_3 : ab_fx 8 31 3 = some 8 := by decide +kernel
theorem fx8_31_9 : ab_fx 8 31 9 = some 8 := by decide +kernel
theorem fx3_43_3 : ab_fx 3 43 3 = some 8 := by decide +kernel
theorem fx10_9_9 : ab_fx 10 9 9 = some 9 := by decide +kernel
theorem fx10_15_9 : ab_fx 10 15 9 = some 10 := by decide +kernel
theorem fx10_21_9 : ab_fx 10 21 9 = some 11 := by decide +kernel
theorem fx11_315_9 : ab_fx 11 315 9 = some 11 := by decide +kernel
theorem fx10_24_9 : ab_fx 10 24 9 = some 12 := by decide +kernel
theorem fx11_318_9 : ab_fx 11 318 9 = some 12 := by decide +kernel
theorem fx10_28_9 : ab_fx 10 28 9 = some 13 := by decide +kernel
theorem fx11_321_9 : ab_fx 11 321 9 = some 13 := by decide +kernel
theorem fx4_49_4 : ab_fx 4 49 4 = some 0 := by decide +kernel
theorem fx4_53_4 : ab_fx 4 53 4 = some 1 := by decide +kernel
theorem fx4_57_4 : ab_fx 4 57 4 = some 2 := by decide +kernel
theorem fx4_11_4 : ab_fx 4 11 4 = some 3 := by decide +kernel
theorem fx4_15_4 : ab_fx 4 15 4 = some 4 := by decide +kernel
theorem fx4_19_4 : ab_fx 4 19 4 = some 5 := by decide +kernel
theorem fx11_251_4 : ab_fx 11 251 4 = some 5 := by decide +kernel
theorem fx4_22_4 : ab_fx 4 22 4 = some 6 := by decide +kernel
theorem fx11_254_4 : ab_fx 11 254 4 = some 6 := by decide +kernel
theorem fx4_25_4 : ab_fx 4 25 4 = some 7 := by decide +kernel
theorem fx11_257_4 : ab_fx 11 257 4 = some 7 := by decide +kernel
theorem fx4_28_4 : ab_fx 4 28 4 = some 8 := by decide +kernel
theorem fx4_32_4 : ab_fx 4 32 4 = some 9 := by decide +kernel
theorem fx11_232_4 : ab_fx 11 232 4 = some 9 := by decide +kernel
theorem fx4_35_4 : ab_fx 4 35 4 = some 10 := by decide +kernel
theorem fx11_235_4 : ab_fx 11 235 4 = some 10 := by decide +kernel
theorem fx4_39_4 : ab_fx 4 39 4 = some 11 := by decide +kernel
theorem fx11_239_4 : ab_fx 11 239 4 = some 11 := by decide +kernel
theorem fx4_43_4 : ab_fx 4 43 4 = some 12 := by decide +kernel
theorem fx4_46_4 : ab_fx 4 46 4 = some 13 := by decide +kernel
theorem fx1_53_1 : ab_fx 1 53 1 = some 0 := by decide +kernel
theorem fx1_57_1 : ab_fx 1 57 1 = some 1 := by decide +kernel
theorem fx1_61_1 : ab_fx 1 61 1 = some 2 := by decide +kernel
theorem fx1_65_1 : ab_fx 1 65 1 = some 3 := by decide +kernel
theorem fx1_11_1 : ab_fx 1 11 1 = some 4 := by decide +kernel
theorem fx1_15_1 : ab_fx 1 15 1 = some 5 := by decide +kernel
theorem fx11_270_1 : ab_fx 11 270 1 = some 5 := by decide +kernel
theorem fx1_19_1 : ab_fx 1 19 1 = some 6 := by decide +kernel
theorem fx1_22_1 : ab_fx 1 22 1 = some 7 := by decide +kernel
theorem fx1_25_1 : ab_fx 1 25 1 = some 8 := by decide +kernel
theorem fx1_28_1 : ab_fx 1 28 1 = some 9 := by decide +kernel
theorem fx1_31_1 : ab_fx 1 31 1 = some 10 := by decide +kernel
theorem fx11_332_1 : ab_fx 11 332 1 = some 10 := by decide +kernel
theorem fx1_34_1 : ab_fx 1 34 1 = some 11 := by decide +kernel
theorem fx1_38_1 : ab_fx 1 38 1 = some 12 := by decide +kernel
theorem fx11_267_1 : ab_fx 11 267 1 = some 12 := by decide +kernel
theorem fx1_41_1 : ab_fx 1 41 1 = some 13 := by decide +kernel
theorem fx1_44_1 : ab_fx 1 44 1 = some 14 := by decide +kernel
theorem fx1_47_1 : ab_fx 1 47 1 = some 15 := by decide +kernel
theorem fx1_50_1 : ab_fx 1 50 1 = some 16 := by decide +kernel
theorem fx5_50_5 : ab_fx 5 50 5 = some 0 := by decide +kernel
theorem fx5_54_5 : ab_fx 5 54 5 = some 1 := by decide +kernel
theorem fx5_58_5 : ab_fx 5 58 5 = some 2 := by decide +kernel
theorem fx5_11_5 : ab_fx 5 11 5 = some 3 := by decide +kernel
theorem fx5_15_5 : ab_fx 5 15 5 = some 4 := by decide +kernel
theorem fx5_18_5 : ab_fx 5 18 5 = some 5 := by decide +kernel
theorem fx5_22_5 : ab_fx 5 22 5 = some 6 := by decide +kernel
theorem fx5_25_5 : ab_fx 5 25 5 = some 7 := by decide +kernel
theorem fx5_28_5 : ab_fx 5 28 5 = some 8 := by decide +kernel
theorem fx11_306_5 : ab_fx 11 306 5 = some 8 := by decide +kernel
theorem fx5_31_5 : ab_fx 5 31 5 = some 9 := by decide +kernel
theorem fx11_298_5 : ab_fx 11 298 5 = some 9 := by decide +kernel
theorem fx5_35_5 : ab_fx 5 35 5 = some 10 := by decide +kernel
theorem fx5_38_5 : ab_fx 5 38 5 = some 11 := by decide +kernel
theorem fx5_41_5 : ab_fx 5 41 5 = some 12 := by decide +kernel
theorem fx5_44_5 : ab_fx 5 44 5 = some 13 := by decide +kernel
theorem fx5_47_5 : ab_fx 5 47 5 = some 14 := by decide +kernel
theorem fx11_10_10 : ab_fx 11 10 10 = some 0 := by decide +kernel
theorem fx11_19_10 : ab_fx 11 19 10 = some 1 := by decide +kernel
theorem fx11_23_10 : ab_fx 11 23 10 = some 2 := by decide +kernel
theorem fx11_29_10 : ab_fx 11 29 10 = some 3 := by decide +kernel
theorem fx11_38_10 : ab_fx 11 38 10 = some 4 := by decide +kernel
theorem fx11_45_10 : ab_fx 11 45 10 = some 5 := by decide +kernel
theorem fx11_49_10 : ab_fx 11 49 10 = some 6 := by decide +kernel
theorem fx11_58_10 : ab_fx 11 58 10 = some 7 := by decide +kernel
theorem fx11_65_10 : ab_fx 11 65 10 = some 8 := by decide +kernel
theorem fx11_74_10 : ab_fx 11 74 10 = some 9 := by decide +kernel
theorem fx11_83_10 : ab_fx 11 83 10 = some 10 := by decide +kernel
theorem fx11_90_10 : ab_fx 11 90 10 = some 11 := by decide +kernel
theorem fx11_94_10 : ab_fx 11 94 10 = some 12 := by decide +kernel
theorem fx11_98_10 : ab_fx 11 98 10 = some 13 := by decide +kernel
theorem fx11_101_10 : ab_fx 11 101 10 = some 14 := by decide +kernel
theorem fx11_104_10 : ab_fx 11 104 10 = some 15 := by decide +kernel
theorem fx12_326_11 : ab_fx 12 326 11 = some 0 := by decide +kernel
theorem fx12_272_11 : ab_fx 12 272 11 = some 1 := by decide +kernel
theorem fx12_320_11 : ab_fx 12 320 11 = some 2 := by decide +kernel
theorem fx12_323_11 : ab_fx 12 323 11 = some 3 := by decide +kernel
theorem fx12_7_11 : ab_fx 12 7 11 = some 4 := by decide +kernel
theorem fx12_13_11 : ab_fx 12 13 11 = some 5 := by decide +kernel
theorem fx12_16_11 : ab_fx 12 16 11 = some 6 := by decide +kernel
theorem fx12_19_11 : ab_fx 12 19 11 = some 7 := by decide +kernel
theorem fx12_22_11 : ab_fx 12 22 11 = some 8 := by decide +kernel
theorem fx12_26_11 : ab_fx 12 26 11 = some 9 := by decide +kernel
theorem fx12_29_11 : ab_fx 12 29 11 = some 10 := by decide +kernel
theorem fx12_33_11 : ab_fx 12 33 11 = some 11 := by decide +kernel
theorem fx12_36_11 : ab_fx 12 36 11 = some 12 := by decide +kernel
theorem fx12_39_11 : ab_fx 12 39 11 = some 13 := by decide +kernel
theorem fx12_42_11 : ab_fx 12 42 11 = some 14 := by decide +kernel
theorem fx12_45_11 : ab_fx 12 45 11 = some 15 := by decide +kernel
theorem fx12_48_11 : ab_fx 12 48 11 = some 16 := by decide +kernel
theorem fx12_51_11 : ab_fx 12 51 11 = some 17 := by decide +kernel
theorem fx12_54_11 : ab_fx 12 54 11 = some 18 := by decide +kernel
theorem fx12_57_11 : ab_fx 12 57 11 = some 19 := by decide +kernel
theorem fx12_60_11 : ab_fx 12 60 11 = some 20 := by decide +kernel
theorem fx12_63_11 : ab_fx 12 63 11 = some 21 := by decide +kernel
theorem fx12_269_11 : ab_fx 12 269 11 = some 22 := by decide +kernel
theorem fx12_285_11 : ab_fx 12 285 11 = some 23 := by decide +kernel
theorem fx12_298_11 : ab_fx 12 298 11 = some 24 := by decide +kernel
theorem fx12_301_11 : ab_fx 12 301 11 = some 25 := by decide +kernel
theorem fx12_304_11 : ab_fx 12 304 11 = some 26 := by decide +kernel
theorem fx12_307_11 : ab_fx 12 307 11 = some 27 := by decide +kernel
theorem fx12_66_11 : ab_fx 12 66 11 = some 28 := by decide +kernel
theorem fx12_188_11 : ab_fx 12 188 11 = some 29 := by decide +kernel
theorem fx12_70_11 : ab_fx 12 70 11 = some 30 := by decide +kernel
theorem fx12_194_11 : ab_fx 12 194 11 = some 31 := by decide +kernel
theorem fx12_191_11 : ab_fx 12 191 11 = some 32 := by decide +kernel
theorem fx12_201_11 : ab_fx 12 201 11 = some 33 := by decide +kernel
theorem fx12_213_11 : ab_fx 12 213 11 = some 34 := by decide +kernel
theorem fx12_210_11 : ab_fx 12 210 11 = some 35 := by decide +kernel
theorem fx12_206_11 : ab_fx 12 206 11 = some 36 := by decide +kernel
theorem fx12_227_11 : ab_fx 12 227 11 = some 37 := by decide +kernel
theorem fx12_332_11 : ab_fx 12 332 11 = some 38 := by decide +kernel
theorem fx12_73_11 : ab_fx 12 73 11 = some 39 := by decide +kernel
theorem fx12_76_11 : ab_fx 12 76 11 = some 40 := by decide +kernel
theorem fx12_79_11 : ab_fx 12 79 11 = some 41 := by decide +kernel
theorem fx12_82_11 : ab_fx 12 82 11 = some 42 := by decide +kernel
theorem fx12_85_11 : ab_fx 12 85 11 = some 43 := by decide +kernel
theorem fx12_88_11 : ab_fx 12 88 11 = some 44 := by decide +kernel
theorem fx12_345_11 : ab_fx 12 345 11 = some 45 := by decide +kernel
theorem fx12_348_11 : ab_fx 12 348 11 = some 46 := by decide +kernel
theorem fx12_351_11 : ab_fx 12 351 11 = some 47 := by decide +kernel
theorem fx12_91_11 : ab_fx 12 91 11 = some 48 := by decide +kernel
theorem fx12_94_11 : ab_fx 12 94 11 = some 49 := by decide +kernel
theorem fx12_97_11 : ab_fx 12 97 11 = some 50 := by decide +kernel
theorem fx12_100_11 : ab_fx 12 100 11 = some 51 := by decide +kernel
theorem fx12_103_11 : ab_fx 12 103 11 = some 52 := by decide +kernel
theorem fx12_329_11 : ab_fx 12 329 11 = some 53 := by decide +kernel
theorem fx12_107_11 : ab_fx 12 107 11 = some 54 := by decide +kernel
theorem fx12_110_11 : ab_fx 12 110 11 = some 55 := by decide +kernel
theorem fx12_113_11 : ab_fx 12 113 11 = some 56 := by decide +kernel
theorem fx12_116_11 : ab_fx 12 116 11 = some 57 := by decide +kernel
theorem fx12_119_11 : ab_fx 12 119 11 = some 58 := by decide +kernel
theorem fx12_122_11 : ab_fx 12 122 11 = some 59 := by decide +kernel
theorem fx12_377_11 : ab_fx 12 377 11 = some 60 := by decide +kernel
theorem fx12_125_11 : ab_fx 12 125 11 = some 62 := by decide +kernel
theorem fx12_413_11 : ab_fx 12 413 11 = some 63 := by decide +kernel
theorem fx12_416_11 : ab_fx 12 416 11 = some 64 := by decide +kernel
theorem fx12_419_11 : ab_fx 12 419 11 = some 65 := by decide +kernel
theorem fx12_128_11 : ab_fx 12 128 11 = some 66 := by decide +kernel
theorem fx12_131_11 : ab_fx 12 131 11 = some 67 := by decide +kernel
theorem fx12_134_11 : ab_fx 12 134 11 = some 68 := by decide +kernel
theorem fx12_137_11 : ab_fx 12 137 11 = some 69 := by decide +kernel
theorem fx12_140_11 : ab_fx 12 140 11 = some 70 := by decide +kernel
theorem fx12_143_11 : ab_fx 12 143 11 = some 71 := by decide +kernel
theorem fx12_445_11 : ab_fx 12 445 11 = some 72 := by decide +kernel
theorem fx12_448_11 : ab_fx 12 448 11 = some 73 := by decide +kernel
theorem fx12_451_11 : ab_fx 12 451 11 = some 74 := by decide +kernel
theorem fx12_482_11 : ab_fx 12 482 11 = some 75 := by decide +kernel
theorem fx12_489_11 : ab_fx 12 489 11 = some 76 := by decide +kernel
theorem fx12_146_11 : ab_fx 12 146 11 = some 77 := by decide +kernel
theorem fx12_149_11 : ab_fx 12 149 11 = some 78 := by decide +kernel
theorem fx12_498_11 : ab_fx 12 498 11 = some 79 := by decide +kernel
theorem fx12_501_11 : ab_fx 12 501 11 = some 80 := by decide +kernel
theorem fx12_152_11 : ab_fx 12 152 11 = some 81 := by decide +kernel
theorem fx12_155_11 : ab_fx 12 155 11 = some 82 := by decide +kernel
theorem fx12_158_11 : ab_fx 12 158 11 = some 83 := by decide +kernel
theorem fx12_161_11 : ab_fx 12 161 11 = some 84 := by decide +kernel
theorem fx12_164_11 : ab_fx 12 164 11 = some 85 := by decide +kernel
theorem fx12_513_11 : ab_fx 12 513 11 = some 86 := by decide +kernel
theorem fx12_529_11 : ab_fx 12 529 11 = some 87 := by decide +kernel
theorem fx12_532_11 : ab_fx 12 532 11 = some 88 := by decide +kernel
theorem fx12_538_11 : ab_fx 12 538 11 = some 89 := by decide +kernel
theorem fx12_335_11 : ab_fx 12 335 11 = some 90 := by decide +kernel
theorem fx12_167_11 : ab_fx 12 167 11 = some 91 := by decide +kernel
theorem fx12_170_11 : ab_fx 12 170 11 = some 92 := by decide +kernel
theorem fx12_173_11 : ab_fx 12 173 11 = some 93 := by decide +kernel
theorem fx12_176_11 : ab_fx 12 176 11 = some 94 := by decide +kernel
theorem fx12_179_11 : ab_fx 12 179 11 = some 95 := by decide +kernel
theorem fx12_182_11 : ab_fx 12 182 11 = some 96 := by decide +kernel
theorem fx12_185_11 : ab_fx 12 185 11 = some 97 := by decide +kernel
def ab_kl (own idx : Nat) (v : Int ⊕ Int) : Prop := match v with
  | .inl x => Cond.constant (ab_cn own) idx (Int32.ofInt x) ∈ ab_TG
  | .inr x => Cond.constantLong (ab_cn own) idx (Int64.ofInt x) ∈ ab_TG
def ab_klC (r : Nat × Nat × (Int ⊕ Int) × Nat) : Bool := match r.2.2.1 with
  | .inl x => ab_ag r.2.2.2 (.constant (ab_cn r.1) r.2.1 (Int32.ofInt x))
  | .inr x => ab_ag r.2.2.2 (.constantLong (ab_cn r.1) r.2.1 (Int64.ofInt x))
theorem ab_klC_ok {r : Nat × Nat × (Int ⊕ Int) × Nat} (h : ab_klC r = true) : ab_kl r.1 r.2.1 r.2.2.1 := by
  obtain ⟨own, idx, v, i⟩ := r
  cases v with
  | inl x => exact ab_ag_ok (i := i) h
  | inr x => exact ab_ag_ok (i := i) h
def ab_kxs : List (Nat × Nat × (Int ⊕ Int) × Nat) := [(10, 19, .inr (-1), 489), (7, 90, .inl (100000), 709), (11, 178, .inl (100000), 1029), (11, 207, .inr (-1), 1058), (8, 112, .inl (16000000), 1105), (10, 44, .inl (100000), 1118), (10, 45, .inr (8), 1119), (10, 47, .inr (100000), 1142), (10, 49, .inr (2), 1143), (10, 51, .inr (4), 1144), (26, 265, .inl (1431655765), 1154), (26, 266, .inl (858993459), 1155), (26, 267, .inl (252645135), 1156), (1, 108, .inr (-1), 1285), (11, 283, .inr (-1000000000000), 1333), (5, 119, .inr (-1), 1385), (1, 172, .inr (9), 1441), (12, 204, .inr (-1), 1807), (12, 220, .inr (27), 1811), (12, 222, .inl (1000000), 1812), (12, 231, .inr (51382989), 1832), (12, 233, .inr (283616147), 1833), (12, 235, .inr (388708), 1834), (12, 237, .inr (168755), 1835), (12, 239, .inr (1253), 1836), (12, 241, .inr (232546955), 1837), (12, 243, .inr (243059), 1838), (12, 245, .inr (12387713), 1839), (12, 247, .inr (1428746), 1840), (12, 249, .inr (13802), 1841), (12, 251, .inr (847604), 1842), (12, 253, .inr (380396), 1843), (12, 255, .inr (307058), 1844), (12, 257, .inr (8863997), 1845), (12, 386, .inr (24), 1959), (12, 395, .inr (12), 1968), (12, 492, .inr (-1000000000000), 2076), (12, 516, .inr (8), 2117)]
theorem ab_kxs_ok : ab_kxs.all ab_klC = true := by decide +kernel
def ab_kx (own idx : Nat) : Option (Int ⊕ Int) := (ab_kxs.find? (fun r => r.1 == own && r.2.1 == idx)).map (fun r => r.2.2.1)
theorem ab_kx_ok {own idx : Nat} {v : Int ⊕ Int} (h : ab_kx own idx = some v) : ab_kl own idx v := by
  unfold ab_kx at h
  obtain ⟨r, hr, rfl⟩ := Option.map_eq_some_iff.mp h
  have h1 := List.find?_some hr
  have h2 := ab_klC_ok (List.all_eq_true.mp ab_kxs_ok r (List.mem_of_find?_eq_some hr))
  simp only [Bool.and_eq_true, beq_iff_eq] at h1
  rw [h1.1, h1.2] at h2
  exact h2
theorem kx10_19 : ab_kx 10 19 = some (.inr (-1)) := by decide +kernel
theorem kx7_90 : ab_kx 7 90 = some (.inl (100000)) := by decide +kernel
theorem kx11_178 : ab_kx 11 178 = some (.inl (100000)) := by decide +kernel
theorem kx11_207 : ab_kx 11 207 = some (.inr (-1)) := by decide +kernel
theorem kx8_112 : ab_kx 8 112 = some (.inl (16000000)) := by decide +kernel
theorem kx10_44 : ab_kx 10 44 = some (.inl (100000)) := by decide +kernel
theorem kx10_45 : ab_kx 10 45 = some (.inr (8)) := by decide +kernel
theorem kx10_47 : ab_kx 10 47 = some (.inr (100000)) := by decide +kernel
theorem kx10_49 : ab_kx 10 49 = some (.inr (2)) := by decide +kernel
theorem kx10_51 : ab_kx 10 51 = some (.inr (4)) := by decide +kernel
theorem kx26_265 : ab_kx 26 265 = some (.inl (1431655765)) := by decide +kernel
theorem kx26_266 : ab_kx 26 266 = some (.inl (858993459)) := by decide +kernel
theorem kx26_267 : ab_kx 26 267 = some (.inl (252645135)) := by decide +kernel
theorem kx1_108 : ab_kx 1 108 = some (.inr (-1)) := by decide +kernel
theorem kx11_283 : ab_kx 11 283 = some (.inr (-1000000000000)) := by decide +kernel
theorem kx5_119 : ab_kx 5 119 = some (.inr (-1)) := by decide +kernel
theorem kx1_172 : ab_kx 1 172 = some (.inr (9)) := by decide +kernel
theorem kx12_204 : ab_kx 12 204 = some (.inr (-1)) := by decide +kernel
theorem kx12_220 : ab_kx 12 220 = some (.inr (27)) := by decide +kernel
theorem kx12_222 : ab_kx 12 222 = some (.inl (1000000)) := by decide +kernel
theorem kx12_231 : ab_kx 12 231 = some (.inr (51382989)) := by decide +kernel
theorem kx12_233 : ab_kx 12 233 = some (.inr (283616147)) := by decide +kernel
theorem kx12_235 : ab_kx 12 235 = some (.inr (388708)) := by decide +kernel
theorem kx12_237 : ab_kx 12 237 = some (.inr (168755)) := by decide +kernel
theorem kx12_239 : ab_kx 12 239 = some (.inr (1253)) := by decide +kernel
theorem kx12_241 : ab_kx 12 241 = some (.inr (232546955)) := by decide +kernel
theorem kx12_243 : ab_kx 12 243 = some (.inr (243059)) := by decide +kernel
theorem kx12_245 : ab_kx 12 245 = some (.inr (12387713)) := by decide +kernel
theorem kx12_247 : ab_kx 12 247 = some (.inr (1428746)) := by decide +kernel
theorem kx12_249 : ab_kx 12 249 = some (.inr (13802)) := by decide +kernel
theorem kx12_251 : ab_kx 12 251 = some (.inr (847604)) := by decide +kernel
theorem kx12_253 : ab_kx 12 253 = some (.inr (380396)) := by decide +kernel
theorem kx12_255 : ab_kx 12 255 = some (.inr (307058)) := by decide +kernel
theorem kx12_257 : ab_kx 12 257 = some (.inr (8863997)) := by decide +kernel
theorem kx12_386 : ab_kx 12 386 = some (.inr (24)) := by decide +kernel
theorem kx12_395 : ab_kx 12 395 = some (.inr (12)) := by decide +kernel
theorem kx12_492 : ab_kx 12 492 = some (.inr (-1000000000000)) := by decide +kernel
theorem kx12_516 : ab_kx 12 516 = some (.inr (8)) := by decide +kernel
def ab_ty (ci k : Nat) : FieldType := match ci with
  | 0 => tyX0 k
  | 1 => tyX1 k
  | 2 => tyX2 k
  | 3 => tyX3 k
  | 4 => tyX4 k
  | 5 => tyX5 k
  | 6 => tyX6 k
  | 7 => tyX7 k
  | 8 => tyX9 k
  | 9 => tyX10 k
  | 10 => tyX11 k
  | _ => tyX12 k
theorem wqX0 : ∀ w ∈ wsX00, w ∈ ab_TG := fun w h => by
  have e : wsX00 = [383, 385, 387, 389, 391, 393, 395].filterMap (fun i => ab_TB[i]?) := by decide +kernel
  have g : wsX00.all goodWord = true := by decide +kernel
  refine List.mem_filter.mpr ⟨?_, List.all_eq_true.mp g w h⟩
  rw [e] at h
  obtain ⟨i, -, hi⟩ := List.mem_filterMap.mp h
  exact List.mem_of_getElem? hi
theorem wqX1 : ∀ w ∈ wsX10, w ∈ ab_TG := fun w h => by
  have e : wsX10 = [600, 602, 604, 606, 608, 610, 612, 614, 616, 618, 620, 622, 624, 626, 628, 630, 632].filterMap (fun i => ab_TB[i]?) := by decide +kernel
  have g : wsX10.all goodWord = true := by decide +kernel
  refine List.mem_filter.mpr ⟨?_, List.all_eq_true.mp g w h⟩
  rw [e] at h
  obtain ⟨i, -, hi⟩ := List.mem_filterMap.mp h
  exact List.mem_of_getElem? hi
theorem wqX2 : ∀ w ∈ wsX20, w ∈ ab_TG := fun w h => by
  have e : wsX20 = [297, 299, 301, 303, 305, 307, 309].filterMap (fun i => ab_TB[i]?) := by decide +kernel
  have g : wsX20.all goodWord = true := by decide +kernel
  refine List.mem_filter.mpr ⟨?_, List.all_eq_true.mp g w h⟩
  rw [e] at h
  obtain ⟨i, -, hi⟩ := List.mem_filterMap.mp h
  exact List.mem_of_getElem? hi
theorem wqX3 : ∀ w ∈ wsX30, w ∈ ab_TG := fun w h => by
  have e : wsX30 = [464, 466, 468, 470, 472, 474, 476, 478, 480, 454, 456, 458, 460, 462].filterMap (fun i => ab_TB[i]?) := by decide +kernel
  have g : wsX30.all goodWord = true := by decide +kernel
  refine List.mem_filter.mpr ⟨?_, List.all_eq_true.mp g w h⟩
  rw [e] at h
  obtain ⟨i, -, hi⟩ := List.mem_filterMap.mp h
  exact List.mem_of_getElem? hi
theorem wqX4 : ∀ w ∈ wsX40, w ∈ ab_TG := fun w h => by
  have e : wsX40 = [544, 546, 548, 550, 552, 554, 556, 558, 560, 562, 564, 566, 568, 570].filterMap (fun i => ab_TB[i]?) := by decide +kernel
  have g : wsX40.all goodWord = true := by decide +kernel
  refine List.mem_filter.mpr ⟨?_, List.all_eq_true.mp g w h⟩
  rw [e] at h
  obtain ⟨i, -, hi⟩ := List.mem_filterMap.mp h
  exact List.mem_of_getElem? hi
theorem wqX5 : ∀ w ∈ wsX50, w ∈ ab_TG := fun w h => by
  have e : wsX50 = [658, 660, 662, 664, 666, 668, 670, 672, 674, 676, 678, 680, 682, 684, 686].filterMap (fun i => ab_TB[i]?) := by decide +kernel
  have g : wsX50.all goodWord = true := by decide +kernel
  refine List.mem_filter.mpr ⟨?_, List.all_eq_true.mp g w h⟩
  rw [e] at h
  obtain ⟨i, -, hi⟩ := List.mem_filterMap.mp h
  exact List.mem_of_getElem? hi
theorem wqX6 : ∀ w ∈ wsX60, w ∈ ab_TG := fun w h => by
  have e : wsX60 = [152, 154, 156, 158, 160, 162, 164].filterMap (fun i => ab_TB[i]?) := by decide +kernel
  have g : wsX60.all goodWord = true := by decide +kernel
  refine List.mem_filter.mpr ⟨?_, List.all_eq_true.mp g w h⟩
  rw [e] at h
  obtain ⟨i, -, hi⟩ := List.mem_filterMap.mp h
  exact List.mem_of_getElem? hi
theorem wqX7 : ∀ w ∈ wsX70, w ∈ ab_TG := fun w h => by
  have e : wsX70 = [334, 336, 338, 340, 342, 344, 346, 348, 350].filterMap (fun i => ab_TB[i]?) := by decide +kernel
  have g : wsX70.all goodWord = true := by decide +kernel
  refine List.mem_filter.mpr ⟨?_, List.all_eq_true.mp g w h⟩
  rw [e] at h
  obtain ⟨i, -, hi⟩ := List.mem_filterMap.mp h
  exact List.mem_of_getElem? hi
theorem wqX9 : ∀ w ∈ wsX90, w ∈ ab_TG := fun w h => by
  have e : wsX90 = [241, 243, 245, 247, 249, 251, 253, 255, 257, 259, 261, 263, 265, 267, 269].filterMap (fun i => ab_TB[i]?) := by decide +kernel
  have g : wsX90.all goodWord = true := by decide +kernel
  refine List.mem_filter.mpr ⟨?_, List.all_eq_true.mp g w h⟩
  rw [e] at h
  obtain ⟨i, -, hi⟩ := List.mem_filterMap.mp h
  exact List.mem_of_getElem? hi
theorem wqX10 : ∀ w ∈ wsX100, w ∈ ab_TG := fun w h => by
  have e : wsX100 = [508, 509, 510, 511, 512, 513, 514, 515, 516, 498, 500, 502, 504, 506].filterMap (fun i => ab_TB[i]?) := by decide +kernel
  have g : wsX100.all goodWord = true := by decide +kernel
  refine List.mem_filter.mpr ⟨?_, List.all_eq_true.mp g w h⟩
  rw [e] at h
  obtain ⟨i, -, hi⟩ := List.mem_filterMap.mp h
  exact List.mem_of_getElem? hi
theorem wqX11 : ∀ w ∈ wsX110, w ∈ ab_TG := fun w h => by
  have e : wsX110 = [741, 743, 745, 747, 749, 751, 753, 755, 757, 759, 761, 763, 765, 767, 769, 771].filterMap (fun i => ab_TB[i]?) := by decide +kernel
  have g : wsX110.all goodWord = true := by decide +kernel
  refine List.mem_filter.mpr ⟨?_, List.all_eq_true.mp g w h⟩
  rw [e] at h
  obtain ⟨i, -, hi⟩ := List.mem_filterMap.mp h
  exact List.mem_of_getElem? hi
theorem wqX12 : ∀ w ∈ wsX120, w ∈ ab_TG := fun w h => by
  have e : wsX120 = [1590, 1592, 1594, 1596, 1598, 1600, 1602, 1604, 1606, 1608, 1610, 1612, 1614, 1616, 1618, 1620, 1622, 1624, 1626, 1628, 1630, 1632, 1634, 1636, 1638, 1640, 1642, 1644, 1646, 1648, 1650, 1652, 1654, 1656, 1658, 1660, 1662, 1664, 1666, 1668, 1670, 1672, 1674, 1676, 1678, 1680, 1682, 1684, 1686, 1688, 1690, 1692, 1694, 1696, 1698, 1700, 1702, 1704, 1706, 1708, 1710, 1712, 1714, 1716, 1718, 1720, 1722, 1724, 1726, 1728, 1730, 1732, 1734, 1736, 1738, 1740, 1742, 1744, 1746, 1748, 1750, 1752, 1754, 1756, 1758, 1760, 1762, 1764, 1766, 1768, 1770, 1772, 1774, 1776, 1778, 1780, 1782, 1784].filterMap (fun i => ab_TB[i]?) := by decide +kernel
  have g : wsX120.all goodWord = true := by decide +kernel
  refine List.mem_filter.mpr ⟨?_, List.all_eq_true.mp g w h⟩
  rw [e] at h
  obtain ⟨i, -, hi⟩ := List.mem_filterMap.mp h
  exact List.mem_of_getElem? hi
theorem ab_cls {ci : Nat} {C : String} {T : u_T} {N : Nat} (h : vwCl[ci]? = some (C, T, N)) : (∀ w ∈ u_ws C T N, w ∈ ab_TG) ∧ (∀ k, k < N → parseFieldDescriptor (T k).2.2.1 = some (ab_ty ci k)) ∧ (∀ a, a < N → ∀ b, b < N → a ≠ b → (T a).2.1 ≠ (T b).2.1) := by
  match ci, h with
  | 0, h => cases h; exact ⟨wqX0, tyX0_ok, nmX0⟩
  | 1, h => cases h; exact ⟨wqX1, tyX1_ok, nmX1⟩
  | 2, h => cases h; exact ⟨wqX2, tyX2_ok, nmX2⟩
  | 3, h => cases h; exact ⟨wqX3, tyX3_ok, nmX3⟩
  | 4, h => cases h; exact ⟨wqX4, tyX4_ok, nmX4⟩
  | 5, h => cases h; exact ⟨wqX5, tyX5_ok, nmX5⟩
  | 6, h => cases h; exact ⟨wqX6, tyX6_ok, nmX6⟩
  | 7, h => cases h; exact ⟨wqX7, tyX7_ok, nmX7⟩
  | 8, h => cases h; exact ⟨wqX9, tyX9_ok, nmX9⟩
  | 9, h => cases h; exact ⟨wqX10, tyX10_ok, nmX10⟩
  | 10, h => cases h; exact ⟨wqX11, tyX11_ok, nmX11⟩
  | 11, h => cases h; exact ⟨wqX12, tyX12_ok, nmX12⟩
  | k + 12, h => simp at h
