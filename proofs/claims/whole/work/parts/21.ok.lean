/-! ===== printed by wip/whole/gencode3.py: every method checked ===== -/
def ok_m (q : MM × MF) : Prop := MOK PT FT q.1 q.2 ∧ NCA q.1
theorem omX0_init : ok_m ((kX0_init, 5, 4), fX0_init) := have h := ck_m_ok knd PT_999 ccX0_init.2.2.2 okX0_init; ⟨h.1, h.2 rfl⟩
theorem omX0_begin : ok_m ((kX0_begin, 1, 1), fX0_begin) := have h := ck_m_ok knd PT_999 ccX0_begin.2.2.2 okX0_begin; ⟨h.1, h.2 rfl⟩
theorem omX0_settle : ok_m ((kX0_settle, 1, 1), fX0_settle) := have h := ck_m_ok knd PT_999 ccX0_settle.2.2.2 okX0_settle; ⟨h.1, h.2 rfl⟩
theorem omX0_forget : ok_m ((kX0_forget, 1, 1), fX0_forget) := have h := ck_m_ok knd PT_999 ccX0_forget.2.2.2 okX0_forget; ⟨h.1, h.2 rfl⟩
theorem omX0_takeBack : ok_m ((kX0_takeBack, 1, 1), fX0_takeBack) := have h := ck_m_ok knd PT_999 ccX0_takeBack.2.2.2 okX0_takeBack; ⟨h.1, h.2 rfl⟩
theorem omX0_move : ok_m ((kX0_move, 5, 3), fX0_move) := have h := ck_m_ok knd PT_999 ccX0_move.2.2.2 okX0_move; ⟨h.1, h.2 rfl⟩
theorem omX0_sell : ok_m ((kX0_sell, 3, 3), fX0_sell) := have h := ck_m_ok knd PT_999 ccX0_sell.2.2.2 okX0_sell; ⟨h.1, h.2 rfl⟩
theorem omX0_buy : ok_m ((kX0_buy, 3, 3), fX0_buy) := have h := ck_m_ok knd PT_999 ccX0_buy.2.2.2 okX0_buy; ⟨h.1, h.2 rfl⟩
theorem omX0_dawn : ok_m ((kX0_dawn, 1, 1), fX0_dawn) := have h := ck_m_ok knd PT_999 ccX0_dawn.2.2.2 okX0_dawn; ⟨h.1, h.2 rfl⟩
theorem omX0_hunt : ok_m ((kX0_hunt, 5, 2), fX0_hunt) := have h := ck_m_ok knd PT_999 ccX0_hunt.2.2.2 okX0_hunt; ⟨h.1, h.2 rfl⟩
theorem omX0_preyAtHand : ok_m ((kX0_preyAtHand, 2, 1), fX0_preyAtHand) := have h := ck_m_ok knd PT_999 ccX0_preyAtHand.2.2.2 okX0_preyAtHand; ⟨h.1, h.2 rfl⟩
theorem omX0_prowl : ok_m ((kX0_prowl, 5, 1), fX0_prowl) := have h := ck_m_ok knd PT_999 ccX0_prowl.2.2.2 okX0_prowl; ⟨h.1, h.2 rfl⟩
theorem omX0_follow : ok_m ((kX0_follow, 5, 2), fX0_follow) := have h := ck_m_ok knd PT_999 ccX0_follow.2.2.2 okX0_follow; ⟨h.1, h.2 rfl⟩
theorem omX0_followLine : ok_m ((kX0_followLine, 3, 3), fX0_followLine) := have h := ck_m_ok knd PT_999 ccX0_followLine.2.2.2 okX0_followLine; ⟨h.1, h.2 rfl⟩
theorem omX1_init : ok_m ((kX1_init, 2, 2), fX1_init) := have h := ck_m_ok knd PT_999 ccX1_init.2.2.2 okX1_init; ⟨h.1, h.2 rfl⟩
theorem omX1_has : ok_m ((kX1_has, 3, 3), fX1_has) := have h := ck_m_ok knd PT_999 ccX1_has.2.2.2 okX1_has; ⟨h.1, h.2 rfl⟩
theorem omX1_between : ok_m ((kX1_between, 5, 3), fX1_between) := have h := ck_m_ok knd PT_999 ccX1_between.2.2.2 okX1_between; ⟨h.1, h.2 rfl⟩
theorem omX1_prepare : ok_m ((kX1_prepare, 6, 2), fX1_prepare) := have h := ck_m_ok knd PT_999 ccX1_prepare.2.2.2 okX1_prepare; ⟨h.1, h.2 rfl⟩
theorem omX1_passFrom : ok_m ((kX1_passFrom, 4, 3), fX1_passFrom) := have h := ck_m_ok knd PT_999 ccX1_passFrom.2.2.2 okX1_passFrom; ⟨h.1, h.2 rfl⟩
theorem omX1_passesWith : ok_m ((kX1_passesWith, 3, 3), fX1_passesWith) := have h := ck_m_ok knd PT_999 ccX1_passesWith.2.2.2 okX1_passesWith; ⟨h.1, h.2 rfl⟩
theorem omX1_stepsByLadders : ok_m ((kX1_stepsByLadders, 6, 5), fX1_stepsByLadders) := have h := ck_m_ok knd PT_999 ccX1_stepsByLadders.2.2.2 okX1_stepsByLadders; ⟨h.1, h.2 rfl⟩
theorem omX1_stepOn : ok_m ((kX1_stepOn, 5, 1), fX1_stepOn) := have h := ck_m_ok knd PT_999 ccX1_stepOn.2.2.2 okX1_stepOn; ⟨h.1, h.2 rfl⟩
theorem omX1_come : ok_m ((kX1_come, 10, 4), fX1_come) := have h := ck_m_ok knd PT_999 ccX1_come.2.2.2 okX1_come; ⟨h.1, h.2 rfl⟩
theorem omX1_arrive : ok_m ((kX1_arrive, 6, 2), fX1_arrive) := have h := ck_m_ok knd PT_999 ccX1_arrive.2.2.2 okX1_arrive; ⟨h.1, h.2 rfl⟩
theorem omX2_init : ok_m ((kX2_init, 1, 1), fX2_init) := have h := ck_m_ok knd PT_999 ccX2_init.2.2.2 okX2_init; ⟨h.1, h.2 rfl⟩
theorem omX2_copyFrom : ok_m ((kX2_copyFrom, 2, 2), fX2_copyFrom) := have h := ck_m_ok knd PT_999 ccX2_copyFrom.2.2.2 okX2_copyFrom; ⟨h.1, h.2 rfl⟩
theorem omX3_init : ok_m ((kX3_init, 1, 1), fX3_init) := have h := ck_m_ok knd PT_999 ccX3_init.2.2.2 okX3_init; ⟨h.1, h.2 rfl⟩
theorem omX3_empty : ok_m ((kX3_empty, 1, 1), fX3_empty) := have h := ck_m_ok knd PT_999 ccX3_empty.2.2.2 okX3_empty; ⟨h.1, h.2 rfl⟩
theorem omX3_copyFrom : ok_m ((kX3_copyFrom, 2, 2), fX3_copyFrom) := have h := ck_m_ok knd PT_999 ccX3_copyFrom.2.2.2 okX3_copyFrom; ⟨h.1, h.2 rfl⟩
theorem omX3_span : ok_m ((kX3_span, 1, 1), fX3_span) := have h := ck_m_ok knd PT_999 ccX3_span.2.2.2 okX3_span; ⟨h.1, h.2 rfl⟩
theorem omX3_hasCell : ok_m ((kX3_hasCell, 2, 2), fX3_hasCell) := have h := ck_m_ok knd PT_999 ccX3_hasCell.2.2.2 okX3_hasCell; ⟨h.1, h.2 rfl⟩
theorem omX3_herdNamed : ok_m ((kX3_herdNamed, 3, 2), fX3_herdNamed) := have h := ck_m_ok knd PT_999 ccX3_herdNamed.2.2.2 okX3_herdNamed; ⟨h.1, h.2 rfl⟩
theorem omX3_weatherOn : ok_m ((kX3_weatherOn, 5, 3), fX3_weatherOn) := have h := ck_m_ok knd PT_999 ccX3_weatherOn.2.2.2 okX3_weatherOn; ⟨h.1, h.2 rfl⟩
theorem omX3_stiltsFor : ok_m ((kX3_stiltsFor, 3, 2), fX3_stiltsFor) := have h := ck_m_ok knd PT_999 ccX3_stiltsFor.2.2.2 okX3_stiltsFor; ⟨h.1, h.2 rfl⟩
theorem omX3_timberFor : ok_m ((kX3_timberFor, 2, 2), fX3_timberFor) := have h := ck_m_ok knd PT_999 ccX3_timberFor.2.2.2 okX3_timberFor; ⟨h.1, h.2 rfl⟩
theorem omX3_depthOf : ok_m ((kX3_depthOf, 3, 3), fX3_depthOf) := have h := ck_m_ok knd PT_999 ccX3_depthOf.2.2.2 okX3_depthOf; ⟨h.1, h.2 rfl⟩
theorem omX3_canStand : ok_m ((kX3_canStand, 6, 4), fX3_canStand) := have h := ck_m_ok knd PT_999 ccX3_canStand.2.2.2 okX3_canStand; ⟨h.1, h.2 rfl⟩
theorem omX3_hasLadder : ok_m ((kX3_hasLadder, 2, 2), fX3_hasLadder) := have h := ck_m_ok knd PT_999 ccX3_hasLadder.2.2.2 okX3_hasLadder; ⟨h.1, h.2 rfl⟩
theorem omX3_holeOf : ok_m ((kX3_holeOf, 4, 3), fX3_holeOf) := have h := ck_m_ok knd PT_999 ccX3_holeOf.2.2.2 okX3_holeOf; ⟨h.1, h.2 rfl⟩
theorem omX3_neighbour : ok_m ((kX3_neighbour, 5, 3), fX3_neighbour) := have h := ck_m_ok knd PT_999 ccX3_neighbour.2.2.2 okX3_neighbour; ⟨h.1, h.2 rfl⟩
theorem omX4_init : ok_m ((kX4_init, 1, 1), fX4_init) := have h := ck_m_ok knd PT_999 ccX4_init.2.2.2 okX4_init; ⟨h.1, h.2 rfl⟩
theorem omX4_copyFrom : ok_m ((kX4_copyFrom, 2, 2), fX4_copyFrom) := have h := ck_m_ok knd PT_999 ccX4_copyFrom.2.2.2 okX4_copyFrom; ⟨h.1, h.2 rfl⟩
theorem omX5_init : ok_m ((kX5_init, 5, 2), fX5_init) := have h := ck_m_ok knd PT_999 ccX5_init.2.2.2 okX5_init; ⟨h.1, h.2 rfl⟩
theorem omX5_readMoor : ok_m ((kX5_readMoor, 3, 2), fX5_readMoor) := have h := ck_m_ok knd PT_999 ccX5_readMoor.2.2.2 okX5_readMoor; ⟨h.1, h.2 rfl⟩
theorem omX5_readPlan : ok_m ((kX5_readPlan, 4, 3), fX5_readPlan) := have h := ck_m_ok knd PT_999 ccX5_readPlan.2.2.2 okX5_readPlan; ⟨h.1, h.2 rfl⟩
theorem omX5_fail : ok_m ((kX5_fail, 2, 2), fX5_fail) := have h := ck_m_ok knd PT_999 ccX5_fail.2.2.2 okX5_fail; ⟨h.1, h.2 rfl⟩
theorem omX5_wordRead : ok_m ((kX5_wordRead, 2, 1), fX5_wordRead) := have h := ck_m_ok knd PT_999 ccX5_wordRead.2.2.2 okX5_wordRead; ⟨h.1, h.2 rfl⟩
theorem omX5_readNumber : ok_m ((kX5_readNumber, 3, 3), fX5_readNumber) := have h := ck_m_ok knd PT_999 ccX5_readNumber.2.2.2 okX5_readNumber; ⟨h.1, h.2 rfl⟩
theorem omX5_readCell : ok_m ((kX5_readCell, 3, 2), fX5_readCell) := have h := ck_m_ok knd PT_999 ccX5_readCell.2.2.2 okX5_readCell; ⟨h.1, h.2 rfl⟩
theorem omX5_readName : ok_m ((kX5_readName, 1, 1), fX5_readName) := have h := ck_m_ok knd PT_999 ccX5_readName.2.2.2 okX5_readName; ⟨h.1, h.2 rfl⟩
theorem omX5_readLineEnd : ok_m ((kX5_readLineEnd, 1, 1), fX5_readLineEnd) := have h := ck_m_ok knd PT_999 ccX5_readLineEnd.2.2.2 okX5_readLineEnd; ⟨h.1, h.2 rfl⟩
theorem omX5_readMoorLine : ok_m ((kX5_readMoorLine, 3, 2), fX5_readMoorLine) := have h := ck_m_ok knd PT_999 ccX5_readMoorLine.2.2.2 okX5_readMoorLine; ⟨h.1, h.2 rfl⟩
theorem omX5_readRow : ok_m ((kX5_readRow, 5, 2), fX5_readRow) := have h := ck_m_ok knd PT_999 ccX5_readRow.2.2.2 okX5_readRow; ⟨h.1, h.2 rfl⟩
theorem omX5_readLaw : ok_m ((kX5_readLaw, 2, 2), fX5_readLaw) := have h := ck_m_ok knd PT_999 ccX5_readLaw.2.2.2 okX5_readLaw; ⟨h.1, h.2 rfl⟩
theorem omX5_readWood : ok_m ((kX5_readWood, 2, 2), fX5_readWood) := have h := ck_m_ok knd PT_999 ccX5_readWood.2.2.2 okX5_readWood; ⟨h.1, h.2 rfl⟩
theorem omX5_readWeather : ok_m ((kX5_readWeather, 4, 3), fX5_readWeather) := have h := ck_m_ok knd PT_999 ccX5_readWeather.2.2.2 okX5_readWeather; ⟨h.1, h.2 rfl⟩
theorem omX5_readThing : ok_m ((kX5_readThing, 5, 3), fX5_readThing) := have h := ck_m_ok knd PT_999 ccX5_readThing.2.2.2 okX5_readThing; ⟨h.1, h.2 rfl⟩
theorem omX5_readHerd : ok_m ((kX5_readHerd, 4, 2), fX5_readHerd) := have h := ck_m_ok knd PT_999 ccX5_readHerd.2.2.2 okX5_readHerd; ⟨h.1, h.2 rfl⟩
theorem omX5_readWolf : ok_m ((kX5_readWolf, 3, 2), fX5_readWolf) := have h := ck_m_ok knd PT_999 ccX5_readWolf.2.2.2 okX5_readWolf; ⟨h.1, h.2 rfl⟩
theorem omX5_readPlanLine : ok_m ((kX5_readPlanLine, 6, 3), fX5_readPlanLine) := have h := ck_m_ok knd PT_999 ccX5_readPlanLine.2.2.2 okX5_readPlanLine; ⟨h.1, h.2 rfl⟩
theorem omX5_readKnownHerd : ok_m ((kX5_readKnownHerd, 3, 2), fX5_readKnownHerd) := have h := ck_m_ok knd PT_999 ccX5_readKnownHerd.2.2.2 okX5_readKnownHerd; ⟨h.1, h.2 rfl⟩
theorem omX5_readAmount : ok_m ((kX5_readAmount, 2, 2), fX5_readAmount) := have h := ck_m_ok knd PT_999 ccX5_readAmount.2.2.2 okX5_readAmount; ⟨h.1, h.2 rfl⟩
theorem omX6_init : ok_m ((kX6_init, 1, 1), fX6_init) := have h := ck_m_ok knd PT_999 ccX6_init.2.2.2 okX6_init; ⟨h.1, h.2 rfl⟩
theorem omX6_beginOn : ok_m ((kX6_beginOn, 2, 2), fX6_beginOn) := have h := ck_m_ok knd PT_999 ccX6_beginOn.2.2.2 okX6_beginOn; ⟨h.1, h.2 rfl⟩
theorem omX6_copyFrom : ok_m ((kX6_copyFrom, 2, 2), fX6_copyFrom) := have h := ck_m_ok knd PT_999 ccX6_copyFrom.2.2.2 okX6_copyFrom; ⟨h.1, h.2 rfl⟩
theorem omX6_headsOfAll : ok_m ((kX6_headsOfAll, 4, 2), fX6_headsOfAll) := have h := ck_m_ok knd PT_999 ccX6_headsOfAll.2.2.2 okX6_headsOfAll; ⟨h.1, h.2 rfl⟩
theorem omX7_init : ok_m ((kX7_init, 1, 1), fX7_init) := have h := ck_m_ok knd PT_999 ccX7_init.2.2.2 okX7_init; ⟨h.1, h.2 rfl⟩
theorem omX7_putNumber : ok_m ((kX7_putNumber, 3, 2), fX7_putNumber) := have h := ck_m_ok knd PT_999 ccX7_putNumber.2.2.2 okX7_putNumber; ⟨h.1, h.2 rfl⟩
theorem omX7_beginText : ok_m ((kX7_beginText, 2, 2), fX7_beginText) := have h := ck_m_ok knd PT_999 ccX7_beginText.2.2.2 okX7_beginText; ⟨h.1, h.2 rfl⟩
theorem omX7_readToken : ok_m ((kX7_readToken, 1, 1), fX7_readToken) := have h := ck_m_ok knd PT_999 ccX7_readToken.2.2.2 okX7_readToken; ⟨h.1, h.2 rfl⟩
theorem omX7_readRun : ok_m ((kX7_readRun, 7, 1), fX7_readRun) := have h := ck_m_ok knd PT_999 ccX7_readRun.2.2.2 okX7_readRun; ⟨h.1, h.2 rfl⟩
theorem omX8_init : ok_m ((kX8_init, 3, 3), fX8_init) := have h := ck_m_ok knd PT_999 ccX8_init.2.2.2 okX8_init; ⟨h.1, h.2 rfl⟩
theorem omX8_ordersBy : ok_m ((kX8_ordersBy, 5, 2), fX8_ordersBy) := have h := ck_m_ok knd PT_999 ccX8_ordersBy.2.2.2 okX8_ordersBy; ⟨h.1, h.2 rfl⟩
theorem omX8_findNeighbours : ok_m ((kX8_findNeighbours, 6, 2), fX8_findNeighbours) := have h := ck_m_ok knd PT_999 ccX8_findNeighbours.2.2.2 okX8_findNeighbours; ⟨h.1, h.2 rfl⟩
theorem omX8_restsBehind : ok_m ((kX8_restsBehind, 5, 3), fX8_restsBehind) := have h := ck_m_ok knd PT_999 ccX8_restsBehind.2.2.2 okX8_restsBehind; ⟨h.1, h.2 rfl⟩
theorem omX8_seatFirst : ok_m ((kX8_seatFirst, 6, 2), fX8_seatFirst) := have h := ck_m_ok knd PT_999 ccX8_seatFirst.2.2.2 okX8_seatFirst; ⟨h.1, h.2 rfl⟩
theorem omX8_leastNext : ok_m ((kX8_leastNext, 4, 3), fX8_leastNext) := have h := ck_m_ok knd PT_999 ccX8_leastNext.2.2.2 okX8_leastNext; ⟨h.1, h.2 rfl⟩
theorem omX9_init : ok_m ((kX9_init, 3, 3), fX9_init) := have h := ck_m_ok knd PT_999 ccX9_init.2.2.2 okX9_init; ⟨h.1, h.2 rfl⟩
theorem omX9_eyeOf : ok_m ((kX9_eyeOf, 2, 2), fX9_eyeOf) := have h := ck_m_ok knd PT_999 ccX9_eyeOf.2.2.2 okX9_eyeOf; ⟨h.1, h.2 rfl⟩
theorem omX9_seenBy : ok_m ((kX9_seenBy, 2, 2), fX9_seenBy) := have h := ck_m_ok knd PT_999 ccX9_seenBy.2.2.2 okX9_seenBy; ⟨h.1, h.2 rfl⟩
theorem omX9_whoSee : ok_m ((kX9_whoSee, 7, 3), fX9_whoSee) := have h := ck_m_ok knd PT_999 ccX9_whoSee.2.2.2 okX9_whoSee; ⟨h.1, h.2 rfl⟩
theorem omX9_isClear : ok_m ((kX9_isClear, 10, 4), fX9_isClear) := have h := ck_m_ok knd PT_999 ccX9_isClear.2.2.2 okX9_isClear; ⟨h.1, h.2 rfl⟩
theorem omX9_handOn : ok_m ((kX9_handOn, 4, 2), fX9_handOn) := have h := ck_m_ok knd PT_999 ccX9_handOn.2.2.2 okX9_handOn; ⟨h.1, h.2 rfl⟩
theorem omX9_seeingsBetween : ok_m ((kX9_seeingsBetween, 6, 3), fX9_seeingsBetween) := have h := ck_m_ok knd PT_999 ccX9_seeingsBetween.2.2.2 okX9_seeingsBetween; ⟨h.1, h.2 rfl⟩
theorem omX9_fewestFires : ok_m ((kX9_fewestFires, 4, 1), fX9_fewestFires) := have h := ck_m_ok knd PT_999 ccX9_fewestFires.2.2.2 okX9_fewestFires; ⟨h.1, h.2 rfl⟩
theorem omX9_groupOf : ok_m ((kX9_groupOf, 5, 2), fX9_groupOf) := have h := ck_m_ok knd PT_999 ccX9_groupOf.2.2.2 okX9_groupOf; ⟨h.1, h.2 rfl⟩
theorem omX10_init : ok_m ((kX10_init, 2, 2), fX10_init) := have h := ck_m_ok knd PT_999 ccX10_init.2.2.2 okX10_init; ⟨h.1, h.2 rfl⟩
theorem omX10_openFor : ok_m ((kX10_openFor, 4, 3), fX10_openFor) := have h := ck_m_ok knd PT_999 ccX10_openFor.2.2.2 okX10_openFor; ⟨h.1, h.2 rfl⟩
theorem omX10_openForWolf : ok_m ((kX10_openForWolf, 3, 2), fX10_openForWolf) := have h := ck_m_ok knd PT_999 ccX10_openForWolf.2.2.2 okX10_openForWolf; ⟨h.1, h.2 rfl⟩
theorem omX10_floodFrom : ok_m ((kX10_floodFrom, 7, 2), fX10_floodFrom) := have h := ck_m_ok knd PT_999 ccX10_floodFrom.2.2.2 okX10_floodFrom; ⟨h.1, h.2 rfl⟩
theorem omX10_reachFrom : ok_m ((kX10_reachFrom, 4, 4), fX10_reachFrom) := have h := ck_m_ok knd PT_999 ccX10_reachFrom.2.2.2 okX10_reachFrom; ⟨h.1, h.2 rfl⟩
theorem omX10_stepsBetween : ok_m ((kX10_stepsBetween, 5, 5), fX10_stepsBetween) := have h := ck_m_ok knd PT_999 ccX10_stepsBetween.2.2.2 okX10_stepsBetween; ⟨h.1, h.2 rfl⟩
theorem omX10_nearer : ok_m ((kX10_nearer, 6, 2), fX10_nearer) := have h := ck_m_ok knd PT_999 ccX10_nearer.2.2.2 okX10_nearer; ⟨h.1, h.2 rfl⟩
theorem omX10_riskOf : ok_m ((kX10_riskOf, 5, 5), fX10_riskOf) := have h := ck_m_ok knd PT_999 ccX10_riskOf.2.2.2 okX10_riskOf; ⟨h.1, h.2 rfl⟩
theorem omX10_leastRisk : ok_m ((kX10_leastRisk, 5, 5), fX10_leastRisk) := have h := ck_m_ok knd PT_999 ccX10_leastRisk.2.2.2 okX10_leastRisk; ⟨h.1, h.2 rfl⟩
theorem omX10_costFrom : ok_m ((kX10_costFrom, 9, 4), fX10_costFrom) := have h := ck_m_ok knd PT_999 ccX10_costFrom.2.2.2 okX10_costFrom; ⟨h.1, h.2 rfl⟩
theorem omX10_cheapest : ok_m ((kX10_cheapest, 4, 1), fX10_cheapest) := have h := ck_m_ok knd PT_999 ccX10_cheapest.2.2.2 okX10_cheapest; ⟨h.1, h.2 rfl⟩
theorem omX10_layWay : ok_m ((kX10_layWay, 9, 5), fX10_layWay) := have h := ck_m_ok knd PT_999 ccX10_layWay.2.2.2 okX10_layWay; ⟨h.1, h.2 rfl⟩
theorem omX10_cheaper : ok_m ((kX10_cheaper, 6, 4), fX10_cheaper) := have h := ck_m_ok knd PT_999 ccX10_cheaper.2.2.2 okX10_cheaper; ⟨h.1, h.2 rfl⟩
theorem omX10_fallOf : ok_m ((kX10_fallOf, 4, 2), fX10_fallOf) := have h := ck_m_ok knd PT_999 ccX10_fallOf.2.2.2 okX10_fallOf; ⟨h.1, h.2 rfl⟩
theorem omX11_init : ok_m ((kX11_init, 2, 1), fX11_init) := have h := ck_m_ok knd PT_999 ccX11_init.2.2.2 okX11_init; ⟨h.1, h.2 rfl⟩
theorem omX11_feed : ok_m ((kX11_feed, 6, 6), fX11_feed) := have h := ck_m_ok knd PT_999 ccX11_feed.2.2.2 okX11_feed; ⟨h.1, h.2 rfl⟩
theorem omX11_end : ok_m ((kX11_end, 2, 2), fX11_end) := have h := ck_m_ok knd PT_999 ccX11_end.2.2.2 okX11_end; ⟨h.1, h.2 rfl⟩
theorem omX11_moor : ok_m ((kX11_moor, 2, 1), fX11_moor) := have h := ck_m_ok knd PT_999 ccX11_moor.2.2.2 okX11_moor; ⟨h.1, h.2 rfl⟩
theorem omX11_fault : ok_m ((kX11_fault, 1, 1), fX11_fault) := have h := ck_m_ok knd PT_999 ccX11_fault.2.2.2 okX11_fault; ⟨h.1, h.2 rfl⟩
theorem omX11_plan : ok_m ((kX11_plan, 2, 1), fX11_plan) := have h := ck_m_ok knd PT_999 ccX11_plan.2.2.2 okX11_plan; ⟨h.1, h.2 rfl⟩
theorem omX11_cell : ok_m ((kX11_cell, 3, 3), fX11_cell) := have h := ck_m_ok knd PT_999 ccX11_cell.2.2.2 okX11_cell; ⟨h.1, h.2 rfl⟩
theorem omX11_herd : ok_m ((kX11_herd, 3, 3), fX11_herd) := have h := ck_m_ok knd PT_999 ccX11_herd.2.2.2 okX11_herd; ⟨h.1, h.2 rfl⟩
theorem omX11_on : ok_m ((kX11_on, 3, 3), fX11_on) := have h := ck_m_ok knd PT_999 ccX11_on.2.2.2 okX11_on; ⟨h.1, h.2 rfl⟩
theorem omX11_timber : ok_m ((kX11_timber, 3, 1), fX11_timber) := have h := ck_m_ok knd PT_999 ccX11_timber.2.2.2 okX11_timber; ⟨h.1, h.2 rfl⟩
theorem omX11_flock : ok_m ((kX11_flock, 1, 1), fX11_flock) := have h := ck_m_ok knd PT_999 ccX11_flock.2.2.2 okX11_flock; ⟨h.1, h.2 rfl⟩
theorem omX11_deepest : ok_m ((kX11_deepest, 5, 2), fX11_deepest) := have h := ck_m_ok knd PT_999 ccX11_deepest.2.2.2 okX11_deepest; ⟨h.1, h.2 rfl⟩
theorem omX11_count : ok_m ((kX11_count, 2, 2), fX11_count) := have h := ck_m_ok knd PT_999 ccX11_count.2.2.2 okX11_count; ⟨h.1, h.2 rfl⟩
theorem omX11_near : ok_m ((kX11_near, 6, 3), fX11_near) := have h := ck_m_ok knd PT_999 ccX11_near.2.2.2 okX11_near; ⟨h.1, h.2 rfl⟩
theorem omX11_stands : ok_m ((kX11_stands, 4, 4), fX11_stands) := have h := ck_m_ok knd PT_999 ccX11_stands.2.2.2 okX11_stands; ⟨h.1, h.2 rfl⟩
theorem omX11_steps : ok_m ((kX11_steps, 5, 5), fX11_steps) := have h := ck_m_ok knd PT_999 ccX11_steps.2.2.2 okX11_steps; ⟨h.1, h.2 rfl⟩
theorem omX11_risk : ok_m ((kX11_risk, 5, 5), fX11_risk) := have h := ck_m_ok knd PT_999 ccX11_risk.2.2.2 okX11_risk; ⟨h.1, h.2 rfl⟩
theorem omX11_way : ok_m ((kX11_way, 2, 2), fX11_way) := have h := ck_m_ok knd PT_999 ccX11_way.2.2.2 okX11_way; ⟨h.1, h.2 rfl⟩
theorem omX11_ladders : ok_m ((kX11_ladders, 5, 5), fX11_ladders) := have h := ck_m_ok knd PT_999 ccX11_ladders.2.2.2 okX11_ladders; ⟨h.1, h.2 rfl⟩
theorem omX11_write : ok_m ((kX11_write, 9, 5), fX11_write) := have h := ck_m_ok knd PT_999 ccX11_write.2.2.2 okX11_write; ⟨h.1, h.2 rfl⟩
theorem omX11_byteAt : ok_m ((kX11_byteAt, 2, 2), fX11_byteAt) := have h := ck_m_ok knd PT_999 ccX11_byteAt.2.2.2 okX11_byteAt; ⟨h.1, h.2 rfl⟩
theorem omX11_passes : ok_m ((kX11_passes, 9, 5), fX11_passes) := have h := ck_m_ok knd PT_999 ccX11_passes.2.2.2 okX11_passes; ⟨h.1, h.2 rfl⟩
theorem omX11_reach : ok_m ((kX11_reach, 4, 4), fX11_reach) := have h := ck_m_ok knd PT_999 ccX11_reach.2.2.2 okX11_reach; ⟨h.1, h.2 rfl⟩
theorem omX11_widest : ok_m ((kX11_widest, 5, 1), fX11_widest) := have h := ck_m_ok knd PT_999 ccX11_widest.2.2.2 okX11_widest; ⟨h.1, h.2 rfl⟩
theorem omX11_who : ok_m ((kX11_who, 5, 3), fX11_who) := have h := ck_m_ok knd PT_999 ccX11_who.2.2.2 okX11_who; ⟨h.1, h.2 rfl⟩
theorem omX11_low : ok_m ((kX11_low, 5, 3), fX11_low) := have h := ck_m_ok knd PT_999 ccX11_low.2.2.2 okX11_low; ⟨h.1, h.2 rfl⟩
theorem omX11_high : ok_m ((kX11_high, 5, 3), fX11_high) := have h := ck_m_ok knd PT_999 ccX11_high.2.2.2 okX11_high; ⟨h.1, h.2 rfl⟩
theorem omX11_cut : ok_m ((kX11_cut, 6, 5), fX11_cut) := have h := ck_m_ok knd PT_999 ccX11_cut.2.2.2 okX11_cut; ⟨h.1, h.2 rfl⟩
theorem omX11_drowns : ok_m ((kX11_drowns, 10, 5), fX11_drowns) := have h := ck_m_ok knd PT_999 ccX11_drowns.2.2.2 okX11_drowns; ⟨h.1, h.2 rfl⟩
theorem omX11_dry : ok_m ((kX11_dry, 7, 4), fX11_dry) := have h := ck_m_ok knd PT_999 ccX11_dry.2.2.2 okX11_dry; ⟨h.1, h.2 rfl⟩
theorem omX11_sees : ok_m ((kX11_sees, 2, 2), fX11_sees) := have h := ck_m_ok knd PT_999 ccX11_sees.2.2.2 okX11_sees; ⟨h.1, h.2 rfl⟩
theorem omX11_saw : ok_m ((kX11_saw, 3, 3), fX11_saw) := have h := ck_m_ok knd PT_999 ccX11_saw.2.2.2 okX11_saw; ⟨h.1, h.2 rfl⟩
theorem omX11_handed : ok_m ((kX11_handed, 3, 3), fX11_handed) := have h := ck_m_ok knd PT_999 ccX11_handed.2.2.2 okX11_handed; ⟨h.1, h.2 rfl⟩
theorem omX11_fires : ok_m ((kX11_fires, 1, 1), fX11_fires) := have h := ck_m_ok knd PT_999 ccX11_fires.2.2.2 okX11_fires; ⟨h.1, h.2 rfl⟩
theorem omX11_wolf : ok_m ((kX11_wolf, 2, 2), fX11_wolf) := have h := ck_m_ok knd PT_999 ccX11_wolf.2.2.2 okX11_wolf; ⟨h.1, h.2 rfl⟩
theorem omX11_lost : ok_m ((kX11_lost, 3, 3), fX11_lost) := have h := ck_m_ok knd PT_999 ccX11_lost.2.2.2 okX11_lost; ⟨h.1, h.2 rfl⟩
theorem omX11_holes : ok_m ((kX11_holes, 5, 1), fX11_holes) := have h := ck_m_ok knd PT_999 ccX11_holes.2.2.2 okX11_holes; ⟨h.1, h.2 rfl⟩
theorem omX11_seats : ok_m ((kX11_seats, 2, 2), fX11_seats) := have h := ck_m_ok knd PT_999 ccX11_seats.2.2.2 okX11_seats; ⟨h.1, h.2 rfl⟩
theorem omX11_seat : ok_m ((kX11_seat, 2, 2), fX11_seat) := have h := ck_m_ok knd PT_999 ccX11_seat.2.2.2 okX11_seat; ⟨h.1, h.2 rfl⟩
theorem omX11_walk : ok_m ((kX11_walk, 5, 5), fX11_walk) := have h := ck_m_ok knd PT_999 ccX11_walk.2.2.2 okX11_walk; ⟨h.1, h.2 rfl⟩
theorem omX11_falls : ok_m ((kX11_falls, 8, 6), fX11_falls) := have h := ck_m_ok knd PT_999 ccX11_falls.2.2.2 okX11_falls; ⟨h.1, h.2 rfl⟩
theorem omX11_go : ok_m ((kX11_go, 3, 3), fX11_go) := have h := ck_m_ok knd PT_999 ccX11_go.2.2.2 okX11_go; ⟨h.1, h.2 rfl⟩
theorem omX11_trade : ok_m ((kX11_trade, 4, 4), fX11_trade) := have h := ck_m_ok knd PT_999 ccX11_trade.2.2.2 okX11_trade; ⟨h.1, h.2 rfl⟩
theorem omX11_day : ok_m ((kX11_day, 1, 1), fX11_day) := have h := ck_m_ok knd PT_999 ccX11_day.2.2.2 okX11_day; ⟨h.1, h.2 rfl⟩
theorem omX11_night : ok_m ((kX11_night, 3, 2), fX11_night) := have h := ck_m_ok knd PT_999 ccX11_night.2.2.2 okX11_night; ⟨h.1, h.2 rfl⟩
theorem omX11_undo : ok_m ((kX11_undo, 1, 1), fX11_undo) := have h := ck_m_ok knd PT_999 ccX11_undo.2.2.2 okX11_undo; ⟨h.1, h.2 rfl⟩
theorem omX11_judge : ok_m ((kX11_judge, 3, 2), fX11_judge) := have h := ck_m_ok knd PT_999 ccX11_judge.2.2.2 okX11_judge; ⟨h.1, h.2 rfl⟩
theorem omX11_judged : ok_m ((kX11_judged, 2, 2), fX11_judged) := have h := ck_m_ok knd PT_999 ccX11_judged.2.2.2 okX11_judged; ⟨h.1, h.2 rfl⟩
theorem omX11_image : ok_m ((kX11_image, 2, 2), fX11_image) := have h := ck_m_ok knd PT_999 ccX11_image.2.2.2 okX11_image; ⟨h.1, h.2 rfl⟩
theorem omX11_restore : ok_m ((kX11_restore, 2, 2), fX11_restore) := have h := ck_m_ok knd PT_999 ccX11_restore.2.2.2 okX11_restore; ⟨h.1, h.2 rfl⟩
theorem omX11_settled : ok_m ((kX11_settled, 2, 2), fX11_settled) := have h := ck_m_ok knd PT_999 ccX11_settled.2.2.2 okX11_settled; ⟨h.1, h.2 rfl⟩
theorem omX11_isHerd : ok_m ((kX11_isHerd, 2, 2), fX11_isHerd) := have h := ck_m_ok knd PT_999 ccX11_isHerd.2.2.2 okX11_isHerd; ⟨h.1, h.2 rfl⟩
theorem omX11_isDay : ok_m ((kX11_isDay, 1, 1), fX11_isDay) := have h := ck_m_ok knd PT_999 ccX11_isDay.2.2.2 okX11_isDay; ⟨h.1, h.2 rfl⟩
theorem omX11_isNumber : ok_m ((kX11_isNumber, 1, 1), fX11_isNumber) := have h := ck_m_ok knd PT_999 ccX11_isNumber.2.2.2 okX11_isNumber; ⟨h.1, h.2 rfl⟩
theorem omX11_isNight : ok_m ((kX11_isNight, 1, 1), fX11_isNight) := have h := ck_m_ok knd PT_999 ccX11_isNight.2.2.2 okX11_isNight; ⟨h.1, h.2 rfl⟩
theorem omX11_areSuch : ok_m ((kX11_areSuch, 5, 5), fX11_areSuch) := have h := ck_m_ok knd PT_999 ccX11_areSuch.2.2.2 okX11_areSuch; ⟨h.1, h.2 rfl⟩
theorem omX11_waterToday : ok_m ((kX11_waterToday, 1, 1), fX11_waterToday) := have h := ck_m_ok knd PT_999 ccX11_waterToday.2.2.2 okX11_waterToday; ⟨h.1, h.2 rfl⟩
theorem omX11_stiltsOf : ok_m ((kX11_stiltsOf, 2, 2), fX11_stiltsOf) := have h := ck_m_ok knd PT_999 ccX11_stiltsOf.2.2.2 okX11_stiltsOf; ⟨h.1, h.2 rfl⟩
theorem omX11_herdsOn : ok_m ((kX11_herdsOn, 4, 2), fX11_herdsOn) := have h := ck_m_ok knd PT_999 ccX11_herdsOn.2.2.2 okX11_herdsOn; ⟨h.1, h.2 rfl⟩
theorem omX11_holesAreOnCells : ok_m ((kX11_holesAreOnCells, 2, 1), fX11_holesAreOnCells) := have h := ck_m_ok knd PT_999 ccX11_holesAreOnCells.2.2.2 okX11_holesAreOnCells; ⟨h.1, h.2 rfl⟩
theorem omX11_leavesHoles : ok_m ((kX11_leavesHoles, 5, 2), fX11_leavesHoles) := have h := ck_m_ok knd PT_999 ccX11_leavesHoles.2.2.2 okX11_leavesHoles; ⟨h.1, h.2 rfl⟩
theorem omX12_thrown : ok_m ((kX12_thrown, 1, 1), fX12_thrown) := have h := ck_m_ok knd PT_999 ccX12_thrown.2.2.2 okX12_thrown; ⟨h.1, h.2 rfl⟩
theorem omX12_throwsIf : ok_m ((kX12_throwsIf, 2, 2), fX12_throwsIf) := have h := ck_m_ok knd PT_999 ccX12_throwsIf.2.2.2 okX12_throwsIf; ⟨h.1, h.2 rfl⟩
theorem omX12_feed : ok_m ((kX12_feed, 6, 6), fX12_feed) := have h := ck_m_ok knd PT_999 ccX12_feed.2.2.2 okX12_feed; ⟨h.1, h.2 rfl⟩
theorem omX12_four : ok_m ((kX12_four, 3, 2), fX12_four) := have h := ck_m_ok knd PT_999 ccX12_four.2.2.2 okX12_four; ⟨h.1, h.2 rfl⟩
theorem omX12_end : ok_m ((kX12_end, 2, 2), fX12_end) := have h := ck_m_ok knd PT_999 ccX12_end.2.2.2 okX12_end; ⟨h.1, h.2 rfl⟩
theorem omX12_taken : ok_m ((kX12_taken, 2, 2), fX12_taken) := have h := ck_m_ok knd PT_999 ccX12_taken.2.2.2 okX12_taken; ⟨h.1, h.2 rfl⟩
theorem omX12_isIn : ok_m ((kX12_isIn, 3, 3), fX12_isIn) := have h := ck_m_ok knd PT_999 ccX12_isIn.2.2.2 okX12_isIn; ⟨h.1, h.2 rfl⟩
theorem omX12_has : ok_m ((kX12_has, 2, 2), fX12_has) := have h := ck_m_ok knd PT_999 ccX12_has.2.2.2 okX12_has; ⟨h.1, h.2 rfl⟩
theorem omX12_sizeOf : ok_m ((kX12_sizeOf, 1, 1), fX12_sizeOf) := have h := ck_m_ok knd PT_999 ccX12_sizeOf.2.2.2 okX12_sizeOf; ⟨h.1, h.2 rfl⟩
theorem omX12_octet : ok_m ((kX12_octet, 2, 2), fX12_octet) := have h := ck_m_ok knd PT_999 ccX12_octet.2.2.2 okX12_octet; ⟨h.1, h.2 rfl⟩
theorem omX12_init : ok_m ((kX12_init, 1, 1), fX12_init) := have h := ck_m_ok knd PT_999 ccX12_init.2.2.2 okX12_init; ⟨h.1, h.2 rfl⟩
theorem omX12_peek : ok_m ((kX12_peek, 1, 1), fX12_peek) := have h := ck_m_ok knd PT_999 ccX12_peek.2.2.2 okX12_peek; ⟨h.1, h.2 rfl⟩
theorem omX12_isSmall : ok_m ((kX12_isSmall, 1, 1), fX12_isSmall) := have h := ck_m_ok knd PT_999 ccX12_isSmall.2.2.2 okX12_isSmall; ⟨h.1, h.2 rfl⟩
theorem omX12_isDigit : ok_m ((kX12_isDigit, 1, 1), fX12_isDigit) := have h := ck_m_ok knd PT_999 ccX12_isDigit.2.2.2 okX12_isDigit; ⟨h.1, h.2 rfl⟩
theorem omX12_next : ok_m ((kX12_next, 4, 1), fX12_next) := have h := ck_m_ok knd PT_999 ccX12_next.2.2.2 okX12_next; ⟨h.1, h.2 rfl⟩
theorem omX12_bad : ok_m ((kX12_bad, 2, 2), fX12_bad) := have h := ck_m_ok knd PT_999 ccX12_bad.2.2.2 okX12_bad; ⟨h.1, h.2 rfl⟩
theorem omX12_isWord : ok_m ((kX12_isWord, 3, 2), fX12_isWord) := have h := ck_m_ok knd PT_999 ccX12_isWord.2.2.2 okX12_isWord; ⟨h.1, h.2 rfl⟩
theorem omX12_isSign : ok_m ((kX12_isSign, 2, 2), fX12_isSign) := have h := ck_m_ok knd PT_999 ccX12_isSign.2.2.2 okX12_isSign; ⟨h.1, h.2 rfl⟩
theorem omX12_sign : ok_m ((kX12_sign, 2, 2), fX12_sign) := have h := ck_m_ok knd PT_999 ccX12_sign.2.2.2 okX12_sign; ⟨h.1, h.2 rfl⟩
theorem omX12_isName : ok_m ((kX12_isName, 3, 1), fX12_isName) := have h := ck_m_ok knd PT_999 ccX12_isName.2.2.2 okX12_isName; ⟨h.1, h.2 rfl⟩
theorem omX12_takes : ok_m ((kX12_takes, 3, 3), fX12_takes) := have h := ck_m_ok knd PT_999 ccX12_takes.2.2.2 okX12_takes; ⟨h.1, h.2 rfl⟩
theorem omX12_find : ok_m ((kX12_find, 4, 3), fX12_find) := have h := ck_m_ok knd PT_999 ccX12_find.2.2.2 okX12_find; ⟨h.1, h.2 rfl⟩
theorem omX12_line : ok_m ((kX12_line, 1, 1), fX12_line) := have h := ck_m_ok knd PT_999 ccX12_line.2.2.2 okX12_line; ⟨h.1, h.2 rfl⟩
theorem omX12_isOnce : ok_m ((kX12_isOnce, 2, 2), fX12_isOnce) := have h := ck_m_ok knd PT_999 ccX12_isOnce.2.2.2 okX12_isOnce; ⟨h.1, h.2 rfl⟩
theorem omX12_readRow : ok_m ((kX12_readRow, 3, 1), fX12_readRow) := have h := ck_m_ok knd PT_999 ccX12_readRow.2.2.2 okX12_readRow; ⟨h.1, h.2 rfl⟩
theorem omX12_readDay : ok_m ((kX12_readDay, 3, 2), fX12_readDay) := have h := ck_m_ok knd PT_999 ccX12_readDay.2.2.2 okX12_readDay; ⟨h.1, h.2 rfl⟩
theorem omX12_takesCell : ok_m ((kX12_takesCell, 2, 1), fX12_takesCell) := have h := ck_m_ok knd PT_999 ccX12_takesCell.2.2.2 okX12_takesCell; ⟨h.1, h.2 rfl⟩
theorem omX12_readOn : ok_m ((kX12_readOn, 5, 3), fX12_readOn) := have h := ck_m_ok knd PT_999 ccX12_readOn.2.2.2 okX12_readOn; ⟨h.1, h.2 rfl⟩
theorem omX12_readHerd : ok_m ((kX12_readHerd, 2, 1), fX12_readHerd) := have h := ck_m_ok knd PT_999 ccX12_readHerd.2.2.2 okX12_readHerd; ⟨h.1, h.2 rfl⟩
theorem omX12_moor : ok_m ((kX12_moor, 2, 1), fX12_moor) := have h := ck_m_ok knd PT_999 ccX12_moor.2.2.2 okX12_moor; ⟨h.1, h.2 rfl⟩
theorem omX12_fault : ok_m ((kX12_fault, 1, 1), fX12_fault) := have h := ck_m_ok knd PT_999 ccX12_fault.2.2.2 okX12_fault; ⟨h.1, h.2 rfl⟩
theorem omX12_isCell : ok_m ((kX12_isCell, 2, 2), fX12_isCell) := have h := ck_m_ok knd PT_999 ccX12_isCell.2.2.2 okX12_isCell; ⟨h.1, h.2 rfl⟩
theorem omX12_isHerd : ok_m ((kX12_isHerd, 2, 2), fX12_isHerd) := have h := ck_m_ok knd PT_999 ccX12_isHerd.2.2.2 okX12_isHerd; ⟨h.1, h.2 rfl⟩
theorem omX12_isDay : ok_m ((kX12_isDay, 1, 1), fX12_isDay) := have h := ck_m_ok knd PT_999 ccX12_isDay.2.2.2 okX12_isDay; ⟨h.1, h.2 rfl⟩
theorem omX12_isTall : ok_m ((kX12_isTall, 1, 1), fX12_isTall) := have h := ck_m_ok knd PT_999 ccX12_isTall.2.2.2 okX12_isTall; ⟨h.1, h.2 rfl⟩
theorem omX12_onDay : ok_m ((kX12_onDay, 4, 3), fX12_onDay) := have h := ck_m_ok knd PT_999 ccX12_onDay.2.2.2 okX12_onDay; ⟨h.1, h.2 rfl⟩
theorem omX12_stiltsBy : ok_m ((kX12_stiltsBy, 2, 2), fX12_stiltsBy) := have h := ck_m_ok knd PT_999 ccX12_stiltsBy.2.2.2 okX12_stiltsBy; ⟨h.1, h.2 rfl⟩
theorem omX12_stiltsOf : ok_m ((kX12_stiltsOf, 2, 2), fX12_stiltsOf) := have h := ck_m_ok knd PT_999 ccX12_stiltsOf.2.2.2 okX12_stiltsOf; ⟨h.1, h.2 rfl⟩
theorem omX12_eyeOf : ok_m ((kX12_eyeOf, 2, 2), fX12_eyeOf) := have h := ck_m_ok knd PT_999 ccX12_eyeOf.2.2.2 okX12_eyeOf; ⟨h.1, h.2 rfl⟩
theorem omX12_timberOf : ok_m ((kX12_timberOf, 2, 2), fX12_timberOf) := have h := ck_m_ok knd PT_999 ccX12_timberOf.2.2.2 okX12_timberOf; ⟨h.1, h.2 rfl⟩
theorem omX12_of : ok_m ((kX12_of, 2, 2), fX12_of) := have h := ck_m_ok knd PT_999 ccX12_of.2.2.2 okX12_of; ⟨h.1, h.2 rfl⟩
theorem omX12_depthOf : ok_m ((kX12_depthOf, 2, 2), fX12_depthOf) := have h := ck_m_ok knd PT_999 ccX12_depthOf.2.2.2 okX12_depthOf; ⟨h.1, h.2 rfl⟩
theorem omX12_standsOn : ok_m ((kX12_standsOn, 3, 3), fX12_standsOn) := have h := ck_m_ok knd PT_999 ccX12_standsOn.2.2.2 okX12_standsOn; ⟨h.1, h.2 rfl⟩
theorem omX12_cell : ok_m ((kX12_cell, 5, 3), fX12_cell) := have h := ck_m_ok knd PT_999 ccX12_cell.2.2.2 okX12_cell; ⟨h.1, h.2 rfl⟩
theorem omX12_herd : ok_m ((kX12_herd, 3, 3), fX12_herd) := have h := ck_m_ok knd PT_999 ccX12_herd.2.2.2 okX12_herd; ⟨h.1, h.2 rfl⟩
theorem omX12_on : ok_m ((kX12_on, 3, 3), fX12_on) := have h := ck_m_ok knd PT_999 ccX12_on.2.2.2 okX12_on; ⟨h.1, h.2 rfl⟩
theorem omX12_timber : ok_m ((kX12_timber, 3, 1), fX12_timber) := have h := ck_m_ok knd PT_999 ccX12_timber.2.2.2 okX12_timber; ⟨h.1, h.2 rfl⟩
theorem omX12_heads : ok_m ((kX12_heads, 3, 1), fX12_heads) := have h := ck_m_ok knd PT_999 ccX12_heads.2.2.2 okX12_heads; ⟨h.1, h.2 rfl⟩
theorem omX12_flock : ok_m ((kX12_flock, 1, 1), fX12_flock) := have h := ck_m_ok knd PT_999 ccX12_flock.2.2.2 okX12_flock; ⟨h.1, h.2 rfl⟩
theorem omX12_deepest : ok_m ((kX12_deepest, 4, 2), fX12_deepest) := have h := ck_m_ok knd PT_999 ccX12_deepest.2.2.2 okX12_deepest; ⟨h.1, h.2 rfl⟩
theorem omX12_beside : ok_m ((kX12_beside, 5, 3), fX12_beside) := have h := ck_m_ok knd PT_999 ccX12_beside.2.2.2 okX12_beside; ⟨h.1, h.2 rfl⟩
theorem omX12_spread : ok_m ((kX12_spread, 7, 3), fX12_spread) := have h := ck_m_ok knd PT_999 ccX12_spread.2.2.2 okX12_spread; ⟨h.1, h.2 rfl⟩
theorem omX12_stepsOf : ok_m ((kX12_stepsOf, 4, 4), fX12_stepsOf) := have h := ck_m_ok knd PT_999 ccX12_stepsOf.2.2.2 okX12_stepsOf; ⟨h.1, h.2 rfl⟩
theorem omX12_areAll : ok_m ((kX12_areAll, 5, 5), fX12_areAll) := have h := ck_m_ok knd PT_999 ccX12_areAll.2.2.2 okX12_areAll; ⟨h.1, h.2 rfl⟩
theorem omX12_stands : ok_m ((kX12_stands, 4, 4), fX12_stands) := have h := ck_m_ok knd PT_999 ccX12_stands.2.2.2 okX12_stands; ⟨h.1, h.2 rfl⟩
theorem omX12_steps : ok_m ((kX12_steps, 5, 5), fX12_steps) := have h := ck_m_ok knd PT_999 ccX12_steps.2.2.2 okX12_steps; ⟨h.1, h.2 rfl⟩
theorem omX12_near : ok_m ((kX12_near, 5, 3), fX12_near) := have h := ck_m_ok knd PT_999 ccX12_near.2.2.2 okX12_near; ⟨h.1, h.2 rfl⟩
theorem omX12_riskOf : ok_m ((kX12_riskOf, 4, 4), fX12_riskOf) := have h := ck_m_ok knd PT_999 ccX12_riskOf.2.2.2 okX12_riskOf; ⟨h.1, h.2 rfl⟩
theorem omX12_risks : ok_m ((kX12_risks, 8, 3), fX12_risks) := have h := ck_m_ok knd PT_999 ccX12_risks.2.2.2 okX12_risks; ⟨h.1, h.2 rfl⟩
theorem omX12_risk : ok_m ((kX12_risk, 5, 5), fX12_risk) := have h := ck_m_ok knd PT_999 ccX12_risk.2.2.2 okX12_risk; ⟨h.1, h.2 rfl⟩
theorem omX12_ladders : ok_m ((kX12_ladders, 10, 5), fX12_ladders) := have h := ck_m_ok knd PT_999 ccX12_ladders.2.2.2 okX12_ladders; ⟨h.1, h.2 rfl⟩
theorem omX12_comes : ok_m ((kX12_comes, 5, 4), fX12_comes) := have h := ck_m_ok knd PT_999 ccX12_comes.2.2.2 okX12_comes; ⟨h.1, h.2 rfl⟩
theorem omX12_write : ok_m ((kX12_write, 8, 5), fX12_write) := have h := ck_m_ok knd PT_999 ccX12_write.2.2.2 okX12_write; ⟨h.1, h.2 rfl⟩
theorem omX12_byteAt : ok_m ((kX12_byteAt, 2, 2), fX12_byteAt) := have h := ck_m_ok knd PT_999 ccX12_byteAt.2.2.2 okX12_byteAt; ⟨h.1, h.2 rfl⟩
theorem omX12_passes : ok_m ((kX12_passes, 9, 5), fX12_passes) := have h := ck_m_ok knd PT_999 ccX12_passes.2.2.2 okX12_passes; ⟨h.1, h.2 rfl⟩
theorem omX12_reached : ok_m ((kX12_reached, 3, 1), fX12_reached) := have h := ck_m_ok knd PT_999 ccX12_reached.2.2.2 okX12_reached; ⟨h.1, h.2 rfl⟩
theorem omX12_reach : ok_m ((kX12_reach, 4, 4), fX12_reach) := have h := ck_m_ok knd PT_999 ccX12_reach.2.2.2 okX12_reach; ⟨h.1, h.2 rfl⟩
theorem omX12_areSeen : ok_m ((kX12_areSeen, 11, 5), fX12_areSeen) := have h := ck_m_ok knd PT_999 ccX12_areSeen.2.2.2 okX12_areSeen; ⟨h.1, h.2 rfl⟩
theorem omX12_seenBy : ok_m ((kX12_seenBy, 4, 2), fX12_seenBy) := have h := ck_m_ok knd PT_999 ccX12_seenBy.2.2.2 okX12_seenBy; ⟨h.1, h.2 rfl⟩
theorem omX12_sees : ok_m ((kX12_sees, 2, 2), fX12_sees) := have h := ck_m_ok knd PT_999 ccX12_sees.2.2.2 okX12_sees; ⟨h.1, h.2 rfl⟩
theorem omX12_saw : ok_m ((kX12_saw, 5, 3), fX12_saw) := have h := ck_m_ok knd PT_999 ccX12_saw.2.2.2 okX12_saw; ⟨h.1, h.2 rfl⟩
theorem omX12_more : ok_m ((kX12_more, 4, 2), fX12_more) := have h := ck_m_ok knd PT_999 ccX12_more.2.2.2 okX12_more; ⟨h.1, h.2 rfl⟩
theorem omX12_handed : ok_m ((kX12_handed, 5, 3), fX12_handed) := have h := ck_m_ok knd PT_999 ccX12_handed.2.2.2 okX12_handed; ⟨h.1, h.2 rfl⟩
theorem omX12_fires : ok_m ((kX12_fires, 6, 1), fX12_fires) := have h := ck_m_ok knd PT_999 ccX12_fires.2.2.2 okX12_fires; ⟨h.1, h.2 rfl⟩
theorem omX12_wolf : ok_m ((kX12_wolf, 2, 2), fX12_wolf) := have h := ck_m_ok knd PT_999 ccX12_wolf.2.2.2 okX12_wolf; ⟨h.1, h.2 rfl⟩
theorem omX12_round : ok_m ((kX12_round, 7, 1), fX12_round) := have h := ck_m_ok knd PT_999 ccX12_round.2.2.2 okX12_round; ⟨h.1, h.2 rfl⟩
theorem omX12_nights : ok_m ((kX12_nights, 4, 2), fX12_nights) := have h := ck_m_ok knd PT_999 ccX12_nights.2.2.2 okX12_nights; ⟨h.1, h.2 rfl⟩
theorem omX12_keep : ok_m ((kX12_keep, 2, 1), fX12_keep) := have h := ck_m_ok knd PT_999 ccX12_keep.2.2.2 okX12_keep; ⟨h.1, h.2 rfl⟩
theorem omX12_undo : ok_m ((kX12_undo, 2, 1), fX12_undo) := have h := ck_m_ok knd PT_999 ccX12_undo.2.2.2 okX12_undo; ⟨h.1, h.2 rfl⟩
theorem omX12_gone : ok_m ((kX12_gone, 3, 3), fX12_gone) := have h := ck_m_ok knd PT_999 ccX12_gone.2.2.2 okX12_gone; ⟨h.1, h.2 rfl⟩
theorem omX12_go : ok_m ((kX12_go, 3, 3), fX12_go) := have h := ck_m_ok knd PT_999 ccX12_go.2.2.2 okX12_go; ⟨h.1, h.2 rfl⟩
theorem omX12_whyTrade : ok_m ((kX12_whyTrade, 4, 4), fX12_whyTrade) := have h := ck_m_ok knd PT_999 ccX12_whyTrade.2.2.2 okX12_whyTrade; ⟨h.1, h.2 rfl⟩
theorem omX12_trade : ok_m ((kX12_trade, 5, 4), fX12_trade) := have h := ck_m_ok knd PT_999 ccX12_trade.2.2.2 okX12_trade; ⟨h.1, h.2 rfl⟩
theorem omX12_day : ok_m ((kX12_day, 1, 1), fX12_day) := have h := ck_m_ok knd PT_999 ccX12_day.2.2.2 okX12_day; ⟨h.1, h.2 rfl⟩
theorem omX12_night : ok_m ((kX12_night, 2, 2), fX12_night) := have h := ck_m_ok knd PT_999 ccX12_night.2.2.2 okX12_night; ⟨h.1, h.2 rfl⟩
theorem omX12_lost : ok_m ((kX12_lost, 5, 3), fX12_lost) := have h := ck_m_ok knd PT_999 ccX12_lost.2.2.2 okX12_lost; ⟨h.1, h.2 rfl⟩
theorem omX12_passesBy : ok_m ((kX12_passesBy, 4, 4), fX12_passesBy) := have h := ck_m_ok knd PT_999 ccX12_passesBy.2.2.2 okX12_passesBy; ⟨h.1, h.2 rfl⟩
theorem omX12_low : ok_m ((kX12_low, 4, 3), fX12_low) := have h := ck_m_ok knd PT_999 ccX12_low.2.2.2 okX12_low; ⟨h.1, h.2 rfl⟩
theorem omX12_high : ok_m ((kX12_high, 4, 3), fX12_high) := have h := ck_m_ok knd PT_999 ccX12_high.2.2.2 okX12_high; ⟨h.1, h.2 rfl⟩
theorem omX12_holes : ok_m ((kX12_holes, 6, 1), fX12_holes) := have h := ck_m_ok knd PT_999 ccX12_holes.2.2.2 okX12_holes; ⟨h.1, h.2 rfl⟩
theorem omX12_mayNeighbour : ok_m ((kX12_mayNeighbour, 4, 4), fX12_mayNeighbour) := have h := ck_m_ok knd PT_999 ccX12_mayNeighbour.2.2.2 okX12_mayNeighbour; ⟨h.1, h.2 rfl⟩
theorem omX12_seats : ok_m ((kX12_seats, 8, 2), fX12_seats) := have h := ck_m_ok knd PT_999 ccX12_seats.2.2.2 okX12_seats; ⟨h.1, h.2 rfl⟩
theorem omX12_seat : ok_m ((kX12_seat, 2, 2), fX12_seat) := have h := ck_m_ok knd PT_999 ccX12_seat.2.2.2 okX12_seat; ⟨h.1, h.2 rfl⟩
theorem omX12_cut : ok_m ((kX12_cut, 6, 5), fX12_cut) := have h := ck_m_ok knd PT_999 ccX12_cut.2.2.2 okX12_cut; ⟨h.1, h.2 rfl⟩
theorem omX12_drowns : ok_m ((kX12_drowns, 6, 5), fX12_drowns) := have h := ck_m_ok knd PT_999 ccX12_drowns.2.2.2 okX12_drowns; ⟨h.1, h.2 rfl⟩
theorem omX12_dry : ok_m ((kX12_dry, 5, 4), fX12_dry) := have h := ck_m_ok knd PT_999 ccX12_dry.2.2.2 okX12_dry; ⟨h.1, h.2 rfl⟩
theorem omX12_widest : ok_m ((kX12_widest, 4, 1), fX12_widest) := have h := ck_m_ok knd PT_999 ccX12_widest.2.2.2 okX12_widest; ⟨h.1, h.2 rfl⟩
theorem omX12_who : ok_m ((kX12_who, 5, 3), fX12_who) := have h := ck_m_ok knd PT_999 ccX12_who.2.2.2 okX12_who; ⟨h.1, h.2 rfl⟩
theorem omX12_draw : ok_m ((kX12_draw, 2, 2), fX12_draw) := have h := ck_m_ok knd PT_999 ccX12_draw.2.2.2 okX12_draw; ⟨h.1, h.2 rfl⟩
theorem omX12_riskWay : ok_m ((kX12_riskWay, 6, 3), fX12_riskWay) := have h := ck_m_ok knd PT_999 ccX12_riskWay.2.2.2 okX12_riskWay; ⟨h.1, h.2 rfl⟩
theorem omX12_fallOf : ok_m ((kX12_fallOf, 5, 4), fX12_fallOf) := have h := ck_m_ok knd PT_999 ccX12_fallOf.2.2.2 okX12_fallOf; ⟨h.1, h.2 rfl⟩
theorem omX12_walk : ok_m ((kX12_walk, 6, 5), fX12_walk) := have h := ck_m_ok knd PT_999 ccX12_walk.2.2.2 okX12_walk; ⟨h.1, h.2 rfl⟩
theorem omX12_way : ok_m ((kX12_way, 2, 2), fX12_way) := have h := ck_m_ok knd PT_999 ccX12_way.2.2.2 okX12_way; ⟨h.1, h.2 rfl⟩
theorem omX12_falls : ok_m ((kX12_falls, 9, 6), fX12_falls) := have h := ck_m_ok knd PT_999 ccX12_falls.2.2.2 okX12_falls; ⟨h.1, h.2 rfl⟩
theorem omX12_planLine : ok_m ((kX12_planLine, 5, 1), fX12_planLine) := have h := ck_m_ok knd PT_999 ccX12_planLine.2.2.2 okX12_planLine; ⟨h.1, h.2 rfl⟩
theorem omX12_plan : ok_m ((kX12_plan, 2, 1), fX12_plan) := have h := ck_m_ok knd PT_999 ccX12_plan.2.2.2 okX12_plan; ⟨h.1, h.2 rfl⟩
theorem omX12_does : ok_m ((kX12_does, 6, 4), fX12_does) := have h := ck_m_ok knd PT_999 ccX12_does.2.2.2 okX12_does; ⟨h.1, h.2 rfl⟩
theorem omX12_judge : ok_m ((kX12_judge, 5, 2), fX12_judge) := have h := ck_m_ok knd PT_999 ccX12_judge.2.2.2 okX12_judge; ⟨h.1, h.2 rfl⟩
theorem omX12_judged : ok_m ((kX12_judged, 2, 2), fX12_judged) := have h := ck_m_ok knd PT_999 ccX12_judged.2.2.2 okX12_judged; ⟨h.1, h.2 rfl⟩
theorem omX12_image : ok_m ((kX12_image, 3, 2), fX12_image) := have h := ck_m_ok knd PT_999 ccX12_image.2.2.2 okX12_image; ⟨h.1, h.2 rfl⟩
theorem omX12_restore : ok_m ((kX12_restore, 3, 2), fX12_restore) := have h := ck_m_ok knd PT_999 ccX12_restore.2.2.2 okX12_restore; ⟨h.1, h.2 rfl⟩
theorem omX12_count : ok_m ((kX12_count, 2, 2), fX12_count) := have h := ck_m_ok knd PT_999 ccX12_count.2.2.2 okX12_count; ⟨h.1, h.2 rfl⟩
theorem omJ6_signum_0f7a4 : ok_m ((kJ6_signum_0f7a4, 1, 1), fJ6_signum_0f7a4) := have h := ck_m_ok knd PT_999 ccJ6_signum_0f7a4.2.2.2 okJ6_signum_0f7a4; ⟨h.1, h.2 rfl⟩
theorem omJ7_fill_d0a16 : ok_m ((kJ7_fill_d0a16, 5, 2), fJ7_fill_d0a16) := have h := ck_m_ok knd PT_999 ccJ7_fill_d0a16.2.2.2 okJ7_fill_d0a16; ⟨h.1, h.2 rfl⟩
theorem omJ7_fill_53178 : ok_m ((kJ7_fill_53178, 4, 2), fJ7_fill_53178) := have h := ck_m_ok knd PT_999 ccJ7_fill_53178.2.2.2 okJ7_fill_53178; ⟨h.1, h.2 rfl⟩
def MT0 : List (MM × MF) := [((kX0_init, 5, 4), fX0_init), ((kX0_begin, 1, 1), fX0_begin), ((kX0_settle, 1, 1), fX0_settle), ((kX0_forget, 1, 1), fX0_forget), ((kX0_takeBack, 1, 1), fX0_takeBack), ((kX0_move, 5, 3), fX0_move), ((kX0_sell, 3, 3), fX0_sell), ((kX0_buy, 3, 3), fX0_buy), ((kX0_dawn, 1, 1), fX0_dawn), ((kX0_hunt, 5, 2), fX0_hunt), ((kX0_preyAtHand, 2, 1), fX0_preyAtHand), ((kX0_prowl, 5, 1), fX0_prowl), ((kX0_follow, 5, 2), fX0_follow), ((kX0_followLine, 3, 3), fX0_followLine), ((kX1_init, 2, 2), fX1_init), ((kX1_has, 3, 3), fX1_has), ((kX1_between, 5, 3), fX1_between), ((kX1_prepare, 6, 2), fX1_prepare), ((kX1_passFrom, 4, 3), fX1_passFrom), ((kX1_passesWith, 3, 3), fX1_passesWith)]
theorem ck_MT0 : ∀ q ∈ MT0, ok_m q := (List.forall_mem_cons.mpr ⟨omX0_init, (List.forall_mem_cons.mpr ⟨omX0_begin, (List.forall_mem_cons.mpr ⟨omX0_settle, (List.forall_mem_cons.mpr ⟨omX0_forget, (List.forall_mem_cons.mpr ⟨omX0_takeBack, (List.forall_mem_cons.mpr ⟨omX0_move, (List.forall_mem_cons.mpr ⟨omX0_sell, (List.forall_mem_cons.mpr ⟨omX0_buy, (List.forall_mem_cons.mpr ⟨omX0_dawn, (List.forall_mem_cons.mpr ⟨omX0_hunt, (List.forall_mem_cons.mpr ⟨omX0_preyAtHand, (List.forall_mem_cons.mpr ⟨omX0_prowl, (List.forall_mem_cons.mpr ⟨omX0_follow, (List.forall_mem_cons.mpr ⟨omX0_followLine, (List.forall_mem_cons.mpr ⟨omX1_init, (List.forall_mem_cons.mpr ⟨omX1_has, (List.forall_mem_cons.mpr ⟨omX1_between, (List.forall_mem_cons.mpr ⟨omX1_prepare, (List.forall_mem_cons.mpr ⟨omX1_passFrom, (List.forall_mem_cons.mpr ⟨omX1_passesWith, (fun _ h => absurd h List.not_mem_nil)⟩)⟩)⟩)⟩)⟩)⟩)⟩)⟩)⟩)⟩)⟩)⟩)⟩)⟩)⟩)⟩)⟩)⟩)⟩)⟩)
def MT1 : List (MM × MF) := [((kX1_stepsByLadders, 6, 5), fX1_stepsByLadders), ((kX1_stepOn, 5, 1), fX1_stepOn), ((kX1_come, 10, 4), fX1_come), ((kX1_arrive, 6, 2), fX1_arrive), ((kX2_init, 1, 1), fX2_init), ((kX2_copyFrom, 2, 2), fX2_copyFrom), ((kX3_init, 1, 1), fX3_init), ((kX3_empty, 1, 1), fX3_empty), ((kX3_copyFrom, 2, 2), fX3_copyFrom), ((kX3_span, 1, 1), fX3_span), ((kX3_hasCell, 2, 2), fX3_hasCell), ((kX3_herdNamed, 3, 2), fX3_herdNamed), ((kX3_weatherOn, 5, 3), fX3_weatherOn), ((kX3_stiltsFor, 3, 2), fX3_stiltsFor), ((kX3_timberFor, 2, 2), fX3_timberFor), ((kX3_depthOf, 3, 3), fX3_depthOf), ((kX3_canStand, 6, 4), fX3_canStand), ((kX3_hasLadder, 2, 2), fX3_hasLadder), ((kX3_holeOf, 4, 3), fX3_holeOf), ((kX3_neighbour, 5, 3), fX3_neighbour)]
theorem ck_MT1 : ∀ q ∈ MT1, ok_m q := (List.forall_mem_cons.mpr ⟨omX1_stepsByLadders, (List.forall_mem_cons.mpr ⟨omX1_stepOn, (List.forall_mem_cons.mpr ⟨omX1_come, (List.forall_mem_cons.mpr ⟨omX1_arrive, (List.forall_mem_cons.mpr ⟨omX2_init, (List.forall_mem_cons.mpr ⟨omX2_copyFrom, (List.forall_mem_cons.mpr ⟨omX3_init, (List.forall_mem_cons.mpr ⟨omX3_empty, (List.forall_mem_cons.mpr ⟨omX3_copyFrom, (List.forall_mem_cons.mpr ⟨omX3_span, (List.forall_mem_cons.mpr ⟨omX3_hasCell, (List.forall_mem_cons.mpr ⟨omX3_herdNamed, (List.forall_mem_cons.mpr ⟨omX3_weatherOn, (List.forall_mem_cons.mpr ⟨omX3_stiltsFor, (List.forall_mem_cons.mpr ⟨omX3_timberFor, (List.forall_mem_cons.mpr ⟨omX3_depthOf, (List.forall_mem_cons.mpr ⟨omX3_canStand, (List.forall_mem_cons.mpr ⟨omX3_hasLadder, (List.forall_mem_cons.mpr ⟨omX3_holeOf, (List.forall_mem_cons.mpr ⟨omX3_neighbour, (fun _ h => absurd h List.not_mem_nil)⟩)⟩)⟩)⟩)⟩)⟩)⟩)⟩)⟩)⟩)⟩)⟩)⟩)⟩)⟩)⟩)⟩)⟩)⟩)⟩)
def MT2 : List (MM × MF) := [((kX4_init, 1, 1), fX4_init), ((kX4_copyFrom, 2, 2), fX4_copyFrom), ((kX5_init, 5, 2), fX5_init), ((kX5_readMoor, 3, 2), fX5_readMoor), ((kX5_readPlan, 4, 3), fX5_readPlan), ((kX5_fail, 2, 2), fX5_fail), ((kX5_wordRead, 2, 1), fX5_wordRead), ((kX5_readNumber, 3, 3), fX5_readNumber), ((kX5_readCell, 3, 2), fX5_readCell), ((kX5_readName, 1, 1), fX5_readName), ((kX5_readLineEnd, 1, 1), fX5_readLineEnd), ((kX5_readMoorLine, 3, 2), fX5_readMoorLine), ((kX5_readRow, 5, 2), fX5_readRow), ((kX5_readLaw, 2, 2), fX5_readLaw), ((kX5_readWood, 2, 2), fX5_readWood), ((kX5_readWeather, 4, 3), fX5_readWeather), ((kX5_readThing, 5, 3), fX5_readThing), ((kX5_readHerd, 4, 2), fX5_readHerd), ((kX5_readWolf, 3, 2), fX5_readWolf), ((kX5_readPlanLine, 6, 3), fX5_readPlanLine)]
theorem ck_MT2 : ∀ q ∈ MT2, ok_m q := (List.forall_mem_cons.mpr ⟨omX4_init, (List.forall_mem_cons.mpr ⟨omX4_copyFrom, (List.forall_mem_cons.mpr ⟨omX5_init, (List.forall_mem_cons.mpr ⟨omX5_readMoor, (List.forall_mem_cons.mpr ⟨omX5_readPlan, (List.forall_mem_cons.mpr ⟨omX5_fail, (List.forall_mem_cons.mpr ⟨omX5_wordRead, (List.forall_mem_cons.mpr ⟨omX5_readNumber, (List.forall_mem_cons.mpr ⟨omX5_readCell, (List.forall_mem_cons.mpr ⟨omX5_readName, (List.forall_mem_cons.mpr ⟨omX5_readLineEnd, (List.forall_mem_cons.mpr ⟨omX5_readMoorLine, (List.forall_mem_cons.mpr ⟨omX5_readRow, (List.forall_mem_cons.mpr ⟨omX5_readLaw, (List.forall_mem_cons.mpr ⟨omX5_readWood, (List.forall_mem_cons.mpr ⟨omX5_readWeather, (List.forall_mem_cons.mpr ⟨omX5_readThing, (List.forall_mem_cons.mpr ⟨omX5_readHerd, (List.forall_mem_cons.mpr ⟨omX5_readWolf, (List.forall_mem_cons.mpr ⟨omX5_readPlanLine, (fun _ h => absurd h List.not_mem_nil)⟩)⟩)⟩)⟩)⟩)⟩)⟩)⟩)⟩)⟩)⟩)⟩)⟩)⟩)⟩)⟩)⟩)⟩)⟩)⟩)
def MT3 : List (MM × MF) := [((kX5_readKnownHerd, 3, 2), fX5_readKnownHerd), ((kX5_readAmount, 2, 2), fX5_readAmount), ((kX6_init, 1, 1), fX6_init), ((kX6_beginOn, 2, 2), fX6_beginOn), ((kX6_copyFrom, 2, 2), fX6_copyFrom), ((kX6_headsOfAll, 4, 2), fX6_headsOfAll), ((kX7_init, 1, 1), fX7_init), ((kX7_putNumber, 3, 2), fX7_putNumber), ((kX7_beginText, 2, 2), fX7_beginText), ((kX7_readToken, 1, 1), fX7_readToken), ((kX7_readRun, 7, 1), fX7_readRun), ((kX8_init, 3, 3), fX8_init), ((kX8_ordersBy, 5, 2), fX8_ordersBy), ((kX8_findNeighbours, 6, 2), fX8_findNeighbours), ((kX8_restsBehind, 5, 3), fX8_restsBehind), ((kX8_seatFirst, 6, 2), fX8_seatFirst), ((kX8_leastNext, 4, 3), fX8_leastNext), ((kX9_init, 3, 3), fX9_init), ((kX9_eyeOf, 2, 2), fX9_eyeOf), ((kX9_seenBy, 2, 2), fX9_seenBy)]
theorem ck_MT3 : ∀ q ∈ MT3, ok_m q := (List.forall_mem_cons.mpr ⟨omX5_readKnownHerd, (List.forall_mem_cons.mpr ⟨omX5_readAmount, (List.forall_mem_cons.mpr ⟨omX6_init, (List.forall_mem_cons.mpr ⟨omX6_beginOn, (List.forall_mem_cons.mpr ⟨omX6_copyFrom, (List.forall_mem_cons.mpr ⟨omX6_headsOfAll, (List.forall_mem_cons.mpr ⟨omX7_init, (List.forall_mem_cons.mpr ⟨omX7_putNumber, (List.forall_mem_cons.mpr ⟨omX7_beginText, (List.forall_mem_cons.mpr ⟨omX7_readToken, (List.forall_mem_cons.mpr ⟨omX7_readRun, (List.forall_mem_cons.mpr ⟨omX8_init, (List.forall_mem_cons.mpr ⟨omX8_ordersBy, (List.forall_mem_cons.mpr ⟨omX8_findNeighbours, (List.forall_mem_cons.mpr ⟨omX8_restsBehind, (List.forall_mem_cons.mpr ⟨omX8_seatFirst, (List.forall_mem_cons.mpr ⟨omX8_leastNext, (List.forall_mem_cons.mpr ⟨omX9_init, (List.forall_mem_cons.mpr ⟨omX9_eyeOf, (List.forall_mem_cons.mpr ⟨omX9_seenBy, (fun _ h => absurd h List.not_mem_nil)⟩)⟩)⟩)⟩)⟩)⟩)⟩)⟩)⟩)⟩)⟩)⟩)⟩)⟩)⟩)⟩)⟩)⟩)⟩)⟩)
def MT4 : List (MM × MF) := [((kX9_whoSee, 7, 3), fX9_whoSee), ((kX9_isClear, 10, 4), fX9_isClear), ((kX9_handOn, 4, 2), fX9_handOn), ((kX9_seeingsBetween, 6, 3), fX9_seeingsBetween), ((kX9_fewestFires, 4, 1), fX9_fewestFires), ((kX9_groupOf, 5, 2), fX9_groupOf), ((kX10_init, 2, 2), fX10_init), ((kX10_openFor, 4, 3), fX10_openFor), ((kX10_openForWolf, 3, 2), fX10_openForWolf), ((kX10_floodFrom, 7, 2), fX10_floodFrom), ((kX10_reachFrom, 4, 4), fX10_reachFrom), ((kX10_stepsBetween, 5, 5), fX10_stepsBetween), ((kX10_nearer, 6, 2), fX10_nearer), ((kX10_riskOf, 5, 5), fX10_riskOf), ((kX10_leastRisk, 5, 5), fX10_leastRisk), ((kX10_costFrom, 9, 4), fX10_costFrom), ((kX10_cheapest, 4, 1), fX10_cheapest), ((kX10_layWay, 9, 5), fX10_layWay), ((kX10_cheaper, 6, 4), fX10_cheaper), ((kX10_fallOf, 4, 2), fX10_fallOf)]
theorem ck_MT4 : ∀ q ∈ MT4, ok_m q := (List.forall_mem_cons.mpr ⟨omX9_whoSee, (List.forall_mem_cons.mpr ⟨omX9_isClear, (List.forall_mem_cons.mpr ⟨omX9_handOn, (List.forall_mem_cons.mpr ⟨omX9_seeingsBetween, (List.forall_mem_cons.mpr ⟨omX9_fewestFires, (List.forall_mem_cons.mpr ⟨omX9_groupOf, (List.forall_mem_cons.mpr ⟨omX10_init, (List.forall_mem_cons.mpr ⟨omX10_openFor, (List.forall_mem_cons.mpr ⟨omX10_openForWolf, (List.forall_mem_cons.mpr ⟨omX10_floodFrom, (List.forall_mem_cons.mpr ⟨omX10_reachFrom, (List.forall_mem_cons.mpr ⟨omX10_stepsBetween, (List.forall_mem_cons.mpr ⟨omX10_nearer, (List.forall_mem_cons.mpr ⟨omX10_riskOf, (List.forall_mem_cons.mpr ⟨omX10_leastRisk, (List.forall_mem_cons.mpr ⟨omX10_costFrom, (List.forall_mem_cons.mpr ⟨omX10_cheapest, (List.forall_mem_cons.mpr ⟨omX10_layWay, (List.forall_mem_cons.mpr ⟨omX10_cheaper, (List.forall_mem_cons.mpr ⟨omX10_fallOf, (fun _ h => absurd h List.not_mem_nil)⟩)⟩)⟩)⟩)⟩)⟩)⟩)⟩)⟩)⟩)⟩)⟩)⟩)⟩)⟩)⟩)⟩)⟩)⟩)⟩)
def MT5 : List (MM × MF) := [((kX11_init, 2, 1), fX11_init), ((kX11_feed, 6, 6), fX11_feed), ((kX11_end, 2, 2), fX11_end), ((kX11_moor, 2, 1), fX11_moor), ((kX11_fault, 1, 1), fX11_fault), ((kX11_plan, 2, 1), fX11_plan), ((kX11_cell, 3, 3), fX11_cell), ((kX11_herd, 3, 3), fX11_herd), ((kX11_on, 3, 3), fX11_on), ((kX11_timber, 3, 1), fX11_timber), ((kX11_flock, 1, 1), fX11_flock), ((kX11_deepest, 5, 2), fX11_deepest), ((kX11_count, 2, 2), fX11_count), ((kX11_near, 6, 3), fX11_near), ((kX11_stands, 4, 4), fX11_stands), ((kX11_steps, 5, 5), fX11_steps), ((kX11_risk, 5, 5), fX11_risk), ((kX11_way, 2, 2), fX11_way), ((kX11_ladders, 5, 5), fX11_ladders), ((kX11_write, 9, 5), fX11_write)]
theorem ck_MT5 : ∀ q ∈ MT5, ok_m q := (List.forall_mem_cons.mpr ⟨omX11_init, (List.forall_mem_cons.mpr ⟨omX11_feed, (List.forall_mem_cons.mpr ⟨omX11_end, (List.forall_mem_cons.mpr ⟨omX11_moor, (List.forall_mem_cons.mpr ⟨omX11_fault, (List.forall_mem_cons.mpr ⟨omX11_plan, (List.forall_mem_cons.mpr ⟨omX11_cell, (List.forall_mem_cons.mpr ⟨omX11_herd, (List.forall_mem_cons.mpr ⟨omX11_on, (List.forall_mem_cons.mpr ⟨omX11_timber, (List.forall_mem_cons.mpr ⟨omX11_flock, (List.forall_mem_cons.mpr ⟨omX11_deepest, (List.forall_mem_cons.mpr ⟨omX11_count, (List.forall_mem_cons.mpr ⟨omX11_near, (List.forall_mem_cons.mpr ⟨omX11_stands, (List.forall_mem_cons.mpr ⟨omX11_steps, (List.forall_mem_cons.mpr ⟨omX11_risk, (List.forall_mem_cons.mpr ⟨omX11_way, (List.forall_mem_cons.mpr ⟨omX11_ladders, (List.forall_mem_cons.mpr ⟨omX11_write, (fun _ h => absurd h List.not_mem_nil)⟩)⟩)⟩)⟩)⟩)⟩)⟩)⟩)⟩)⟩)⟩)⟩)⟩)⟩)⟩)⟩)⟩)⟩)⟩)⟩)
def MT6 : List (MM × MF) := [((kX11_byteAt, 2, 2), fX11_byteAt), ((kX11_passes, 9, 5), fX11_passes), ((kX11_reach, 4, 4), fX11_reach), ((kX11_widest, 5, 1), fX11_widest), ((kX11_who, 5, 3), fX11_who), ((kX11_low, 5, 3), fX11_low), ((kX11_high, 5, 3), fX11_high), ((kX11_cut, 6, 5), fX11_cut), ((kX11_drowns, 10, 5), fX11_drowns), ((kX11_dry, 7, 4), fX11_dry), ((kX11_sees, 2, 2), fX11_sees), ((kX11_saw, 3, 3), fX11_saw), ((kX11_handed, 3, 3), fX11_handed), ((kX11_fires, 1, 1), fX11_fires), ((kX11_wolf, 2, 2), fX11_wolf), ((kX11_lost, 3, 3), fX11_lost), ((kX11_holes, 5, 1), fX11_holes), ((kX11_seats, 2, 2), fX11_seats), ((kX11_seat, 2, 2), fX11_seat), ((kX11_walk, 5, 5), fX11_walk)]
theorem ck_MT6 : ∀ q ∈ MT6, ok_m q := (List.forall_mem_cons.mpr ⟨omX11_byteAt, (List.forall_mem_cons.mpr ⟨omX11_passes, (List.forall_mem_cons.mpr ⟨omX11_reach, (List.forall_mem_cons.mpr ⟨omX11_widest, (List.forall_mem_cons.mpr ⟨omX11_who, (List.forall_mem_cons.mpr ⟨omX11_low, (List.forall_mem_cons.mpr ⟨omX11_high, (List.forall_mem_cons.mpr ⟨omX11_cut, (List.forall_mem_cons.mpr ⟨omX11_drowns, (List.forall_mem_cons.mpr ⟨omX11_dry, (List.forall_mem_cons.mpr ⟨omX11_sees, (List.forall_mem_cons.mpr ⟨omX11_saw, (List.forall_mem_cons.mpr ⟨omX11_handed, (List.forall_mem_cons.mpr ⟨omX11_fires, (List.forall_mem_cons.mpr ⟨omX11_wolf, (List.forall_mem_cons.mpr ⟨omX11_lost, (List.forall_mem_cons.mpr ⟨omX11_holes, (List.forall_mem_cons.mpr ⟨omX11_seats, (List.forall_mem_cons.mpr ⟨omX11_seat, (List.forall_mem_cons.mpr ⟨omX11_walk, (fun _ h => absurd h List.not_mem_nil)⟩)⟩)⟩)⟩)⟩)⟩)⟩)⟩)⟩)⟩)⟩)⟩)⟩)⟩)⟩)⟩)⟩)⟩)⟩)⟩)
def MT7 : List (MM × MF) := [((kX11_falls, 8, 6), fX11_falls), ((kX11_go, 3, 3), fX11_go), ((kX11_trade, 4, 4), fX11_trade), ((kX11_day, 1, 1), fX11_day), ((kX11_night, 3, 2), fX11_night), ((kX11_undo, 1, 1), fX11_undo), ((kX11_judge, 3, 2), fX11_judge), ((kX11_judged, 2, 2), fX11_judged), ((kX11_image, 2, 2), fX11_image), ((kX11_restore, 2, 2), fX11_restore), ((kX11_settled, 2, 2), fX11_settled), ((kX11_isHerd, 2, 2), fX11_isHerd), ((kX11_isDay, 1, 1), fX11_isDay), ((kX11_isNumber, 1, 1), fX11_isNumber), ((kX11_isNight, 1, 1), fX11_isNight), ((kX11_areSuch, 5, 5), fX11_areSuch), ((kX11_waterToday, 1, 1), fX11_waterToday), ((kX11_stiltsOf, 2, 2), fX11_stiltsOf), ((kX11_herdsOn, 4, 2), fX11_herdsOn), ((kX11_holesAreOnCells, 2, 1), fX11_holesAreOnCells)]
theorem ck_MT7 : ∀ q ∈ MT7, ok_m q := (List.forall_mem_cons.mpr ⟨omX11_falls, (List.forall_mem_cons.mpr ⟨omX11_go, (List.forall_mem_cons.mpr ⟨omX11_trade, (List.forall_mem_cons.mpr ⟨omX11_day, (List.forall_mem_cons.mpr ⟨omX11_night, (List.forall_mem_cons.mpr ⟨omX11_undo, (List.forall_mem_cons.mpr ⟨omX11_judge, (List.forall_mem_cons.mpr ⟨omX11_judged, (List.forall_mem_cons.mpr ⟨omX11_image, (List.forall_mem_cons.mpr ⟨omX11_restore, (List.forall_mem_cons.mpr ⟨omX11_settled, (List.forall_mem_cons.mpr ⟨omX11_isHerd, (List.forall_mem_cons.mpr ⟨omX11_isDay, (List.forall_mem_cons.mpr ⟨omX11_isNumber, (List.forall_mem_cons.mpr ⟨omX11_isNight, (List.forall_mem_cons.mpr ⟨omX11_areSuch, (List.forall_mem_cons.mpr ⟨omX11_waterToday, (List.forall_mem_cons.mpr ⟨omX11_stiltsOf, (List.forall_mem_cons.mpr ⟨omX11_herdsOn, (List.forall_mem_cons.mpr ⟨omX11_holesAreOnCells, (fun _ h => absurd h List.not_mem_nil)⟩)⟩)⟩)⟩)⟩)⟩)⟩)⟩)⟩)⟩)⟩)⟩)⟩)⟩)⟩)⟩)⟩)⟩)⟩)⟩)
def MT8 : List (MM × MF) := [((kX11_leavesHoles, 5, 2), fX11_leavesHoles), ((kX12_thrown, 1, 1), fX12_thrown), ((kX12_throwsIf, 2, 2), fX12_throwsIf), ((kX12_feed, 6, 6), fX12_feed), ((kX12_four, 3, 2), fX12_four), ((kX12_end, 2, 2), fX12_end), ((kX12_taken, 2, 2), fX12_taken), ((kX12_isIn, 3, 3), fX12_isIn), ((kX12_has, 2, 2), fX12_has), ((kX12_sizeOf, 1, 1), fX12_sizeOf), ((kX12_octet, 2, 2), fX12_octet), ((kX12_init, 1, 1), fX12_init), ((kX12_peek, 1, 1), fX12_peek), ((kX12_isSmall, 1, 1), fX12_isSmall), ((kX12_isDigit, 1, 1), fX12_isDigit), ((kX12_next, 4, 1), fX12_next), ((kX12_bad, 2, 2), fX12_bad), ((kX12_isWord, 3, 2), fX12_isWord), ((kX12_isSign, 2, 2), fX12_isSign), ((kX12_sign, 2, 2), fX12_sign)]
theorem ck_MT8 : ∀ q ∈ MT8, ok_m q := (List.forall_mem_cons.mpr ⟨omX11_leavesHoles, (List.forall_mem_cons.mpr ⟨omX12_thrown, (List.forall_mem_cons.mpr ⟨omX12_throwsIf, (List.forall_mem_cons.mpr ⟨omX12_feed, (List.forall_mem_cons.mpr ⟨omX12_four, (List.forall_mem_cons.mpr ⟨omX12_end, (List.forall_mem_cons.mpr ⟨omX12_taken, (List.forall_mem_cons.mpr ⟨omX12_isIn, (List.forall_mem_cons.mpr ⟨omX12_has, (List.forall_mem_cons.mpr ⟨omX12_sizeOf, (List.forall_mem_cons.mpr ⟨omX12_octet, (List.forall_mem_cons.mpr ⟨omX12_init, (List.forall_mem_cons.mpr ⟨omX12_peek, (List.forall_mem_cons.mpr ⟨omX12_isSmall, (List.forall_mem_cons.mpr ⟨omX12_isDigit, (List.forall_mem_cons.mpr ⟨omX12_next, (List.forall_mem_cons.mpr ⟨omX12_bad, (List.forall_mem_cons.mpr ⟨omX12_isWord, (List.forall_mem_cons.mpr ⟨omX12_isSign, (List.forall_mem_cons.mpr ⟨omX12_sign, (fun _ h => absurd h List.not_mem_nil)⟩)⟩)⟩)⟩)⟩)⟩)⟩)⟩)⟩)⟩)⟩)⟩)⟩)⟩)⟩)⟩)⟩)⟩)⟩)⟩)
def MT9 : List (MM × MF) := [((kX12_isName, 3, 1), fX12_isName), ((kX12_takes, 3, 3), fX12_takes), ((kX12_find, 4, 3), fX12_find), ((kX12_line, 1, 1), fX12_line), ((kX12_isOnce, 2, 2), fX12_isOnce), ((kX12_readRow, 3, 1), fX12_readRow), ((kX12_readDay, 3, 2), fX12_readDay), ((kX12_takesCell, 2, 1), fX12_takesCell), ((kX12_readOn, 5, 3), fX12_readOn), ((kX12_readHerd, 2, 1), fX12_readHerd), ((kX12_moor, 2, 1), fX12_moor), ((kX12_fault, 1, 1), fX12_fault), ((kX12_isCell, 2, 2), fX12_isCell), ((kX12_isHerd, 2, 2), fX12_isHerd), ((kX12_isDay, 1, 1), fX12_isDay), ((kX12_isTall, 1, 1), fX12_isTall), ((kX12_onDay, 4, 3), fX12_onDay), ((kX12_stiltsBy, 2, 2), fX12_stiltsBy), ((kX12_stiltsOf, 2, 2), fX12_stiltsOf), ((kX12_eyeOf, 2, 2), fX12_eyeOf)]
theorem ck_MT9 : ∀ q ∈ MT9, ok_m q := (List.forall_mem_cons.mpr ⟨omX12_isName, (List.forall_mem_cons.mpr ⟨omX12_takes, (List.forall_mem_cons.mpr ⟨omX12_find, (List.forall_mem_cons.mpr ⟨omX12_line, (List.forall_mem_cons.mpr ⟨omX12_isOnce, (List.forall_mem_cons.mpr ⟨omX12_readRow, (List.forall_mem_cons.mpr ⟨omX12_readDay, (List.forall_mem_cons.mpr ⟨omX12_takesCell, (List.forall_mem_cons.mpr ⟨omX12_readOn, (List.forall_mem_cons.mpr ⟨omX12_readHerd, (List.forall_mem_cons.mpr ⟨omX12_moor, (List.forall_mem_cons.mpr ⟨omX12_fault, (List.forall_mem_cons.mpr ⟨omX12_isCell, (List.forall_mem_cons.mpr ⟨omX12_isHerd, (List.forall_mem_cons.mpr ⟨omX12_isDay, (List.forall_mem_cons.mpr ⟨omX12_isTall, (List.forall_mem_cons.mpr ⟨omX12_onDay, (List.forall_mem_cons.mpr ⟨omX12_stiltsBy, (List.forall_mem_cons.mpr ⟨omX12_stiltsOf, (List.forall_mem_cons.mpr ⟨omX12_eyeOf, (fun _ h => absurd h List.not_mem_nil)⟩)⟩)⟩)⟩)⟩)⟩)⟩)⟩)⟩)⟩)⟩)⟩)⟩)⟩)⟩)⟩)⟩)⟩)⟩)⟩)
def MT10 : List (MM × MF) := [((kX12_timberOf, 2, 2), fX12_timberOf), ((kX12_of, 2, 2), fX12_of), ((kX12_depthOf, 2, 2), fX12_depthOf), ((kX12_standsOn, 3, 3), fX12_standsOn), ((kX12_cell, 5, 3), fX12_cell), ((kX12_herd, 3, 3), fX12_herd), ((kX12_on, 3, 3), fX12_on), ((kX12_timber, 3, 1), fX12_timber), ((kX12_heads, 3, 1), fX12_heads), ((kX12_flock, 1, 1), fX12_flock), ((kX12_deepest, 4, 2), fX12_deepest), ((kX12_beside, 5, 3), fX12_beside), ((kX12_spread, 7, 3), fX12_spread), ((kX12_stepsOf, 4, 4), fX12_stepsOf), ((kX12_areAll, 5, 5), fX12_areAll), ((kX12_stands, 4, 4), fX12_stands), ((kX12_steps, 5, 5), fX12_steps), ((kX12_near, 5, 3), fX12_near), ((kX12_riskOf, 4, 4), fX12_riskOf), ((kX12_risks, 8, 3), fX12_risks)]
theorem ck_MT10 : ∀ q ∈ MT10, ok_m q := (List.forall_mem_cons.mpr ⟨omX12_timberOf, (List.forall_mem_cons.mpr ⟨omX12_of, (List.forall_mem_cons.mpr ⟨omX12_depthOf, (List.forall_mem_cons.mpr ⟨omX12_standsOn, (List.forall_mem_cons.mpr ⟨omX12_cell, (List.forall_mem_cons.mpr ⟨omX12_herd, (List.forall_mem_cons.mpr ⟨omX12_on, (List.forall_mem_cons.mpr ⟨omX12_timber, (List.forall_mem_cons.mpr ⟨omX12_heads, (List.forall_mem_cons.mpr ⟨omX12_flock, (List.forall_mem_cons.mpr ⟨omX12_deepest, (List.forall_mem_cons.mpr ⟨omX12_beside, (List.forall_mem_cons.mpr ⟨omX12_spread, (List.forall_mem_cons.mpr ⟨omX12_stepsOf, (List.forall_mem_cons.mpr ⟨omX12_areAll, (List.forall_mem_cons.mpr ⟨omX12_stands, (List.forall_mem_cons.mpr ⟨omX12_steps, (List.forall_mem_cons.mpr ⟨omX12_near, (List.forall_mem_cons.mpr ⟨omX12_riskOf, (List.forall_mem_cons.mpr ⟨omX12_risks, (fun _ h => absurd h List.not_mem_nil)⟩)⟩)⟩)⟩)⟩)⟩)⟩)⟩)⟩)⟩)⟩)⟩)⟩)⟩)⟩)⟩)⟩)⟩)⟩)⟩)
def MT11 : List (MM × MF) := [((kX12_risk, 5, 5), fX12_risk), ((kX12_ladders, 10, 5), fX12_ladders), ((kX12_comes, 5, 4), fX12_comes), ((kX12_write, 8, 5), fX12_write), ((kX12_byteAt, 2, 2), fX12_byteAt), ((kX12_passes, 9, 5), fX12_passes), ((kX12_reached, 3, 1), fX12_reached), ((kX12_reach, 4, 4), fX12_reach), ((kX12_areSeen, 11, 5), fX12_areSeen), ((kX12_seenBy, 4, 2), fX12_seenBy), ((kX12_sees, 2, 2), fX12_sees), ((kX12_saw, 5, 3), fX12_saw), ((kX12_more, 4, 2), fX12_more), ((kX12_handed, 5, 3), fX12_handed), ((kX12_fires, 6, 1), fX12_fires), ((kX12_wolf, 2, 2), fX12_wolf), ((kX12_round, 7, 1), fX12_round), ((kX12_nights, 4, 2), fX12_nights), ((kX12_keep, 2, 1), fX12_keep), ((kX12_undo, 2, 1), fX12_undo)]
theorem ck_MT11 : ∀ q ∈ MT11, ok_m q := (List.forall_mem_cons.mpr ⟨omX12_risk, (List.forall_mem_cons.mpr ⟨omX12_ladders, (List.forall_mem_cons.mpr ⟨omX12_comes, (List.forall_mem_cons.mpr ⟨omX12_write, (List.forall_mem_cons.mpr ⟨omX12_byteAt, (List.forall_mem_cons.mpr ⟨omX12_passes, (List.forall_mem_cons.mpr ⟨omX12_reached, (List.forall_mem_cons.mpr ⟨omX12_reach, (List.forall_mem_cons.mpr ⟨omX12_areSeen, (List.forall_mem_cons.mpr ⟨omX12_seenBy, (List.forall_mem_cons.mpr ⟨omX12_sees, (List.forall_mem_cons.mpr ⟨omX12_saw, (List.forall_mem_cons.mpr ⟨omX12_more, (List.forall_mem_cons.mpr ⟨omX12_handed, (List.forall_mem_cons.mpr ⟨omX12_fires, (List.forall_mem_cons.mpr ⟨omX12_wolf, (List.forall_mem_cons.mpr ⟨omX12_round, (List.forall_mem_cons.mpr ⟨omX12_nights, (List.forall_mem_cons.mpr ⟨omX12_keep, (List.forall_mem_cons.mpr ⟨omX12_undo, (fun _ h => absurd h List.not_mem_nil)⟩)⟩)⟩)⟩)⟩)⟩)⟩)⟩)⟩)⟩)⟩)⟩)⟩)⟩)⟩)⟩)⟩)⟩)⟩)⟩)
def MT12 : List (MM × MF) := [((kX12_gone, 3, 3), fX12_gone), ((kX12_go, 3, 3), fX12_go), ((kX12_whyTrade, 4, 4), fX12_whyTrade), ((kX12_trade, 5, 4), fX12_trade), ((kX12_day, 1, 1), fX12_day), ((kX12_night, 2, 2), fX12_night), ((kX12_lost, 5, 3), fX12_lost), ((kX12_passesBy, 4, 4), fX12_passesBy), ((kX12_low, 4, 3), fX12_low), ((kX12_high, 4, 3), fX12_high), ((kX12_holes, 6, 1), fX12_holes), ((kX12_mayNeighbour, 4, 4), fX12_mayNeighbour), ((kX12_seats, 8, 2), fX12_seats), ((kX12_seat, 2, 2), fX12_seat), ((kX12_cut, 6, 5), fX12_cut), ((kX12_drowns, 6, 5), fX12_drowns), ((kX12_dry, 5, 4), fX12_dry), ((kX12_widest, 4, 1), fX12_widest), ((kX12_who, 5, 3), fX12_who), ((kX12_draw, 2, 2), fX12_draw)]
theorem ck_MT12 : ∀ q ∈ MT12, ok_m q := (List.forall_mem_cons.mpr ⟨omX12_gone, (List.forall_mem_cons.mpr ⟨omX12_go, (List.forall_mem_cons.mpr ⟨omX12_whyTrade, (List.forall_mem_cons.mpr ⟨omX12_trade, (List.forall_mem_cons.mpr ⟨omX12_day, (List.forall_mem_cons.mpr ⟨omX12_night, (List.forall_mem_cons.mpr ⟨omX12_lost, (List.forall_mem_cons.mpr ⟨omX12_passesBy, (List.forall_mem_cons.mpr ⟨omX12_low, (List.forall_mem_cons.mpr ⟨omX12_high, (List.forall_mem_cons.mpr ⟨omX12_holes, (List.forall_mem_cons.mpr ⟨omX12_mayNeighbour, (List.forall_mem_cons.mpr ⟨omX12_seats, (List.forall_mem_cons.mpr ⟨omX12_seat, (List.forall_mem_cons.mpr ⟨omX12_cut, (List.forall_mem_cons.mpr ⟨omX12_drowns, (List.forall_mem_cons.mpr ⟨omX12_dry, (List.forall_mem_cons.mpr ⟨omX12_widest, (List.forall_mem_cons.mpr ⟨omX12_who, (List.forall_mem_cons.mpr ⟨omX12_draw, (fun _ h => absurd h List.not_mem_nil)⟩)⟩)⟩)⟩)⟩)⟩)⟩)⟩)⟩)⟩)⟩)⟩)⟩)⟩)⟩)⟩)⟩)⟩)⟩)⟩)
def MT13 : List (MM × MF) := [((kX12_riskWay, 6, 3), fX12_riskWay), ((kX12_fallOf, 5, 4), fX12_fallOf), ((kX12_walk, 6, 5), fX12_walk), ((kX12_way, 2, 2), fX12_way), ((kX12_falls, 9, 6), fX12_falls), ((kX12_planLine, 5, 1), fX12_planLine), ((kX12_plan, 2, 1), fX12_plan), ((kX12_does, 6, 4), fX12_does), ((kX12_judge, 5, 2), fX12_judge), ((kX12_judged, 2, 2), fX12_judged), ((kX12_image, 3, 2), fX12_image), ((kX12_restore, 3, 2), fX12_restore), ((kX12_count, 2, 2), fX12_count), ((kJ6_signum_0f7a4, 1, 1), fJ6_signum_0f7a4), ((kJ7_fill_d0a16, 5, 2), fJ7_fill_d0a16), ((kJ7_fill_53178, 4, 2), fJ7_fill_53178)]
theorem ck_MT13 : ∀ q ∈ MT13, ok_m q := (List.forall_mem_cons.mpr ⟨omX12_riskWay, (List.forall_mem_cons.mpr ⟨omX12_fallOf, (List.forall_mem_cons.mpr ⟨omX12_walk, (List.forall_mem_cons.mpr ⟨omX12_way, (List.forall_mem_cons.mpr ⟨omX12_falls, (List.forall_mem_cons.mpr ⟨omX12_planLine, (List.forall_mem_cons.mpr ⟨omX12_plan, (List.forall_mem_cons.mpr ⟨omX12_does, (List.forall_mem_cons.mpr ⟨omX12_judge, (List.forall_mem_cons.mpr ⟨omX12_judged, (List.forall_mem_cons.mpr ⟨omX12_image, (List.forall_mem_cons.mpr ⟨omX12_restore, (List.forall_mem_cons.mpr ⟨omX12_count, (List.forall_mem_cons.mpr ⟨omJ6_signum_0f7a4, (List.forall_mem_cons.mpr ⟨omJ7_fill_d0a16, (List.forall_mem_cons.mpr ⟨omJ7_fill_53178, (fun _ h => absurd h List.not_mem_nil)⟩)⟩)⟩)⟩)⟩)⟩)⟩)⟩)⟩)⟩)⟩)⟩)⟩)⟩)⟩)⟩)
def MT : List (MM × MF) := MT0 ++ (MT1 ++ (MT2 ++ (MT3 ++ (MT4 ++ (MT5 ++ (MT6 ++ (MT7 ++ (MT8 ++ (MT9 ++ (MT10 ++ (MT11 ++ (MT12 ++ (MT13)))))))))))))
theorem ck_MT : ∀ q ∈ MT, ok_m q := (List.forall_mem_append.mpr ⟨ck_MT0, (List.forall_mem_append.mpr ⟨ck_MT1, (List.forall_mem_append.mpr ⟨ck_MT2, (List.forall_mem_append.mpr ⟨ck_MT3, (List.forall_mem_append.mpr ⟨ck_MT4, (List.forall_mem_append.mpr ⟨ck_MT5, (List.forall_mem_append.mpr ⟨ck_MT6, (List.forall_mem_append.mpr ⟨ck_MT7, (List.forall_mem_append.mpr ⟨ck_MT8, (List.forall_mem_append.mpr ⟨ck_MT9, (List.forall_mem_append.mpr ⟨ck_MT10, (List.forall_mem_append.mpr ⟨ck_MT11, (List.forall_mem_append.mpr ⟨ck_MT12, ck_MT13⟩)⟩)⟩)⟩)⟩)⟩)⟩)⟩)⟩)⟩)⟩)⟩)⟩)
set_option maxRecDepth 20000 in
theorem MT_f : MT.map (fun q => q.2) = FT := rfl
set_option maxRecDepth 20000 in
theorem MT_p : MT.map (fun q => q.1) = PT := rfl
theorem all_ok : ∀ (y : Nat) (M : MM), PT[y]? = some M → ∃ F, FT[y]? = some F ∧ MOK PT FT M F ∧ NCA M := by
  intro y M h
  rw [← MT_p, List.getElem?_map] at h
  cases hq : MT[y]? with
  | none => rw [hq] at h; cases h
  | some q =>
    rw [hq] at h
    cases h
    have h1 := ck_MT q (List.mem_of_getElem? hq)
    exact ⟨q.2, by rw [← MT_f, List.getElem?_map, hq]; rfl, h1.1, h1.2⟩
/-- a run of the small machine is a run of the JVM -/
theorem sound (l : Launch) (hTx : TextOK) : ∀ n, SND PT FT l n := snd_all cl_ok hTx all_ok
theorem law_ok : MOK PT FT (kL_law, 7, 1) fL_law := (ck_m_ok knd PT_999 (by decide +kernel) okL_law).1
