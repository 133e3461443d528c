abbrev x_ME : Type := MethodName × ByteArray × Nat × Option FieldType × Nat × List (Nat × Nat × Nat × Nat × String × Nat × Nat)
def x_m0 : List x_ME := [
  (yX0_init, cX0_init, 2, none, 0, []),
  (yX0_copyFrom, cX0_copyFrom, 3, none, 0, []),
  (yX0_hasNet, cX0_hasNet, 2, (some (Jvm.ClassFile.FieldType.boolean)), 0, []),
  (yX0_placeOfPin, cX0_placeOfPin, 3, (some (Jvm.ClassFile.FieldType.int)), 0, []),
  (yX0_netsNear, cX0_netsNear, 9, (some (Jvm.ClassFile.FieldType.int)), 1, []),
  (yX0_wiresInTheWay, cX0_wiresInTheWay, 5, (some (Jvm.ClassFile.FieldType.int)), 2, []),
  (yX0_priceFor, cX0_priceFor, 6, (some (Jvm.ClassFile.FieldType.int)), 2, []),
  (yX0_countHeld, cX0_countHeld, 4, (some (Jvm.ClassFile.FieldType.int)), 0, []),
  (yX0_countHoles, cX0_countHoles, 3, (some (Jvm.ClassFile.FieldType.int)), 0, []),
  (yX0_countRouted, cX0_countRouted, 3, (some (Jvm.ClassFile.FieldType.int)), 0, []),
  (yX0_countTouches, cX0_countTouches, 6, (some (Jvm.ClassFile.FieldType.int)), 1, []),
  (yX0_sumOver, cX0_sumOver, 4, (some (Jvm.ClassFile.FieldType.int)), 0, []),
  (yX0_countBefore, cX0_countBefore, 4, (some (Jvm.ClassFile.FieldType.int)), 0, []),
  (yX0_putNet, cX0_putNet, 2, (some (Jvm.ClassFile.FieldType.int)), 0, []),
  (yX0_putPin, cX0_putPin, 4, (some (Jvm.ClassFile.FieldType.int)), 0, []),
  (yX0_putWire, cX0_putWire, 5, none, 0, []),
  (yX0_removeWire, cX0_removeWire, 4, none, 0, [])]
def x_m1 : List x_ME := [
  (yX1_init, cX1_init, 4, none, 0, []),
  (yX1_addNet, cX1_addNet, 2, (some (Jvm.ClassFile.FieldType.int)), 1, []),
  (yX1_addPin, cX1_addPin, 7, (some (Jvm.ClassFile.FieldType.int)), 2, []),
  (yX1_addWall, cX1_addWall, 5, (some (Jvm.ClassFile.FieldType.int)), 2, []),
  (yX1_removeWall, cX1_removeWall, 5, (some (Jvm.ClassFile.FieldType.int)), 1, []),
  (yX1_layWays, cX1_layWays, 5, (some (Jvm.ClassFile.FieldType.int)), 4, []),
  (yX1_takeWire, cX1_takeWire, 3, (some (Jvm.ClassFile.FieldType.int)), 1, []),
  (yX1_refuseNotFree, cX1_refuseNotFree, 3, (some (Jvm.ClassFile.FieldType.int)), 1, []),
  (yX1_countHolesOf, cX1_countHolesOf, 4, (some (Jvm.ClassFile.FieldType.int)), 0, []),
  (yX1_ripAll, cX1_ripAll, 3, none, 1, []),
  (yX1_lowestOf, cX1_lowestOf, 2, (some (Jvm.ClassFile.FieldType.int)), 0, [])]
def x_m2 : List x_ME := [
  (yX2_init, cX2_init, 1, none, 0, []),
  (yX2_add, cX2_add, 2, none, 0, []),
  (yX2_signAt, cX2_signAt, 2, (some (Jvm.ClassFile.FieldType.char)), 0, []),
  (yX2_digitAt, cX2_digitAt, 2, (some (Jvm.ClassFile.FieldType.int)), 1, []),
  (yX2_commandLength, cX2_commandLength, 2, (some (Jvm.ClassFile.FieldType.int)), 5, []),
  (yX2_findFault, cX2_findFault, 5, (some (Jvm.ClassFile.FieldType.int)), 6, []),
  (yX2_findMismatch, cX2_findMismatch, 5, (some (Jvm.ClassFile.FieldType.int)), 5, []),
  (yX2_fits, cX2_fits, 2, (some (Jvm.ClassFile.FieldType.boolean)), 0, []),
  (yX2_formOf, cX2_formOf, 1, (some ((Jvm.ClassFile.FieldType.object "java/lang/String"))), 0, [])]
def x_m3 : List x_ME := [
  (yX3_init, cX3_init, 3, none, 1, []),
  (yX3_prepare, cX3_prepare, 1, none, 1, []),
  (yX3_confirm, cX3_confirm, 1, none, 0, []),
  (yX3_takeBack, cX3_takeBack, 1, none, 1, []),
  (yX3_goBack, cX3_goBack, 1, none, 2, []),
  (yX3_keepSnapshot, cX3_keepSnapshot, 1, none, 1, []),
  (yX3_takeSnapshot, cX3_takeSnapshot, 1, none, 1, [])]
def x_m4 : List x_ME := [
  (yX4_init, cX4_init, 1, none, 0, []),
  (yX4_keep, cX4_keep, 3, (some (Jvm.ClassFile.FieldType.int)), 0, [])]
def x_m5 : List x_ME := [
  (yX5_init, cX5_init, 2, none, 0, []),
  (yX5_readPrices, cX5_readPrices, 4, none, 3, []),
  (yX5_findWays, cX5_findWays, 3, (some (Jvm.ClassFile.FieldType.boolean)), 4, []),
  (yX5_joinPins, cX5_joinPins, 5, (some (Jvm.ClassFile.FieldType.boolean)), 3, []),
  (yX5_netsInTheWay, cX5_netsInTheWay, 3, (some (Jvm.ClassFile.FieldType.int)), 3, []),
  (yX5_countReached, cX5_countReached, 4, (some (Jvm.ClassFile.FieldType.int)), 3, []),
  (yX5_clearWays, cX5_clearWays, 2, none, 0, []),
  (yX5_takePin, cX5_takePin, 2, none, 0, []),
  (yX5_spreadCosts, cX5_spreadCosts, 3, none, 2, []),
  (yX5_spreadFrom, cX5_spreadFrom, 5, none, 1, []),
  (yX5_enqueue, cX5_enqueue, 2, none, 0, []),
  (yX5_stepCost, cX5_stepCost, 6, (some (Jvm.ClassFile.FieldType.int)), 0, []),
  (yX5_goBack, cX5_goBack, 5, none, 2, []),
  (yX5_firstBack, cX5_firstBack, 4, (some (Jvm.ClassFile.FieldType.int)), 1, [])]
def x_m6 : List x_ME := [
  (yX6_init, cX6_init, 1, none, 0, []),
  (yX6_write, cX6_write, 4, none, 1, []),
  (yX6_add, cX6_add, 2, none, 0, []),
  (yX6_signOf, cX6_signOf, 3, (some (Jvm.ClassFile.FieldType.char)), 0, [])]
def x_m7 : List x_ME := [
  (yX7_init, cX7_init, 1, none, 2, []),
  (yX7_net, cX7_net, 2, (some (Jvm.ClassFile.FieldType.int)), 2, []),
  (yX7_pin, cX7_pin, 4, (some (Jvm.ClassFile.FieldType.int)), 3, []),
  (yX7_wall, cX7_wall, 4, (some (Jvm.ClassFile.FieldType.int)), 3, []),
  (yX7_tearDown, cX7_tearDown, 4, (some (Jvm.ClassFile.FieldType.int)), 2, []),
  (yX7_route, cX7_route, 2, (some (Jvm.ClassFile.FieldType.int)), 5, []),
  (yX7_hard, cX7_hard, 2, (some (Jvm.ClassFile.FieldType.int)), 5, []),
  (yX7_rip, cX7_rip, 2, (some (Jvm.ClassFile.FieldType.int)), 2, []),
  (yX7_netOf, cX7_netOf, 3, (some (Jvm.ClassFile.FieldType.int)), 2, []),
  (yX7_pinOf, cX7_pinOf, 3, (some (Jvm.ClassFile.FieldType.int)), 2, []),
  (yX7_at, cX7_at, 4, (some (Jvm.ClassFile.FieldType.int)), 2, []),
  (yX7_isHole, cX7_isHole, 3, (some (Jvm.ClassFile.FieldType.boolean)), 2, []),
  (yX7_price, cX7_price, 5, (some (Jvm.ClassFile.FieldType.int)), 3, []),
  (yX7_wouldCost, cX7_wouldCost, 2, (some (Jvm.ClassFile.FieldType.int)), 5, []),
  (yX7_wouldRip, cX7_wouldRip, 2, (some (Jvm.ClassFile.FieldType.int)), 5, []),
  (yX7_reach, cX7_reach, 3, (some (Jvm.ClassFile.FieldType.int)), 4, []),
  (yX7_cellsOf, cX7_cellsOf, 2, (some (Jvm.ClassFile.FieldType.int)), 2, []),
  (yX7_cellsAgain, cX7_cellsAgain, 2, (some (Jvm.ClassFile.FieldType.int)), 2, []),
  (yX7_holes, cX7_holes, 1, (some (Jvm.ClassFile.FieldType.int)), 1, []),
  (yX7_holesAgain, cX7_holesAgain, 1, (some (Jvm.ClassFile.FieldType.int)), 1, []),
  (yX7_touches, cX7_touches, 2, (some (Jvm.ClassFile.FieldType.int)), 2, []),
  (yX7_ranked, cX7_ranked, 4, (some (Jvm.ClassFile.FieldType.int)), 1, []),
  (yX7_append, cX7_append, 2, (some (Jvm.ClassFile.FieldType.int)), 1, []),
  (yX7_commands, cX7_commands, 4, (some (Jvm.ClassFile.FieldType.int)), 7, []),
  (yX7_faultPosition, cX7_faultPosition, 1, (some (Jvm.ClassFile.FieldType.int)), 0, []),
  (yX7_reason, cX7_reason, 2, (some (Jvm.ClassFile.FieldType.int)), 0, []),
  (yX7_line, cX7_line, 3, (some (Jvm.ClassFile.FieldType.int)), 2, []),
  (yX7_character, cX7_character, 2, (some (Jvm.ClassFile.FieldType.char)), 0, []),
  (yX7_meanCost, cX7_meanCost, 2, (some (Jvm.ClassFile.FieldType.float)), 1, []),
  (yX7_filledShare, cX7_filledShare, 1, (some (Jvm.ClassFile.FieldType.double)), 1, []),
  (yX7_account, cX7_account, 2, (some (Jvm.ClassFile.FieldType.int)), 1, []),
  (yX7_undo, cX7_undo, 1, (some (Jvm.ClassFile.FieldType.int)), 3, []),
  (yX7_save, cX7_save, 1, (some (Jvm.ClassFile.FieldType.int)), 2, []),
  (yX7_restore, cX7_restore, 1, (some (Jvm.ClassFile.FieldType.int)), 2, []),
  (yX7_confirmed, cX7_confirmed, 2, (some (Jvm.ClassFile.FieldType.int)), 1, []),
  (yX7_carryOut, cX7_carryOut, 4, (some (Jvm.ClassFile.FieldType.int)), 5, []),
  (yX7_checkNet, cX7_checkNet, 2, none, 1, []),
  (yX7_checkPin, cX7_checkPin, 3, none, 1, []),
  (yX7_checkCell, cX7_checkCell, 4, none, 1, []),
  (yX7_isCell, cX7_isCell, 3, (some (Jvm.ClassFile.FieldType.boolean)), 0, []),
  (yX7_cellAt, cX7_cellAt, 3, (some (Jvm.ClassFile.FieldType.int)), 0, []),
  (yX7_beside, cX7_beside, 3, (some (Jvm.ClassFile.FieldType.int)), 0, [])]
def x_m8 : List x_ME := [
  (yX8_init, cX8_init, 1, none, 0, []),
  (yX8_thrown, cX8_thrown, 1, (some (Jvm.ClassFile.FieldType.int)), 0, []),
  (yX8_fails, cX8_fails, 2, (some (Jvm.ClassFile.FieldType.boolean)), 0, []),
  (yX8_refuses, cX8_refuses, 3, (some (Jvm.ClassFile.FieldType.int)), 0, []),
  (yX8_in, cX8_in, 3, (some (Jvm.ClassFile.FieldType.boolean)), 0, []),
  (yX8_copies, cX8_copies, 5, none, 0, []),
  (yX8_keeps, cX8_keeps, 3, none, 1, []),
  (yX8_isPlace, cX8_isPlace, 2, (some (Jvm.ClassFile.FieldType.boolean)), 1, []),
  (yX8_isCell, cX8_isCell, 3, (some (Jvm.ClassFile.FieldType.boolean)), 2, []),
  (yX8_cellOf, cX8_cellOf, 3, (some (Jvm.ClassFile.FieldType.int)), 0, []),
  (yX8_isNet, cX8_isNet, 2, (some (Jvm.ClassFile.FieldType.boolean)), 1, []),
  (yX8_of, cX8_of, 3, (some (Jvm.ClassFile.FieldType.int)), 0, []),
  (yX8_lays, cX8_lays, 4, none, 0, []),
  (yX8_is, cX8_is, 2, (some (Jvm.ClassFile.FieldType.int)), 0, []),
  (yX8_netIn, cX8_netIn, 2, (some (Jvm.ClassFile.FieldType.int)), 1, []),
  (yX8_isPin, cX8_isPin, 2, (some (Jvm.ClassFile.FieldType.boolean)), 1, []),
  (yX8_beside, cX8_beside, 3, (some (Jvm.ClassFile.FieldType.int)), 0, []),
  (yX8_areWide, cX8_areWide, 3, (some (Jvm.ClassFile.FieldType.boolean)), 1, []),
  (yX8_tooNear, cX8_tooNear, 8, (some (Jvm.ClassFile.FieldType.int)), 2, []),
  (yX8_priceOf, cX8_priceOf, 4, (some (Jvm.ClassFile.FieldType.int)), 3, []),
  (yX8_net, cX8_net, 4, (some (Jvm.ClassFile.FieldType.int)), 2, []),
  (yX8_pin, cX8_pin, 7, (some (Jvm.ClassFile.FieldType.int)), 3, []),
  (yX8_walls, cX8_walls, 3, (some (Jvm.ClassFile.FieldType.int)), 1, []),
  (yX8_wall, cX8_wall, 5, (some (Jvm.ClassFile.FieldType.int)), 3, []),
  (yX8_tearDown, cX8_tearDown, 5, (some (Jvm.ClassFile.FieldType.int)), 3, []),
  (yX8_isOwnPin, cX8_isOwnPin, 3, (some (Jvm.ClassFile.FieldType.boolean)), 2, []),
  (yX8_stepCost, cX8_stepCost, 5, (some (Jvm.ClassFile.FieldType.int)), 3, []),
  (yX8_moreFor, cX8_moreFor, 5, (some (Jvm.ClassFile.FieldType.int)), 4, []),
  (yX8_spreads, cX8_spreads, 8, none, 5, []),
  (yX8_goesBack, cX8_goesBack, 6, none, 5, []),
  (yX8_joins, cX8_joins, 2, none, 0, []),
  (yX8_finds, cX8_finds, 6, (some (Jvm.ClassFile.FieldType.int)), 6, []),
  (yX8_newHoles, cX8_newHoles, 3, (some (Jvm.ClassFile.FieldType.int)), 0, []),
  (yX8_inTheWay, cX8_inTheWay, 7, (some (Jvm.ClassFile.FieldType.int)), 2, []),
  (yX8_wireOf, cX8_wireOf, 4, (some (Jvm.ClassFile.FieldType.int)), 2, []),
  (yX8_holesOf, cX8_holesOf, 4, (some (Jvm.ClassFile.FieldType.int)), 0, []),
  (yX8_rips, cX8_rips, 3, none, 2, []),
  (yX8_allHoles, cX8_allHoles, 3, (some (Jvm.ClassFile.FieldType.int)), 0, []),
  (yX8_cannotRoute, cX8_cannotRoute, 4, (some (Jvm.ClassFile.FieldType.boolean)), 7, []),
  (yX8_routes, cX8_routes, 3, none, 1, []),
  (yX8_route, cX8_route, 3, (some (Jvm.ClassFile.FieldType.int)), 8, []),
  (yX8_hard, cX8_hard, 5, (some (Jvm.ClassFile.FieldType.int)), 8, []),
  (yX8_rip, cX8_rip, 3, (some (Jvm.ClassFile.FieldType.int)), 3, []),
  (yX8_netOf, cX8_netOf, 3, (some (Jvm.ClassFile.FieldType.int)), 3, []),
  (yX8_pinOf, cX8_pinOf, 3, (some (Jvm.ClassFile.FieldType.int)), 2, []),
  (yX8_at, cX8_at, 5, (some (Jvm.ClassFile.FieldType.int)), 3, []),
  (yX8_isHole, cX8_isHole, 3, (some (Jvm.ClassFile.FieldType.boolean)), 2, []),
  (yX8_price, cX8_price, 5, (some (Jvm.ClassFile.FieldType.int)), 4, []),
  (yX8_hasNoWay, cX8_hasNoWay, 3, (some (Jvm.ClassFile.FieldType.boolean)), 7, []),
  (yX8_wouldCost, cX8_wouldCost, 2, (some (Jvm.ClassFile.FieldType.int)), 8, []),
  (yX8_wouldRip, cX8_wouldRip, 2, (some (Jvm.ClassFile.FieldType.int)), 8, []),
  (yX8_reach, cX8_reach, 5, (some (Jvm.ClassFile.FieldType.int)), 6, []),
  (yX8_cellsOf, cX8_cellsOf, 4, (some (Jvm.ClassFile.FieldType.int)), 2, []),
  (yX8_cellsAgain, cX8_cellsAgain, 2, (some (Jvm.ClassFile.FieldType.int)), 3, []),
  (yX8_holes, cX8_holes, 1, (some (Jvm.ClassFile.FieldType.int)), 1, []),
  (yX8_holesAgain, cX8_holesAgain, 3, (some (Jvm.ClassFile.FieldType.int)), 1, []),
  (yX8_touches, cX8_touches, 6, (some (Jvm.ClassFile.FieldType.int)), 2, []),
  (yX8_isAhead, cX8_isAhead, 3, (some (Jvm.ClassFile.FieldType.boolean)), 1, []),
  (yX8_ranked, cX8_ranked, 5, (some (Jvm.ClassFile.FieldType.int)), 2, []),
  (yX8_append, cX8_append, 2, (some (Jvm.ClassFile.FieldType.int)), 1, []),
  (yX8_here, cX8_here, 1, (some (Jvm.ClassFile.FieldType.int)), 0, []),
  (yX8_skips, cX8_skips, 2, (some (Jvm.ClassFile.FieldType.boolean)), 1, []),
  (yX8_figures, cX8_figures, 4, (some (Jvm.ClassFile.FieldType.boolean)), 1, []),
  (yX8_commandHere, cX8_commandHere, 2, (some (Jvm.ClassFile.FieldType.boolean)), 2, []),
  (yX8_isText, cX8_isText, 1, (some (Jvm.ClassFile.FieldType.boolean)), 3, []),
  (yX8_carries, cX8_carries, 2, (some (Jvm.ClassFile.FieldType.int)), 9, []),
  (yX8_commands, cX8_commands, 4, (some (Jvm.ClassFile.FieldType.int)), 10, []),
  (yX8_faultPosition, cX8_faultPosition, 1, (some (Jvm.ClassFile.FieldType.int)), 0, []),
  (yX8_reason, cX8_reason, 2, (some (Jvm.ClassFile.FieldType.int)), 1, []),
  (yX8_writes, cX8_writes, 2, none, 0, []),
  (yX8_line, cX8_line, 5, (some (Jvm.ClassFile.FieldType.int)), 3, []),
  (yX8_character, cX8_character, 2, (some (Jvm.ClassFile.FieldType.char)), 1, []),
  (yX8_sumOf, cX8_sumOf, 4, (some (Jvm.ClassFile.FieldType.int)), 1, []),
  (yX8_freeMany, cX8_freeMany, 3, (some (Jvm.ClassFile.FieldType.int)), 1, []),
  (yX8_wires, cX8_wires, 3, (some (Jvm.ClassFile.FieldType.int)), 2, []),
  (yX8_meanCost, cX8_meanCost, 1, (some (Jvm.ClassFile.FieldType.float)), 2, []),
  (yX8_filledShare, cX8_filledShare, 1, (some (Jvm.ClassFile.FieldType.double)), 2, []),
  (yX8_account, cX8_account, 2, (some (Jvm.ClassFile.FieldType.int)), 3, []),
  (yX8_undo, cX8_undo, 1, (some (Jvm.ClassFile.FieldType.int)), 1, []),
  (yX8_save, cX8_save, 1, (some (Jvm.ClassFile.FieldType.int)), 1, []),
  (yX8_restore, cX8_restore, 1, (some (Jvm.ClassFile.FieldType.int)), 1, [])]
def x_m9 : List x_ME := [
  (yL_net, cL_net, 4, (some (Jvm.ClassFile.FieldType.int)), 3, [(0, 9, 12, 13, "java/lang/UnsupportedOperationException", 13, 3)]),
  (yL_pin, cL_pin, 6, (some (Jvm.ClassFile.FieldType.int)), 4, [(0, 12, 15, 13, "java/lang/UnsupportedOperationException", 17, 5)]),
  (yL_wall, cL_wall, 6, (some (Jvm.ClassFile.FieldType.int)), 4, [(0, 12, 15, 13, "java/lang/UnsupportedOperationException", 17, 5)]),
  (yL_tearDown, cL_tearDown, 6, (some (Jvm.ClassFile.FieldType.int)), 3, [(0, 12, 15, 13, "java/lang/UnsupportedOperationException", 17, 5)]),
  (yL_route, cL_route, 4, (some (Jvm.ClassFile.FieldType.int)), 6, [(0, 9, 12, 13, "java/lang/UnsupportedOperationException", 13, 3)]),
  (yL_hard, cL_hard, 4, (some (Jvm.ClassFile.FieldType.int)), 6, [(0, 9, 12, 13, "java/lang/UnsupportedOperationException", 13, 3)]),
  (yL_rip, cL_rip, 4, (some (Jvm.ClassFile.FieldType.int)), 3, [(0, 9, 12, 13, "java/lang/UnsupportedOperationException", 13, 3)]),
  (yL_netOf, cL_netOf, 5, (some (Jvm.ClassFile.FieldType.int)), 3, [(0, 10, 13, 39, "java/lang/IndexOutOfBoundsException", 15, 4), (0, 10, 17, 41, "java/lang/IllegalArgumentException", 19, 4)]),
  (yL_pinOf, cL_pinOf, 5, (some (Jvm.ClassFile.FieldType.int)), 3, [(0, 10, 13, 39, "java/lang/IndexOutOfBoundsException", 15, 4)]),
  (yL_at, cL_at, 6, (some (Jvm.ClassFile.FieldType.int)), 3, [(0, 12, 15, 39, "java/lang/IndexOutOfBoundsException", 17, 5)]),
  (yL_isHole, cL_isHole, 5, (some (Jvm.ClassFile.FieldType.int)), 3, [(0, 17, 20, 39, "java/lang/IndexOutOfBoundsException", 22, 4)]),
  (yL_price, cL_price, 7, (some (Jvm.ClassFile.FieldType.int)), 4, [(0, 14, 17, 39, "java/lang/IndexOutOfBoundsException", 19, 6)]),
  (yL_wouldCost, cL_wouldCost, 4, (some (Jvm.ClassFile.FieldType.int)), 6, [(0, 9, 12, 39, "java/lang/IndexOutOfBoundsException", 13, 3), (0, 9, 15, 60, "java/util/NoSuchElementException", 16, 3)]),
  (yL_wouldRip, cL_wouldRip, 4, (some (Jvm.ClassFile.FieldType.int)), 6, [(0, 9, 12, 39, "java/lang/IndexOutOfBoundsException", 13, 3), (0, 9, 15, 60, "java/util/NoSuchElementException", 16, 3)]),
  (yL_reach, cL_reach, 5, (some (Jvm.ClassFile.FieldType.int)), 5, [(0, 10, 13, 39, "java/lang/IndexOutOfBoundsException", 15, 4)]),
  (yL_cellsOf, cL_cellsOf, 4, (some (Jvm.ClassFile.FieldType.int)), 3, [(0, 9, 12, 39, "java/lang/IndexOutOfBoundsException", 13, 3)]),
  (yL_cellsAgain, cL_cellsAgain, 4, (some (Jvm.ClassFile.FieldType.int)), 3, [(0, 9, 12, 39, "java/lang/IndexOutOfBoundsException", 13, 3)]),
  (yL_touches, cL_touches, 4, (some (Jvm.ClassFile.FieldType.int)), 3, [(0, 9, 12, 39, "java/lang/IndexOutOfBoundsException", 13, 3)]),
  (yL_ranked, cL_ranked, 4, (some (Jvm.ClassFile.FieldType.int)), 2, [(0, 9, 12, 60, "java/util/NoSuchElementException", 13, 3)]),
  (yL_append, cL_append, 4, (some (Jvm.ClassFile.FieldType.int)), 2, [(0, 9, 12, 84, "java/lang/IllegalStateException", 13, 3)]),
  (yL_commands, cL_commands, 3, (some (Jvm.ClassFile.FieldType.int)), 8, [(0, 8, 11, 41, "java/lang/IllegalArgumentException", 12, 2), (0, 8, 14, 13, "java/lang/UnsupportedOperationException", 15, 2)]),
  (yL_reason, cL_reason, 4, (some (Jvm.ClassFile.FieldType.int)), 1, [(0, 9, 12, 41, "java/lang/IllegalArgumentException", 13, 3), (0, 9, 15, 60, "java/util/NoSuchElementException", 16, 3)]),
  (yL_line, cL_line, 5, (some (Jvm.ClassFile.FieldType.int)), 3, [(0, 10, 13, 39, "java/lang/IndexOutOfBoundsException", 15, 4)]),
  (yL_character, cL_character, 4, (some (Jvm.ClassFile.FieldType.int)), 1, [(0, 9, 12, 39, "java/lang/IndexOutOfBoundsException", 13, 3)]),
  (yL_meanCost, cL_meanCost, 3, (some (Jvm.ClassFile.FieldType.int)), 2, [(0, 8, 11, 104, "java/lang/ArithmeticException", 12, 2)]),
  (yL_account, cL_account, 4, (some (Jvm.ClassFile.FieldType.int)), 2, [(0, 9, 12, 41, "java/lang/IllegalArgumentException", 13, 3)]),
  (yL_undo, cL_undo, 3, (some (Jvm.ClassFile.FieldType.int)), 4, [(0, 8, 11, 84, "java/lang/IllegalStateException", 12, 2)]),
  (yL_restore, cL_restore, 3, (some (Jvm.ClassFile.FieldType.int)), 3, [(0, 8, 11, 84, "java/lang/IllegalStateException", 12, 2)]),
  (yL_law, cL_law, 10, (some .boolean), 11, [])]
def x_dflt : x_ME := (⟨"", "", ""⟩, ⟨#[]⟩, 0, none, 0, [])
def x_cls : List (List x_ME) := [x_m0, x_m1, x_m2, x_m3, x_m4, x_m5, x_m6, x_m7, x_m8, x_m9]
def x_me (M : Nat) : x_ME := (x_cls.getD (M / 100) []).getD (M % 100) x_dflt
def x_y (M : Nat) : MethodName := (x_me M).1
def x_code (M : Nat) : ByteArray := (x_me M).2.1
def x_nl (M : Nat) : Nat := (x_me M).2.2.1
def x_ret (M : Nat) : Option FieldType := (x_me M).2.2.2.1
def x_hgt (M : Nat) : Nat := (x_me M).2.2.2.2.1
def x_hs (M : Nat) : List (Nat × Nat × Nat × Nat × String × Nat × Nat) := (x_me M).2.2.2.2.2
def x_cn (c : Nat) : String := [RX0, RX1, RX2, RX3, RX4, RX5, RX6, RX7, RX8, RL].getD c ""
def x_ftab : List (Nat × Nat × Nat × Nat × Nat) := [(7, 12, 9, 0, 264), (7, 21, 9, 1, 265), (7, 28, 9, 2, 266), (7, 37, 9, 3, 267), (7, 44, 9, 4, 268), (7, 51, 9, 5, 269), (7, 58, 9, 6, 270), (7, 62, 9, 7, 271), (7, 98, 2, 2, 46), (7, 102, 2, 4, 54), (7, 106, 2, 3, 50), (7, 109, 2, 5, 57), (7, 112, 2, 6, 60), (7, 115, 2, 7, 63), (7, 118, 2, 8, 65), (7, 140, 2, 10, 71), (7, 146, 2, 12, 77), (7, 161, 7, 13, 131), (7, 188, 2, 0, 41), (7, 196, 4, 1, 242), (7, 213, 6, 3, 178), (7, 235, 6, 0, 172), (7, 240, 6, 1, 174), (7, 243, 6, 2, 176), (7, 250, 8, 1, 258), (7, 256, 8, 0, 256), (7, 270, 2, 1, 44), (7, 273, 5, 4, 218), (7, 286, 5, 5, 220), (0, 9, 2, 0, 39), (0, 15, 2, 1, 42), (0, 18, 2, 2, 45), (0, 22, 2, 3, 47), (0, 25, 2, 4, 51), (0, 29, 2, 5, 55), (0, 32, 2, 6, 58), (0, 35, 2, 7, 61), (0, 38, 2, 8, 64), (0, 41, 2, 9, 66), (0, 44, 2, 10, 67), (0, 47, 2, 11, 72), (0, 50, 2, 12, 75), (1, 9, 3, 0, 194), (1, 15, 3, 1, 195), (1, 19, 3, 2, 196), (1, 23, 2, 0, 40), (1, 47, 2, 3, 49), (1, 51, 2, 4, 53), (1, 59, 2, 10, 69), (1, 76, 2, 1, 43), (1, 89, 7, 14, 133), (1, 99, 7, 12, 128), (1, 108, 7, 10, 124), (1, 111, 7, 11, 126), (1, 118, 2, 5, 56), (1, 121, 7, 13, 130), (1, 123, 2, 6, 59), (1, 129, 2, 7, 62), (2, 9, 4, 0, 240), (2, 15, 4, 1, 241), (3, 13, 5, 1, 214), (3, 18, 5, 2, 215), (3, 22, 5, 3, 216), (3, 26, 5, 4, 217), (3, 29, 5, 5, 219), (3, 33, 5, 0, 213), (4, 9, 6, 0, 171), (4, 15, 6, 1, 173), (4, 18, 6, 2, 175), (4, 21, 6, 3, 177), (5, 9, 7, 1, 114), (5, 15, 7, 2, 115), (5, 18, 7, 3, 116), (5, 21, 7, 4, 117), (5, 24, 7, 5, 118), (5, 28, 7, 6, 119), (5, 32, 7, 7, 120), (5, 35, 7, 8, 121), (5, 38, 7, 9, 122), (5, 42, 7, 10, 123), (5, 45, 7, 11, 125), (5, 48, 7, 12, 127), (5, 51, 7, 13, 129), (5, 54, 7, 14, 132), (5, 57, 7, 0, 113), (5, 67, 2, 10, 68), (5, 70, 2, 11, 73), (5, 73, 2, 3, 48), (5, 76, 2, 4, 52), (6, 9, 8, 0, 255), (6, 15, 8, 1, 257), (6, 27, 2, 12, 76), (6, 33, 2, 10, 70), (6, 37, 2, 11, 74), (8, 7, 10, 0, 1029), (8, 13, 10, 1, 1030), (8, 16, 10, 2, 1031), (8, 19, 10, 3, 1032), (8, 22, 10, 11, 1040), (8, 25, 10, 13, 1042), (8, 29, 10, 14, 1043), (8, 33, 10, 16, 1045), (8, 36, 10, 17, 1046), (8, 39, 10, 18, 1047), (8, 42, 10, 21, 1050), (8, 45, 10, 7, 1036), (8, 48, 10, 8, 1037), (8, 51, 10, 9, 1038), (8, 54, 10, 10, 1039), (8, 57, 10, 6, 1035), (8, 61, 10, 5, 1034), (8, 139, 10, 19, 1048), (8, 192, 10, 12, 1041), (8, 195, 10, 20, 1049), (8, 201, 10, 22, 1051), (8, 235, 10, 15, 1044), (8, 252, 10, 4, 1033)]
def x_itab : List (Nat × Nat × Nat × Nat × Nat) := [(0, 3, 5, 0, 1), (0, 53, 6, 0, 5), (0, 59, 3, 741, 2), (0, 63, 0, 4, 5), (1, 3, 5, 0, 1), (1, 29, 0, 401, 3), (1, 35, 0, 13, 2), (1, 39, 0, 2, 2), (1, 43, 3, 739, 3), (1, 55, 3, 740, 3), (1, 62, 0, 107, 2), (1, 66, 0, 4, 5), (1, 70, 1, 110, 1), (1, 73, 0, 14, 3), (1, 79, 0, 501, 2), (1, 85, 0, 503, 2), (1, 92, 0, 504, 1), (1, 96, 0, 8, 1), (1, 102, 0, 108, 2), (1, 105, 0, 109, 2), (1, 114, 0, 15, 4), (1, 126, 0, 16, 2), (2, 3, 5, 0, 1), (2, 19, 0, 202, 2), (2, 23, 1, 208, 1), (2, 27, 7, 0, 1), (2, 32, 8, 0, 1), (2, 36, 0, 206, 3), (2, 40, 9, 0, 2), (2, 43, 1, 207, 2), (3, 3, 5, 0, 1), (3, 17, 2, 0, 1), (3, 36, 0, 1, 2), (3, 40, 0, 303, 1), (4, 3, 5, 0, 1), (5, 3, 5, 0, 1), (5, 61, 0, 6, 3), (5, 79, 0, 501, 2), (5, 83, 0, 503, 2), (5, 87, 0, 506, 1), (5, 90, 0, 3, 3), (5, 93, 0, 507, 2), (5, 96, 0, 508, 1), (5, 100, 0, 512, 2), (5, 103, 0, 5, 3), (5, 106, 0, 510, 2), (5, 109, 0, 509, 2), (5, 112, 3, 741, 2), (5, 115, 0, 511, 3), (5, 118, 0, 513, 2), (6, 3, 5, 0, 1), (6, 19, 1, 603, 2), (6, 23, 0, 602, 2), (7, 3, 5, 0, 1), (7, 11, 2, 0, 1), (7, 18, 2, 500, 2), (7, 27, 4, 400, 1), (7, 34, 2, 100, 4), (7, 43, 2, 300, 2), (7, 50, 4, 200, 1), (7, 57, 4, 600, 1), (7, 66, 0, 301, 1), (7, 69, 0, 101, 2), (7, 73, 0, 734, 2), (7, 77, 0, 102, 4), (7, 81, 0, 103, 4), (7, 84, 0, 104, 4), (7, 87, 0, 105, 3), (7, 91, 0, 106, 2), (7, 94, 0, 736, 2), (7, 128, 0, 737, 3), (7, 132, 0, 3, 3), (7, 136, 0, 738, 4), (7, 143, 1, 740, 3), (7, 149, 0, 6, 3), (7, 152, 0, 502, 3), (7, 165, 0, 504, 1), (7, 169, 0, 501, 2), (7, 172, 0, 505, 2), (7, 175, 0, 7, 2), (7, 178, 0, 8, 1), (7, 181, 0, 11, 2), (7, 185, 0, 10, 2), (7, 193, 0, 12, 2), (7, 204, 0, 201, 2), (7, 208, 0, 205, 1), (7, 216, 0, 735, 2), (7, 219, 0, 204, 2), (7, 222, 0, 303, 1), (7, 230, 0, 302, 1), (7, 246, 0, 601, 3), (7, 260, 0, 9, 1), (7, 280, 0, 304, 1), (7, 283, 0, 305, 1), (7, 292, 0, 306, 1), (7, 297, 0, 202, 2), (7, 301, 0, 203, 2), (7, 304, 0, 2, 2), (7, 312, 1, 739, 3), (8, 1, 5, 0, 1), (8, 64, 1, 805, 4), (8, 68, 1, 804, 3), (8, 72, 1, 807, 2), (8, 76, 0, 813, 2), (8, 80, 0, 811, 3), (8, 84, 1, 816, 2), (8, 87, 0, 814, 2), (8, 90, 0, 817, 3), (8, 93, 0, 815, 2), (8, 97, 0, 818, 4), (8, 101, 0, 803, 3), (8, 104, 0, 806, 2), (8, 108, 0, 812, 4), (8, 112, 0, 810, 2), (8, 115, 1, 809, 3), (8, 119, 1, 808, 3), (8, 122, 0, 822, 1), (8, 126, 0, 825, 3), (8, 129, 0, 819, 3), (8, 133, 0, 827, 4), (8, 136, 0, 826, 4), (8, 142, 0, 830, 2), (8, 146, 0, 828, 3), (8, 150, 0, 829, 4), (8, 154, 0, 831, 3), (8, 158, 0, 838, 3), (8, 162, 0, 837, 1), (8, 165, 0, 832, 1), (8, 168, 0, 839, 2), (8, 171, 0, 833, 2), (8, 174, 0, 835, 2), (8, 177, 0, 836, 2), (8, 180, 0, 834, 2), (8, 183, 0, 802, 2), (8, 186, 0, 848, 3), (8, 189, 0, 857, 3), (8, 198, 0, 860, 1), (8, 204, 0, 861, 2), (8, 207, 0, 862, 3), (8, 210, 0, 863, 1), (8, 214, 0, 821, 4), (8, 217, 0, 823, 4), (8, 220, 0, 840, 2), (8, 223, 0, 841, 2), (8, 226, 0, 842, 2), (8, 229, 0, 864, 1), (8, 232, 0, 865, 2), (8, 238, 0, 869, 2), (8, 241, 0, 872, 2), (8, 244, 0, 873, 1), (8, 249, 0, 874, 1), (9, 7, 0, 701, 2), (9, 15, 0, 702, 4), (9, 19, 0, 703, 4), (9, 22, 0, 704, 4), (9, 25, 0, 705, 2), (9, 29, 0, 706, 2), (9, 32, 0, 707, 2), (9, 35, 0, 708, 3), (9, 43, 0, 709, 3), (9, 46, 0, 710, 4), (9, 49, 0, 711, 3), (9, 53, 0, 712, 5), (9, 57, 0, 713, 2), (9, 62, 0, 714, 2), (9, 65, 0, 715, 3), (9, 68, 0, 716, 2), (9, 71, 0, 717, 2), (9, 74, 0, 720, 2), (9, 77, 0, 721, 2), (9, 80, 0, 722, 2), (9, 86, 0, 723, 1), (9, 90, 0, 725, 2), (9, 93, 0, 726, 3), (9, 96, 0, 727, 2), (9, 100, 0, 728, 1), (9, 106, 0, 730, 2), (9, 109, 0, 731, 1), (9, 112, 0, 733, 1), (9, 115, 2, 700, 1), (9, 118, 2, 800, 1), (9, 119, 10, 900, 3), (9, 124, 0, 820, 2), (9, 125, 0, 801, 1), (9, 128, 10, 901, 5), (9, 131, 0, 821, 4), (9, 132, 10, 902, 5), (9, 134, 0, 823, 4), (9, 135, 10, 903, 5), (9, 137, 0, 824, 4), (9, 138, 10, 904, 3), (9, 141, 0, 840, 2), (9, 142, 10, 905, 3), (9, 144, 0, 841, 2), (9, 145, 10, 906, 3), (9, 147, 0, 842, 2), (9, 148, 10, 907, 4), (9, 151, 0, 843, 3), (9, 152, 10, 908, 4), (9, 154, 0, 844, 3), (9, 155, 10, 909, 5), (9, 157, 0, 845, 4), (9, 158, 10, 910, 4), (9, 160, 0, 846, 3), (9, 161, 10, 911, 6), (9, 164, 0, 847, 5), (9, 165, 10, 912, 3), (9, 167, 0, 849, 2), (9, 168, 10, 913, 3), (9, 170, 0, 850, 2), (9, 171, 10, 914, 4), (9, 173, 0, 851, 3), (9, 174, 10, 915, 3), (9, 176, 0, 852, 2), (9, 177, 10, 916, 3), (9, 179, 0, 853, 2), (9, 180, 0, 718, 1), (9, 183, 0, 854, 1), (9, 184, 0, 719, 1), (9, 187, 0, 855, 1), (9, 188, 10, 917, 3), (9, 190, 0, 856, 2), (9, 191, 10, 918, 3), (9, 193, 0, 858, 2), (9, 194, 10, 919, 3), (9, 197, 0, 859, 2), (9, 198, 10, 920, 2), (9, 201, 0, 866, 1), (9, 202, 0, 724, 1), (9, 205, 0, 867, 1), (9, 206, 10, 921, 3), (9, 208, 0, 868, 2), (9, 209, 10, 922, 4), (9, 211, 0, 870, 3), (9, 212, 10, 923, 3), (9, 214, 0, 871, 2), (9, 215, 10, 924, 2), (9, 218, 0, 875, 1), (9, 219, 0, 729, 1), (9, 223, 0, 876, 1), (9, 224, 10, 925, 3), (9, 226, 0, 877, 2), (9, 227, 10, 926, 2), (9, 229, 0, 878, 1), (9, 230, 0, 732, 1), (9, 233, 0, 879, 1), (9, 234, 10, 927, 2), (9, 236, 0, 880, 1)]
def x_ctab : List (Nat × Nat × Nat) := [(7, 9, 2), (7, 16, 7), (7, 25, 6), (7, 32, 3), (7, 41, 5), (7, 48, 4), (7, 55, 8), (3, 11, 2), (9, 8, 9), (9, 116, 10)]
def x_ttab : List (Nat × Nat × String × Nat × Nat × Nat × Nat × String) := [
  (708, 134, "java/lang/IllegalArgumentException", 121, 123, 125, 0, "what is not from 0 to 6"),
  (713, 17, "java/util/NoSuchElementException", 156, 158, 160, 0, "the net cannot be routed"),
  (714, 17, "java/util/NoSuchElementException", 156, 163, 160, 0, "the net cannot be routed the hard way"),
  (721, 15, "java/util/NoSuchElementException", 156, 191, 160, 0, "there is no such place in the order"),
  (722, 12, "java/lang/IllegalStateException", 199, 201, 203, 0, "the text buffer is full"),
  (723, 26, "java/lang/IllegalArgumentException", 121, 211, 125, 0, "the text has a fault"),
  (723, 139, "java/lang/UnsupportedOperationException", 225, 227, 229, 0, "a command is refused"),
  (725, 9, "java/lang/IllegalArgumentException", 121, 233, 125, 0, "what is not from 0 to 2"),
  (725, 29, "java/util/NoSuchElementException", 156, 238, 160, 0, "nothing was refused"),
  (727, 15, "java/lang/IndexOutOfBoundsException", 251, 253, 255, 0, "there is no such character in the line"),
  (728, 12, "java/lang/ArithmeticException", 263, 265, 267, 1, "no net is routed"),
  (730, 165, "java/lang/IllegalArgumentException", 121, 276, 125, 1, "what is not from 0 to 9"),
  (731, 10, "java/lang/IllegalStateException", 199, 278, 203, 1, "there is nothing to undo"),
  (733, 10, "java/lang/IllegalStateException", 199, 290, 203, 1, "there is no snapshot"),
  (734, 5, "java/lang/UnsupportedOperationException", 225, 295, 229, 1, "it is refused; the reason is kept"),
  (736, 11, "java/lang/IndexOutOfBoundsException", 251, 308, 255, 1, "there is no such net"),
  (737, 28, "java/lang/IndexOutOfBoundsException", 251, 310, 255, 1, "there is no such net or pin"),
  (738, 9, "java/lang/IndexOutOfBoundsException", 251, 316, 255, 1, "there is no such cell")]
def x_stab : List (Nat × Nat × String) := [(2, 47, "9"), (2, 49, "9@99"), (2, 51, "999"), (2, 53, "")]
def x_ktab : List (Nat × Nat × Int32) := [(5, 99, 1000000), (8, 132, 100000)]
def x_dtab : List (Nat × Nat × UInt64) := [(7, 268, 4636455816377925632), (8, 247, 4636455816377925632)]
def x_tm : List Nat := [701, 702, 703, 704, 705, 706, 707, 708, 709, 710, 711, 712, 713, 714, 715, 716, 717, 720, 721, 722, 723, 725, 726, 727, 728, 730, 731, 733, 734, 736, 737, 738]
def x_lk {α : Type} (l : List (Nat × Nat × α)) (c i : Nat) : Option α := (l.find? (fun q => q.1 == c && q.2.1 == i)).map (fun q => q.2.2)
theorem x_lk_mem {α : Type} {l : List (Nat × Nat × α)} {c i : Nat} {v : α} (h : x_lk l c i = some v) : (c, i, v) ∈ l := by
  unfold x_lk at h
  cases hf : l.find? (fun q => q.1 == c && q.2.1 == i) with
  | none => rw [hf] at h; cases h
  | some q =>
    rw [hf] at h
    obtain ⟨a, b, w⟩ := q
    have h1 := List.find?_some hf
    have h2 := List.mem_of_find?_eq_some hf
    simp only [Bool.and_eq_true, beq_iff_eq] at h1
    obtain ⟨rfl, rfl⟩ := h1
    cases h
    exact h2
def x_ty (ci : Nat) : Nat → FieldType := [tyJ0, tyJx00060, tyX0, tyX1, tyX2, tyX3, tyX4, tyX5, tyX6, tyX7, tyX8].getD ci (fun _ => .int)
def x_T (ci : Nat) : u_T := (vwCl.getD ci ("", fun _ => ("", "", "", false), 0)).2.1
def x_N (ci : Nat) : Nat := (vwCl.getD ci ("", fun _ => ("", "", "", false), 0)).2.2
def x_C (ci : Nat) : String := (vwCl.getD ci ("", fun _ => ("", "", "", false), 0)).1
