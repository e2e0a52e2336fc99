/-! the callees' words; written by wip/whole/gen/methods.py -/
set_option maxRecDepth 100000 in
theorem wc_FR_firstStackCell : Cond.code y_FR_firstStackCell c_FR_firstStackCell 1 ((some .int)) ∈ fw_T := fw_T_in (i := 402) rfl rfl
theorem wk_FR_firstStackCell : Cond.instanceMethod y_FR_firstStackCell ∈ fw_T := fw_T_in (i := 400) (by decide +kernel) rfl
theorem wl_FR_firstStackCell : Cond.selects y_FR_firstStackCell.cls y_FR_firstStackCell y_FR_firstStackCell ∈ fw_T := fw_T_in (i := 401) (by decide +kernel) rfl
set_option maxRecDepth 100000 in
theorem wc_ME_end : Cond.code y_ME_end c_ME_end 1 ((some .int)) ∈ fw_T := fw_T_in (i := 530) rfl rfl
theorem wk_ME_end : Cond.instanceMethod y_ME_end ∈ fw_T := fw_T_in (i := 528) (by decide +kernel) rfl
theorem wl_ME_end : Cond.selects y_ME_end.cls y_ME_end y_ME_end ∈ fw_T := fw_T_in (i := 529) (by decide +kernel) rfl
set_option maxRecDepth 100000 in
theorem wc_ME_cellsNeeded : Cond.code y_ME_cellsNeeded c_ME_cellsNeeded 1 ((some .int)) ∈ fw_T := fw_T_in (i := 743) rfl rfl
theorem wk_ME_cellsNeeded : Cond.instanceMethod y_ME_cellsNeeded ∈ fw_T := fw_T_in (i := 741) (by decide +kernel) rfl
theorem wl_ME_cellsNeeded : Cond.selects y_ME_cellsNeeded.cls y_ME_cellsNeeded y_ME_cellsNeeded ∈ fw_T := fw_T_in (i := 742) (by decide +kernel) rfl
set_option maxRecDepth 100000 in
theorem wc_HA_covers : Cond.code y_HA_covers c_HA_covers 2 ((some .boolean)) ∈ fw_T := fw_T_in (i := 668) rfl rfl
theorem wk_HA_covers : Cond.instanceMethod y_HA_covers ∈ fw_T := fw_T_in (i := 666) (by decide +kernel) rfl
theorem wl_HA_covers : Cond.selects y_HA_covers.cls y_HA_covers y_HA_covers ∈ fw_T := fw_T_in (i := 667) (by decide +kernel) rfl
set_option maxRecDepth 100000 in
theorem wc_ME_findTarget : Cond.code y_ME_findTarget c_ME_findTarget 5 ((some .int)) ∈ fw_T := fw_T_in (i := 776) rfl rfl
theorem wk_ME_findTarget : Cond.instanceMethod y_ME_findTarget ∈ fw_T := fw_T_in (i := 774) (by decide +kernel) rfl
theorem wl_ME_findTarget : Cond.selects y_ME_findTarget.cls y_ME_findTarget y_ME_findTarget ∈ fw_T := fw_T_in (i := 775) (by decide +kernel) rfl
set_option maxRecDepth 100000 in
theorem wc_CO_byteAt : Cond.code y_CO_byteAt c_CO_byteAt 2 ((some .int)) ∈ fw_T := fw_T_in (i := 573) rfl rfl
theorem wk_CO_byteAt : Cond.instanceMethod y_CO_byteAt ∈ fw_T := fw_T_in (i := 571) (by decide +kernel) rfl
theorem wl_CO_byteAt : Cond.selects y_CO_byteAt.cls y_CO_byteAt y_CO_byteAt ∈ fw_T := fw_T_in (i := 572) (by decide +kernel) rfl
set_option maxRecDepth 100000 in
theorem wc_OP_isSmallPush : Cond.code y_OP_isSmallPush c_OP_isSmallPush 1 ((some .boolean)) ∈ fw_T := fw_T_in (i := 580) rfl rfl
theorem wk_OP_isSmallPush : Cond.static y_OP_isSmallPush ∈ fw_T := fw_T_in (i := 579) (by decide +kernel) rfl
set_option maxRecDepth 100000 in
theorem wc_IN_keep : Cond.code y_IN_keep c_IN_keep 4 (none) ∈ fw_T := fw_T_in (i := 584) rfl rfl
theorem wk_IN_keep : Cond.instanceMethod y_IN_keep ∈ fw_T := fw_T_in (i := 583) (by decide +kernel) rfl
theorem wl_IN_keep : Cond.selects y_IN_keep.cls y_IN_keep y_IN_keep ∈ fw_T := fw_T_sel (q := (y_IN_keep, 4)) (List.mem_of_getElem? (i := 5) (by decide +kernel))
set_option maxRecDepth 100000 in
theorem wc_IN_readPush : Cond.code y_IN_readPush c_IN_readPush 3 ((some .boolean)) ∈ fw_T := fw_T_in (i := 577) rfl rfl
theorem wk_IN_readPush : Cond.instanceMethod y_IN_readPush ∈ fw_T := fw_T_in (i := 576) (by decide +kernel) rfl
theorem wl_IN_readPush : Cond.selects y_IN_readPush.cls y_IN_readPush y_IN_readPush ∈ fw_T := fw_T_sel (q := (y_IN_readPush, 4)) (List.mem_of_getElem? (i := 4) (by decide +kernel))
set_option maxRecDepth 100000 in
theorem wc_OP_isShort : Cond.code y_OP_isShort c_OP_isShort 2 ((some .boolean)) ∈ fw_T := fw_T_in (i := 591) rfl rfl
theorem wk_OP_isShort : Cond.static y_OP_isShort ∈ fw_T := fw_T_in (i := 590) (by decide +kernel) rfl
set_option maxRecDepth 100000 in
theorem wc_IN_readShort : Cond.code y_IN_readShort c_IN_readShort 4 ((some .boolean)) ∈ fw_T := fw_T_in (i := 588) rfl rfl
theorem wk_IN_readShort : Cond.instanceMethod y_IN_readShort ∈ fw_T := fw_T_in (i := 587) (by decide +kernel) rfl
theorem wl_IN_readShort : Cond.selects y_IN_readShort.cls y_IN_readShort y_IN_readShort ∈ fw_T := fw_T_sel (q := (y_IN_readShort, 4)) (List.mem_of_getElem? (i := 6) (by decide +kernel))
set_option maxRecDepth 100000 in
theorem wc_OP_isJump : Cond.code y_OP_isJump c_OP_isJump 1 ((some .boolean)) ∈ fw_T := fw_T_in (i := 601) rfl rfl
theorem wk_OP_isJump : Cond.static y_OP_isJump ∈ fw_T := fw_T_in (i := 600) (by decide +kernel) rfl
set_option maxRecDepth 100000 in
theorem wc_OP_isCalculation : Cond.code y_OP_isCalculation c_OP_isCalculation 1 ((some .boolean)) ∈ fw_T := fw_T_in (i := 604) rfl rfl
theorem wk_OP_isCalculation : Cond.static y_OP_isCalculation ∈ fw_T := fw_T_in (i := 603) (by decide +kernel) rfl
set_option maxRecDepth 100000 in
theorem wc_OP_sizeOf : Cond.code y_OP_sizeOf c_OP_sizeOf 1 ((some .int)) ∈ fw_T := fw_T_in (i := 598) rfl rfl
theorem wk_OP_sizeOf : Cond.static y_OP_sizeOf ∈ fw_T := fw_T_in (i := 597) (by decide +kernel) rfl
set_option maxRecDepth 100000 in
theorem wc_IN_readLong : Cond.code y_IN_readLong c_IN_readLong 6 (none) ∈ fw_T := fw_T_in (i := 595) rfl rfl
theorem wk_IN_readLong : Cond.instanceMethod y_IN_readLong ∈ fw_T := fw_T_in (i := 594) (by decide +kernel) rfl
theorem wl_IN_readLong : Cond.selects y_IN_readLong.cls y_IN_readLong y_IN_readLong ∈ fw_T := fw_T_sel (q := (y_IN_readLong, 4)) (List.mem_of_getElem? (i := 7) (by decide +kernel))
set_option maxRecDepth 100000 in
theorem wc_IN_read : Cond.code y_IN_read c_IN_read 5 (none) ∈ fw_T := fw_T_in (i := 569) rfl rfl
theorem wk_IN_read : Cond.instanceMethod y_IN_read ∈ fw_T := fw_T_in (i := 567) (by decide +kernel) rfl
theorem wl_IN_read : Cond.selects y_IN_read.cls y_IN_read y_IN_read ∈ fw_T := fw_T_in (i := 568) (by decide +kernel) rfl
set_option maxRecDepth 100000 in
theorem wc_CO_addByte : Cond.code y_CO_addByte c_CO_addByte 2 ((some .boolean)) ∈ fw_T := fw_T_in (i := 445) rfl rfl
theorem wk_CO_addByte : Cond.instanceMethod y_CO_addByte ∈ fw_T := fw_T_in (i := 443) (by decide +kernel) rfl
theorem wl_CO_addByte : Cond.selects y_CO_addByte.cls y_CO_addByte y_CO_addByte ∈ fw_T := fw_T_in (i := 444) (by decide +kernel) rfl
set_option maxRecDepth 100000 in
theorem wc_FW_feed : Cond.code y_FW_feed c_FW_feed 2 ((some .int)) ∈ fw_T := fw_T_in (i := 441) rfl rfl
theorem wk_FW_feed : Cond.instanceMethod y_FW_feed ∈ fw_T := fw_T_in (i := 439) (by decide +kernel) rfl
theorem wl_FW_feed : Cond.selects y_FW_feed.cls y_FW_feed y_FW_feed ∈ fw_T := fw_T_in (i := 440) (by decide +kernel) rfl
set_option maxRecDepth 100000 in
theorem wc_FW_areMethodNumbers : Cond.code y_FW_areMethodNumbers c_FW_areMethodNumbers 3 ((some .boolean)) ∈ fw_T := fw_T_in (i := 518) rfl rfl
theorem wk_FW_areMethodNumbers : Cond.static y_FW_areMethodNumbers ∈ fw_T := fw_T_in (i := 517) (by decide +kernel) rfl
set_option maxRecDepth 100000 in
theorem wc_CO_methodsEnd : Cond.code y_CO_methodsEnd c_CO_methodsEnd 1 ((some .int)) ∈ fw_T := fw_T_in (i := 526) rfl rfl
theorem wk_CO_methodsEnd : Cond.instanceMethod y_CO_methodsEnd ∈ fw_T := fw_T_in (i := 524) (by decide +kernel) rfl
theorem wl_CO_methodsEnd : Cond.selects y_CO_methodsEnd.cls y_CO_methodsEnd y_CO_methodsEnd ∈ fw_T := fw_T_in (i := 525) (by decide +kernel) rfl
set_option maxRecDepth 100000 in
theorem wc_CO_bytesLeft : Cond.code y_CO_bytesLeft c_CO_bytesLeft 1 ((some .int)) ∈ fw_T := fw_T_in (i := 522) rfl rfl
theorem wk_CO_bytesLeft : Cond.instanceMethod y_CO_bytesLeft ∈ fw_T := fw_T_in (i := 520) (by decide +kernel) rfl
theorem wl_CO_bytesLeft : Cond.selects y_CO_bytesLeft.cls y_CO_bytesLeft y_CO_bytesLeft ∈ fw_T := fw_T_in (i := 521) (by decide +kernel) rfl
set_option maxRecDepth 100000 in
theorem wc_CO_addMethod : Cond.code y_CO_addMethod c_CO_addMethod 7 ((some .int)) ∈ fw_T := fw_T_in (i := 549) rfl rfl
theorem wk_CO_addMethod : Cond.instanceMethod y_CO_addMethod ∈ fw_T := fw_T_in (i := 547) (by decide +kernel) rfl
theorem wl_CO_addMethod : Cond.selects y_CO_addMethod.cls y_CO_addMethod y_CO_addMethod ∈ fw_T := fw_T_in (i := 548) (by decide +kernel) rfl
set_option maxRecDepth 100000 in
theorem wc_FW_method : Cond.code y_FW_method c_FW_method 6 ((some .int)) ∈ fw_T := fw_T_in (i := 515) rfl rfl
theorem wk_FW_method : Cond.instanceMethod y_FW_method ∈ fw_T := fw_T_in (i := 513) (by decide +kernel) rfl
theorem wl_FW_method : Cond.selects y_FW_method.cls y_FW_method y_FW_method ∈ fw_T := fw_T_in (i := 514) (by decide +kernel) rfl
set_option maxRecDepth 100000 in
theorem wc_CO_addHandler : Cond.code y_CO_addHandler c_CO_addHandler 7 ((some .boolean)) ∈ fw_T := fw_T_in (i := 334) rfl rfl
theorem wk_CO_addHandler : Cond.instanceMethod y_CO_addHandler ∈ fw_T := fw_T_in (i := 332) (by decide +kernel) rfl
theorem wl_CO_addHandler : Cond.selects y_CO_addHandler.cls y_CO_addHandler y_CO_addHandler ∈ fw_T := fw_T_in (i := 333) (by decide +kernel) rfl
set_option maxRecDepth 100000 in
theorem wc_FW_handler : Cond.code y_FW_handler c_FW_handler 5 ((some .boolean)) ∈ fw_T := fw_T_in (i := 330) rfl rfl
theorem wk_FW_handler : Cond.instanceMethod y_FW_handler ∈ fw_T := fw_T_in (i := 328) (by decide +kernel) rfl
theorem wl_FW_handler : Cond.selects y_FW_handler.cls y_FW_handler y_FW_handler ∈ fw_T := fw_T_in (i := 329) (by decide +kernel) rfl
set_option maxRecDepth 100000 in
theorem wc_OP_usesLocal : Cond.code y_OP_usesLocal c_OP_usesLocal 1 ((some .boolean)) ∈ fw_T := fw_T_in (i := 611) rfl rfl
theorem wk_OP_usesLocal : Cond.static y_OP_usesLocal ∈ fw_T := fw_T_in (i := 610) (by decide +kernel) rfl
set_option maxRecDepth 100000 in
theorem wc_CO_hasMethod : Cond.code y_CO_hasMethod c_CO_hasMethod 2 ((some .boolean)) ∈ fw_T := fw_T_in (i := 426) rfl rfl
theorem wk_CO_hasMethod : Cond.instanceMethod y_CO_hasMethod ∈ fw_T := fw_T_in (i := 424) (by decide +kernel) rfl
theorem wl_CO_hasMethod : Cond.selects y_CO_hasMethod.cls y_CO_hasMethod y_CO_hasMethod ∈ fw_T := fw_T_in (i := 425) (by decide +kernel) rfl
set_option maxRecDepth 100000 in
theorem wc_SH_operandsHold : Cond.code y_SH_operandsHold c_SH_operandsHold 2 ((some .boolean)) ∈ fw_T := fw_T_in (i := 608) rfl rfl
theorem wk_SH_operandsHold : Cond.instanceMethod y_SH_operandsHold ∈ fw_T := fw_T_in (i := 607) (by decide +kernel) rfl
theorem wl_SH_operandsHold : Cond.selects y_SH_operandsHold.cls y_SH_operandsHold y_SH_operandsHold ∈ fw_T := fw_T_sel (q := (y_SH_operandsHold, 3)) (List.mem_of_getElem? (i := 8) (by decide +kernel))
set_option maxRecDepth 100000 in
theorem wc_SH_findBeginnings : Cond.code y_SH_findBeginnings c_SH_findBeginnings 4 ((some .boolean)) ∈ fw_T := fw_T_in (i := 564) rfl rfl
theorem wk_SH_findBeginnings : Cond.instanceMethod y_SH_findBeginnings ∈ fw_T := fw_T_in (i := 563) (by decide +kernel) rfl
theorem wl_SH_findBeginnings : Cond.selects y_SH_findBeginnings.cls y_SH_findBeginnings y_SH_findBeginnings ∈ fw_T := fw_T_sel (q := (y_SH_findBeginnings, 3)) (List.mem_of_getElem? (i := 3) (by decide +kernel))
set_option maxRecDepth 100000 in
theorem wc_SH_isBeginning : Cond.code y_SH_isBeginning c_SH_isBeginning 3 ((some .boolean)) ∈ fw_T := fw_T_in (i := 620) rfl rfl
theorem wk_SH_isBeginning : Cond.instanceMethod y_SH_isBeginning ∈ fw_T := fw_T_in (i := 619) (by decide +kernel) rfl
theorem wl_SH_isBeginning : Cond.selects y_SH_isBeginning.cls y_SH_isBeginning y_SH_isBeginning ∈ fw_T := fw_T_sel (q := (y_SH_isBeginning, 3)) (List.mem_of_getElem? (i := 10) (by decide +kernel))
set_option maxRecDepth 100000 in
theorem wc_SH_jumpsHold : Cond.code y_SH_jumpsHold c_SH_jumpsHold 3 ((some .boolean)) ∈ fw_T := fw_T_in (i := 616) rfl rfl
theorem wk_SH_jumpsHold : Cond.instanceMethod y_SH_jumpsHold ∈ fw_T := fw_T_in (i := 615) (by decide +kernel) rfl
theorem wl_SH_jumpsHold : Cond.selects y_SH_jumpsHold.cls y_SH_jumpsHold y_SH_jumpsHold ∈ fw_T := fw_T_sel (q := (y_SH_jumpsHold, 3)) (List.mem_of_getElem? (i := 9) (by decide +kernel))
set_option maxRecDepth 100000 in
theorem wc_SH_handlerHolds : Cond.code y_SH_handlerHolds c_SH_handlerHolds 3 ((some .boolean)) ∈ fw_T := fw_T_in (i := 629) rfl rfl
theorem wk_SH_handlerHolds : Cond.instanceMethod y_SH_handlerHolds ∈ fw_T := fw_T_in (i := 628) (by decide +kernel) rfl
theorem wl_SH_handlerHolds : Cond.selects y_SH_handlerHolds.cls y_SH_handlerHolds y_SH_handlerHolds ∈ fw_T := fw_T_sel (q := (y_SH_handlerHolds, 3)) (List.mem_of_getElem? (i := 12) (by decide +kernel))
set_option maxRecDepth 100000 in
theorem wc_SH_handlersHold : Cond.code y_SH_handlersHold c_SH_handlersHold 3 ((some .boolean)) ∈ fw_T := fw_T_in (i := 625) rfl rfl
theorem wk_SH_handlersHold : Cond.instanceMethod y_SH_handlersHold ∈ fw_T := fw_T_in (i := 624) (by decide +kernel) rfl
theorem wl_SH_handlersHold : Cond.selects y_SH_handlersHold.cls y_SH_handlersHold y_SH_handlersHold ∈ fw_T := fw_T_sel (q := (y_SH_handlersHold, 3)) (List.mem_of_getElem? (i := 11) (by decide +kernel))
set_option maxRecDepth 100000 in
theorem wc_SH_holdsFor : Cond.code y_SH_holdsFor c_SH_holdsFor 2 ((some .boolean)) ∈ fw_T := fw_T_in (i := 560) rfl rfl
theorem wk_SH_holdsFor : Cond.instanceMethod y_SH_holdsFor ∈ fw_T := fw_T_in (i := 558) (by decide +kernel) rfl
theorem wl_SH_holdsFor : Cond.selects y_SH_holdsFor.cls y_SH_holdsFor y_SH_holdsFor ∈ fw_T := fw_T_in (i := 559) (by decide +kernel) rfl
set_option maxRecDepth 100000 in
theorem wc_FL_forgetStates : Cond.code y_FL_forgetStates c_FL_forgetStates 3 (none) ∈ fw_T := fw_T_in (i := 637) rfl rfl
theorem wk_FL_forgetStates : Cond.instanceMethod y_FL_forgetStates ∈ fw_T := fw_T_in (i := 636) (by decide +kernel) rfl
theorem wl_FL_forgetStates : Cond.selects y_FL_forgetStates.cls y_FL_forgetStates y_FL_forgetStates ∈ fw_T := fw_T_sel (q := (y_FL_forgetStates, 11)) (List.mem_of_getElem? (i := 13) (by decide +kernel))
set_option maxRecDepth 100000 in
theorem wc_TY_with : Cond.code y_TY_with c_TY_with 3 ((some .int)) ∈ fw_T := fw_T_in (i := 644) rfl rfl
theorem wk_TY_with : Cond.static y_TY_with ∈ fw_T := fw_T_in (i := 643) (by decide +kernel) rfl
set_option maxRecDepth 100000 in
theorem wc_FL_argumentTypes : Cond.code y_FL_argumentTypes c_FL_argumentTypes 3 ((some .int)) ∈ fw_T := fw_T_in (i := 641) rfl rfl
theorem wk_FL_argumentTypes : Cond.static y_FL_argumentTypes ∈ fw_T := fw_T_in (i := 640) (by decide +kernel) rfl
set_option maxRecDepth 100000 in
theorem wc_FL_awaitVisit : Cond.code y_FL_awaitVisit c_FL_awaitVisit 4 (none) ∈ fw_T := fw_T_in (i := 652) rfl rfl
theorem wk_FL_awaitVisit : Cond.instanceMethod y_FL_awaitVisit ∈ fw_T := fw_T_in (i := 651) (by decide +kernel) rfl
theorem wl_FL_awaitVisit : Cond.selects y_FL_awaitVisit.cls y_FL_awaitVisit y_FL_awaitVisit ∈ fw_T := fw_T_sel (q := (y_FL_awaitVisit, 11)) (List.mem_of_getElem? (i := 15) (by decide +kernel))
set_option maxRecDepth 100000 in
theorem wc_TY_common : Cond.code y_TY_common c_TY_common 4 ((some .int)) ∈ fw_T := fw_T_in (i := 655) rfl rfl
theorem wk_TY_common : Cond.static y_TY_common ∈ fw_T := fw_T_in (i := 654) (by decide +kernel) rfl
set_option maxRecDepth 100000 in
theorem wc_FL_comeTo : Cond.code y_FL_comeTo c_FL_comeTo 8 ((some .boolean)) ∈ fw_T := fw_T_in (i := 648) rfl rfl
theorem wk_FL_comeTo : Cond.instanceMethod y_FL_comeTo ∈ fw_T := fw_T_in (i := 647) (by decide +kernel) rfl
theorem wl_FL_comeTo : Cond.selects y_FL_comeTo.cls y_FL_comeTo y_FL_comeTo ∈ fw_T := fw_T_sel (q := (y_FL_comeTo, 11)) (List.mem_of_getElem? (i := 14) (by decide +kernel))
set_option maxRecDepth 100000 in
theorem wc_FL_comeToHandlers : Cond.code y_FL_comeToHandlers c_FL_comeToHandlers 5 ((some .boolean)) ∈ fw_T := fw_T_in (i := 664) rfl rfl
theorem wk_FL_comeToHandlers : Cond.instanceMethod y_FL_comeToHandlers ∈ fw_T := fw_T_in (i := 663) (by decide +kernel) rfl
theorem wl_FL_comeToHandlers : Cond.selects y_FL_comeToHandlers.cls y_FL_comeToHandlers y_FL_comeToHandlers ∈ fw_T := fw_T_sel (q := (y_FL_comeToHandlers, 11)) (List.mem_of_getElem? (i := 17) (by decide +kernel))
set_option maxRecDepth 100000 in
theorem wc_TY_at : Cond.code y_TY_at c_TY_at 2 ((some .int)) ∈ fw_T := fw_T_in (i := 433) rfl rfl
theorem wk_TY_at : Cond.static y_TY_at ∈ fw_T := fw_T_in (i := 432) (by decide +kernel) rfl
set_option maxRecDepth 100000 in
theorem wc_FL_takeAny : Cond.code y_FL_takeAny c_FL_takeAny 2 ((some .int)) ∈ fw_T := fw_T_in (i := 676) rfl rfl
theorem wk_FL_takeAny : Cond.instanceMethod y_FL_takeAny ∈ fw_T := fw_T_in (i := 675) (by decide +kernel) rfl
theorem wl_FL_takeAny : Cond.selects y_FL_takeAny.cls y_FL_takeAny y_FL_takeAny ∈ fw_T := fw_T_sel (q := (y_FL_takeAny, 11)) (List.mem_of_getElem? (i := 19) (by decide +kernel))
set_option maxRecDepth 100000 in
theorem wc_FL_put : Cond.code y_FL_put c_FL_put 2 (none) ∈ fw_T := fw_T_in (i := 684) rfl rfl
theorem wk_FL_put : Cond.instanceMethod y_FL_put ∈ fw_T := fw_T_in (i := 683) (by decide +kernel) rfl
theorem wl_FL_put : Cond.selects y_FL_put.cls y_FL_put y_FL_put ∈ fw_T := fw_T_sel (q := (y_FL_put, 11)) (List.mem_of_getElem? (i := 21) (by decide +kernel))
set_option maxRecDepth 100000 in
theorem wc_FL_applyDup : Cond.code y_FL_applyDup c_FL_applyDup 2 ((some .boolean)) ∈ fw_T := fw_T_in (i := 680) rfl rfl
theorem wk_FL_applyDup : Cond.instanceMethod y_FL_applyDup ∈ fw_T := fw_T_in (i := 679) (by decide +kernel) rfl
theorem wl_FL_applyDup : Cond.selects y_FL_applyDup.cls y_FL_applyDup y_FL_applyDup ∈ fw_T := fw_T_sel (q := (y_FL_applyDup, 11)) (List.mem_of_getElem? (i := 20) (by decide +kernel))
set_option maxRecDepth 100000 in
theorem wc_FL_applySwap : Cond.code y_FL_applySwap c_FL_applySwap 3 ((some .boolean)) ∈ fw_T := fw_T_in (i := 688) rfl rfl
theorem wk_FL_applySwap : Cond.instanceMethod y_FL_applySwap ∈ fw_T := fw_T_in (i := 687) (by decide +kernel) rfl
theorem wl_FL_applySwap : Cond.selects y_FL_applySwap.cls y_FL_applySwap y_FL_applySwap ∈ fw_T := fw_T_sel (q := (y_FL_applySwap, 11)) (List.mem_of_getElem? (i := 22) (by decide +kernel))
set_option maxRecDepth 100000 in
theorem wc_FL_applyCall : Cond.code y_FL_applyCall c_FL_applyCall 3 ((some .boolean)) ∈ fw_T := fw_T_in (i := 692) rfl rfl
theorem wk_FL_applyCall : Cond.instanceMethod y_FL_applyCall ∈ fw_T := fw_T_in (i := 691) (by decide +kernel) rfl
theorem wl_FL_applyCall : Cond.selects y_FL_applyCall.cls y_FL_applyCall y_FL_applyCall ∈ fw_T := fw_T_sel (q := (y_FL_applyCall, 11)) (List.mem_of_getElem? (i := 23) (by decide +kernel))
set_option maxRecDepth 100000 in
theorem wc_TY_readFromLocal : Cond.code y_TY_readFromLocal c_TY_readFromLocal 1 ((some .int)) ∈ fw_T := fw_T_in (i := 700) rfl rfl
theorem wk_TY_readFromLocal : Cond.static y_TY_readFromLocal ∈ fw_T := fw_T_in (i := 699) (by decide +kernel) rfl
set_option maxRecDepth 100000 in
theorem wc_TY_taken : Cond.code y_TY_taken c_TY_taken 1 ((some .int)) ∈ fw_T := fw_T_in (i := 703) rfl rfl
theorem wk_TY_taken : Cond.static y_TY_taken ∈ fw_T := fw_T_in (i := 702) (by decide +kernel) rfl
set_option maxRecDepth 100000 in
theorem wc_TY_writtenToLocal : Cond.code y_TY_writtenToLocal c_TY_writtenToLocal 1 ((some .int)) ∈ fw_T := fw_T_in (i := 707) rfl rfl
theorem wk_TY_writtenToLocal : Cond.static y_TY_writtenToLocal ∈ fw_T := fw_T_in (i := 706) (by decide +kernel) rfl
set_option maxRecDepth 100000 in
theorem wc_TY_put : Cond.code y_TY_put c_TY_put 1 ((some .int)) ∈ fw_T := fw_T_in (i := 710) rfl rfl
theorem wk_TY_put : Cond.static y_TY_put ∈ fw_T := fw_T_in (i := 709) (by decide +kernel) rfl
set_option maxRecDepth 100000 in
theorem wc_FL_applyPlain : Cond.code y_FL_applyPlain c_FL_applyPlain 5 ((some .boolean)) ∈ fw_T := fw_T_in (i := 697) rfl rfl
theorem wk_FL_applyPlain : Cond.instanceMethod y_FL_applyPlain ∈ fw_T := fw_T_in (i := 696) (by decide +kernel) rfl
theorem wl_FL_applyPlain : Cond.selects y_FL_applyPlain.cls y_FL_applyPlain y_FL_applyPlain ∈ fw_T := fw_T_sel (q := (y_FL_applyPlain, 11)) (List.mem_of_getElem? (i := 24) (by decide +kernel))
set_option maxRecDepth 100000 in
theorem wc_FL_applyInstruction : Cond.code y_FL_applyInstruction c_FL_applyInstruction 2 ((some .boolean)) ∈ fw_T := fw_T_in (i := 672) rfl rfl
theorem wk_FL_applyInstruction : Cond.instanceMethod y_FL_applyInstruction ∈ fw_T := fw_T_in (i := 671) (by decide +kernel) rfl
theorem wl_FL_applyInstruction : Cond.selects y_FL_applyInstruction.cls y_FL_applyInstruction y_FL_applyInstruction ∈ fw_T := fw_T_sel (q := (y_FL_applyInstruction, 11)) (List.mem_of_getElem? (i := 18) (by decide +kernel))
set_option maxRecDepth 100000 in
theorem wc_FL_comeToFollowers : Cond.code y_FL_comeToFollowers c_FL_comeToFollowers 4 ((some .boolean)) ∈ fw_T := fw_T_in (i := 714) rfl rfl
theorem wk_FL_comeToFollowers : Cond.instanceMethod y_FL_comeToFollowers ∈ fw_T := fw_T_in (i := 713) (by decide +kernel) rfl
theorem wl_FL_comeToFollowers : Cond.selects y_FL_comeToFollowers.cls y_FL_comeToFollowers y_FL_comeToFollowers ∈ fw_T := fw_T_sel (q := (y_FL_comeToFollowers, 11)) (List.mem_of_getElem? (i := 25) (by decide +kernel))
set_option maxRecDepth 100000 in
theorem wc_FL_visit : Cond.code y_FL_visit c_FL_visit 4 ((some .boolean)) ∈ fw_T := fw_T_in (i := 659) rfl rfl
theorem wk_FL_visit : Cond.instanceMethod y_FL_visit ∈ fw_T := fw_T_in (i := 658) (by decide +kernel) rfl
theorem wl_FL_visit : Cond.selects y_FL_visit.cls y_FL_visit y_FL_visit ∈ fw_T := fw_T_sel (q := (y_FL_visit, 11)) (List.mem_of_getElem? (i := 16) (by decide +kernel))
set_option maxRecDepth 100000 in
theorem wc_FL_holdsFor : Cond.code y_FL_holdsFor c_FL_holdsFor 4 ((some .boolean)) ∈ fw_T := fw_T_in (i := 633) rfl rfl
theorem wk_FL_holdsFor : Cond.instanceMethod y_FL_holdsFor ∈ fw_T := fw_T_in (i := 631) (by decide +kernel) rfl
theorem wl_FL_holdsFor : Cond.selects y_FL_holdsFor.cls y_FL_holdsFor y_FL_holdsFor ∈ fw_T := fw_T_in (i := 632) (by decide +kernel) rfl
set_option maxRecDepth 100000 in
theorem wc_FL_countStates : Cond.code y_FL_countStates c_FL_countStates 3 ((some .int)) ∈ fw_T := fw_T_in (i := 719) rfl rfl
theorem wk_FL_countStates : Cond.instanceMethod y_FL_countStates ∈ fw_T := fw_T_in (i := 717) (by decide +kernel) rfl
theorem wl_FL_countStates : Cond.selects y_FL_countStates.cls y_FL_countStates y_FL_countStates ∈ fw_T := fw_T_in (i := 718) (by decide +kernel) rfl
set_option maxRecDepth 100000 in
theorem wc_FW_verify : Cond.code y_FW_verify c_FW_verify 3 ((some .int)) ∈ fw_T := fw_T_in (i := 556) rfl rfl
theorem wk_FW_verify : Cond.instanceMethod y_FW_verify ∈ fw_T := fw_T_in (i := 554) (by decide +kernel) rfl
theorem wl_FW_verify : Cond.selects y_FW_verify.cls y_FW_verify y_FW_verify ∈ fw_T := fw_T_in (i := 555) (by decide +kernel) rfl
set_option maxRecDepth 100000 in
theorem wc_FW_fault : Cond.code y_FW_fault c_FW_fault 1 ((some .int)) ∈ fw_T := fw_T_in (i := 338) rfl rfl
theorem wk_FW_fault : Cond.instanceMethod y_FW_fault ∈ fw_T := fw_T_in (i := 336) (by decide +kernel) rfl
theorem wl_FW_fault : Cond.selects y_FW_fault.cls y_FW_fault y_FW_fault ∈ fw_T := fw_T_in (i := 337) (by decide +kernel) rfl
set_option maxRecDepth 100000 in
theorem wc_CO_forget : Cond.code y_CO_forget c_CO_forget 1 (none) ∈ fw_T := fw_T_in (i := 346) rfl rfl
theorem wk_CO_forget : Cond.instanceMethod y_CO_forget ∈ fw_T := fw_T_in (i := 344) (by decide +kernel) rfl
theorem wl_CO_forget : Cond.selects y_CO_forget.cls y_CO_forget y_CO_forget ∈ fw_T := fw_T_in (i := 345) (by decide +kernel) rfl
set_option maxRecDepth 100000 in
theorem wc_MA_end : Cond.code y_MA_end c_MA_end 2 (none) ∈ fw_T := fw_T_in (i := 354) rfl rfl
theorem wk_MA_end : Cond.instanceMethod y_MA_end ∈ fw_T := fw_T_in (i := 353) (by decide +kernel) rfl
theorem wl_MA_end : Cond.selects y_MA_end.cls y_MA_end y_MA_end ∈ fw_T := fw_T_sel (q := (y_MA_end, 11)) (List.mem_of_getElem? (i := 0) (by decide +kernel))
set_option maxRecDepth 100000 in
theorem wc_MA_emptyStaticsAndHeap : Cond.code y_MA_emptyStaticsAndHeap c_MA_emptyStaticsAndHeap 2 (none) ∈ fw_T := fw_T_in (i := 358) rfl rfl
theorem wk_MA_emptyStaticsAndHeap : Cond.instanceMethod y_MA_emptyStaticsAndHeap ∈ fw_T := fw_T_in (i := 357) (by decide +kernel) rfl
theorem wl_MA_emptyStaticsAndHeap : Cond.selects y_MA_emptyStaticsAndHeap.cls y_MA_emptyStaticsAndHeap y_MA_emptyStaticsAndHeap ∈ fw_T := fw_T_sel (q := (y_MA_emptyStaticsAndHeap, 11)) (List.mem_of_getElem? (i := 1) (by decide +kernel))
set_option maxRecDepth 100000 in
theorem wc_MA_forget : Cond.code y_MA_forget c_MA_forget 1 (none) ∈ fw_T := fw_T_in (i := 350) rfl rfl
theorem wk_MA_forget : Cond.instanceMethod y_MA_forget ∈ fw_T := fw_T_in (i := 348) (by decide +kernel) rfl
theorem wl_MA_forget : Cond.selects y_MA_forget.cls y_MA_forget y_MA_forget ∈ fw_T := fw_T_in (i := 349) (by decide +kernel) rfl
set_option maxRecDepth 100000 in
theorem wc_FW_clear : Cond.code y_FW_clear c_FW_clear 1 (none) ∈ fw_T := fw_T_in (i := 342) rfl rfl
theorem wk_FW_clear : Cond.instanceMethod y_FW_clear ∈ fw_T := fw_T_in (i := 340) (by decide +kernel) rfl
theorem wl_FW_clear : Cond.selects y_FW_clear.cls y_FW_clear y_FW_clear ∈ fw_T := fw_T_in (i := 341) (by decide +kernel) rfl
set_option maxRecDepth 100000 in
theorem wc_FW_argument : Cond.code y_FW_argument c_FW_argument 2 ((some .boolean)) ∈ fw_T := fw_T_in (i := 362) rfl rfl
theorem wk_FW_argument : Cond.instanceMethod y_FW_argument ∈ fw_T := fw_T_in (i := 360) (by decide +kernel) rfl
theorem wl_FW_argument : Cond.selects y_FW_argument.cls y_FW_argument y_FW_argument ∈ fw_T := fw_T_in (i := 361) (by decide +kernel) rfl
set_option maxRecDepth 100000 in
theorem wc_MA_cellsTaken : Cond.code y_MA_cellsTaken c_MA_cellsTaken 1 ((some .int)) ∈ fw_T := fw_T_in (i := 739) rfl rfl
theorem wk_MA_cellsTaken : Cond.instanceMethod y_MA_cellsTaken ∈ fw_T := fw_T_in (i := 738) (by decide +kernel) rfl
theorem wl_MA_cellsTaken : Cond.selects y_MA_cellsTaken.cls y_MA_cellsTaken y_MA_cellsTaken ∈ fw_T := fw_T_sel (q := (y_MA_cellsTaken, 11)) (List.mem_of_getElem? (i := 27) (by decide +kernel))
set_option maxRecDepth 100000 in
theorem wc_MA_openFrame : Cond.code y_MA_openFrame c_MA_openFrame 4 (none) ∈ fw_T := fw_T_in (i := 735) rfl rfl
theorem wk_MA_openFrame : Cond.instanceMethod y_MA_openFrame ∈ fw_T := fw_T_in (i := 734) (by decide +kernel) rfl
theorem wl_MA_openFrame : Cond.selects y_MA_openFrame.cls y_MA_openFrame y_MA_openFrame ∈ fw_T := fw_T_sel (q := (y_MA_openFrame, 11)) (List.mem_of_getElem? (i := 26) (by decide +kernel))
set_option maxRecDepth 100000 in
theorem wc_MA_begin : Cond.code y_MA_begin c_MA_begin 4 (none) ∈ fw_T := fw_T_in (i := 731) rfl rfl
theorem wk_MA_begin : Cond.instanceMethod y_MA_begin ∈ fw_T := fw_T_in (i := 729) (by decide +kernel) rfl
theorem wl_MA_begin : Cond.selects y_MA_begin.cls y_MA_begin y_MA_begin ∈ fw_T := fw_T_in (i := 730) (by decide +kernel) rfl
set_option maxRecDepth 100000 in
theorem wc_FW_start : Cond.code y_FW_start c_FW_start 2 ((some .boolean)) ∈ fw_T := fw_T_in (i := 727) rfl rfl
theorem wk_FW_start : Cond.instanceMethod y_FW_start ∈ fw_T := fw_T_in (i := 725) (by decide +kernel) rfl
theorem wl_FW_start : Cond.selects y_FW_start.cls y_FW_start y_FW_start ∈ fw_T := fw_T_in (i := 726) (by decide +kernel) rfl
set_option maxRecDepth 100000 in
theorem wc_MA_isRunning : Cond.code y_MA_isRunning c_MA_isRunning 1 ((some .boolean)) ∈ fw_T := fw_T_in (i := 754) rfl rfl
theorem wk_MA_isRunning : Cond.instanceMethod y_MA_isRunning ∈ fw_T := fw_T_in (i := 752) (by decide +kernel) rfl
theorem wl_MA_isRunning : Cond.selects y_MA_isRunning.cls y_MA_isRunning y_MA_isRunning ∈ fw_T := fw_T_in (i := 753) (by decide +kernel) rfl
set_option maxRecDepth 100000 in
theorem wc_MA_pop : Cond.code y_MA_pop c_MA_pop 1 ((some .int)) ∈ fw_T := fw_T_in (i := 768) rfl rfl
theorem wk_MA_pop : Cond.instanceMethod y_MA_pop ∈ fw_T := fw_T_in (i := 767) (by decide +kernel) rfl
theorem wl_MA_pop : Cond.selects y_MA_pop.cls y_MA_pop y_MA_pop ∈ fw_T := fw_T_sel (q := (y_MA_pop, 11)) (List.mem_of_getElem? (i := 29) (by decide +kernel))
set_option maxRecDepth 100000 in
theorem wc_MA_goOn : Cond.code y_MA_goOn c_MA_goOn 1 (none) ∈ fw_T := fw_T_in (i := 792) rfl rfl
theorem wk_MA_goOn : Cond.instanceMethod y_MA_goOn ∈ fw_T := fw_T_in (i := 791) (by decide +kernel) rfl
theorem wl_MA_goOn : Cond.selects y_MA_goOn.cls y_MA_goOn y_MA_goOn ∈ fw_T := fw_T_sel (q := (y_MA_goOn, 11)) (List.mem_of_getElem? (i := 33) (by decide +kernel))
set_option maxRecDepth 100000 in
theorem wc_MA_push : Cond.code y_MA_push c_MA_push 2 (none) ∈ fw_T := fw_T_in (i := 781) rfl rfl
theorem wk_MA_push : Cond.instanceMethod y_MA_push ∈ fw_T := fw_T_in (i := 780) (by decide +kernel) rfl
theorem wl_MA_push : Cond.selects y_MA_push.cls y_MA_push y_MA_push ∈ fw_T := fw_T_sel (q := (y_MA_push, 11)) (List.mem_of_getElem? (i := 31) (by decide +kernel))
set_option maxRecDepth 100000 in
theorem wc_MA_closeFrame : Cond.code y_MA_closeFrame c_MA_closeFrame 1 (none) ∈ fw_T := fw_T_in (i := 785) rfl rfl
theorem wk_MA_closeFrame : Cond.instanceMethod y_MA_closeFrame ∈ fw_T := fw_T_in (i := 784) (by decide +kernel) rfl
theorem wl_MA_closeFrame : Cond.selects y_MA_closeFrame.cls y_MA_closeFrame y_MA_closeFrame ∈ fw_T := fw_T_sel (q := (y_MA_closeFrame, 11)) (List.mem_of_getElem? (i := 32) (by decide +kernel))
set_option maxRecDepth 100000 in
theorem wc_MA_trap : Cond.code y_MA_trap c_MA_trap 4 (none) ∈ fw_T := fw_T_in (i := 772) rfl rfl
theorem wk_MA_trap : Cond.instanceMethod y_MA_trap ∈ fw_T := fw_T_in (i := 771) (by decide +kernel) rfl
theorem wl_MA_trap : Cond.selects y_MA_trap.cls y_MA_trap y_MA_trap ∈ fw_T := fw_T_sel (q := (y_MA_trap, 11)) (List.mem_of_getElem? (i := 30) (by decide +kernel))
set_option maxRecDepth 100000 in
theorem wc_MA_calculate : Cond.code y_MA_calculate c_MA_calculate 3 ((some .int)) ∈ fw_T := fw_T_in (i := 788) rfl rfl
theorem wk_MA_calculate : Cond.static y_MA_calculate ∈ fw_T := fw_T_in (i := 787) (by decide +kernel) rfl
set_option maxRecDepth 100000 in
theorem wc_MA_stepCalculation : Cond.code y_MA_stepCalculation c_MA_stepCalculation 3 (none) ∈ fw_T := fw_T_in (i := 764) rfl rfl
theorem wk_MA_stepCalculation : Cond.instanceMethod y_MA_stepCalculation ∈ fw_T := fw_T_in (i := 763) (by decide +kernel) rfl
theorem wl_MA_stepCalculation : Cond.selects y_MA_stepCalculation.cls y_MA_stepCalculation y_MA_stepCalculation ∈ fw_T := fw_T_sel (q := (y_MA_stepCalculation, 11)) (List.mem_of_getElem? (i := 28) (by decide +kernel))
set_option maxRecDepth 100000 in
theorem wc_MA_isSo : Cond.code y_MA_isSo c_MA_isSo 3 ((some .boolean)) ∈ fw_T := fw_T_in (i := 800) rfl rfl
theorem wk_MA_isSo : Cond.static y_MA_isSo ∈ fw_T := fw_T_in (i := 799) (by decide +kernel) rfl
set_option maxRecDepth 100000 in
theorem wc_MA_isTaken : Cond.code y_MA_isTaken c_MA_isTaken 3 ((some .boolean)) ∈ fw_T := fw_T_in (i := 797) rfl rfl
theorem wk_MA_isTaken : Cond.instanceMethod y_MA_isTaken ∈ fw_T := fw_T_in (i := 796) (by decide +kernel) rfl
theorem wl_MA_isTaken : Cond.selects y_MA_isTaken.cls y_MA_isTaken y_MA_isTaken ∈ fw_T := fw_T_sel (q := (y_MA_isTaken, 11)) (List.mem_of_getElem? (i := 34) (by decide +kernel))
set_option maxRecDepth 100000 in
theorem wc_MA_stepLocal : Cond.code y_MA_stepLocal c_MA_stepLocal 2 (none) ∈ fw_T := fw_T_in (i := 805) rfl rfl
theorem wk_MA_stepLocal : Cond.instanceMethod y_MA_stepLocal ∈ fw_T := fw_T_in (i := 804) (by decide +kernel) rfl
theorem wl_MA_stepLocal : Cond.selects y_MA_stepLocal.cls y_MA_stepLocal y_MA_stepLocal ∈ fw_T := fw_T_sel (q := (y_MA_stepLocal, 11)) (List.mem_of_getElem? (i := 35) (by decide +kernel))
set_option maxRecDepth 100000 in
theorem wc_MA_whatIsWrong : Cond.code y_MA_whatIsWrong c_MA_whatIsWrong 3 ((some .int)) ∈ fw_T := fw_T_in (i := 817) rfl rfl
theorem wk_MA_whatIsWrong : Cond.instanceMethod y_MA_whatIsWrong ∈ fw_T := fw_T_in (i := 816) (by decide +kernel) rfl
theorem wl_MA_whatIsWrong : Cond.selects y_MA_whatIsWrong.cls y_MA_whatIsWrong y_MA_whatIsWrong ∈ fw_T := fw_T_sel (q := (y_MA_whatIsWrong, 11)) (List.mem_of_getElem? (i := 38) (by decide +kernel))
set_option maxRecDepth 100000 in
theorem wc_MA_stepArrayLoad : Cond.code y_MA_stepArrayLoad c_MA_stepArrayLoad 4 (none) ∈ fw_T := fw_T_in (i := 813) rfl rfl
theorem wk_MA_stepArrayLoad : Cond.instanceMethod y_MA_stepArrayLoad ∈ fw_T := fw_T_in (i := 812) (by decide +kernel) rfl
theorem wl_MA_stepArrayLoad : Cond.selects y_MA_stepArrayLoad.cls y_MA_stepArrayLoad y_MA_stepArrayLoad ∈ fw_T := fw_T_sel (q := (y_MA_stepArrayLoad, 11)) (List.mem_of_getElem? (i := 37) (by decide +kernel))
set_option maxRecDepth 100000 in
theorem wc_MA_stepArrayStore : Cond.code y_MA_stepArrayStore c_MA_stepArrayStore 5 (none) ∈ fw_T := fw_T_in (i := 821) rfl rfl
theorem wk_MA_stepArrayStore : Cond.instanceMethod y_MA_stepArrayStore ∈ fw_T := fw_T_in (i := 820) (by decide +kernel) rfl
theorem wl_MA_stepArrayStore : Cond.selects y_MA_stepArrayStore.cls y_MA_stepArrayStore y_MA_stepArrayStore ∈ fw_T := fw_T_sel (q := (y_MA_stepArrayStore, 11)) (List.mem_of_getElem? (i := 39) (by decide +kernel))
set_option maxRecDepth 100000 in
theorem wc_MA_stepNewArray : Cond.code y_MA_stepNewArray c_MA_stepNewArray 4 (none) ∈ fw_T := fw_T_in (i := 825) rfl rfl
theorem wk_MA_stepNewArray : Cond.instanceMethod y_MA_stepNewArray ∈ fw_T := fw_T_in (i := 824) (by decide +kernel) rfl
theorem wl_MA_stepNewArray : Cond.selects y_MA_stepNewArray.cls y_MA_stepNewArray y_MA_stepNewArray ∈ fw_T := fw_T_sel (q := (y_MA_stepNewArray, 11)) (List.mem_of_getElem? (i := 40) (by decide +kernel))
set_option maxRecDepth 100000 in
theorem wc_MA_stepLength : Cond.code y_MA_stepLength c_MA_stepLength 2 (none) ∈ fw_T := fw_T_in (i := 829) rfl rfl
theorem wk_MA_stepLength : Cond.instanceMethod y_MA_stepLength ∈ fw_T := fw_T_in (i := 828) (by decide +kernel) rfl
theorem wl_MA_stepLength : Cond.selects y_MA_stepLength.cls y_MA_stepLength y_MA_stepLength ∈ fw_T := fw_T_sel (q := (y_MA_stepLength, 11)) (List.mem_of_getElem? (i := 41) (by decide +kernel))
set_option maxRecDepth 100000 in
theorem wc_MA_stepCall : Cond.code y_MA_stepCall c_MA_stepCall 4 (none) ∈ fw_T := fw_T_in (i := 833) rfl rfl
theorem wk_MA_stepCall : Cond.instanceMethod y_MA_stepCall ∈ fw_T := fw_T_in (i := 832) (by decide +kernel) rfl
theorem wl_MA_stepCall : Cond.selects y_MA_stepCall.cls y_MA_stepCall y_MA_stepCall ∈ fw_T := fw_T_sel (q := (y_MA_stepCall, 11)) (List.mem_of_getElem? (i := 42) (by decide +kernel))
set_option maxRecDepth 100000 in
theorem wc_MA_leave : Cond.code y_MA_leave c_MA_leave 3 (none) ∈ fw_T := fw_T_in (i := 837) rfl rfl
theorem wk_MA_leave : Cond.instanceMethod y_MA_leave ∈ fw_T := fw_T_in (i := 836) (by decide +kernel) rfl
theorem wl_MA_leave : Cond.selects y_MA_leave.cls y_MA_leave y_MA_leave ∈ fw_T := fw_T_sel (q := (y_MA_leave, 11)) (List.mem_of_getElem? (i := 43) (by decide +kernel))
set_option maxRecDepth 100000 in
theorem wc_MA_moveDup : Cond.code y_MA_moveDup c_MA_moveDup 2 (none) ∈ fw_T := fw_T_in (i := 846) rfl rfl
theorem wk_MA_moveDup : Cond.instanceMethod y_MA_moveDup ∈ fw_T := fw_T_in (i := 845) (by decide +kernel) rfl
theorem wl_MA_moveDup : Cond.selects y_MA_moveDup.cls y_MA_moveDup y_MA_moveDup ∈ fw_T := fw_T_sel (q := (y_MA_moveDup, 11)) (List.mem_of_getElem? (i := 45) (by decide +kernel))
set_option maxRecDepth 100000 in
theorem wc_MA_moveSwap : Cond.code y_MA_moveSwap c_MA_moveSwap 3 (none) ∈ fw_T := fw_T_in (i := 850) rfl rfl
theorem wk_MA_moveSwap : Cond.instanceMethod y_MA_moveSwap ∈ fw_T := fw_T_in (i := 849) (by decide +kernel) rfl
theorem wl_MA_moveSwap : Cond.selects y_MA_moveSwap.cls y_MA_moveSwap y_MA_moveSwap ∈ fw_T := fw_T_sel (q := (y_MA_moveSwap, 11)) (List.mem_of_getElem? (i := 46) (by decide +kernel))
set_option maxRecDepth 100000 in
theorem wc_MA_stepMove : Cond.code y_MA_stepMove c_MA_stepMove 1 (none) ∈ fw_T := fw_T_in (i := 842) rfl rfl
theorem wk_MA_stepMove : Cond.instanceMethod y_MA_stepMove ∈ fw_T := fw_T_in (i := 841) (by decide +kernel) rfl
theorem wl_MA_stepMove : Cond.selects y_MA_stepMove.cls y_MA_stepMove y_MA_stepMove ∈ fw_T := fw_T_sel (q := (y_MA_stepMove, 11)) (List.mem_of_getElem? (i := 44) (by decide +kernel))
set_option maxRecDepth 100000 in
theorem wc_MA_stepOther : Cond.code y_MA_stepOther c_MA_stepOther 1 (none) ∈ fw_T := fw_T_in (i := 809) rfl rfl
theorem wk_MA_stepOther : Cond.instanceMethod y_MA_stepOther ∈ fw_T := fw_T_in (i := 808) (by decide +kernel) rfl
theorem wl_MA_stepOther : Cond.selects y_MA_stepOther.cls y_MA_stepOther y_MA_stepOther ∈ fw_T := fw_T_sel (q := (y_MA_stepOther, 11)) (List.mem_of_getElem? (i := 36) (by decide +kernel))
set_option maxRecDepth 100000 in
theorem wc_MA_step : Cond.code y_MA_step c_MA_step 1 (none) ∈ fw_T := fw_T_in (i := 758) rfl rfl
theorem wk_MA_step : Cond.instanceMethod y_MA_step ∈ fw_T := fw_T_in (i := 756) (by decide +kernel) rfl
theorem wl_MA_step : Cond.selects y_MA_step.cls y_MA_step y_MA_step ∈ fw_T := fw_T_in (i := 757) (by decide +kernel) rfl
set_option maxRecDepth 100000 in
theorem wc_FW_run : Cond.code y_FW_run c_FW_run 3 ((some .int)) ∈ fw_T := fw_T_in (i := 750) rfl rfl
theorem wk_FW_run : Cond.instanceMethod y_FW_run ∈ fw_T := fw_T_in (i := 748) (by decide +kernel) rfl
theorem wl_FW_run : Cond.selects y_FW_run.cls y_FW_run y_FW_run ∈ fw_T := fw_T_in (i := 749) (by decide +kernel) rfl
set_option maxRecDepth 100000 in
theorem wc_FW_state : Cond.code y_FW_state c_FW_state 1 ((some .int)) ∈ fw_T := fw_T_in (i := 366) rfl rfl
theorem wk_FW_state : Cond.instanceMethod y_FW_state ∈ fw_T := fw_T_in (i := 364) (by decide +kernel) rfl
theorem wl_FW_state : Cond.selects y_FW_state.cls y_FW_state y_FW_state ∈ fw_T := fw_T_in (i := 365) (by decide +kernel) rfl
set_option maxRecDepth 100000 in
theorem wc_FW_result : Cond.code y_FW_result c_FW_result 1 ((some .int)) ∈ fw_T := fw_T_in (i := 370) rfl rfl
theorem wk_FW_result : Cond.instanceMethod y_FW_result ∈ fw_T := fw_T_in (i := 368) (by decide +kernel) rfl
theorem wl_FW_result : Cond.selects y_FW_result.cls y_FW_result y_FW_result ∈ fw_T := fw_T_in (i := 369) (by decide +kernel) rfl
set_option maxRecDepth 100000 in
theorem wc_FW_depth : Cond.code y_FW_depth c_FW_depth 1 ((some .int)) ∈ fw_T := fw_T_in (i := 374) rfl rfl
theorem wk_FW_depth : Cond.instanceMethod y_FW_depth ∈ fw_T := fw_T_in (i := 372) (by decide +kernel) rfl
theorem wl_FW_depth : Cond.selects y_FW_depth.cls y_FW_depth y_FW_depth ∈ fw_T := fw_T_in (i := 373) (by decide +kernel) rfl
set_option maxRecDepth 100000 in
theorem wc_MA_frameBelow : Cond.code y_MA_frameBelow c_MA_frameBelow 2 ((some (.object "FrameWalk$Frame"))) ∈ fw_T := fw_T_in (i := 382) rfl rfl
theorem wk_MA_frameBelow : Cond.instanceMethod y_MA_frameBelow ∈ fw_T := fw_T_in (i := 380) (by decide +kernel) rfl
theorem wl_MA_frameBelow : Cond.selects y_MA_frameBelow.cls y_MA_frameBelow y_MA_frameBelow ∈ fw_T := fw_T_in (i := 381) (by decide +kernel) rfl
set_option maxRecDepth 100000 in
theorem wc_FW_frame : Cond.code y_FW_frame c_FW_frame 4 ((some .int)) ∈ fw_T := fw_T_in (i := 378) rfl rfl
theorem wk_FW_frame : Cond.instanceMethod y_FW_frame ∈ fw_T := fw_T_in (i := 376) (by decide +kernel) rfl
theorem wl_FW_frame : Cond.selects y_FW_frame.cls y_FW_frame y_FW_frame ∈ fw_T := fw_T_in (i := 377) (by decide +kernel) rfl
set_option maxRecDepth 100000 in
theorem wc_MA_showLocal : Cond.code y_MA_showLocal c_MA_showLocal 2 ((some .int)) ∈ fw_T := fw_T_in (i := 390) rfl rfl
theorem wk_MA_showLocal : Cond.instanceMethod y_MA_showLocal ∈ fw_T := fw_T_in (i := 388) (by decide +kernel) rfl
theorem wl_MA_showLocal : Cond.selects y_MA_showLocal.cls y_MA_showLocal y_MA_showLocal ∈ fw_T := fw_T_in (i := 389) (by decide +kernel) rfl
set_option maxRecDepth 100000 in
theorem wc_FW_local : Cond.code y_FW_local c_FW_local 2 ((some .int)) ∈ fw_T := fw_T_in (i := 386) rfl rfl
theorem wk_FW_local : Cond.instanceMethod y_FW_local ∈ fw_T := fw_T_in (i := 384) (by decide +kernel) rfl
theorem wl_FW_local : Cond.selects y_FW_local.cls y_FW_local y_FW_local ∈ fw_T := fw_T_in (i := 385) (by decide +kernel) rfl
set_option maxRecDepth 100000 in
theorem wc_MA_showStack : Cond.code y_MA_showStack c_MA_showStack 2 ((some .int)) ∈ fw_T := fw_T_in (i := 398) rfl rfl
theorem wk_MA_showStack : Cond.instanceMethod y_MA_showStack ∈ fw_T := fw_T_in (i := 396) (by decide +kernel) rfl
theorem wl_MA_showStack : Cond.selects y_MA_showStack.cls y_MA_showStack y_MA_showStack ∈ fw_T := fw_T_in (i := 397) (by decide +kernel) rfl
set_option maxRecDepth 100000 in
theorem wc_FW_stack : Cond.code y_FW_stack c_FW_stack 2 ((some .int)) ∈ fw_T := fw_T_in (i := 394) rfl rfl
theorem wk_FW_stack : Cond.instanceMethod y_FW_stack ∈ fw_T := fw_T_in (i := 392) (by decide +kernel) rfl
theorem wl_FW_stack : Cond.selects y_FW_stack.cls y_FW_stack y_FW_stack ∈ fw_T := fw_T_in (i := 393) (by decide +kernel) rfl
set_option maxRecDepth 100000 in
theorem wc_MA_showStatic : Cond.code y_MA_showStatic c_MA_showStatic 2 ((some .int)) ∈ fw_T := fw_T_in (i := 410) rfl rfl
theorem wk_MA_showStatic : Cond.instanceMethod y_MA_showStatic ∈ fw_T := fw_T_in (i := 408) (by decide +kernel) rfl
theorem wl_MA_showStatic : Cond.selects y_MA_showStatic.cls y_MA_showStatic y_MA_showStatic ∈ fw_T := fw_T_in (i := 409) (by decide +kernel) rfl
set_option maxRecDepth 100000 in
theorem wc_FW_getStatic : Cond.code y_FW_getStatic c_FW_getStatic 2 ((some .int)) ∈ fw_T := fw_T_in (i := 406) rfl rfl
theorem wk_FW_getStatic : Cond.instanceMethod y_FW_getStatic ∈ fw_T := fw_T_in (i := 404) (by decide +kernel) rfl
theorem wl_FW_getStatic : Cond.selects y_FW_getStatic.cls y_FW_getStatic y_FW_getStatic ∈ fw_T := fw_T_in (i := 405) (by decide +kernel) rfl
set_option maxRecDepth 100000 in
theorem wc_MA_showHeap : Cond.code y_MA_showHeap c_MA_showHeap 2 ((some .int)) ∈ fw_T := fw_T_in (i := 418) rfl rfl
theorem wk_MA_showHeap : Cond.instanceMethod y_MA_showHeap ∈ fw_T := fw_T_in (i := 416) (by decide +kernel) rfl
theorem wl_MA_showHeap : Cond.selects y_MA_showHeap.cls y_MA_showHeap y_MA_showHeap ∈ fw_T := fw_T_in (i := 417) (by decide +kernel) rfl
set_option maxRecDepth 100000 in
theorem wc_FW_heap : Cond.code y_FW_heap c_FW_heap 2 ((some .int)) ∈ fw_T := fw_T_in (i := 414) rfl rfl
theorem wk_FW_heap : Cond.instanceMethod y_FW_heap ∈ fw_T := fw_T_in (i := 412) (by decide +kernel) rfl
theorem wl_FW_heap : Cond.selects y_FW_heap.cls y_FW_heap y_FW_heap ∈ fw_T := fw_T_in (i := 413) (by decide +kernel) rfl
set_option maxRecDepth 100000 in
theorem wc_FL_showType : Cond.code y_FL_showType c_FL_showType 5 ((some .int)) ∈ fw_T := fw_T_in (i := 430) rfl rfl
theorem wk_FL_showType : Cond.instanceMethod y_FL_showType ∈ fw_T := fw_T_in (i := 428) (by decide +kernel) rfl
theorem wl_FL_showType : Cond.selects y_FL_showType.cls y_FL_showType y_FL_showType ∈ fw_T := fw_T_in (i := 429) (by decide +kernel) rfl
set_option maxRecDepth 100000 in
theorem wc_FW_type : Cond.code y_FW_type c_FW_type 4 ((some .int)) ∈ fw_T := fw_T_in (i := 422) rfl rfl
theorem wk_FW_type : Cond.instanceMethod y_FW_type ∈ fw_T := fw_T_in (i := 420) (by decide +kernel) rfl
theorem wl_FW_type : Cond.selects y_FW_type.cls y_FW_type y_FW_type ∈ fw_T := fw_T_in (i := 421) (by decide +kernel) rfl
set_option maxRecDepth 100000 in
theorem wc_MO_thrown : Cond.code y_MO_thrown c_MO_thrown 1 ((some .int)) ∈ fw_T := fw_T_in (i := 978) rfl rfl
theorem wk_MO_thrown : Cond.instanceMethod y_MO_thrown ∈ fw_T := fw_T_in (i := 976) (by decide +kernel) rfl
theorem wl_MO_thrown : Cond.selects y_MO_thrown.cls y_MO_thrown y_MO_thrown ∈ fw_T := fw_T_in (i := 977) (by decide +kernel) rfl
set_option maxRecDepth 100000 in
theorem wc_MO_in : Cond.code y_MO_in c_MO_in 3 ((some .boolean)) ∈ fw_T := fw_T_in (i := 989) rfl rfl
theorem wk_MO_in : Cond.static y_MO_in ∈ fw_T := fw_T_in (i := 988) (by decide +kernel) rfl
set_option maxRecDepth 100000 in
theorem wc_MO_feed : Cond.code y_MO_feed c_MO_feed 2 ((some .int)) ∈ fw_T := fw_T_in (i := 982) rfl rfl
theorem wk_MO_feed : Cond.instanceMethod y_MO_feed ∈ fw_T := fw_T_in (i := 980) (by decide +kernel) rfl
theorem wl_MO_feed : Cond.selects y_MO_feed.cls y_MO_feed y_MO_feed ∈ fw_T := fw_T_in (i := 981) (by decide +kernel) rfl
set_option maxRecDepth 100000 in
theorem wc_MO_method : Cond.code y_MO_method c_MO_method 8 ((some .int)) ∈ fw_T := fw_T_in (i := 986) rfl rfl
theorem wk_MO_method : Cond.instanceMethod y_MO_method ∈ fw_T := fw_T_in (i := 984) (by decide +kernel) rfl
theorem wl_MO_method : Cond.selects y_MO_method.cls y_MO_method y_MO_method ∈ fw_T := fw_T_in (i := 985) (by decide +kernel) rfl
set_option maxRecDepth 100000 in
theorem wc_MO_handler : Cond.code y_MO_handler c_MO_handler 6 ((some .boolean)) ∈ fw_T := fw_T_in (i := 993) rfl rfl
theorem wk_MO_handler : Cond.instanceMethod y_MO_handler ∈ fw_T := fw_T_in (i := 991) (by decide +kernel) rfl
theorem wl_MO_handler : Cond.selects y_MO_handler.cls y_MO_handler y_MO_handler ∈ fw_T := fw_T_in (i := 992) (by decide +kernel) rfl
set_option maxRecDepth 100000 in
theorem wc_MO_word : Cond.code y_MO_word c_MO_word 3 ((some .int)) ∈ fw_T := fw_T_in (i := 1025) rfl rfl
theorem wk_MO_word : Cond.instanceMethod y_MO_word ∈ fw_T := fw_T_in (i := 1024) (by decide +kernel) rfl
theorem wl_MO_word : Cond.selects y_MO_word.cls y_MO_word y_MO_word ∈ fw_T := fw_T_sel (q := (y_MO_word, 39)) (List.mem_of_getElem? (i := 50) (by decide +kernel))
set_option maxRecDepth 100000 in
theorem wc_MO_small : Cond.code y_MO_small c_MO_small 2 ((some .int)) ∈ fw_T := fw_T_in (i := 1145) rfl rfl
theorem wk_MO_small : Cond.instanceMethod y_MO_small ∈ fw_T := fw_T_in (i := 1144) (by decide +kernel) rfl
theorem wl_MO_small : Cond.selects y_MO_small.cls y_MO_small y_MO_small ∈ fw_T := fw_T_sel (q := (y_MO_small, 39)) (List.mem_of_getElem? (i := 74) (by decide +kernel))
set_option maxRecDepth 100000 in
theorem wc_MO_isShort : Cond.code y_MO_isShort c_MO_isShort 1 ((some .boolean)) ∈ fw_T := fw_T_in (i := 1011) rfl rfl
theorem wk_MO_isShort : Cond.static y_MO_isShort ∈ fw_T := fw_T_in (i := 1010) (by decide +kernel) rfl
set_option maxRecDepth 100000 in
theorem wc_MO_isJump : Cond.code y_MO_isJump c_MO_isJump 1 ((some .boolean)) ∈ fw_T := fw_T_in (i := 1017) rfl rfl
theorem wk_MO_isJump : Cond.static y_MO_isJump ∈ fw_T := fw_T_in (i := 1016) (by decide +kernel) rfl
set_option maxRecDepth 100000 in
theorem wc_MO_isSum : Cond.code y_MO_isSum c_MO_isSum 1 ((some .boolean)) ∈ fw_T := fw_T_in (i := 1014) rfl rfl
theorem wk_MO_isSum : Cond.static y_MO_isSum ∈ fw_T := fw_T_in (i := 1013) (by decide +kernel) rfl
set_option maxRecDepth 100000 in
theorem wc_MO_wide : Cond.code y_MO_wide c_MO_wide 1 ((some .int)) ∈ fw_T := fw_T_in (i := 1008) rfl rfl
theorem wk_MO_wide : Cond.static y_MO_wide ∈ fw_T := fw_T_in (i := 1007) (by decide +kernel) rfl
set_option maxRecDepth 100000 in
theorem wc_MO_localOf : Cond.code y_MO_localOf c_MO_localOf 3 ((some .int)) ∈ fw_T := fw_T_in (i := 1021) rfl rfl
theorem wk_MO_localOf : Cond.instanceMethod y_MO_localOf ∈ fw_T := fw_T_in (i := 1020) (by decide +kernel) rfl
theorem wl_MO_localOf : Cond.selects y_MO_localOf.cls y_MO_localOf y_MO_localOf ∈ fw_T := fw_T_sel (q := (y_MO_localOf, 39)) (List.mem_of_getElem? (i := 49) (by decide +kernel))
set_option maxRecDepth 100000 in
theorem wc_MO_isStart : Cond.code y_MO_isStart c_MO_isStart 3 ((some .boolean)) ∈ fw_T := fw_T_in (i := 1030) rfl rfl
theorem wk_MO_isStart : Cond.instanceMethod y_MO_isStart ∈ fw_T := fw_T_in (i := 1029) (by decide +kernel) rfl
theorem wl_MO_isStart : Cond.selects y_MO_isStart.cls y_MO_isStart y_MO_isStart ∈ fw_T := fw_T_sel (q := (y_MO_isStart, 39)) (List.mem_of_getElem? (i := 51) (by decide +kernel))
set_option maxRecDepth 100000 in
theorem wc_MO_instruction : Cond.code y_MO_instruction c_MO_instruction 6 ((some .boolean)) ∈ fw_T := fw_T_in (i := 1005) rfl rfl
theorem wk_MO_instruction : Cond.instanceMethod y_MO_instruction ∈ fw_T := fw_T_in (i := 1004) (by decide +kernel) rfl
theorem wl_MO_instruction : Cond.selects y_MO_instruction.cls y_MO_instruction y_MO_instruction ∈ fw_T := fw_T_sel (q := (y_MO_instruction, 39)) (List.mem_of_getElem? (i := 48) (by decide +kernel))
set_option maxRecDepth 100000 in
theorem wc_MO_shape : Cond.code y_MO_shape c_MO_shape 6 ((some .boolean)) ∈ fw_T := fw_T_in (i := 1001) rfl rfl
theorem wk_MO_shape : Cond.instanceMethod y_MO_shape ∈ fw_T := fw_T_in (i := 1000) (by decide +kernel) rfl
theorem wl_MO_shape : Cond.selects y_MO_shape.cls y_MO_shape y_MO_shape ∈ fw_T := fw_T_sel (q := (y_MO_shape, 39)) (List.mem_of_getElem? (i := 47) (by decide +kernel))
set_option maxRecDepth 100000 in
theorem wc_MO_off : Cond.code y_MO_off c_MO_off 3 ((some .int)) ∈ fw_T := fw_T_in (i := 1058) rfl rfl
theorem wk_MO_off : Cond.instanceMethod y_MO_off ∈ fw_T := fw_T_in (i := 1057) (by decide +kernel) rfl
theorem wl_MO_off : Cond.selects y_MO_off.cls y_MO_off y_MO_off ∈ fw_T := fw_T_sel (q := (y_MO_off, 39)) (List.mem_of_getElem? (i := 58) (by decide +kernel))
set_option maxRecDepth 100000 in
theorem wc_MO_on : Cond.code y_MO_on c_MO_on 3 (none) ∈ fw_T := fw_T_in (i := 1054) rfl rfl
theorem wk_MO_on : Cond.instanceMethod y_MO_on ∈ fw_T := fw_T_in (i := 1053) (by decide +kernel) rfl
theorem wl_MO_on : Cond.selects y_MO_on.cls y_MO_on y_MO_on ∈ fw_T := fw_T_sel (q := (y_MO_on, 39)) (List.mem_of_getElem? (i := 57) (by decide +kernel))
set_option maxRecDepth 100000 in
theorem wc_MO_come : Cond.code y_MO_come c_MO_come 6 (none) ∈ fw_T := fw_T_in (i := 1038) rfl rfl
theorem wk_MO_come : Cond.instanceMethod y_MO_come ∈ fw_T := fw_T_in (i := 1037) (by decide +kernel) rfl
theorem wl_MO_come : Cond.selects y_MO_come.cls y_MO_come y_MO_come ∈ fw_T := fw_T_sel (q := (y_MO_come, 39)) (List.mem_of_getElem? (i := 53) (by decide +kernel))
set_option maxRecDepth 100000 in
theorem wc_MO_toHandlers : Cond.code y_MO_toHandlers c_MO_toHandlers 4 (none) ∈ fw_T := fw_T_in (i := 1046) rfl rfl
theorem wk_MO_toHandlers : Cond.instanceMethod y_MO_toHandlers ∈ fw_T := fw_T_in (i := 1045) (by decide +kernel) rfl
theorem wl_MO_toHandlers : Cond.selects y_MO_toHandlers.cls y_MO_toHandlers y_MO_toHandlers ∈ fw_T := fw_T_sel (q := (y_MO_toHandlers, 39)) (List.mem_of_getElem? (i := 55) (by decide +kernel))
set_option maxRecDepth 100000 in
theorem wc_MO_plain : Cond.code y_MO_plain c_MO_plain 6 ((some .boolean)) ∈ fw_T := fw_T_in (i := 1050) rfl rfl
theorem wk_MO_plain : Cond.instanceMethod y_MO_plain ∈ fw_T := fw_T_in (i := 1049) (by decide +kernel) rfl
theorem wl_MO_plain : Cond.selects y_MO_plain.cls y_MO_plain y_MO_plain ∈ fw_T := fw_T_sel (q := (y_MO_plain, 39)) (List.mem_of_getElem? (i := 56) (by decide +kernel))
set_option maxRecDepth 100000 in
theorem wc_MO_others : Cond.code y_MO_others c_MO_others 8 (none) ∈ fw_T := fw_T_in (i := 1062) rfl rfl
theorem wk_MO_others : Cond.instanceMethod y_MO_others ∈ fw_T := fw_T_in (i := 1061) (by decide +kernel) rfl
theorem wl_MO_others : Cond.selects y_MO_others.cls y_MO_others y_MO_others ∈ fw_T := fw_T_sel (q := (y_MO_others, 39)) (List.mem_of_getElem? (i := 59) (by decide +kernel))
set_option maxRecDepth 100000 in
theorem wc_MO_flowFrom : Cond.code y_MO_flowFrom c_MO_flowFrom 5 (none) ∈ fw_T := fw_T_in (i := 1042) rfl rfl
theorem wk_MO_flowFrom : Cond.instanceMethod y_MO_flowFrom ∈ fw_T := fw_T_in (i := 1041) (by decide +kernel) rfl
theorem wl_MO_flowFrom : Cond.selects y_MO_flowFrom.cls y_MO_flowFrom y_MO_flowFrom ∈ fw_T := fw_T_sel (q := (y_MO_flowFrom, 39)) (List.mem_of_getElem? (i := 54) (by decide +kernel))
set_option maxRecDepth 100000 in
theorem wc_MO_flow : Cond.code y_MO_flow c_MO_flow 4 ((some .boolean)) ∈ fw_T := fw_T_in (i := 1034) rfl rfl
theorem wk_MO_flow : Cond.instanceMethod y_MO_flow ∈ fw_T := fw_T_in (i := 1033) (by decide +kernel) rfl
theorem wl_MO_flow : Cond.selects y_MO_flow.cls y_MO_flow y_MO_flow ∈ fw_T := fw_T_sel (q := (y_MO_flow, 39)) (List.mem_of_getElem? (i := 52) (by decide +kernel))
set_option maxRecDepth 100000 in
theorem wc_MO_verify : Cond.code y_MO_verify c_MO_verify 3 ((some .int)) ∈ fw_T := fw_T_in (i := 997) rfl rfl
theorem wk_MO_verify : Cond.instanceMethod y_MO_verify ∈ fw_T := fw_T_in (i := 995) (by decide +kernel) rfl
theorem wl_MO_verify : Cond.selects y_MO_verify.cls y_MO_verify y_MO_verify ∈ fw_T := fw_T_in (i := 996) (by decide +kernel) rfl
set_option maxRecDepth 100000 in
theorem wc_MO_fault : Cond.code y_MO_fault c_MO_fault 1 ((some .int)) ∈ fw_T := fw_T_in (i := 1066) rfl rfl
theorem wk_MO_fault : Cond.instanceMethod y_MO_fault ∈ fw_T := fw_T_in (i := 1064) (by decide +kernel) rfl
theorem wl_MO_fault : Cond.selects y_MO_fault.cls y_MO_fault y_MO_fault ∈ fw_T := fw_T_in (i := 1065) (by decide +kernel) rfl
set_option maxRecDepth 100000 in
theorem wc_MO_clear : Cond.code y_MO_clear c_MO_clear 2 (none) ∈ fw_T := fw_T_in (i := 1070) rfl rfl
theorem wk_MO_clear : Cond.instanceMethod y_MO_clear ∈ fw_T := fw_T_in (i := 1068) (by decide +kernel) rfl
theorem wl_MO_clear : Cond.selects y_MO_clear.cls y_MO_clear y_MO_clear ∈ fw_T := fw_T_in (i := 1069) (by decide +kernel) rfl
set_option maxRecDepth 100000 in
theorem wc_MO_argument : Cond.code y_MO_argument c_MO_argument 2 ((some .boolean)) ∈ fw_T := fw_T_in (i := 1074) rfl rfl
theorem wk_MO_argument : Cond.instanceMethod y_MO_argument ∈ fw_T := fw_T_in (i := 1072) (by decide +kernel) rfl
theorem wl_MO_argument : Cond.selects y_MO_argument.cls y_MO_argument y_MO_argument ∈ fw_T := fw_T_in (i := 1073) (by decide +kernel) rfl
set_option maxRecDepth 100000 in
theorem wc_MO_enter : Cond.code y_MO_enter c_MO_enter 4 ((some .boolean)) ∈ fw_T := fw_T_in (i := 1082) rfl rfl
theorem wk_MO_enter : Cond.instanceMethod y_MO_enter ∈ fw_T := fw_T_in (i := 1081) (by decide +kernel) rfl
theorem wl_MO_enter : Cond.selects y_MO_enter.cls y_MO_enter y_MO_enter ∈ fw_T := fw_T_sel (q := (y_MO_enter, 39)) (List.mem_of_getElem? (i := 60) (by decide +kernel))
set_option maxRecDepth 100000 in
theorem wc_MO_start : Cond.code y_MO_start c_MO_start 4 ((some .boolean)) ∈ fw_T := fw_T_in (i := 1078) rfl rfl
theorem wk_MO_start : Cond.instanceMethod y_MO_start ∈ fw_T := fw_T_in (i := 1076) (by decide +kernel) rfl
theorem wl_MO_start : Cond.selects y_MO_start.cls y_MO_start y_MO_start ∈ fw_T := fw_T_in (i := 1077) (by decide +kernel) rfl
set_option maxRecDepth 100000 in
theorem wc_MO_latest : Cond.code y_MO_latest c_MO_latest 1 ((some .int)) ∈ fw_T := fw_T_in (i := 1094) rfl rfl
theorem wk_MO_latest : Cond.instanceMethod y_MO_latest ∈ fw_T := fw_T_in (i := 1093) (by decide +kernel) rfl
theorem wl_MO_latest : Cond.selects y_MO_latest.cls y_MO_latest y_MO_latest ∈ fw_T := fw_T_sel (q := (y_MO_latest, 39)) (List.mem_of_getElem? (i := 62) (by decide +kernel))
set_option maxRecDepth 100000 in
theorem wc_MO_stackAt : Cond.code y_MO_stackAt c_MO_stackAt 2 ((some .int)) ∈ fw_T := fw_T_in (i := 1102) rfl rfl
theorem wk_MO_stackAt : Cond.instanceMethod y_MO_stackAt ∈ fw_T := fw_T_in (i := 1101) (by decide +kernel) rfl
theorem wl_MO_stackAt : Cond.selects y_MO_stackAt.cls y_MO_stackAt y_MO_stackAt ∈ fw_T := fw_T_sel (q := (y_MO_stackAt, 39)) (List.mem_of_getElem? (i := 64) (by decide +kernel))
set_option maxRecDepth 100000 in
theorem wc_MO_push : Cond.code y_MO_push c_MO_push 2 (none) ∈ fw_T := fw_T_in (i := 1118) rfl rfl
theorem wk_MO_push : Cond.instanceMethod y_MO_push ∈ fw_T := fw_T_in (i := 1117) (by decide +kernel) rfl
theorem wl_MO_push : Cond.selects y_MO_push.cls y_MO_push y_MO_push ∈ fw_T := fw_T_sel (q := (y_MO_push, 39)) (List.mem_of_getElem? (i := 68) (by decide +kernel))
set_option maxRecDepth 100000 in
theorem wc_MO_pop : Cond.code y_MO_pop c_MO_pop 1 ((some .int)) ∈ fw_T := fw_T_in (i := 1098) rfl rfl
theorem wk_MO_pop : Cond.instanceMethod y_MO_pop ∈ fw_T := fw_T_in (i := 1097) (by decide +kernel) rfl
theorem wl_MO_pop : Cond.selects y_MO_pop.cls y_MO_pop y_MO_pop ∈ fw_T := fw_T_sel (q := (y_MO_pop, 39)) (List.mem_of_getElem? (i := 63) (by decide +kernel))
set_option maxRecDepth 100000 in
theorem wc_MO_leave : Cond.code y_MO_leave c_MO_leave 1 (none) ∈ fw_T := fw_T_in (i := 1110) rfl rfl
theorem wk_MO_leave : Cond.instanceMethod y_MO_leave ∈ fw_T := fw_T_in (i := 1109) (by decide +kernel) rfl
theorem wl_MO_leave : Cond.selects y_MO_leave.cls y_MO_leave y_MO_leave ∈ fw_T := fw_T_sel (q := (y_MO_leave, 39)) (List.mem_of_getElem? (i := 66) (by decide +kernel))
set_option maxRecDepth 100000 in
theorem wc_MO_stop : Cond.code y_MO_stop c_MO_stop 2 (none) ∈ fw_T := fw_T_in (i := 1114) rfl rfl
theorem wk_MO_stop : Cond.instanceMethod y_MO_stop ∈ fw_T := fw_T_in (i := 1113) (by decide +kernel) rfl
theorem wl_MO_stop : Cond.selects y_MO_stop.cls y_MO_stop y_MO_stop ∈ fw_T := fw_T_sel (q := (y_MO_stop, 39)) (List.mem_of_getElem? (i := 67) (by decide +kernel))
set_option maxRecDepth 100000 in
theorem wc_MO_trap : Cond.code y_MO_trap c_MO_trap 6 (none) ∈ fw_T := fw_T_in (i := 1137) rfl rfl
theorem wk_MO_trap : Cond.instanceMethod y_MO_trap ∈ fw_T := fw_T_in (i := 1136) (by decide +kernel) rfl
theorem wl_MO_trap : Cond.selects y_MO_trap.cls y_MO_trap y_MO_trap ∈ fw_T := fw_T_sel (q := (y_MO_trap, 39)) (List.mem_of_getElem? (i := 72) (by decide +kernel))
set_option maxRecDepth 100000 in
theorem wc_MO_end : Cond.code y_MO_end c_MO_end 3 (none) ∈ fw_T := fw_T_in (i := 1106) rfl rfl
theorem wk_MO_end : Cond.instanceMethod y_MO_end ∈ fw_T := fw_T_in (i := 1105) (by decide +kernel) rfl
theorem wl_MO_end : Cond.selects y_MO_end.cls y_MO_end y_MO_end ∈ fw_T := fw_T_sel (q := (y_MO_end, 39)) (List.mem_of_getElem? (i := 65) (by decide +kernel))
set_option maxRecDepth 100000 in
theorem wc_MO_call : Cond.code y_MO_call c_MO_call 6 (none) ∈ fw_T := fw_T_in (i := 1122) rfl rfl
theorem wk_MO_call : Cond.instanceMethod y_MO_call ∈ fw_T := fw_T_in (i := 1121) (by decide +kernel) rfl
theorem wl_MO_call : Cond.selects y_MO_call.cls y_MO_call y_MO_call ∈ fw_T := fw_T_sel (q := (y_MO_call, 39)) (List.mem_of_getElem? (i := 69) (by decide +kernel))
set_option maxRecDepth 100000 in
theorem wc_MO_sum : Cond.code y_MO_sum c_MO_sum 3 ((some .int)) ∈ fw_T := fw_T_in (i := 1148) rfl rfl
theorem wk_MO_sum : Cond.static y_MO_sum ∈ fw_T := fw_T_in (i := 1147) (by decide +kernel) rfl
set_option maxRecDepth 100000 in
theorem wc_MO_holds : Cond.code y_MO_holds c_MO_holds 3 ((some .boolean)) ∈ fw_T := fw_T_in (i := 1129) rfl rfl
theorem wk_MO_holds : Cond.static y_MO_holds ∈ fw_T := fw_T_in (i := 1128) (by decide +kernel) rfl
set_option maxRecDepth 100000 in
theorem wc_MO_jumps : Cond.code y_MO_jumps c_MO_jumps 4 ((some .boolean)) ∈ fw_T := fw_T_in (i := 1126) rfl rfl
theorem wk_MO_jumps : Cond.instanceMethod y_MO_jumps ∈ fw_T := fw_T_in (i := 1125) (by decide +kernel) rfl
theorem wl_MO_jumps : Cond.selects y_MO_jumps.cls y_MO_jumps y_MO_jumps ∈ fw_T := fw_T_sel (q := (y_MO_jumps, 39)) (List.mem_of_getElem? (i := 70) (by decide +kernel))
set_option maxRecDepth 100000 in
theorem wc_MO_arrays : Cond.code y_MO_arrays c_MO_arrays 6 ((some .boolean)) ∈ fw_T := fw_T_in (i := 1133) rfl rfl
theorem wk_MO_arrays : Cond.instanceMethod y_MO_arrays ∈ fw_T := fw_T_in (i := 1132) (by decide +kernel) rfl
theorem wl_MO_arrays : Cond.selects y_MO_arrays.cls y_MO_arrays y_MO_arrays ∈ fw_T := fw_T_sel (q := (y_MO_arrays, 39)) (List.mem_of_getElem? (i := 71) (by decide +kernel))
set_option maxRecDepth 100000 in
theorem wc_MO_moves : Cond.code y_MO_moves c_MO_moves 7 ((some .boolean)) ∈ fw_T := fw_T_in (i := 1141) rfl rfl
theorem wk_MO_moves : Cond.instanceMethod y_MO_moves ∈ fw_T := fw_T_in (i := 1140) (by decide +kernel) rfl
theorem wl_MO_moves : Cond.selects y_MO_moves.cls y_MO_moves y_MO_moves ∈ fw_T := fw_T_sel (q := (y_MO_moves, 39)) (List.mem_of_getElem? (i := 73) (by decide +kernel))
set_option maxRecDepth 100000 in
theorem wc_MO_step : Cond.code y_MO_step c_MO_step 7 (none) ∈ fw_T := fw_T_in (i := 1090) rfl rfl
theorem wk_MO_step : Cond.instanceMethod y_MO_step ∈ fw_T := fw_T_in (i := 1089) (by decide +kernel) rfl
theorem wl_MO_step : Cond.selects y_MO_step.cls y_MO_step y_MO_step ∈ fw_T := fw_T_sel (q := (y_MO_step, 39)) (List.mem_of_getElem? (i := 61) (by decide +kernel))
set_option maxRecDepth 100000 in
theorem wc_MO_run : Cond.code y_MO_run c_MO_run 3 ((some .int)) ∈ fw_T := fw_T_in (i := 1086) rfl rfl
theorem wk_MO_run : Cond.instanceMethod y_MO_run ∈ fw_T := fw_T_in (i := 1084) (by decide +kernel) rfl
theorem wl_MO_run : Cond.selects y_MO_run.cls y_MO_run y_MO_run ∈ fw_T := fw_T_in (i := 1085) (by decide +kernel) rfl
set_option maxRecDepth 100000 in
theorem wc_MO_state : Cond.code y_MO_state c_MO_state 1 ((some .int)) ∈ fw_T := fw_T_in (i := 1152) rfl rfl
theorem wk_MO_state : Cond.instanceMethod y_MO_state ∈ fw_T := fw_T_in (i := 1150) (by decide +kernel) rfl
theorem wl_MO_state : Cond.selects y_MO_state.cls y_MO_state y_MO_state ∈ fw_T := fw_T_in (i := 1151) (by decide +kernel) rfl
set_option maxRecDepth 100000 in
theorem wc_MO_result : Cond.code y_MO_result c_MO_result 1 ((some .int)) ∈ fw_T := fw_T_in (i := 1156) rfl rfl
theorem wk_MO_result : Cond.instanceMethod y_MO_result ∈ fw_T := fw_T_in (i := 1154) (by decide +kernel) rfl
theorem wl_MO_result : Cond.selects y_MO_result.cls y_MO_result y_MO_result ∈ fw_T := fw_T_in (i := 1155) (by decide +kernel) rfl
set_option maxRecDepth 100000 in
theorem wc_MO_depth : Cond.code y_MO_depth c_MO_depth 1 ((some .int)) ∈ fw_T := fw_T_in (i := 1160) rfl rfl
theorem wk_MO_depth : Cond.instanceMethod y_MO_depth ∈ fw_T := fw_T_in (i := 1158) (by decide +kernel) rfl
theorem wl_MO_depth : Cond.selects y_MO_depth.cls y_MO_depth y_MO_depth ∈ fw_T := fw_T_in (i := 1159) (by decide +kernel) rfl
set_option maxRecDepth 100000 in
theorem wc_MO_frame : Cond.code y_MO_frame c_MO_frame 4 ((some .int)) ∈ fw_T := fw_T_in (i := 1164) rfl rfl
theorem wk_MO_frame : Cond.instanceMethod y_MO_frame ∈ fw_T := fw_T_in (i := 1162) (by decide +kernel) rfl
theorem wl_MO_frame : Cond.selects y_MO_frame.cls y_MO_frame y_MO_frame ∈ fw_T := fw_T_in (i := 1163) (by decide +kernel) rfl
set_option maxRecDepth 100000 in
theorem wc_MO_local : Cond.code y_MO_local c_MO_local 2 ((some .int)) ∈ fw_T := fw_T_in (i := 1168) rfl rfl
theorem wk_MO_local : Cond.instanceMethod y_MO_local ∈ fw_T := fw_T_in (i := 1166) (by decide +kernel) rfl
theorem wl_MO_local : Cond.selects y_MO_local.cls y_MO_local y_MO_local ∈ fw_T := fw_T_in (i := 1167) (by decide +kernel) rfl
set_option maxRecDepth 100000 in
theorem wc_MO_stack : Cond.code y_MO_stack c_MO_stack 2 ((some .int)) ∈ fw_T := fw_T_in (i := 1172) rfl rfl
theorem wk_MO_stack : Cond.instanceMethod y_MO_stack ∈ fw_T := fw_T_in (i := 1170) (by decide +kernel) rfl
theorem wl_MO_stack : Cond.selects y_MO_stack.cls y_MO_stack y_MO_stack ∈ fw_T := fw_T_in (i := 1171) (by decide +kernel) rfl
set_option maxRecDepth 100000 in
theorem wc_MO_getStatic : Cond.code y_MO_getStatic c_MO_getStatic 2 ((some .int)) ∈ fw_T := fw_T_in (i := 1176) rfl rfl
theorem wk_MO_getStatic : Cond.instanceMethod y_MO_getStatic ∈ fw_T := fw_T_in (i := 1174) (by decide +kernel) rfl
theorem wl_MO_getStatic : Cond.selects y_MO_getStatic.cls y_MO_getStatic y_MO_getStatic ∈ fw_T := fw_T_in (i := 1175) (by decide +kernel) rfl
set_option maxRecDepth 100000 in
theorem wc_MO_heap : Cond.code y_MO_heap c_MO_heap 2 ((some .int)) ∈ fw_T := fw_T_in (i := 1180) rfl rfl
theorem wk_MO_heap : Cond.instanceMethod y_MO_heap ∈ fw_T := fw_T_in (i := 1178) (by decide +kernel) rfl
theorem wl_MO_heap : Cond.selects y_MO_heap.cls y_MO_heap y_MO_heap ∈ fw_T := fw_T_in (i := 1179) (by decide +kernel) rfl
set_option maxRecDepth 100000 in
theorem wc_MO_type : Cond.code y_MO_type c_MO_type 5 ((some .int)) ∈ fw_T := fw_T_in (i := 1184) rfl rfl
theorem wk_MO_type : Cond.instanceMethod y_MO_type ∈ fw_T := fw_T_in (i := 1182) (by decide +kernel) rfl
theorem wl_MO_type : Cond.selects y_MO_type.cls y_MO_type y_MO_type ∈ fw_T := fw_T_in (i := 1183) (by decide +kernel) rfl
theorem wi_FR : Cond.initialized R_FR ∈ fw_T := fw_T_in (i := 9) (by decide +kernel) rfl
theorem wi_ME : Cond.initialized R_ME ∈ fw_T := fw_T_in (i := 3) (by decide +kernel) rfl
theorem wi_HA : Cond.initialized R_HA ∈ fw_T := fw_T_in (i := 4) (by decide +kernel) rfl
theorem wi_IN : Cond.initialized R_IN ∈ fw_T := fw_T_in (i := 6) (by decide +kernel) rfl
theorem wi_FW : Cond.initialized R_FW ∈ fw_T := fw_T_in (i := 1) (by decide +kernel) rfl
theorem wi_CO : Cond.initialized R_CO ∈ fw_T := fw_T_in (i := 2) (by decide +kernel) rfl
theorem wi_SH : Cond.initialized R_SH ∈ fw_T := fw_T_in (i := 5) (by decide +kernel) rfl
theorem wi_FL : Cond.initialized R_FL ∈ fw_T := fw_T_in (i := 7) (by decide +kernel) rfl
theorem wi_MA : Cond.initialized R_MA ∈ fw_T := fw_T_in (i := 8) (by decide +kernel) rfl
theorem wi_MO : Cond.initialized R_MO ∈ fw_T := fw_T_in (i := 10) (by decide +kernel) rfl
theorem wi_OP : Cond.initialized R_OP ∈ fw_T := fw_T_in (i := 16) (by decide +kernel) rfl
theorem wi_TY : Cond.initialized R_TY ∈ fw_T := fw_T_in (i := 17) (by decide +kernel) rfl
theorem wi_LA : Cond.initialized R_LA ∈ fw_T := fw_T_in (i := 0) (by decide +kernel) rfl
