section WDS
theorem uXa0 : ∀ x ∈ u_ws RX0 TX0 10, x ∈ lw_tbl := by decide +kernel
theorem uXb0 : ∀ x ∈ u_ws RX0 TX0 10, mvW x = true := by decide +kernel
theorem uX0 : ∀ x ∈ u_ws RX0 TX0 10, Wd x := fun x h => ⟨uXa0 x h, uXb0 x h⟩
theorem uXa1 : ∀ x ∈ u_ws RX1 TX1 15, x ∈ lw_tbl := by decide +kernel
theorem uXb1 : ∀ x ∈ u_ws RX1 TX1 15, mvW x = true := by decide +kernel
theorem uX1 : ∀ x ∈ u_ws RX1 TX1 15, Wd x := fun x h => ⟨uXa1 x h, uXb1 x h⟩
theorem uXa2 : ∀ x ∈ u_ws RX2 TX2 3, x ∈ lw_tbl := by decide +kernel
theorem uXb2 : ∀ x ∈ u_ws RX2 TX2 3, mvW x = true := by decide +kernel
theorem uX2 : ∀ x ∈ u_ws RX2 TX2 3, Wd x := fun x h => ⟨uXa2 x h, uXb2 x h⟩
theorem uXa3 : ∀ x ∈ u_ws RX3 TX3 2, x ∈ lw_tbl := by decide +kernel
theorem uXb3 : ∀ x ∈ u_ws RX3 TX3 2, mvW x = true := by decide +kernel
theorem uX3 : ∀ x ∈ u_ws RX3 TX3 2, Wd x := fun x h => ⟨uXa3 x h, uXb3 x h⟩
theorem uXa4 : ∀ x ∈ u_ws RX4 TX4 5, x ∈ lw_tbl := by decide +kernel
theorem uXb4 : ∀ x ∈ u_ws RX4 TX4 5, mvW x = true := by decide +kernel
theorem uX4 : ∀ x ∈ u_ws RX4 TX4 5, Wd x := fun x h => ⟨uXa4 x h, uXb4 x h⟩
theorem uXa5 : ∀ x ∈ u_ws RX5 TX5 7, x ∈ lw_tbl := by decide +kernel
theorem uXb5 : ∀ x ∈ u_ws RX5 TX5 7, mvW x = true := by decide +kernel
theorem uX5 : ∀ x ∈ u_ws RX5 TX5 7, Wd x := fun x h => ⟨uXa5 x h, uXb5 x h⟩
theorem wc_yX5_init : Wd (.code yX5_init cX5_init 1 none) := ⟨List.mem_of_getElem? (i := 42) (by decide +kernel), rfl⟩
theorem wi_yX5_init : Wd (.instanceMethod yX5_init) := ⟨List.mem_of_getElem? (i := 41) (by decide +kernel), rfl⟩
theorem wc_yX1_init : Wd (.code yX1_init cX1_init 1 none) := ⟨List.mem_of_getElem? (i := 50) (by decide +kernel), rfl⟩
theorem wi_yX1_init : Wd (.instanceMethod yX1_init) := ⟨List.mem_of_getElem? (i := 49) (by decide +kernel), rfl⟩
theorem wc_yX2_init : Wd (.code yX2_init cX2_init 2 none) := ⟨List.mem_of_getElem? (i := 120) (by decide +kernel), rfl⟩
theorem wi_yX2_init : Wd (.instanceMethod yX2_init) := ⟨List.mem_of_getElem? (i := 119) (by decide +kernel), rfl⟩
theorem wc_yX3_init : Wd (.code yX3_init cX3_init 1 none) := ⟨List.mem_of_getElem? (i := 140) (by decide +kernel), rfl⟩
theorem wi_yX3_init : Wd (.instanceMethod yX3_init) := ⟨List.mem_of_getElem? (i := 139) (by decide +kernel), rfl⟩
theorem wc_yX0_init : Wd (.code yX0_init cX0_init 1 none) := ⟨List.mem_of_getElem? (i := 154) (by decide +kernel), rfl⟩
theorem wi_yX0_init : Wd (.instanceMethod yX0_init) := ⟨List.mem_of_getElem? (i := 153) (by decide +kernel), rfl⟩
theorem wc_yX4_init : Wd (.code yX4_init cX4_init 1 none) := ⟨List.mem_of_getElem? (i := 193) (by decide +kernel), rfl⟩
theorem wi_yX4_init : Wd (.instanceMethod yX4_init) := ⟨List.mem_of_getElem? (i := 192) (by decide +kernel), rfl⟩
theorem wc_yX5_products : Wd (.code yX5_products cX5_products 1 (some .int)) := ⟨List.mem_of_getElem? (i := 234) (by decide +kernel), rfl⟩
theorem wi_yX5_products : Wd (.instanceMethod yX5_products) := ⟨List.mem_of_getElem? (i := 232) (by decide +kernel), rfl⟩
theorem we_yX5_products : Wd (.selects yX5_products.cls yX5_products yX5_products) := ⟨List.mem_of_getElem? (i := 233) (by decide +kernel), rfl⟩
theorem wc_yX1_everyCarrier : Wd (.code yX1_everyCarrier cX1_everyCarrier 1 (some .int)) := ⟨List.mem_of_getElem? (i := 238) (by decide +kernel), rfl⟩
theorem wi_yX1_everyCarrier : Wd (.instanceMethod yX1_everyCarrier) := ⟨List.mem_of_getElem? (i := 236) (by decide +kernel), rfl⟩
theorem we_yX1_everyCarrier : Wd (.selects yX1_everyCarrier.cls yX1_everyCarrier yX1_everyCarrier) := ⟨List.mem_of_getElem? (i := 237) (by decide +kernel), rfl⟩
theorem wc_yX3_gather : Wd (.code yX3_gather cX3_gather 3 none) := ⟨List.mem_of_getElem? (i := 242) (by decide +kernel), rfl⟩
theorem wi_yX3_gather : Wd (.instanceMethod yX3_gather) := ⟨List.mem_of_getElem? (i := 240) (by decide +kernel), rfl⟩
theorem we_yX3_gather : Wd (.selects yX3_gather.cls yX3_gather yX3_gather) := ⟨List.mem_of_getElem? (i := 241) (by decide +kernel), rfl⟩
theorem wc_yX3_gatherPairs : Wd (.code yX3_gatherPairs cX3_gatherPairs 11 none) := ⟨List.mem_of_getElem? (i := 246) (by decide +kernel), rfl⟩
theorem wi_yX3_gatherPairs : Wd (.instanceMethod yX3_gatherPairs) := ⟨List.mem_of_getElem? (i := 245) (by decide +kernel), rfl⟩
theorem we_yX3_gatherPairs : Wd (.selects yX3_gatherPairs.cls yX3_gatherPairs yX3_gatherPairs) := ⟨List.mem_of_getElem? (i := 0) (by decide +kernel), rfl⟩
theorem wc_yX5_isIn : Wd (.code yX5_isIn cX5_isIn 3 (some .boolean)) := ⟨List.mem_of_getElem? (i := 249) (by decide +kernel), rfl⟩
theorem ws_yX5_isIn : Wd (.static yX5_isIn) := ⟨List.mem_of_getElem? (i := 248) (by decide +kernel), rfl⟩
theorem wc_yX1_channelOf : Wd (.code yX1_channelOf cX1_channelOf 2 (some .int)) := ⟨List.mem_of_getElem? (i := 253) (by decide +kernel), rfl⟩
theorem wi_yX1_channelOf : Wd (.instanceMethod yX1_channelOf) := ⟨List.mem_of_getElem? (i := 251) (by decide +kernel), rfl⟩
theorem we_yX1_channelOf : Wd (.selects yX1_channelOf.cls yX1_channelOf yX1_channelOf) := ⟨List.mem_of_getElem? (i := 252) (by decide +kernel), rfl⟩
theorem wc_yX1_hasCarrier : Wd (.code yX1_hasCarrier cX1_hasCarrier 2 (some .boolean)) := ⟨List.mem_of_getElem? (i := 257) (by decide +kernel), rfl⟩
theorem wi_yX1_hasCarrier : Wd (.instanceMethod yX1_hasCarrier) := ⟨List.mem_of_getElem? (i := 255) (by decide +kernel), rfl⟩
theorem we_yX1_hasCarrier : Wd (.selects yX1_hasCarrier.cls yX1_hasCarrier yX1_hasCarrier) := ⟨List.mem_of_getElem? (i := 256) (by decide +kernel), rfl⟩
theorem wc_yX1_levelOf : Wd (.code yX1_levelOf cX1_levelOf 2 (some .int)) := ⟨List.mem_of_getElem? (i := 261) (by decide +kernel), rfl⟩
theorem wi_yX1_levelOf : Wd (.instanceMethod yX1_levelOf) := ⟨List.mem_of_getElem? (i := 259) (by decide +kernel), rfl⟩
theorem we_yX1_levelOf : Wd (.selects yX1_levelOf.cls yX1_levelOf yX1_levelOf) := ⟨List.mem_of_getElem? (i := 260) (by decide +kernel), rfl⟩
theorem wc_yX3_put : Wd (.code yX3_put cX3_put 8 none) := ⟨List.mem_of_getElem? (i := 265) (by decide +kernel), rfl⟩
theorem wi_yX3_put : Wd (.instanceMethod yX3_put) := ⟨List.mem_of_getElem? (i := 264) (by decide +kernel), rfl⟩
theorem we_yX3_put : Wd (.selects yX3_put.cls yX3_put yX3_put) := ⟨List.mem_of_getElem? (i := 1) (by decide +kernel), rfl⟩
theorem wc_yX5_isChannel : Wd (.code yX5_isChannel cX5_isChannel 1 (some .boolean)) := ⟨List.mem_of_getElem? (i := 268) (by decide +kernel), rfl⟩
theorem ws_yX5_isChannel : Wd (.static yX5_isChannel) := ⟨List.mem_of_getElem? (i := 267) (by decide +kernel), rfl⟩
theorem wc_yX3_gatherTriples : Wd (.code yX3_gatherTriples cX3_gatherTriples 8 none) := ⟨List.mem_of_getElem? (i := 272) (by decide +kernel), rfl⟩
theorem wi_yX3_gatherTriples : Wd (.instanceMethod yX3_gatherTriples) := ⟨List.mem_of_getElem? (i := 271) (by decide +kernel), rfl⟩
theorem we_yX3_gatherTriples : Wd (.selects yX3_gatherTriples.cls yX3_gatherTriples yX3_gatherTriples) := ⟨List.mem_of_getElem? (i := 2) (by decide +kernel), rfl⟩
theorem wc_yX5_hits : Wd (.code yX5_hits cX5_hits 3 (some .int)) := ⟨List.mem_of_getElem? (i := 276) (by decide +kernel), rfl⟩
theorem wi_yX5_hits : Wd (.instanceMethod yX5_hits) := ⟨List.mem_of_getElem? (i := 274) (by decide +kernel), rfl⟩
theorem we_yX5_hits : Wd (.selects yX5_hits.cls yX5_hits yX5_hits) := ⟨List.mem_of_getElem? (i := 275) (by decide +kernel), rfl⟩
theorem wc_yX3_countNear : Wd (.code yX3_countNear cX3_countNear 5 (some .int)) := ⟨List.mem_of_getElem? (i := 281) (by decide +kernel), rfl⟩
theorem wi_yX3_countNear : Wd (.instanceMethod yX3_countNear) := ⟨List.mem_of_getElem? (i := 279) (by decide +kernel), rfl⟩
theorem we_yX3_countNear : Wd (.selects yX3_countNear.cls yX3_countNear yX3_countNear) := ⟨List.mem_of_getElem? (i := 280) (by decide +kernel), rfl⟩
theorem wc_yX3_fact : Wd (.code yX3_fact cX3_fact 3 (some .int)) := ⟨List.mem_of_getElem? (i := 285) (by decide +kernel), rfl⟩
theorem wi_yX3_fact : Wd (.instanceMethod yX3_fact) := ⟨List.mem_of_getElem? (i := 283) (by decide +kernel), rfl⟩
theorem we_yX3_fact : Wd (.selects yX3_fact.cls yX3_fact yX3_fact) := ⟨List.mem_of_getElem? (i := 284) (by decide +kernel), rfl⟩
theorem wc_yX5_isClean : Wd (.code yX5_isClean cX5_isClean 1 (some .boolean)) := ⟨List.mem_of_getElem? (i := 292) (by decide +kernel), rfl⟩
theorem wi_yX5_isClean : Wd (.instanceMethod yX5_isClean) := ⟨List.mem_of_getElem? (i := 290) (by decide +kernel), rfl⟩
theorem we_yX5_isClean : Wd (.selects yX5_isClean.cls yX5_isClean yX5_isClean) := ⟨List.mem_of_getElem? (i := 291) (by decide +kernel), rfl⟩
theorem wc_yX5_standsClean : Wd (.code yX5_standsClean cX5_standsClean 3 (some .boolean)) := ⟨List.mem_of_getElem? (i := 296) (by decide +kernel), rfl⟩
theorem wi_yX5_standsClean : Wd (.instanceMethod yX5_standsClean) := ⟨List.mem_of_getElem? (i := 295) (by decide +kernel), rfl⟩
theorem we_yX5_standsClean : Wd (.selects yX5_standsClean.cls yX5_standsClean yX5_standsClean) := ⟨List.mem_of_getElem? (i := 3) (by decide +kernel), rfl⟩
theorem wc_yX0_start : Wd (.code yX0_start cX0_start 2 none) := ⟨List.mem_of_getElem? (i := 300) (by decide +kernel), rfl⟩
theorem wi_yX0_start : Wd (.instanceMethod yX0_start) := ⟨List.mem_of_getElem? (i := 298) (by decide +kernel), rfl⟩
theorem we_yX0_start : Wd (.selects yX0_start.cls yX0_start yX0_start) := ⟨List.mem_of_getElem? (i := 299) (by decide +kernel), rfl⟩
theorem wc_yX0_join : Wd (.code yX0_join cX0_join 7 (some .boolean)) := ⟨List.mem_of_getElem? (i := 306) (by decide +kernel), rfl⟩
theorem wi_yX0_join : Wd (.instanceMethod yX0_join) := ⟨List.mem_of_getElem? (i := 304) (by decide +kernel), rfl⟩
theorem we_yX0_join : Wd (.selects yX0_join.cls yX0_join yX0_join) := ⟨List.mem_of_getElem? (i := 305) (by decide +kernel), rfl⟩
theorem wc_yX0_isCrowded : Wd (.code yX0_isCrowded cX0_isCrowded 3 (some .boolean)) := ⟨List.mem_of_getElem? (i := 310) (by decide +kernel), rfl⟩
theorem wi_yX0_isCrowded : Wd (.instanceMethod yX0_isCrowded) := ⟨List.mem_of_getElem? (i := 309) (by decide +kernel), rfl⟩
theorem we_yX0_isCrowded : Wd (.selects yX0_isCrowded.cls yX0_isCrowded yX0_isCrowded) := ⟨List.mem_of_getElem? (i := 4) (by decide +kernel), rfl⟩
theorem wc_yX0_guardedBy : Wd (.code yX0_guardedBy cX0_guardedBy 5 (some .long)) := ⟨List.mem_of_getElem? (i := 315) (by decide +kernel), rfl⟩
theorem wi_yX0_guardedBy : Wd (.instanceMethod yX0_guardedBy) := ⟨List.mem_of_getElem? (i := 314) (by decide +kernel), rfl⟩
theorem we_yX0_guardedBy : Wd (.selects yX0_guardedBy.cls yX0_guardedBy yX0_guardedBy) := ⟨List.mem_of_getElem? (i := 5) (by decide +kernel), rfl⟩
theorem wc_yX0_pairsWith : Wd (.code yX0_pairsWith cX0_pairsWith 8 (some .long)) := ⟨List.mem_of_getElem? (i := 319) (by decide +kernel), rfl⟩
theorem wi_yX0_pairsWith : Wd (.instanceMethod yX0_pairsWith) := ⟨List.mem_of_getElem? (i := 318) (by decide +kernel), rfl⟩
theorem we_yX0_pairsWith : Wd (.selects yX0_pairsWith.cls yX0_pairsWith yX0_pairsWith) := ⟨List.mem_of_getElem? (i := 6) (by decide +kernel), rfl⟩
theorem wc_yX0_bitOf : Wd (.code yX0_bitOf cX0_bitOf 2 (some .long)) := ⟨List.mem_of_getElem? (i := 322) (by decide +kernel), rfl⟩
theorem ws_yX0_bitOf : Wd (.static yX0_bitOf) := ⟨List.mem_of_getElem? (i := 321) (by decide +kernel), rfl⟩
theorem wc_yX0_triplesWith : Wd (.code yX0_triplesWith cX0_triplesWith 10 (some .long)) := ⟨List.mem_of_getElem? (i := 327) (by decide +kernel), rfl⟩
theorem wi_yX0_triplesWith : Wd (.instanceMethod yX0_triplesWith) := ⟨List.mem_of_getElem? (i := 326) (by decide +kernel), rfl⟩
theorem we_yX0_triplesWith : Wd (.selects yX0_triplesWith.cls yX0_triplesWith yX0_triplesWith) := ⟨List.mem_of_getElem? (i := 7) (by decide +kernel), rfl⟩
theorem wc_yL_cell : Wd (.code yL_cell cL_cell 2 (some .int)) := ⟨List.mem_of_getElem? (i := 330) (by decide +kernel), rfl⟩
theorem ws_yL_cell : Wd (.static yL_cell) := ⟨List.mem_of_getElem? (i := 329) (by decide +kernel), rfl⟩
theorem wc_yL_low : Wd (.code yL_low cL_low 2 (some .int)) := ⟨List.mem_of_getElem? (i := 334) (by decide +kernel), rfl⟩
theorem ws_yL_low : Wd (.static yL_low) := ⟨List.mem_of_getElem? (i := 333) (by decide +kernel), rfl⟩
theorem wc_yX5_addCarrier : Wd (.code yX5_addCarrier cX5_addCarrier 3 (some .int)) := ⟨List.mem_of_getElem? (i := 344) (by decide +kernel), rfl⟩
theorem wi_yX5_addCarrier : Wd (.instanceMethod yX5_addCarrier) := ⟨List.mem_of_getElem? (i := 342) (by decide +kernel), rfl⟩
theorem we_yX5_addCarrier : Wd (.selects yX5_addCarrier.cls yX5_addCarrier yX5_addCarrier) := ⟨List.mem_of_getElem? (i := 343) (by decide +kernel), rfl⟩
theorem wc_yX5_isLevel : Wd (.code yX5_isLevel cX5_isLevel 1 (some .boolean)) := ⟨List.mem_of_getElem? (i := 348) (by decide +kernel), rfl⟩
theorem ws_yX5_isLevel : Wd (.static yX5_isLevel) := ⟨List.mem_of_getElem? (i := 347) (by decide +kernel), rfl⟩
theorem wc_yX1_carrierOn : Wd (.code yX1_carrierOn cX1_carrierOn 3 (some .int)) := ⟨List.mem_of_getElem? (i := 352) (by decide +kernel), rfl⟩
theorem wi_yX1_carrierOn : Wd (.instanceMethod yX1_carrierOn) := ⟨List.mem_of_getElem? (i := 350) (by decide +kernel), rfl⟩
theorem we_yX1_carrierOn : Wd (.selects yX1_carrierOn.cls yX1_carrierOn yX1_carrierOn) := ⟨List.mem_of_getElem? (i := 351) (by decide +kernel), rfl⟩
theorem wc_yX5_needRoomForCarrier : Wd (.code yX5_needRoomForCarrier cX5_needRoomForCarrier 1 none) := ⟨List.mem_of_getElem? (i := 425) (by decide +kernel), rfl⟩
theorem wi_yX5_needRoomForCarrier : Wd (.instanceMethod yX5_needRoomForCarrier) := ⟨List.mem_of_getElem? (i := 424) (by decide +kernel), rfl⟩
theorem we_yX5_needRoomForCarrier : Wd (.selects yX5_needRoomForCarrier.cls yX5_needRoomForCarrier yX5_needRoomForCarrier) := ⟨List.mem_of_getElem? (i := 9) (by decide +kernel), rfl⟩
theorem wc_yX2_push : Wd (.code yX2_push cX2_push 3 none) := ⟨List.mem_of_getElem? (i := 445) (by decide +kernel), rfl⟩
theorem wi_yX2_push : Wd (.instanceMethod yX2_push) := ⟨List.mem_of_getElem? (i := 443) (by decide +kernel), rfl⟩
theorem we_yX2_push : Wd (.selects yX2_push.cls yX2_push yX2_push) := ⟨List.mem_of_getElem? (i := 444) (by decide +kernel), rfl⟩
theorem wc_yX2_deskAt : Wd (.code yX2_deskAt cX2_deskAt 2 (some (.object "ChannelSpacer$Desk"))) := ⟨List.mem_of_getElem? (i := 449) (by decide +kernel), rfl⟩
theorem wi_yX2_deskAt : Wd (.instanceMethod yX2_deskAt) := ⟨List.mem_of_getElem? (i := 448) (by decide +kernel), rfl⟩
theorem we_yX2_deskAt : Wd (.selects yX2_deskAt.cls yX2_deskAt yX2_deskAt) := ⟨List.mem_of_getElem? (i := 10) (by decide +kernel), rfl⟩
theorem wc_yX1_takeFrom : Wd (.code yX1_takeFrom cX1_takeFrom 2 none) := ⟨List.mem_of_getElem? (i := 453) (by decide +kernel), rfl⟩
theorem wi_yX1_takeFrom : Wd (.instanceMethod yX1_takeFrom) := ⟨List.mem_of_getElem? (i := 451) (by decide +kernel), rfl⟩
theorem we_yX1_takeFrom : Wd (.selects yX1_takeFrom.cls yX1_takeFrom yX1_takeFrom) := ⟨List.mem_of_getElem? (i := 452) (by decide +kernel), rfl⟩
theorem wc_yX1_putCarrier : Wd (.code yX1_putCarrier cX1_putCarrier 3 none) := ⟨List.mem_of_getElem? (i := 463) (by decide +kernel), rfl⟩
theorem wi_yX1_putCarrier : Wd (.instanceMethod yX1_putCarrier) := ⟨List.mem_of_getElem? (i := 461) (by decide +kernel), rfl⟩
theorem we_yX1_putCarrier : Wd (.selects yX1_putCarrier.cls yX1_putCarrier yX1_putCarrier) := ⟨List.mem_of_getElem? (i := 462) (by decide +kernel), rfl⟩
theorem wc_yX1_setCarrier : Wd (.code yX1_setCarrier cX1_setCarrier 4 none) := ⟨List.mem_of_getElem? (i := 467) (by decide +kernel), rfl⟩
theorem wi_yX1_setCarrier : Wd (.instanceMethod yX1_setCarrier) := ⟨List.mem_of_getElem? (i := 465) (by decide +kernel), rfl⟩
theorem we_yX1_setCarrier : Wd (.selects yX1_setCarrier.cls yX1_setCarrier yX1_setCarrier) := ⟨List.mem_of_getElem? (i := 466) (by decide +kernel), rfl⟩
theorem wc_yX5_moveCarrier : Wd (.code yX5_moveCarrier cX5_moveCarrier 6 (some .int)) := ⟨List.mem_of_getElem? (i := 475) (by decide +kernel), rfl⟩
theorem wi_yX5_moveCarrier : Wd (.instanceMethod yX5_moveCarrier) := ⟨List.mem_of_getElem? (i := 473) (by decide +kernel), rfl⟩
theorem we_yX5_moveCarrier : Wd (.selects yX5_moveCarrier.cls yX5_moveCarrier yX5_moveCarrier) := ⟨List.mem_of_getElem? (i := 474) (by decide +kernel), rfl⟩
theorem wc_yX5_needCarrier : Wd (.code yX5_needCarrier cX5_needCarrier 2 none) := ⟨List.mem_of_getElem? (i := 479) (by decide +kernel), rfl⟩
theorem wi_yX5_needCarrier : Wd (.instanceMethod yX5_needCarrier) := ⟨List.mem_of_getElem? (i := 478) (by decide +kernel), rfl⟩
theorem we_yX5_needCarrier : Wd (.selects yX5_needCarrier.cls yX5_needCarrier yX5_needCarrier) := ⟨List.mem_of_getElem? (i := 11) (by decide +kernel), rfl⟩
theorem wc_yX5_removeCarrier : Wd (.code yX5_removeCarrier cX5_removeCarrier 2 (some .int)) := ⟨List.mem_of_getElem? (i := 506) (by decide +kernel), rfl⟩
theorem wi_yX5_removeCarrier : Wd (.instanceMethod yX5_removeCarrier) := ⟨List.mem_of_getElem? (i := 504) (by decide +kernel), rfl⟩
theorem we_yX5_removeCarrier : Wd (.selects yX5_removeCarrier.cls yX5_removeCarrier yX5_removeCarrier) := ⟨List.mem_of_getElem? (i := 505) (by decide +kernel), rfl⟩
theorem wc_yX1_takeOut : Wd (.code yX1_takeOut cX1_takeOut 5 none) := ⟨List.mem_of_getElem? (i := 510) (by decide +kernel), rfl⟩
theorem wi_yX1_takeOut : Wd (.instanceMethod yX1_takeOut) := ⟨List.mem_of_getElem? (i := 508) (by decide +kernel), rfl⟩
theorem we_yX1_takeOut : Wd (.selects yX1_takeOut.cls yX1_takeOut yX1_takeOut) := ⟨List.mem_of_getElem? (i := 509) (by decide +kernel), rfl⟩
theorem wc_yX1_membersOf : Wd (.code yX1_membersOf cX1_membersOf 2 (some .int)) := ⟨List.mem_of_getElem? (i := 515) (by decide +kernel), rfl⟩
theorem wi_yX1_membersOf : Wd (.instanceMethod yX1_membersOf) := ⟨List.mem_of_getElem? (i := 513) (by decide +kernel), rfl⟩
theorem we_yX1_membersOf : Wd (.selects yX1_membersOf.cls yX1_membersOf yX1_membersOf) := ⟨List.mem_of_getElem? (i := 514) (by decide +kernel), rfl⟩
theorem wc_yX1_hasMixer : Wd (.code yX1_hasMixer cX1_hasMixer 2 (some .boolean)) := ⟨List.mem_of_getElem? (i := 519) (by decide +kernel), rfl⟩
theorem wi_yX1_hasMixer : Wd (.instanceMethod yX1_hasMixer) := ⟨List.mem_of_getElem? (i := 517) (by decide +kernel), rfl⟩
theorem we_yX1_hasMixer : Wd (.selects yX1_hasMixer.cls yX1_hasMixer yX1_hasMixer) := ⟨List.mem_of_getElem? (i := 518) (by decide +kernel), rfl⟩
theorem wc_yX1_setMembers : Wd (.code yX1_setMembers cX1_setMembers 3 none) := ⟨List.mem_of_getElem? (i := 523) (by decide +kernel), rfl⟩
theorem wi_yX1_setMembers : Wd (.instanceMethod yX1_setMembers) := ⟨List.mem_of_getElem? (i := 521) (by decide +kernel), rfl⟩
theorem we_yX1_setMembers : Wd (.selects yX1_setMembers.cls yX1_setMembers yX1_setMembers) := ⟨List.mem_of_getElem? (i := 522) (by decide +kernel), rfl⟩
theorem wc_yX5_shift : Wd (.code yX5_shift cX5_shift 3 (some .int)) := ⟨List.mem_of_getElem? (i := 530) (by decide +kernel), rfl⟩
theorem wi_yX5_shift : Wd (.instanceMethod yX5_shift) := ⟨List.mem_of_getElem? (i := 528) (by decide +kernel), rfl⟩
theorem we_yX5_shift : Wd (.selects yX5_shift.cls yX5_shift yX5_shift) := ⟨List.mem_of_getElem? (i := 529) (by decide +kernel), rfl⟩
theorem wc_yX1_shiftAll : Wd (.code yX1_shiftAll cX1_shiftAll 3 none) := ⟨List.mem_of_getElem? (i := 536) (by decide +kernel), rfl⟩
theorem wi_yX1_shiftAll : Wd (.instanceMethod yX1_shiftAll) := ⟨List.mem_of_getElem? (i := 534) (by decide +kernel), rfl⟩
theorem we_yX1_shiftAll : Wd (.selects yX1_shiftAll.cls yX1_shiftAll yX1_shiftAll) := ⟨List.mem_of_getElem? (i := 535) (by decide +kernel), rfl⟩
theorem wc_yX5_setProducts : Wd (.code yX5_setProducts cX5_setProducts 5 (some .int)) := ⟨List.mem_of_getElem? (i := 543) (by decide +kernel), rfl⟩
theorem wi_yX5_setProducts : Wd (.instanceMethod yX5_setProducts) := ⟨List.mem_of_getElem? (i := 541) (by decide +kernel), rfl⟩
theorem we_yX5_setProducts : Wd (.selects yX5_setProducts.cls yX5_setProducts yX5_setProducts) := ⟨List.mem_of_getElem? (i := 542) (by decide +kernel), rfl⟩
theorem wc_yX5_isWithin : Wd (.code yX5_isWithin cX5_isWithin 3 (some .boolean)) := ⟨List.mem_of_getElem? (i := 546) (by decide +kernel), rfl⟩
theorem ws_yX5_isWithin : Wd (.static yX5_isWithin) := ⟨List.mem_of_getElem? (i := 545) (by decide +kernel), rfl⟩
theorem wc_yX5_setSpacing : Wd (.code yX5_setSpacing cX5_setSpacing 4 (some .int)) := ⟨List.mem_of_getElem? (i := 554) (by decide +kernel), rfl⟩
theorem wi_yX5_setSpacing : Wd (.instanceMethod yX5_setSpacing) := ⟨List.mem_of_getElem? (i := 552) (by decide +kernel), rfl⟩
theorem we_yX5_setSpacing : Wd (.selects yX5_setSpacing.cls yX5_setSpacing yX5_setSpacing) := ⟨List.mem_of_getElem? (i := 553) (by decide +kernel), rfl⟩
theorem wc_yX5_size : Wd (.code yX5_size cX5_size 2 (some .int)) := ⟨List.mem_of_getElem? (i := 562) (by decide +kernel), rfl⟩
theorem wi_yX5_size : Wd (.instanceMethod yX5_size) := ⟨List.mem_of_getElem? (i := 560) (by decide +kernel), rfl⟩
theorem we_yX5_size : Wd (.selects yX5_size.cls yX5_size yX5_size) := ⟨List.mem_of_getElem? (i := 561) (by decide +kernel), rfl⟩
theorem wc_yX5_addMixer : Wd (.code yX5_addMixer cX5_addMixer 2 (some .int)) := ⟨List.mem_of_getElem? (i := 570) (by decide +kernel), rfl⟩
theorem wi_yX5_addMixer : Wd (.instanceMethod yX5_addMixer) := ⟨List.mem_of_getElem? (i := 568) (by decide +kernel), rfl⟩
theorem we_yX5_addMixer : Wd (.selects yX5_addMixer.cls yX5_addMixer yX5_addMixer) := ⟨List.mem_of_getElem? (i := 569) (by decide +kernel), rfl⟩
theorem wc_yX5_needSetOfCarriers : Wd (.code yX5_needSetOfCarriers cX5_needSetOfCarriers 2 none) := ⟨List.mem_of_getElem? (i := 574) (by decide +kernel), rfl⟩
theorem wi_yX5_needSetOfCarriers : Wd (.instanceMethod yX5_needSetOfCarriers) := ⟨List.mem_of_getElem? (i := 573) (by decide +kernel), rfl⟩
theorem we_yX5_needSetOfCarriers : Wd (.selects yX5_needSetOfCarriers.cls yX5_needSetOfCarriers yX5_needSetOfCarriers) := ⟨List.mem_of_getElem? (i := 12) (by decide +kernel), rfl⟩
theorem wc_yX1_putMixer : Wd (.code yX1_putMixer cX1_putMixer 2 none) := ⟨List.mem_of_getElem? (i := 580) (by decide +kernel), rfl⟩
theorem wi_yX1_putMixer : Wd (.instanceMethod yX1_putMixer) := ⟨List.mem_of_getElem? (i := 578) (by decide +kernel), rfl⟩
theorem we_yX1_putMixer : Wd (.selects yX1_putMixer.cls yX1_putMixer yX1_putMixer) := ⟨List.mem_of_getElem? (i := 579) (by decide +kernel), rfl⟩
theorem wc_yX5_setMember : Wd (.code yX5_setMember cX5_setMember 6 (some .int)) := ⟨List.mem_of_getElem? (i := 587) (by decide +kernel), rfl⟩
theorem wi_yX5_setMember : Wd (.instanceMethod yX5_setMember) := ⟨List.mem_of_getElem? (i := 585) (by decide +kernel), rfl⟩
theorem we_yX5_setMember : Wd (.selects yX5_setMember.cls yX5_setMember yX5_setMember) := ⟨List.mem_of_getElem? (i := 586) (by decide +kernel), rfl⟩
theorem wc_yX5_needMixer : Wd (.code yX5_needMixer cX5_needMixer 2 none) := ⟨List.mem_of_getElem? (i := 591) (by decide +kernel), rfl⟩
theorem wi_yX5_needMixer : Wd (.instanceMethod yX5_needMixer) := ⟨List.mem_of_getElem? (i := 590) (by decide +kernel), rfl⟩
theorem we_yX5_needMixer : Wd (.selects yX5_needMixer.cls yX5_needMixer yX5_needMixer) := ⟨List.mem_of_getElem? (i := 13) (by decide +kernel), rfl⟩
theorem wc_yX5_addTest : Wd (.code yX5_addTest cX5_addTest 4 (some .int)) := ⟨List.mem_of_getElem? (i := 602) (by decide +kernel), rfl⟩
theorem wi_yX5_addTest : Wd (.instanceMethod yX5_addTest) := ⟨List.mem_of_getElem? (i := 600) (by decide +kernel), rfl⟩
theorem we_yX5_addTest : Wd (.selects yX5_addTest.cls yX5_addTest yX5_addTest) := ⟨List.mem_of_getElem? (i := 601) (by decide +kernel), rfl⟩
theorem wc_yX5_needChannel : Wd (.code yX5_needChannel cX5_needChannel 1 none) := ⟨List.mem_of_getElem? (i := 605) (by decide +kernel), rfl⟩
theorem ws_yX5_needChannel : Wd (.static yX5_needChannel) := ⟨List.mem_of_getElem? (i := 604) (by decide +kernel), rfl⟩
theorem wc_yX5_mixActive : Wd (.code yX5_mixActive cX5_mixActive 3 none) := ⟨List.mem_of_getElem? (i := 611) (by decide +kernel), rfl⟩
theorem wi_yX5_mixActive : Wd (.instanceMethod yX5_mixActive) := ⟨List.mem_of_getElem? (i := 610) (by decide +kernel), rfl⟩
theorem we_yX5_mixActive : Wd (.selects yX5_mixActive.cls yX5_mixActive yX5_mixActive) := ⟨List.mem_of_getElem? (i := 14) (by decide +kernel), rfl⟩
theorem wc_yX5_falloutOf : Wd (.code yX5_falloutOf cX5_falloutOf 2 (some .long)) := ⟨List.mem_of_getElem? (i := 615) (by decide +kernel), rfl⟩
theorem wi_yX5_falloutOf : Wd (.instanceMethod yX5_falloutOf) := ⟨List.mem_of_getElem? (i := 614) (by decide +kernel), rfl⟩
theorem we_yX5_falloutOf : Wd (.selects yX5_falloutOf.cls yX5_falloutOf yX5_falloutOf) := ⟨List.mem_of_getElem? (i := 15) (by decide +kernel), rfl⟩
theorem wc_yX3_channelSet : Wd (.code yX3_channelSet cX3_channelSet 4 (some .long)) := ⟨List.mem_of_getElem? (i := 619) (by decide +kernel), rfl⟩
theorem wi_yX3_channelSet : Wd (.instanceMethod yX3_channelSet) := ⟨List.mem_of_getElem? (i := 617) (by decide +kernel), rfl⟩
theorem we_yX3_channelSet : Wd (.selects yX3_channelSet.cls yX3_channelSet yX3_channelSet) := ⟨List.mem_of_getElem? (i := 618) (by decide +kernel), rfl⟩
theorem wc_yX5_mixersOn : Wd (.code yX5_mixersOn cX5_mixersOn 4 (some .int)) := ⟨List.mem_of_getElem? (i := 623) (by decide +kernel), rfl⟩
theorem wi_yX5_mixersOn : Wd (.instanceMethod yX5_mixersOn) := ⟨List.mem_of_getElem? (i := 622) (by decide +kernel), rfl⟩
theorem we_yX5_mixersOn : Wd (.selects yX5_mixersOn.cls yX5_mixersOn yX5_mixersOn) := ⟨List.mem_of_getElem? (i := 16) (by decide +kernel), rfl⟩
theorem wc_yX1_putTest : Wd (.code yX1_putTest cX1_putTest 5 none) := ⟨List.mem_of_getElem? (i := 627) (by decide +kernel), rfl⟩
theorem wi_yX1_putTest : Wd (.instanceMethod yX1_putTest) := ⟨List.mem_of_getElem? (i := 625) (by decide +kernel), rfl⟩
theorem we_yX1_putTest : Wd (.selects yX1_putTest.cls yX1_putTest yX1_putTest) := ⟨List.mem_of_getElem? (i := 626) (by decide +kernel), rfl⟩
theorem wc_yX5_countDiagnoses : Wd (.code yX5_countDiagnoses cX5_countDiagnoses 3 (some .int)) := ⟨List.mem_of_getElem? (i := 631) (by decide +kernel), rfl⟩
theorem wi_yX5_countDiagnoses : Wd (.instanceMethod yX5_countDiagnoses) := ⟨List.mem_of_getElem? (i := 630) (by decide +kernel), rfl⟩
theorem we_yX5_countDiagnoses : Wd (.selects yX5_countDiagnoses.cls yX5_countDiagnoses yX5_countDiagnoses) := ⟨List.mem_of_getElem? (i := 17) (by decide +kernel), rfl⟩
theorem wc_yX1_everyMixer : Wd (.code yX1_everyMixer cX1_everyMixer 1 (some .int)) := ⟨List.mem_of_getElem? (i := 635) (by decide +kernel), rfl⟩
theorem wi_yX1_everyMixer : Wd (.instanceMethod yX1_everyMixer) := ⟨List.mem_of_getElem? (i := 633) (by decide +kernel), rfl⟩
theorem we_yX1_everyMixer : Wd (.selects yX1_everyMixer.cls yX1_everyMixer yX1_everyMixer) := ⟨List.mem_of_getElem? (i := 634) (by decide +kernel), rfl⟩
theorem wc_yX1_fitsTests : Wd (.code yX1_fitsTests cX1_fitsTests 4 (some .boolean)) := ⟨List.mem_of_getElem? (i := 639) (by decide +kernel), rfl⟩
theorem wi_yX1_fitsTests : Wd (.instanceMethod yX1_fitsTests) := ⟨List.mem_of_getElem? (i := 637) (by decide +kernel), rfl⟩
theorem we_yX1_fitsTests : Wd (.selects yX1_fitsTests.cls yX1_fitsTests yX1_fitsTests) := ⟨List.mem_of_getElem? (i := 638) (by decide +kernel), rfl⟩
theorem wc_yX5_undo : Wd (.code yX5_undo cX5_undo 1 (some .int)) := ⟨List.mem_of_getElem? (i := 646) (by decide +kernel), rfl⟩
theorem wi_yX5_undo : Wd (.instanceMethod yX5_undo) := ⟨List.mem_of_getElem? (i := 644) (by decide +kernel), rfl⟩
theorem we_yX5_undo : Wd (.selects yX5_undo.cls yX5_undo yX5_undo) := ⟨List.mem_of_getElem? (i := 645) (by decide +kernel), rfl⟩
theorem wc_yX2_popInto : Wd (.code yX2_popInto cX2_popInto 3 none) := ⟨List.mem_of_getElem? (i := 651) (by decide +kernel), rfl⟩
theorem wi_yX2_popInto : Wd (.instanceMethod yX2_popInto) := ⟨List.mem_of_getElem? (i := 649) (by decide +kernel), rfl⟩
theorem we_yX2_popInto : Wd (.selects yX2_popInto.cls yX2_popInto yX2_popInto) := ⟨List.mem_of_getElem? (i := 650) (by decide +kernel), rfl⟩
theorem wc_yL_sound : Wd (.code yL_sound cL_sound 20 (some .boolean)) := ⟨List.mem_of_getElem? (i := 657) (by decide +kernel), rfl⟩
theorem ws_yL_sound : Wd (.static yL_sound) := ⟨List.mem_of_getElem? (i := 656) (by decide +kernel), rfl⟩
theorem wc_yX5_fallout : Wd (.code yX5_fallout cX5_fallout 2 (some .long)) := ⟨List.mem_of_getElem? (i := 664) (by decide +kernel), rfl⟩
theorem wi_yX5_fallout : Wd (.instanceMethod yX5_fallout) := ⟨List.mem_of_getElem? (i := 662) (by decide +kernel), rfl⟩
theorem we_yX5_fallout : Wd (.selects yX5_fallout.cls yX5_fallout yX5_fallout) := ⟨List.mem_of_getElem? (i := 663) (by decide +kernel), rfl⟩
theorem wc_yX5_hitsOn : Wd (.code yX5_hitsOn cX5_hitsOn 2 (some .int)) := ⟨List.mem_of_getElem? (i := 672) (by decide +kernel), rfl⟩
theorem wi_yX5_hitsOn : Wd (.instanceMethod yX5_hitsOn) := ⟨List.mem_of_getElem? (i := 670) (by decide +kernel), rfl⟩
theorem we_yX5_hitsOn : Wd (.selects yX5_hitsOn.cls yX5_hitsOn yX5_hitsOn) := ⟨List.mem_of_getElem? (i := 671) (by decide +kernel), rfl⟩
theorem wc_yX5_channels : Wd (.code yX5_channels cX5_channels 4 (some .long)) := ⟨List.mem_of_getElem? (i := 677) (by decide +kernel), rfl⟩
theorem wi_yX5_channels : Wd (.instanceMethod yX5_channels) := ⟨List.mem_of_getElem? (i := 675) (by decide +kernel), rfl⟩
theorem we_yX5_channels : Wd (.selects yX5_channels.cls yX5_channels yX5_channels) := ⟨List.mem_of_getElem? (i := 676) (by decide +kernel), rfl⟩
theorem wc_yX5_carrier : Wd (.code yX5_carrier cX5_carrier 3 (some .int)) := ⟨List.mem_of_getElem? (i := 684) (by decide +kernel), rfl⟩
theorem wi_yX5_carrier : Wd (.instanceMethod yX5_carrier) := ⟨List.mem_of_getElem? (i := 682) (by decide +kernel), rfl⟩
theorem we_yX5_carrier : Wd (.selects yX5_carrier.cls yX5_carrier yX5_carrier) := ⟨List.mem_of_getElem? (i := 683) (by decide +kernel), rfl⟩
theorem wc_yX5_product : Wd (.code yX5_product cX5_product 3 (some .int)) := ⟨List.mem_of_getElem? (i := 691) (by decide +kernel), rfl⟩
theorem wi_yX5_product : Wd (.instanceMethod yX5_product) := ⟨List.mem_of_getElem? (i := 689) (by decide +kernel), rfl⟩
theorem we_yX5_product : Wd (.selects yX5_product.cls yX5_product yX5_product) := ⟨List.mem_of_getElem? (i := 690) (by decide +kernel), rfl⟩
theorem wc_yX5_closest : Wd (.code yX5_closest cX5_closest 5 (some .int)) := ⟨List.mem_of_getElem? (i := 697) (by decide +kernel), rfl⟩
theorem wi_yX5_closest : Wd (.instanceMethod yX5_closest) := ⟨List.mem_of_getElem? (i := 695) (by decide +kernel), rfl⟩
theorem we_yX5_closest : Wd (.selects yX5_closest.cls yX5_closest yX5_closest) := ⟨List.mem_of_getElem? (i := 696) (by decide +kernel), rfl⟩
theorem wc_yX5_removal : Wd (.code yX5_removal cX5_removal 4 (some .int)) := ⟨List.mem_of_getElem? (i := 702) (by decide +kernel), rfl⟩
theorem wi_yX5_removal : Wd (.instanceMethod yX5_removal) := ⟨List.mem_of_getElem? (i := 700) (by decide +kernel), rfl⟩
theorem we_yX5_removal : Wd (.selects yX5_removal.cls yX5_removal yX5_removal) := ⟨List.mem_of_getElem? (i := 701) (by decide +kernel), rfl⟩
theorem wc_yJ6_bitCount_0f7a4 : Wd (.code yJ6_bitCount_0f7a4 cJ6_bitCount_0f7a4 1 (some .int)) := ⟨List.mem_of_getElem? (i := 705) (by decide +kernel), rfl⟩
theorem ws_yJ6_bitCount_0f7a4 : Wd (.static yJ6_bitCount_0f7a4) := ⟨List.mem_of_getElem? (i := 704) (by decide +kernel), rfl⟩
theorem wc_yL_many : Wd (.code yL_many cL_many 5 (some .int)) := ⟨List.mem_of_getElem? (i := 711) (by decide +kernel), rfl⟩
theorem ws_yL_many : Wd (.static yL_many) := ⟨List.mem_of_getElem? (i := 710) (by decide +kernel), rfl⟩
theorem wc_yL_opens : Wd (.code yL_opens cL_opens 7 (some .boolean)) := ⟨List.mem_of_getElem? (i := 714) (by decide +kernel), rfl⟩
theorem ws_yL_opens : Wd (.static yL_opens) := ⟨List.mem_of_getElem? (i := 713) (by decide +kernel), rfl⟩
theorem wc_yX5_openings : Wd (.code yX5_openings cX5_openings 2 (some .long)) := ⟨List.mem_of_getElem? (i := 721) (by decide +kernel), rfl⟩
theorem wi_yX5_openings : Wd (.instanceMethod yX5_openings) := ⟨List.mem_of_getElem? (i := 719) (by decide +kernel), rfl⟩
theorem we_yX5_openings : Wd (.selects yX5_openings.cls yX5_openings yX5_openings) := ⟨List.mem_of_getElem? (i := 720) (by decide +kernel), rfl⟩
theorem wc_yX5_needLevel : Wd (.code yX5_needLevel cX5_needLevel 1 none) := ⟨List.mem_of_getElem? (i := 724) (by decide +kernel), rfl⟩
theorem ws_yX5_needLevel : Wd (.static yX5_needLevel) := ⟨List.mem_of_getElem? (i := 723) (by decide +kernel), rfl⟩
theorem wc_yX5_openChannels : Wd (.code yX5_openChannels cX5_openChannels 5 (some .long)) := ⟨List.mem_of_getElem? (i := 729) (by decide +kernel), rfl⟩
theorem wi_yX5_openChannels : Wd (.instanceMethod yX5_openChannels) := ⟨List.mem_of_getElem? (i := 728) (by decide +kernel), rfl⟩
theorem we_yX5_openChannels : Wd (.selects yX5_openChannels.cls yX5_openChannels yX5_openChannels) := ⟨List.mem_of_getElem? (i := 18) (by decide +kernel), rfl⟩
theorem wc_yX0_leave : Wd (.code yX0_leave cX0_leave 1 none) := ⟨List.mem_of_getElem? (i := 733) (by decide +kernel), rfl⟩
theorem wi_yX0_leave : Wd (.instanceMethod yX0_leave) := ⟨List.mem_of_getElem? (i := 731) (by decide +kernel), rfl⟩
theorem we_yX0_leave : Wd (.selects yX0_leave.cls yX0_leave yX0_leave) := ⟨List.mem_of_getElem? (i := 732) (by decide +kernel), rfl⟩
theorem wc_yX5_putIn : Wd (.code yX5_putIn cX5_putIn 3 (some .int)) := ⟨List.mem_of_getElem? (i := 741) (by decide +kernel), rfl⟩
theorem wi_yX5_putIn : Wd (.instanceMethod yX5_putIn) := ⟨List.mem_of_getElem? (i := 739) (by decide +kernel), rfl⟩
theorem we_yX5_putIn : Wd (.selects yX5_putIn.cls yX5_putIn yX5_putIn) := ⟨List.mem_of_getElem? (i := 740) (by decide +kernel), rfl⟩
theorem wc_yX5_lowestOf : Wd (.code yX5_lowestOf cX5_lowestOf 3 (some .int)) := ⟨List.mem_of_getElem? (i := 744) (by decide +kernel), rfl⟩
theorem ws_yX5_lowestOf : Wd (.static yX5_lowestOf) := ⟨List.mem_of_getElem? (i := 743) (by decide +kernel), rfl⟩
theorem wc_yL_spans : Wd (.code yL_spans cL_spans 6 (some .boolean)) := ⟨List.mem_of_getElem? (i := 747) (by decide +kernel), rfl⟩
theorem ws_yL_spans : Wd (.static yL_spans) := ⟨List.mem_of_getElem? (i := 746) (by decide +kernel), rfl⟩
theorem wc_yX5_leastSpan : Wd (.code yX5_leastSpan cX5_leastSpan 2 (some .int)) := ⟨List.mem_of_getElem? (i := 754) (by decide +kernel), rfl⟩
theorem wi_yX5_leastSpan : Wd (.instanceMethod yX5_leastSpan) := ⟨List.mem_of_getElem? (i := 752) (by decide +kernel), rfl⟩
theorem we_yX5_leastSpan : Wd (.selects yX5_leastSpan.cls yX5_leastSpan yX5_leastSpan) := ⟨List.mem_of_getElem? (i := 753) (by decide +kernel), rfl⟩
theorem wc_yX5_needMarks : Wd (.code yX5_needMarks cX5_needMarks 2 none) := ⟨List.mem_of_getElem? (i := 757) (by decide +kernel), rfl⟩
theorem ws_yX5_needMarks : Wd (.static yX5_needMarks) := ⟨List.mem_of_getElem? (i := 756) (by decide +kernel), rfl⟩
theorem wc_yX5_findBestRuler : Wd (.code yX5_findBestRuler cX5_findBestRuler 3 (some .int)) := ⟨List.mem_of_getElem? (i := 762) (by decide +kernel), rfl⟩
theorem wi_yX5_findBestRuler : Wd (.instanceMethod yX5_findBestRuler) := ⟨List.mem_of_getElem? (i := 761) (by decide +kernel), rfl⟩
theorem we_yX5_findBestRuler : Wd (.selects yX5_findBestRuler.cls yX5_findBestRuler yX5_findBestRuler) := ⟨List.mem_of_getElem? (i := 19) (by decide +kernel), rfl⟩
theorem wc_yX5_countRulers : Wd (.code yX5_countRulers cX5_countRulers 4 (some .int)) := ⟨List.mem_of_getElem? (i := 766) (by decide +kernel), rfl⟩
theorem wi_yX5_countRulers : Wd (.instanceMethod yX5_countRulers) := ⟨List.mem_of_getElem? (i := 765) (by decide +kernel), rfl⟩
theorem we_yX5_countRulers : Wd (.selects yX5_countRulers.cls yX5_countRulers yX5_countRulers) := ⟨List.mem_of_getElem? (i := 20) (by decide +kernel), rfl⟩
theorem wc_yX5_countInner : Wd (.code yX5_countInner cX5_countInner 8 (some .int)) := ⟨List.mem_of_getElem? (i := 769) (by decide +kernel), rfl⟩
theorem ws_yX5_countInner : Wd (.static yX5_countInner) := ⟨List.mem_of_getElem? (i := 768) (by decide +kernel), rfl⟩
theorem wc_yX5_bestRuler : Wd (.code yX5_bestRuler cX5_bestRuler 2 (some .long)) := ⟨List.mem_of_getElem? (i := 776) (by decide +kernel), rfl⟩
theorem wi_yX5_bestRuler : Wd (.instanceMethod yX5_bestRuler) := ⟨List.mem_of_getElem? (i := 774) (by decide +kernel), rfl⟩
theorem we_yX5_bestRuler : Wd (.selects yX5_bestRuler.cls yX5_bestRuler yX5_bestRuler) := ⟨List.mem_of_getElem? (i := 775) (by decide +kernel), rfl⟩
theorem wc_yX0_channelSet : Wd (.code yX0_channelSet cX0_channelSet 4 (some .long)) := ⟨List.mem_of_getElem? (i := 780) (by decide +kernel), rfl⟩
theorem wi_yX0_channelSet : Wd (.instanceMethod yX0_channelSet) := ⟨List.mem_of_getElem? (i := 778) (by decide +kernel), rfl⟩
theorem we_yX0_channelSet : Wd (.selects yX0_channelSet.cls yX0_channelSet yX0_channelSet) := ⟨List.mem_of_getElem? (i := 779) (by decide +kernel), rfl⟩
theorem wc_yX5_rulers : Wd (.code yX5_rulers cX5_rulers 3 (some .int)) := ⟨List.mem_of_getElem? (i := 787) (by decide +kernel), rfl⟩
theorem wi_yX5_rulers : Wd (.instanceMethod yX5_rulers) := ⟨List.mem_of_getElem? (i := 785) (by decide +kernel), rfl⟩
theorem we_yX5_rulers : Wd (.selects yX5_rulers.cls yX5_rulers yX5_rulers) := ⟨List.mem_of_getElem? (i := 786) (by decide +kernel), rfl⟩
theorem wc_yL_highest : Wd (.code yL_highest cL_highest 3 (some .int)) := ⟨List.mem_of_getElem? (i := 791) (by decide +kernel), rfl⟩
theorem ws_yL_highest : Wd (.static yL_highest) := ⟨List.mem_of_getElem? (i := 790) (by decide +kernel), rfl⟩
theorem wc_yL_known : Wd (.code yL_known cL_known 5 (some .boolean)) := ⟨List.mem_of_getElem? (i := 794) (by decide +kernel), rfl⟩
theorem ws_yL_known : Wd (.static yL_known) := ⟨List.mem_of_getElem? (i := 793) (by decide +kernel), rfl⟩
theorem wc_yL_listens : Wd (.code yL_listens cL_listens 15 (some .boolean)) := ⟨List.mem_of_getElem? (i := 797) (by decide +kernel), rfl⟩
theorem ws_yL_listens : Wd (.static yL_listens) := ⟨List.mem_of_getElem? (i := 796) (by decide +kernel), rfl⟩
theorem wc_yX5_heard : Wd (.code yX5_heard cX5_heard 3 (some .int)) := ⟨List.mem_of_getElem? (i := 804) (by decide +kernel), rfl⟩
theorem wi_yX5_heard : Wd (.instanceMethod yX5_heard) := ⟨List.mem_of_getElem? (i := 802) (by decide +kernel), rfl⟩
theorem we_yX5_heard : Wd (.selects yX5_heard.cls yX5_heard yX5_heard) := ⟨List.mem_of_getElem? (i := 803) (by decide +kernel), rfl⟩
theorem wc_yX5_diagnoses : Wd (.code yX5_diagnoses cX5_diagnoses 1 (some .int)) := ⟨List.mem_of_getElem? (i := 808) (by decide +kernel), rfl⟩
theorem wi_yX5_diagnoses : Wd (.instanceMethod yX5_diagnoses) := ⟨List.mem_of_getElem? (i := 806) (by decide +kernel), rfl⟩
theorem we_yX5_diagnoses : Wd (.selects yX5_diagnoses.cls yX5_diagnoses yX5_diagnoses) := ⟨List.mem_of_getElem? (i := 807) (by decide +kernel), rfl⟩
theorem wc_yX5_diagnosis : Wd (.code yX5_diagnosis cX5_diagnosis 3 (some .int)) := ⟨List.mem_of_getElem? (i := 812) (by decide +kernel), rfl⟩
theorem wi_yX5_diagnosis : Wd (.instanceMethod yX5_diagnosis) := ⟨List.mem_of_getElem? (i := 810) (by decide +kernel), rfl⟩
theorem we_yX5_diagnosis : Wd (.selects yX5_diagnosis.cls yX5_diagnosis yX5_diagnosis) := ⟨List.mem_of_getElem? (i := 811) (by decide +kernel), rfl⟩
theorem wc_yX5_certain : Wd (.code yX5_certain cX5_certain 5 (some .int)) := ⟨List.mem_of_getElem? (i := 816) (by decide +kernel), rfl⟩
theorem wi_yX5_certain : Wd (.instanceMethod yX5_certain) := ⟨List.mem_of_getElem? (i := 814) (by decide +kernel), rfl⟩
theorem we_yX5_certain : Wd (.selects yX5_certain.cls yX5_certain yX5_certain) := ⟨List.mem_of_getElem? (i := 815) (by decide +kernel), rfl⟩
theorem wc_yX5_bestTest : Wd (.code yX5_bestTest cX5_bestTest 8 (some .int)) := ⟨List.mem_of_getElem? (i := 823) (by decide +kernel), rfl⟩
theorem wi_yX5_bestTest : Wd (.instanceMethod yX5_bestTest) := ⟨List.mem_of_getElem? (i := 821) (by decide +kernel), rfl⟩
theorem we_yX5_bestTest : Wd (.selects yX5_bestTest.cls yX5_bestTest yX5_bestTest) := ⟨List.mem_of_getElem? (i := 822) (by decide +kernel), rfl⟩
theorem wc_yX5_countHeard : Wd (.code yX5_countHeard cX5_countHeard 4 (some .int)) := ⟨List.mem_of_getElem? (i := 827) (by decide +kernel), rfl⟩
theorem wi_yX5_countHeard : Wd (.instanceMethod yX5_countHeard) := ⟨List.mem_of_getElem? (i := 826) (by decide +kernel), rfl⟩
theorem we_yX5_countHeard : Wd (.selects yX5_countHeard.cls yX5_countHeard yX5_countHeard) := ⟨List.mem_of_getElem? (i := 21) (by decide +kernel), rfl⟩
theorem wc_yL_refuses : Wd (.code yL_refuses cL_refuses 5 (some .boolean)) := ⟨List.mem_of_getElem? (i := 831) (by decide +kernel), rfl⟩
theorem ws_yL_refuses : Wd (.static yL_refuses) := ⟨List.mem_of_getElem? (i := 830) (by decide +kernel), rfl⟩
theorem wc_yX5_digest : Wd (.code yX5_digest cX5_digest 5 (some .long)) := ⟨List.mem_of_getElem? (i := 835) (by decide +kernel), rfl⟩
theorem wi_yX5_digest : Wd (.instanceMethod yX5_digest) := ⟨List.mem_of_getElem? (i := 833) (by decide +kernel), rfl⟩
theorem we_yX5_digest : Wd (.selects yX5_digest.cls yX5_digest yX5_digest) := ⟨List.mem_of_getElem? (i := 834) (by decide +kernel), rfl⟩
theorem wc_yX1_testFact : Wd (.code yX1_testFact cX1_testFact 3 (some .int)) := ⟨List.mem_of_getElem? (i := 843) (by decide +kernel), rfl⟩
theorem wi_yX1_testFact : Wd (.instanceMethod yX1_testFact) := ⟨List.mem_of_getElem? (i := 841) (by decide +kernel), rfl⟩
theorem we_yX1_testFact : Wd (.selects yX1_testFact.cls yX1_testFact yX1_testFact) := ⟨List.mem_of_getElem? (i := 842) (by decide +kernel), rfl⟩
theorem wc_yX1_hasTest : Wd (.code yX1_hasTest cX1_hasTest 2 (some .boolean)) := ⟨List.mem_of_getElem? (i := 847) (by decide +kernel), rfl⟩
theorem wi_yX1_hasTest : Wd (.instanceMethod yX1_hasTest) := ⟨List.mem_of_getElem? (i := 845) (by decide +kernel), rfl⟩
theorem we_yX1_hasTest : Wd (.selects yX1_hasTest.cls yX1_hasTest yX1_hasTest) := ⟨List.mem_of_getElem? (i := 846) (by decide +kernel), rfl⟩
theorem wc_yX5_mixer : Wd (.code yX5_mixer cX5_mixer 2 (some .int)) := ⟨List.mem_of_getElem? (i := 856) (by decide +kernel), rfl⟩
theorem wi_yX5_mixer : Wd (.instanceMethod yX5_mixer) := ⟨List.mem_of_getElem? (i := 854) (by decide +kernel), rfl⟩
theorem we_yX5_mixer : Wd (.selects yX5_mixer.cls yX5_mixer yX5_mixer) := ⟨List.mem_of_getElem? (i := 855) (by decide +kernel), rfl⟩
theorem wc_yX5_test : Wd (.code yX5_test cX5_test 3 (some .int)) := ⟨List.mem_of_getElem? (i := 863) (by decide +kernel), rfl⟩
theorem wi_yX5_test : Wd (.instanceMethod yX5_test) := ⟨List.mem_of_getElem? (i := 861) (by decide +kernel), rfl⟩
theorem we_yX5_test : Wd (.selects yX5_test.cls yX5_test yX5_test) := ⟨List.mem_of_getElem? (i := 862) (by decide +kernel), rfl⟩
theorem wc_yX5_append : Wd (.code yX5_append cX5_append 2 (some .int)) := ⟨List.mem_of_getElem? (i := 871) (by decide +kernel), rfl⟩
theorem wi_yX5_append : Wd (.instanceMethod yX5_append) := ⟨List.mem_of_getElem? (i := 869) (by decide +kernel), rfl⟩
theorem we_yX5_append : Wd (.selects yX5_append.cls yX5_append yX5_append) := ⟨List.mem_of_getElem? (i := 870) (by decide +kernel), rfl⟩
theorem wc_yX4_put : Wd (.code yX4_put cX4_put 2 none) := ⟨List.mem_of_getElem? (i := 877) (by decide +kernel), rfl⟩
theorem wi_yX4_put : Wd (.instanceMethod yX4_put) := ⟨List.mem_of_getElem? (i := 875) (by decide +kernel), rfl⟩
theorem we_yX4_put : Wd (.selects yX4_put.cls yX4_put yX4_put) := ⟨List.mem_of_getElem? (i := 876) (by decide +kernel), rfl⟩
theorem wc_yL_edge : Wd (.code yL_edge cL_edge 3 (some .boolean)) := ⟨List.mem_of_getElem? (i := 880) (by decide +kernel), rfl⟩
theorem ws_yL_edge : Wd (.static yL_edge) := ⟨List.mem_of_getElem? (i := 879) (by decide +kernel), rfl⟩
theorem wz_X0 : Wd (.initialized RX0) := ⟨List.mem_of_getElem? (i := 27) (by decide +kernel), rfl⟩
theorem wz_X1 : Wd (.initialized RX1) := ⟨List.mem_of_getElem? (i := 24) (by decide +kernel), rfl⟩
theorem wz_X2 : Wd (.initialized RX2) := ⟨List.mem_of_getElem? (i := 25) (by decide +kernel), rfl⟩
theorem wz_X3 : Wd (.initialized RX3) := ⟨List.mem_of_getElem? (i := 26) (by decide +kernel), rfl⟩
theorem wz_X4 : Wd (.initialized RX4) := ⟨List.mem_of_getElem? (i := 28) (by decide +kernel), rfl⟩
theorem wz_X5 : Wd (.initialized RX5) := ⟨List.mem_of_getElem? (i := 23) (by decide +kernel), rfl⟩
theorem wz_L : Wd (.initialized RL) := ⟨List.mem_of_getElem? (i := 22) (by decide +kernel), rfl⟩
theorem wz_J6 : Wd (.initialized RJ6) := ⟨List.mem_of_getElem? (i := 35) (by decide +kernel), rfl⟩
theorem cw_L_205 : CwE RL 205 yX5_init cX5_init 1 none 0 := ⟨⟨List.mem_of_getElem? (i := 40) (by decide +kernel), rfl⟩, wc_yX5_init, wz_X5, ⟨by decide, by decide⟩, by decide +kernel⟩
theorem wl_X5_1 : Wd (.methodLink RX5 1 objectInit) := ⟨List.mem_of_getElem? (i := 43) (by decide +kernel), rfl⟩
theorem cw_X5_9 : CwE RX5 9 yX1_init cX1_init 1 none 0 := ⟨⟨List.mem_of_getElem? (i := 48) (by decide +kernel), rfl⟩, wc_yX1_init, wz_X1, ⟨by decide, by decide⟩, by decide +kernel⟩
theorem wl_X1_3 : Wd (.methodLink RX1 3 objectInit) := ⟨List.mem_of_getElem? (i := 51) (by decide +kernel), rfl⟩
theorem cw_X5_21 : CwE RX5 21 yX2_init cX2_init 2 none 0 := ⟨⟨List.mem_of_getElem? (i := 118) (by decide +kernel), rfl⟩, wc_yX2_init, wz_X2, ⟨by decide, by decide⟩, by decide +kernel⟩
theorem wl_X2_3 : Wd (.methodLink RX2 3 objectInit) := ⟨List.mem_of_getElem? (i := 121) (by decide +kernel), rfl⟩
theorem cw_X2_17 : CwE RX2 17 yX1_init cX1_init 1 none 0 := ⟨⟨List.mem_of_getElem? (i := 124) (by decide +kernel), rfl⟩, wc_yX1_init, wz_X1, ⟨by decide, by decide⟩, by decide +kernel⟩
theorem cw_X5_28 : CwE RX5 28 yX3_init cX3_init 1 none 0 := ⟨⟨List.mem_of_getElem? (i := 138) (by decide +kernel), rfl⟩, wc_yX3_init, wz_X3, ⟨by decide, by decide⟩, by decide +kernel⟩
theorem wl_X3_3 : Wd (.methodLink RX3 3 objectInit) := ⟨List.mem_of_getElem? (i := 141) (by decide +kernel), rfl⟩
theorem cw_X5_35 : CwE RX5 35 yX0_init cX0_init 1 none 0 := ⟨⟨List.mem_of_getElem? (i := 152) (by decide +kernel), rfl⟩, wc_yX0_init, wz_X0, ⟨by decide, by decide⟩, by decide +kernel⟩
theorem wl_X0_3 : Wd (.methodLink RX0 3 objectInit) := ⟨List.mem_of_getElem? (i := 155) (by decide +kernel), rfl⟩
theorem cw_X5_42 : CwE RX5 42 yX4_init cX4_init 1 none 0 := ⟨⟨List.mem_of_getElem? (i := 191) (by decide +kernel), rfl⟩, wc_yX4_init, wz_X4, ⟨by decide, by decide⟩, by decide +kernel⟩
theorem wl_X4_3 : Wd (.methodLink RX4 3 objectInit) := ⟨List.mem_of_getElem? (i := 194) (by decide +kernel), rfl⟩
theorem cw_L_120 : CwE RL 120 yX5_products cX5_products 1 (some .int) 0 := ⟨⟨List.mem_of_getElem? (i := 231) (by decide +kernel), rfl⟩, wc_yX5_products, wz_X5, ⟨by decide, by decide⟩, by decide +kernel⟩
theorem cw_X5_146 : CwE RX5 146 yX1_everyCarrier cX1_everyCarrier 1 (some .int) 0 := ⟨⟨List.mem_of_getElem? (i := 235) (by decide +kernel), rfl⟩, wc_yX1_everyCarrier, wz_X1, ⟨by decide, by decide⟩, by decide +kernel⟩
theorem cw_X5_150 : CwE RX5 150 yX3_gather cX3_gather 3 none 2 := ⟨⟨List.mem_of_getElem? (i := 239) (by decide +kernel), rfl⟩, wc_yX3_gather, wz_X3, ⟨by decide, by decide⟩, by decide +kernel⟩
theorem cw_X3_24 : CwE RX3 24 yX3_gatherPairs cX3_gatherPairs 11 none 3 := ⟨⟨List.mem_of_getElem? (i := 243) (by decide +kernel), rfl⟩, wc_yX3_gatherPairs, wz_X3, ⟨by decide, by decide⟩, by decide +kernel⟩
theorem cw_X3_41 : CwN RX3 41 yX5_isIn "ChannelSpacer" cX5_isIn 3 (some .boolean) 2 := ⟨⟨List.mem_of_getElem? (i := 247) (by decide +kernel), rfl⟩, wc_yX5_isIn, wz_X5, ⟨by decide, by decide⟩, by decide +kernel⟩
theorem cw_X3_45 : CwE RX3 45 yX1_channelOf cX1_channelOf 2 (some .int) 1 := ⟨⟨List.mem_of_getElem? (i := 250) (by decide +kernel), rfl⟩, wc_yX1_channelOf, wz_X1, ⟨by decide, by decide⟩, by decide +kernel⟩
theorem cw_X1_64 : CwE RX1 64 yX1_hasCarrier cX1_hasCarrier 2 (some .boolean) 1 := ⟨⟨List.mem_of_getElem? (i := 254) (by decide +kernel), rfl⟩, wc_yX1_hasCarrier, wz_X1, ⟨by decide, by decide⟩, by decide +kernel⟩
theorem cw_X3_49 : CwE RX3 49 yX1_levelOf cX1_levelOf 2 (some .int) 1 := ⟨⟨List.mem_of_getElem? (i := 258) (by decide +kernel), rfl⟩, wc_yX1_levelOf, wz_X1, ⟨by decide, by decide⟩, by decide +kernel⟩
theorem cw_X3_52 : CwE RX3 52 yX3_put cX3_put 8 none 6 := ⟨⟨List.mem_of_getElem? (i := 262) (by decide +kernel), rfl⟩, wc_yX3_put, wz_X3, ⟨by decide, by decide⟩, by decide +kernel⟩
theorem cw_X3_56 : CwN RX3 56 yX5_isChannel "ChannelSpacer" cX5_isChannel 1 (some .boolean) 1 := ⟨⟨List.mem_of_getElem? (i := 266) (by decide +kernel), rfl⟩, wc_yX5_isChannel, wz_X5, ⟨by decide, by decide⟩, by decide +kernel⟩
theorem cw_X3_28 : CwE RX3 28 yX3_gatherTriples cX3_gatherTriples 8 none 2 := ⟨⟨List.mem_of_getElem? (i := 269) (by decide +kernel), rfl⟩, wc_yX3_gatherTriples, wz_X3, ⟨by decide, by decide⟩, by decide +kernel⟩
theorem cw_L_132 : CwE RL 132 yX5_hits cX5_hits 3 (some .int) 0 := ⟨⟨List.mem_of_getElem? (i := 273) (by decide +kernel), rfl⟩, wc_yX5_hits, wz_X5, ⟨by decide, by decide⟩, by decide +kernel⟩
theorem cw_X5_92 : CwE RX5 92 yX1_channelOf cX1_channelOf 2 (some .int) 1 := ⟨⟨List.mem_of_getElem? (i := 277) (by decide +kernel), rfl⟩, wc_yX1_channelOf, wz_X1, ⟨by decide, by decide⟩, by decide +kernel⟩
theorem cw_X5_173 : CwE RX5 173 yX3_countNear cX3_countNear 5 (some .int) 2 := ⟨⟨List.mem_of_getElem? (i := 278) (by decide +kernel), rfl⟩, wc_yX3_countNear, wz_X3, ⟨by decide, by decide⟩, by decide +kernel⟩
theorem cw_X3_60 : CwE RX3 60 yX3_fact cX3_fact 3 (some .int) 2 := ⟨⟨List.mem_of_getElem? (i := 282) (by decide +kernel), rfl⟩, wc_yX3_fact, wz_X3, ⟨by decide, by decide⟩, by decide +kernel⟩
theorem wl_X3_64 : Wd (.methodLink RX3 64 Lib.Math.abs.name) := ⟨List.mem_of_getElem? (i := 286) (by decide +kernel), rfl⟩
theorem cw_L_135 : CwE RL 135 yX5_isClean cX5_isClean 1 (some .boolean) 0 := ⟨⟨List.mem_of_getElem? (i := 289) (by decide +kernel), rfl⟩, wc_yX5_isClean, wz_X5, ⟨by decide, by decide⟩, by decide +kernel⟩
theorem cw_X5_176 : CwE RX5 176 yX5_standsClean cX5_standsClean 3 (some .boolean) 1 := ⟨⟨List.mem_of_getElem? (i := 293) (by decide +kernel), rfl⟩, wc_yX5_standsClean, wz_X5, ⟨by decide, by decide⟩, by decide +kernel⟩
theorem cw_X5_331 : CwE RX5 331 yX0_start cX0_start 2 none 1 := ⟨⟨List.mem_of_getElem? (i := 297) (by decide +kernel), rfl⟩, wc_yX0_start, wz_X0, ⟨by decide, by decide⟩, by decide +kernel⟩
theorem cw_X5_326 : CwE RX5 326 yX5_isIn cX5_isIn 3 (some .boolean) 2 := ⟨⟨List.mem_of_getElem? (i := 301) (by decide +kernel), rfl⟩, wc_yX5_isIn, wz_X5, ⟨by decide, by decide⟩, by decide +kernel⟩
theorem cw_X5_143 : CwE RX5 143 yX1_levelOf cX1_levelOf 2 (some .int) 1 := ⟨⟨List.mem_of_getElem? (i := 302) (by decide +kernel), rfl⟩, wc_yX1_levelOf, wz_X1, ⟨by decide, by decide⟩, by decide +kernel⟩
theorem cw_X5_334 : CwE RX5 334 yX0_join cX0_join 7 (some .boolean) 2 := ⟨⟨List.mem_of_getElem? (i := 303) (by decide +kernel), rfl⟩, wc_yX0_join, wz_X0, ⟨by decide, by decide⟩, by decide +kernel⟩
theorem cw_X0_51 : CwE RX0 51 yX0_isCrowded cX0_isCrowded 3 (some .boolean) 1 := ⟨⟨List.mem_of_getElem? (i := 307) (by decide +kernel), rfl⟩, wc_yX0_isCrowded, wz_X0, ⟨by decide, by decide⟩, by decide +kernel⟩
theorem wl_X0_72 : Wd (.methodLink RX0 72 Lib.Math.abs.name) := ⟨List.mem_of_getElem? (i := 311) (by decide +kernel), rfl⟩
theorem cw_X0_55 : CwE RX0 55 yX0_guardedBy cX0_guardedBy 5 (some .long) 1 := ⟨⟨List.mem_of_getElem? (i := 312) (by decide +kernel), rfl⟩, wc_yX0_guardedBy, wz_X0, ⟨by decide, by decide⟩, by decide +kernel⟩
theorem cw_X0_59 : CwE RX0 59 yX0_pairsWith cX0_pairsWith 8 (some .long) 2 := ⟨⟨List.mem_of_getElem? (i := 316) (by decide +kernel), rfl⟩, wc_yX0_pairsWith, wz_X0, ⟨by decide, by decide⟩, by decide +kernel⟩
theorem cw_X0_76 : CwE RX0 76 yX0_bitOf cX0_bitOf 2 (some .long) 2 := ⟨⟨List.mem_of_getElem? (i := 320) (by decide +kernel), rfl⟩, wc_yX0_bitOf, wz_X0, ⟨by decide, by decide⟩, by decide +kernel⟩
theorem cw_X0_79 : CwN RX0 79 yX5_isChannel "ChannelSpacer" cX5_isChannel 1 (some .boolean) 1 := ⟨⟨List.mem_of_getElem? (i := 323) (by decide +kernel), rfl⟩, wc_yX5_isChannel, wz_X5, ⟨by decide, by decide⟩, by decide +kernel⟩
theorem cw_X0_63 : CwE RX0 63 yX0_triplesWith cX0_triplesWith 10 (some .long) 2 := ⟨⟨List.mem_of_getElem? (i := 324) (by decide +kernel), rfl⟩, wc_yX0_triplesWith, wz_X0, ⟨by decide, by decide⟩, by decide +kernel⟩
theorem cw_L_214 : CwE RL 214 yL_cell cL_cell 2 (some .int) 2 := ⟨⟨List.mem_of_getElem? (i := 328) (by decide +kernel), rfl⟩, wc_yL_cell, wz_L, ⟨by decide, by decide⟩, by decide +kernel⟩
theorem cw_L_164 : CwE RL 164 yL_low cL_low 2 (some .int) 2 := ⟨⟨List.mem_of_getElem? (i := 332) (by decide +kernel), rfl⟩, wc_yL_low, wz_L, ⟨by decide, by decide⟩, by decide +kernel⟩
theorem cw_L_9 : CwE RL 9 yX5_addCarrier cX5_addCarrier 3 (some .int) 2 := ⟨⟨List.mem_of_getElem? (i := 341) (by decide +kernel), rfl⟩, wc_yX5_addCarrier, wz_X5, ⟨by decide, by decide⟩, by decide +kernel⟩
theorem cw_X5_51 : CwE RX5 51 yX5_isChannel cX5_isChannel 1 (some .boolean) 1 := ⟨⟨List.mem_of_getElem? (i := 345) (by decide +kernel), rfl⟩, wc_yX5_isChannel, wz_X5, ⟨by decide, by decide⟩, by decide +kernel⟩
theorem cw_X5_55 : CwE RX5 55 yX5_isLevel cX5_isLevel 1 (some .boolean) 1 := ⟨⟨List.mem_of_getElem? (i := 346) (by decide +kernel), rfl⟩, wc_yX5_isLevel, wz_X5, ⟨by decide, by decide⟩, by decide +kernel⟩
theorem cw_X5_58 : CwE RX5 58 yX1_carrierOn cX1_carrierOn 3 (some .int) 1 := ⟨⟨List.mem_of_getElem? (i := 349) (by decide +kernel), rfl⟩, wc_yX1_carrierOn, wz_X1, ⟨by decide, by decide⟩, by decide +kernel⟩
theorem cw_X1_68 : CwE RX1 68 yX1_channelOf cX1_channelOf 2 (some .int) 1 := ⟨⟨List.mem_of_getElem? (i := 353) (by decide +kernel), rfl⟩, wc_yX1_channelOf, wz_X1, ⟨by decide, by decide⟩, by decide +kernel⟩
theorem cw_X5_69 : CwE RX5 69 yX5_needRoomForCarrier cX5_needRoomForCarrier 1 none 0 := ⟨⟨List.mem_of_getElem? (i := 422) (by decide +kernel), rfl⟩, wc_yX5_needRoomForCarrier, wz_X5, ⟨by decide, by decide⟩, by decide +kernel⟩
theorem cw_X5_72 : CwE RX5 72 yX2_push cX2_push 3 none 1 := ⟨⟨List.mem_of_getElem? (i := 442) (by decide +kernel), rfl⟩, wc_yX2_push, wz_X2, ⟨by decide, by decide⟩, by decide +kernel⟩
theorem cw_X2_22 : CwE RX2 22 yX2_deskAt cX2_deskAt 2 (some (.object "ChannelSpacer$Desk")) 1 := ⟨⟨List.mem_of_getElem? (i := 446) (by decide +kernel), rfl⟩, wc_yX2_deskAt, wz_X2, ⟨by decide, by decide⟩, by decide +kernel⟩
theorem cw_X2_26 : CwE RX2 26 yX1_takeFrom cX1_takeFrom 2 none 1 := ⟨⟨List.mem_of_getElem? (i := 450) (by decide +kernel), rfl⟩, wc_yX1_takeFrom, wz_X1, ⟨by decide, by decide⟩, by decide +kernel⟩
theorem wl_X1_58 : Wd (.methodLink RX1 58 arraycopyName) := ⟨List.mem_of_getElem? (i := 454) (by decide +kernel), rfl⟩
theorem wl_X2_33 : Wd (.methodLink RX2 33 Lib.Math.min.name) := ⟨List.mem_of_getElem? (i := 457) (by decide +kernel), rfl⟩
theorem cw_X5_76 : CwE RX5 76 yX1_putCarrier cX1_putCarrier 3 none 2 := ⟨⟨List.mem_of_getElem? (i := 460) (by decide +kernel), rfl⟩, wc_yX1_putCarrier, wz_X1, ⟨by decide, by decide⟩, by decide +kernel⟩
theorem cw_X1_72 : CwE RX1 72 yX1_setCarrier cX1_setCarrier 4 none 3 := ⟨⟨List.mem_of_getElem? (i := 464) (by decide +kernel), rfl⟩, wc_yX1_setCarrier, wz_X1, ⟨by decide, by decide⟩, by decide +kernel⟩
theorem cw_L_19 : CwE RL 19 yX5_moveCarrier cX5_moveCarrier 6 (some .int) 3 := ⟨⟨List.mem_of_getElem? (i := 472) (by decide +kernel), rfl⟩, wc_yX5_moveCarrier, wz_X5, ⟨by decide, by decide⟩, by decide +kernel⟩
theorem cw_X5_84 : CwE RX5 84 yX5_needCarrier cX5_needCarrier 2 none 1 := ⟨⟨List.mem_of_getElem? (i := 476) (by decide +kernel), rfl⟩, wc_yX5_needCarrier, wz_X5, ⟨by decide, by decide⟩, by decide +kernel⟩
theorem cw_X5_314 : CwE RX5 314 yX1_hasCarrier cX1_hasCarrier 2 (some .boolean) 1 := ⟨⟨List.mem_of_getElem? (i := 480) (by decide +kernel), rfl⟩, wc_yX1_hasCarrier, wz_X1, ⟨by decide, by decide⟩, by decide +kernel⟩
theorem cw_X5_95 : CwE RX5 95 yX1_setCarrier cX1_setCarrier 4 none 3 := ⟨⟨List.mem_of_getElem? (i := 499) (by decide +kernel), rfl⟩, wc_yX1_setCarrier, wz_X1, ⟨by decide, by decide⟩, by decide +kernel⟩
theorem cw_L_25 : CwE RL 25 yX5_removeCarrier cX5_removeCarrier 2 (some .int) 1 := ⟨⟨List.mem_of_getElem? (i := 503) (by decide +kernel), rfl⟩, wc_yX5_removeCarrier, wz_X5, ⟨by decide, by decide⟩, by decide +kernel⟩
theorem cw_X5_99 : CwE RX5 99 yX1_takeOut cX1_takeOut 5 none 1 := ⟨⟨List.mem_of_getElem? (i := 507) (by decide +kernel), rfl⟩, wc_yX1_takeOut, wz_X1, ⟨by decide, by decide⟩, by decide +kernel⟩
theorem cw_X1_76 : CwE RX1 76 yX1_levelOf cX1_levelOf 2 (some .int) 1 := ⟨⟨List.mem_of_getElem? (i := 511) (by decide +kernel), rfl⟩, wc_yX1_levelOf, wz_X1, ⟨by decide, by decide⟩, by decide +kernel⟩
theorem cw_X1_79 : CwE RX1 79 yX1_membersOf cX1_membersOf 2 (some .int) 1 := ⟨⟨List.mem_of_getElem? (i := 512) (by decide +kernel), rfl⟩, wc_yX1_membersOf, wz_X1, ⟨by decide, by decide⟩, by decide +kernel⟩
theorem cw_X1_86 : CwE RX1 86 yX1_hasMixer cX1_hasMixer 2 (some .boolean) 1 := ⟨⟨List.mem_of_getElem? (i := 516) (by decide +kernel), rfl⟩, wc_yX1_hasMixer, wz_X1, ⟨by decide, by decide⟩, by decide +kernel⟩
theorem cw_X1_82 : CwE RX1 82 yX1_setMembers cX1_setMembers 3 none 2 := ⟨⟨List.mem_of_getElem? (i := 520) (by decide +kernel), rfl⟩, wc_yX1_setMembers, wz_X1, ⟨by decide, by decide⟩, by decide +kernel⟩
theorem cw_L_29 : CwE RL 29 yX5_shift cX5_shift 3 (some .int) 1 := ⟨⟨List.mem_of_getElem? (i := 527) (by decide +kernel), rfl⟩, wc_yX5_shift, wz_X5, ⟨by decide, by decide⟩, by decide +kernel⟩
theorem cw_X5_109 : CwE RX5 109 yX1_shiftAll cX1_shiftAll 3 none 1 := ⟨⟨List.mem_of_getElem? (i := 533) (by decide +kernel), rfl⟩, wc_yX1_shiftAll, wz_X1, ⟨by decide, by decide⟩, by decide +kernel⟩
theorem cw_L_32 : CwE RL 32 yX5_setProducts cX5_setProducts 5 (some .int) 3 := ⟨⟨List.mem_of_getElem? (i := 540) (by decide +kernel), rfl⟩, wc_yX5_setProducts, wz_X5, ⟨by decide, by decide⟩, by decide +kernel⟩
theorem cw_X5_112 : CwE RX5 112 yX5_isWithin cX5_isWithin 3 (some .boolean) 3 := ⟨⟨List.mem_of_getElem? (i := 544) (by decide +kernel), rfl⟩, wc_yX5_isWithin, wz_X5, ⟨by decide, by decide⟩, by decide +kernel⟩
theorem cw_L_35 : CwE RL 35 yX5_setSpacing cX5_setSpacing 4 (some .int) 2 := ⟨⟨List.mem_of_getElem? (i := 551) (by decide +kernel), rfl⟩, wc_yX5_setSpacing, wz_X5, ⟨by decide, by decide⟩, by decide +kernel⟩
theorem cw_L_38 : CwE RL 38 yX5_size cX5_size 2 (some .int) 1 := ⟨⟨List.mem_of_getElem? (i := 559) (by decide +kernel), rfl⟩, wc_yX5_size, wz_X5, ⟨by decide, by decide⟩, by decide +kernel⟩
theorem cw_L_72 : CwE RL 72 yX5_addMixer cX5_addMixer 2 (some .int) 1 := ⟨⟨List.mem_of_getElem? (i := 567) (by decide +kernel), rfl⟩, wc_yX5_addMixer, wz_X5, ⟨by decide, by decide⟩, by decide +kernel⟩
theorem cw_X5_166 : CwE RX5 166 yX5_needSetOfCarriers cX5_needSetOfCarriers 2 none 1 := ⟨⟨List.mem_of_getElem? (i := 571) (by decide +kernel), rfl⟩, wc_yX5_needSetOfCarriers, wz_X5, ⟨by decide, by decide⟩, by decide +kernel⟩
theorem cw_X5_217 : CwE RX5 217 yX1_putMixer cX1_putMixer 2 none 1 := ⟨⟨List.mem_of_getElem? (i := 577) (by decide +kernel), rfl⟩, wc_yX1_putMixer, wz_X1, ⟨by decide, by decide⟩, by decide +kernel⟩
theorem cw_L_75 : CwE RL 75 yX5_setMember cX5_setMember 6 (some .int) 3 := ⟨⟨List.mem_of_getElem? (i := 584) (by decide +kernel), rfl⟩, wc_yX5_setMember, wz_X5, ⟨by decide, by decide⟩, by decide +kernel⟩
theorem cw_X5_220 : CwE RX5 220 yX5_needMixer cX5_needMixer 2 none 1 := ⟨⟨List.mem_of_getElem? (i := 588) (by decide +kernel), rfl⟩, wc_yX5_needMixer, wz_X5, ⟨by decide, by decide⟩, by decide +kernel⟩
theorem cw_X5_319 : CwE RX5 319 yX1_hasMixer cX1_hasMixer 2 (some .boolean) 1 := ⟨⟨List.mem_of_getElem? (i := 592) (by decide +kernel), rfl⟩, wc_yX1_hasMixer, wz_X1, ⟨by decide, by decide⟩, by decide +kernel⟩
theorem cw_X5_223 : CwE RX5 223 yX1_membersOf cX1_membersOf 2 (some .int) 1 := ⟨⟨List.mem_of_getElem? (i := 594) (by decide +kernel), rfl⟩, wc_yX1_membersOf, wz_X1, ⟨by decide, by decide⟩, by decide +kernel⟩
theorem cw_X5_226 : CwE RX5 226 yX1_setMembers cX1_setMembers 3 none 2 := ⟨⟨List.mem_of_getElem? (i := 595) (by decide +kernel), rfl⟩, wc_yX1_setMembers, wz_X1, ⟨by decide, by decide⟩, by decide +kernel⟩
theorem cw_L_82 : CwE RL 82 yX5_addTest cX5_addTest 4 (some .int) 3 := ⟨⟨List.mem_of_getElem? (i := 599) (by decide +kernel), rfl⟩, wc_yX5_addTest, wz_X5, ⟨by decide, by decide⟩, by decide +kernel⟩
theorem cw_X5_229 : CwE RX5 229 yX5_needChannel cX5_needChannel 1 none 1 := ⟨⟨List.mem_of_getElem? (i := 603) (by decide +kernel), rfl⟩, wc_yX5_needChannel, wz_X5, ⟨by decide, by decide⟩, by decide +kernel⟩
theorem cw_X5_234 : CwE RX5 234 yX5_mixActive cX5_mixActive 3 none 1 := ⟨⟨List.mem_of_getElem? (i := 608) (by decide +kernel), rfl⟩, wc_yX5_mixActive, wz_X5, ⟨by decide, by decide⟩, by decide +kernel⟩
theorem cw_X5_169 : CwE RX5 169 yX5_falloutOf cX5_falloutOf 2 (some .long) 1 := ⟨⟨List.mem_of_getElem? (i := 612) (by decide +kernel), rfl⟩, wc_yX5_falloutOf, wz_X5, ⟨by decide, by decide⟩, by decide +kernel⟩
theorem cw_X5_330 : CwE RX5 330 yX3_channelSet cX3_channelSet 4 (some .long) 0 := ⟨⟨List.mem_of_getElem? (i := 616) (by decide +kernel), rfl⟩, wc_yX3_channelSet, wz_X3, ⟨by decide, by decide⟩, by decide +kernel⟩
theorem cw_X5_237 : CwE RX5 237 yX5_mixersOn cX5_mixersOn 4 (some .int) 1 := ⟨⟨List.mem_of_getElem? (i := 620) (by decide +kernel), rfl⟩, wc_yX5_mixersOn, wz_X5, ⟨by decide, by decide⟩, by decide +kernel⟩
theorem cw_X5_240 : CwE RX5 240 yX1_putTest cX1_putTest 5 none 4 := ⟨⟨List.mem_of_getElem? (i := 624) (by decide +kernel), rfl⟩, wc_yX1_putTest, wz_X1, ⟨by decide, by decide⟩, by decide +kernel⟩
theorem cw_X5_244 : CwE RX5 244 yX5_countDiagnoses cX5_countDiagnoses 3 (some .int) 0 := ⟨⟨List.mem_of_getElem? (i := 628) (by decide +kernel), rfl⟩, wc_yX5_countDiagnoses, wz_X5, ⟨by decide, by decide⟩, by decide +kernel⟩
theorem cw_X5_252 : CwE RX5 252 yX1_everyMixer cX1_everyMixer 1 (some .int) 0 := ⟨⟨List.mem_of_getElem? (i := 632) (by decide +kernel), rfl⟩, wc_yX1_everyMixer, wz_X1, ⟨by decide, by decide⟩, by decide +kernel⟩
theorem cw_X5_255 : CwE RX5 255 yX1_fitsTests cX1_fitsTests 4 (some .boolean) 1 := ⟨⟨List.mem_of_getElem? (i := 636) (by decide +kernel), rfl⟩, wc_yX1_fitsTests, wz_X1, ⟨by decide, by decide⟩, by decide +kernel⟩
theorem cw_L_97 : CwE RL 97 yX5_undo cX5_undo 1 (some .int) 0 := ⟨⟨List.mem_of_getElem? (i := 643) (by decide +kernel), rfl⟩, wc_yX5_undo, wz_X5, ⟨by decide, by decide⟩, by decide +kernel⟩
theorem cw_X5_287 : CwE RX5 287 yX2_popInto cX2_popInto 3 none 1 := ⟨⟨List.mem_of_getElem? (i := 648) (by decide +kernel), rfl⟩, wc_yX2_popInto, wz_X2, ⟨by decide, by decide⟩, by decide +kernel⟩
theorem wl_X2_39 : Wd (.methodLink RX2 39 Lib.Math.max.name) := ⟨List.mem_of_getElem? (i := 652) (by decide +kernel), rfl⟩
theorem cw_L_206 : CwE RL 206 yL_sound cL_sound 20 (some .boolean) 2 := ⟨⟨List.mem_of_getElem? (i := 655) (by decide +kernel), rfl⟩, wc_yL_sound, wz_L, ⟨by decide, by decide⟩, by decide +kernel⟩
theorem cw_L_48 : CwE RL 48 yX5_fallout cX5_fallout 2 (some .long) 1 := ⟨⟨List.mem_of_getElem? (i := 661) (by decide +kernel), rfl⟩, wc_yX5_fallout, wz_X5, ⟨by decide, by decide⟩, by decide +kernel⟩
theorem cw_L_54 : CwE RL 54 yX5_hitsOn cX5_hitsOn 2 (some .int) 1 := ⟨⟨List.mem_of_getElem? (i := 669) (by decide +kernel), rfl⟩, wc_yX5_hitsOn, wz_X5, ⟨by decide, by decide⟩, by decide +kernel⟩
theorem cw_L_113 : CwE RL 113 yX5_channels cX5_channels 4 (some .long) 0 := ⟨⟨List.mem_of_getElem? (i := 674) (by decide +kernel), rfl⟩, wc_yX5_channels, wz_X5, ⟨by decide, by decide⟩, by decide +kernel⟩
theorem cw_L_41 : CwE RL 41 yX5_carrier cX5_carrier 3 (some .int) 2 := ⟨⟨List.mem_of_getElem? (i := 681) (by decide +kernel), rfl⟩, wc_yX5_carrier, wz_X5, ⟨by decide, by decide⟩, by decide +kernel⟩
theorem cw_L_45 : CwE RL 45 yX5_product cX5_product 3 (some .int) 2 := ⟨⟨List.mem_of_getElem? (i := 688) (by decide +kernel), rfl⟩, wc_yX5_product, wz_X5, ⟨by decide, by decide⟩, by decide +kernel⟩
theorem cw_X5_162 : CwE RX5 162 yX3_fact cX3_fact 3 (some .int) 2 := ⟨⟨List.mem_of_getElem? (i := 693) (by decide +kernel), rfl⟩, wc_yX3_fact, wz_X3, ⟨by decide, by decide⟩, by decide +kernel⟩
theorem cw_L_126 : CwE RL 126 yX5_closest cX5_closest 5 (some .int) 0 := ⟨⟨List.mem_of_getElem? (i := 694) (by decide +kernel), rfl⟩, wc_yX5_closest, wz_X5, ⟨by decide, by decide⟩, by decide +kernel⟩
theorem wl_X5_179 : Wd (.methodLink RX5 179 Lib.Math.abs.name) := ⟨List.mem_of_getElem? (i := 698) (by decide +kernel), rfl⟩
theorem cw_L_129 : CwE RL 129 yX5_removal cX5_removal 4 (some .int) 0 := ⟨⟨List.mem_of_getElem? (i := 699) (by decide +kernel), rfl⟩, wc_yX5_removal, wz_X5, ⟨by decide, by decide⟩, by decide +kernel⟩
theorem cw_X5_184 : CwE RX5 184 yJ6_bitCount_0f7a4 cJ6_bitCount_0f7a4 1 (some .int) 1 := ⟨⟨List.mem_of_getElem? (i := 703) (by decide +kernel), rfl⟩, wc_yJ6_bitCount_0f7a4, wz_J6, ⟨by decide, by decide⟩, by decide +kernel⟩
theorem cw_L_139 : CwE RL 139 yL_many cL_many 5 (some .int) 1 := ⟨⟨List.mem_of_getElem? (i := 709) (by decide +kernel), rfl⟩, wc_yL_many, wz_L, ⟨by decide, by decide⟩, by decide +kernel⟩
theorem cw_L_224 : CwE RL 224 yL_opens cL_opens 7 (some .boolean) 2 := ⟨⟨List.mem_of_getElem? (i := 712) (by decide +kernel), rfl⟩, wc_yL_opens, wz_L, ⟨by decide, by decide⟩, by decide +kernel⟩
theorem cw_L_66 : CwE RL 66 yX5_openings cX5_openings 2 (some .long) 1 := ⟨⟨List.mem_of_getElem? (i := 718) (by decide +kernel), rfl⟩, wc_yX5_openings, wz_X5, ⟨by decide, by decide⟩, by decide +kernel⟩
theorem cw_X5_205 : CwE RX5 205 yX5_needLevel cX5_needLevel 1 none 1 := ⟨⟨List.mem_of_getElem? (i := 722) (by decide +kernel), rfl⟩, wc_yX5_needLevel, wz_X5, ⟨by decide, by decide⟩, by decide +kernel⟩
theorem cw_X5_208 : CwE RX5 208 yX5_openChannels cX5_openChannels 5 (some .long) 1 := ⟨⟨List.mem_of_getElem? (i := 726) (by decide +kernel), rfl⟩, wc_yX5_openChannels, wz_X5, ⟨by decide, by decide⟩, by decide +kernel⟩
theorem cw_X5_338 : CwE RX5 338 yX0_leave cX0_leave 1 none 0 := ⟨⟨List.mem_of_getElem? (i := 730) (by decide +kernel), rfl⟩, wc_yX0_leave, wz_X0, ⟨by decide, by decide⟩, by decide +kernel⟩
theorem wl_X0_66 : Wd (.methodLink RX0 66 Lib.Math.max.name) := ⟨List.mem_of_getElem? (i := 734) (by decide +kernel), rfl⟩
theorem cw_L_69 : CwE RL 69 yX5_putIn cX5_putIn 3 (some .int) 1 := ⟨⟨List.mem_of_getElem? (i := 738) (by decide +kernel), rfl⟩, wc_yX5_putIn, wz_X5, ⟨by decide, by decide⟩, by decide +kernel⟩
theorem cw_X5_211 : CwE RX5 211 yX5_lowestOf cX5_lowestOf 3 (some .int) 1 := ⟨⟨List.mem_of_getElem? (i := 742) (by decide +kernel), rfl⟩, wc_yX5_lowestOf, wz_X5, ⟨by decide, by decide⟩, by decide +kernel⟩
theorem cw_L_230 : CwE RL 230 yL_spans cL_spans 6 (some .boolean) 1 := ⟨⟨List.mem_of_getElem? (i := 745) (by decide +kernel), rfl⟩, wc_yL_spans, wz_L, ⟨by decide, by decide⟩, by decide +kernel⟩
theorem cw_L_57 : CwE RL 57 yX5_leastSpan cX5_leastSpan 2 (some .int) 1 := ⟨⟨List.mem_of_getElem? (i := 751) (by decide +kernel), rfl⟩, wc_yX5_leastSpan, wz_X5, ⟨by decide, by decide⟩, by decide +kernel⟩
theorem cw_X5_189 : CwE RX5 189 yX5_needMarks cX5_needMarks 2 none 2 := ⟨⟨List.mem_of_getElem? (i := 755) (by decide +kernel), rfl⟩, wc_yX5_needMarks, wz_X5, ⟨by decide, by decide⟩, by decide +kernel⟩
theorem cw_X5_192 : CwE RX5 192 yX5_findBestRuler cX5_findBestRuler 3 (some .int) 1 := ⟨⟨List.mem_of_getElem? (i := 759) (by decide +kernel), rfl⟩, wc_yX5_findBestRuler, wz_X5, ⟨by decide, by decide⟩, by decide +kernel⟩
theorem cw_X5_201 : CwE RX5 201 yX5_countRulers cX5_countRulers 4 (some .int) 3 := ⟨⟨List.mem_of_getElem? (i := 763) (by decide +kernel), rfl⟩, wc_yX5_countRulers, wz_X5, ⟨by decide, by decide⟩, by decide +kernel⟩
theorem cw_X5_341 : CwE RX5 341 yX5_countInner cX5_countInner 8 (some .int) 5 := ⟨⟨List.mem_of_getElem? (i := 767) (by decide +kernel), rfl⟩, wc_yX5_countInner, wz_X5, ⟨by decide, by decide⟩, by decide +kernel⟩
theorem cw_L_60 : CwE RL 60 yX5_bestRuler cX5_bestRuler 2 (some .long) 1 := ⟨⟨List.mem_of_getElem? (i := 773) (by decide +kernel), rfl⟩, wc_yX5_bestRuler, wz_X5, ⟨by decide, by decide⟩, by decide +kernel⟩
theorem cw_X5_195 : CwE RX5 195 yX0_channelSet cX0_channelSet 4 (some .long) 0 := ⟨⟨List.mem_of_getElem? (i := 777) (by decide +kernel), rfl⟩, wc_yX0_channelSet, wz_X0, ⟨by decide, by decide⟩, by decide +kernel⟩
theorem cw_L_63 : CwE RL 63 yX5_rulers cX5_rulers 3 (some .int) 2 := ⟨⟨List.mem_of_getElem? (i := 784) (by decide +kernel), rfl⟩, wc_yX5_rulers, wz_X5, ⟨by decide, by decide⟩, by decide +kernel⟩
theorem cw_L_156 : CwE RL 156 yL_highest cL_highest 3 (some .int) 1 := ⟨⟨List.mem_of_getElem? (i := 789) (by decide +kernel), rfl⟩, wc_yL_highest, wz_L, ⟨by decide, by decide⟩, by decide +kernel⟩
theorem cw_L_218 : CwE RL 218 yL_known cL_known 5 (some .boolean) 2 := ⟨⟨List.mem_of_getElem? (i := 792) (by decide +kernel), rfl⟩, wc_yL_known, wz_L, ⟨by decide, by decide⟩, by decide +kernel⟩
theorem cw_L_227 : CwE RL 227 yL_listens cL_listens 15 (some .boolean) 2 := ⟨⟨List.mem_of_getElem? (i := 795) (by decide +kernel), rfl⟩, wc_yL_listens, wz_L, ⟨by decide, by decide⟩, by decide +kernel⟩
theorem cw_L_88 : CwE RL 88 yX5_heard cX5_heard 3 (some .int) 2 := ⟨⟨List.mem_of_getElem? (i := 801) (by decide +kernel), rfl⟩, wc_yX5_heard, wz_X5, ⟨by decide, by decide⟩, by decide +kernel⟩
theorem cw_L_169 : CwE RL 169 yX5_diagnoses cX5_diagnoses 1 (some .int) 0 := ⟨⟨List.mem_of_getElem? (i := 805) (by decide +kernel), rfl⟩, wc_yX5_diagnoses, wz_X5, ⟨by decide, by decide⟩, by decide +kernel⟩
theorem cw_L_172 : CwE RL 172 yX5_diagnosis cX5_diagnosis 3 (some .int) 0 := ⟨⟨List.mem_of_getElem? (i := 809) (by decide +kernel), rfl⟩, wc_yX5_diagnosis, wz_X5, ⟨by decide, by decide⟩, by decide +kernel⟩
theorem cw_L_175 : CwE RL 175 yX5_certain cX5_certain 5 (some .int) 1 := ⟨⟨List.mem_of_getElem? (i := 813) (by decide +kernel), rfl⟩, wc_yX5_certain, wz_X5, ⟨by decide, by decide⟩, by decide +kernel⟩
theorem cw_L_91 : CwE RL 91 yX5_bestTest cX5_bestTest 8 (some .int) 1 := ⟨⟨List.mem_of_getElem? (i := 820) (by decide +kernel), rfl⟩, wc_yX5_bestTest, wz_X5, ⟨by decide, by decide⟩, by decide +kernel⟩
theorem cw_X5_258 : CwE RX5 258 yX5_countHeard cX5_countHeard 4 (some .int) 1 := ⟨⟨List.mem_of_getElem? (i := 824) (by decide +kernel), rfl⟩, wc_yX5_countHeard, wz_X5, ⟨by decide, by decide⟩, by decide +kernel⟩
theorem wl_X5_261 : Wd (.methodLink RX5 261 Lib.Math.max.name) := ⟨List.mem_of_getElem? (i := 828) (by decide +kernel), rfl⟩
theorem cw_L_210 : CwE RL 210 yL_refuses cL_refuses 5 (some .boolean) 1 := ⟨⟨List.mem_of_getElem? (i := 829) (by decide +kernel), rfl⟩, wc_yL_refuses, wz_L, ⟨by decide, by decide⟩, by decide +kernel⟩
theorem cw_L_184 : CwE RL 184 yX5_digest cX5_digest 5 (some .long) 0 := ⟨⟨List.mem_of_getElem? (i := 832) (by decide +kernel), rfl⟩, wc_yX5_digest, wz_X5, ⟨by decide, by decide⟩, by decide +kernel⟩
theorem cw_X5_294 : CwE RX5 294 yX5_products cX5_products 1 (some .int) 0 := ⟨⟨List.mem_of_getElem? (i := 838) (by decide +kernel), rfl⟩, wc_yX5_products, wz_X5, ⟨by decide, by decide⟩, by decide +kernel⟩
theorem cw_X5_297 : CwE RX5 297 yX5_hits cX5_hits 3 (some .int) 0 := ⟨⟨List.mem_of_getElem? (i := 839) (by decide +kernel), rfl⟩, wc_yX5_hits, wz_X5, ⟨by decide, by decide⟩, by decide +kernel⟩
theorem cw_X5_249 : CwE RX5 249 yX1_testFact cX1_testFact 3 (some .int) 2 := ⟨⟨List.mem_of_getElem? (i := 840) (by decide +kernel), rfl⟩, wc_yX1_testFact, wz_X1, ⟨by decide, by decide⟩, by decide +kernel⟩
theorem cw_X1_89 : CwE RX1 89 yX1_hasTest cX1_hasTest 2 (some .boolean) 1 := ⟨⟨List.mem_of_getElem? (i := 844) (by decide +kernel), rfl⟩, wc_yX1_hasTest, wz_X1, ⟨by decide, by decide⟩, by decide +kernel⟩
theorem cw_X5_300 : CwE RX5 300 yX5_diagnoses cX5_diagnoses 1 (some .int) 0 := ⟨⟨List.mem_of_getElem? (i := 848) (by decide +kernel), rfl⟩, wc_yX5_diagnoses, wz_X5, ⟨by decide, by decide⟩, by decide +kernel⟩
theorem cw_X5_303 : CwE RX5 303 yX5_diagnosis cX5_diagnosis 3 (some .int) 0 := ⟨⟨List.mem_of_getElem? (i := 849) (by decide +kernel), rfl⟩, wc_yX5_diagnosis, wz_X5, ⟨by decide, by decide⟩, by decide +kernel⟩
theorem cw_L_79 : CwE RL 79 yX5_mixer cX5_mixer 2 (some .int) 1 := ⟨⟨List.mem_of_getElem? (i := 853) (by decide +kernel), rfl⟩, wc_yX5_mixer, wz_X5, ⟨by decide, by decide⟩, by decide +kernel⟩
theorem cw_L_85 : CwE RL 85 yX5_test cX5_test 3 (some .int) 2 := ⟨⟨List.mem_of_getElem? (i := 860) (by decide +kernel), rfl⟩, wc_yX5_test, wz_X5, ⟨by decide, by decide⟩, by decide +kernel⟩
theorem cw_L_94 : CwE RL 94 yX5_append cX5_append 2 (some .int) 1 := ⟨⟨List.mem_of_getElem? (i := 868) (by decide +kernel), rfl⟩, wc_yX5_append, wz_X5, ⟨by decide, by decide⟩, by decide +kernel⟩
theorem cw_X5_271 : CwE RX5 271 yX4_put cX4_put 2 none 1 := ⟨⟨List.mem_of_getElem? (i := 874) (by decide +kernel), rfl⟩, wc_yX4_put, wz_X4, ⟨by decide, by decide⟩, by decide +kernel⟩
theorem cw_L_221 : CwE RL 221 yL_edge cL_edge 3 (some .boolean) 1 := ⟨⟨List.mem_of_getElem? (i := 878) (by decide +kernel), rfl⟩, wc_yL_edge, wz_L, ⟨by decide, by decide⟩, by decide +kernel⟩
theorem wc_abs : Wd (.code Lib.Math.abs.name Lib.Math.abs.code 1 (some .int)) := ⟨List.mem_of_getElem? (i := 288) (by decide +kernel), rfl⟩
theorem ws_abs : Wd (.static Lib.Math.abs.name) := ⟨List.mem_of_getElem? (i := 287) (by decide +kernel), rfl⟩
theorem wc_max : Wd (.code Lib.Math.max.name Lib.Math.max.code 2 (some .int)) := ⟨List.mem_of_getElem? (i := 654) (by decide +kernel), rfl⟩
theorem ws_max : Wd (.static Lib.Math.max.name) := ⟨List.mem_of_getElem? (i := 653) (by decide +kernel), rfl⟩
theorem wc_min : Wd (.code Lib.Math.min.name Lib.Math.min.code 2 (some .int)) := ⟨List.mem_of_getElem? (i := 459) (by decide +kernel), rfl⟩
theorem ws_min : Wd (.static Lib.Math.min.name) := ⟨List.mem_of_getElem? (i := 458) (by decide +kernel), rfl⟩
theorem wz_Math : Wd (.initialized "java/lang/Math") := ⟨List.mem_of_getElem? (i := 34) (by decide +kernel), rfl⟩
theorem wz_System : Wd (.initialized "java/lang/System") := ⟨List.mem_of_getElem? (i := 37) (by decide +kernel), rfl⟩
theorem ws_copy : Wd (.static arraycopyName) := ⟨List.mem_of_getElem? (i := 455) (by decide +kernel), rfl⟩
theorem wn_copy : Wd (.native arraycopyName) := ⟨List.mem_of_getElem? (i := 456) (by decide +kernel), rfl⟩
theorem wi_obj : Wd (.instanceMethod objectInit) := ⟨List.mem_of_getElem? (i := 44) (by decide +kernel), rfl⟩
theorem wc_obj : Wd (.code objectInit ⟨#[0xb1]⟩ 1 none) := ⟨List.mem_of_getElem? (i := 45) (by decide +kernel), rfl⟩
theorem wk_L_7 : Wd (.constant RL 7 399107237) := ⟨List.mem_of_getElem? (i := 331) (by decide +kernel), rfl⟩
theorem wk_L_8 : Wd (.constant RL 8 2147483647) := ⟨List.mem_of_getElem? (i := 335) (by decide +kernel), rfl⟩
theorem wk_L_52 : Wd (.constantLong RL 52 (-901)) := ⟨List.mem_of_getElem? (i := 665) (by decide +kernel), rfl⟩
theorem wk_L_111 : Wd (.constantLong RL 111 (-1)) := ⟨List.mem_of_getElem? (i := 673) (by decide +kernel), rfl⟩
theorem wk_J6_265 : Wd (.constant RJ6 265 1431655765) := ⟨List.mem_of_getElem? (i := 706) (by decide +kernel), rfl⟩
theorem wk_J6_266 : Wd (.constant RJ6 266 858993459) := ⟨List.mem_of_getElem? (i := 707) (by decide +kernel), rfl⟩
theorem wk_J6_267 : Wd (.constant RJ6 267 252645135) := ⟨List.mem_of_getElem? (i := 708) (by decide +kernel), rfl⟩
theorem wk_X5_290 : Wd (.constantLong RX5 290 3067) := ⟨List.mem_of_getElem? (i := 836) (by decide +kernel), rfl⟩
theorem wk_X5_292 : Wd (.constantLong RX5 292 31) := ⟨List.mem_of_getElem? (i := 837) (by decide +kernel), rfl⟩
theorem wcl_L_10 : Wd (.classLink RL 10 "ChannelSpacer") := ⟨List.mem_of_getElem? (i := 38) (by decide +kernel), rfl⟩
theorem wcl_X5_7 : Wd (.classLink RX5 7 "ChannelSpacer$Desk") := ⟨List.mem_of_getElem? (i := 46) (by decide +kernel), rfl⟩
theorem wcl_X5_19 : Wd (.classLink RX5 19 "ChannelSpacer$History") := ⟨List.mem_of_getElem? (i := 116) (by decide +kernel), rfl⟩
theorem wcl_X2_9 : Wd (.classLink RX2 9 "ChannelSpacer$Desk") := ⟨List.mem_of_getElem? (i := 122) (by decide +kernel), rfl⟩
theorem wcl_X5_26 : Wd (.classLink RX5 26 "ChannelSpacer$Mix") := ⟨List.mem_of_getElem? (i := 136) (by decide +kernel), rfl⟩
theorem wcl_X5_33 : Wd (.classLink RX5 33 "ChannelSpacer$CleanSet") := ⟨List.mem_of_getElem? (i := 150) (by decide +kernel), rfl⟩
theorem wcl_X5_40 : Wd (.classLink RX5 40 "ChannelSpacer$PlanText") := ⟨List.mem_of_getElem? (i := 189) (by decide +kernel), rfl⟩
theorem wcl_L_15 : Wd (.classLink RL 15 "java/lang/IllegalArgumentException") := ⟨List.mem_of_getElem? (i := 339) (by decide +kernel), rfl⟩
theorem wcl_L_17 : Wd (.classLink RL 17 "java/lang/IllegalStateException") := ⟨List.mem_of_getElem? (i := 340) (by decide +kernel), rfl⟩
theorem wcl_X5_62 : Wd (.classLink RX5 62 "java/lang/IllegalArgumentException") := ⟨List.mem_of_getElem? (i := 354) (by decide +kernel), rfl⟩
theorem wcl_X5_104 : Wd (.classLink RX5 104 "java/lang/IllegalStateException") := ⟨List.mem_of_getElem? (i := 426) (by decide +kernel), rfl⟩
theorem wcl_L_23 : Wd (.classLink RL 23 "java/lang/IndexOutOfBoundsException") := ⟨List.mem_of_getElem? (i := 471) (by decide +kernel), rfl⟩
theorem wcl_X5_157 : Wd (.classLink RX5 157 "java/lang/IndexOutOfBoundsException") := ⟨List.mem_of_getElem? (i := 481) (by decide +kernel), rfl⟩
theorem wz_IllegalArgumentException : Wd (.initialized "java/lang/IllegalArgumentException") := ⟨List.mem_of_getElem? (i := 32) (by decide +kernel), rfl⟩
theorem wz_IllegalStateException : Wd (.initialized "java/lang/IllegalStateException") := ⟨List.mem_of_getElem? (i := 36) (by decide +kernel), rfl⟩
theorem wz_IndexOutOfBoundsException : Wd (.initialized "java/lang/IndexOutOfBoundsException") := ⟨List.mem_of_getElem? (i := 33) (by decide +kernel), rfl⟩
theorem atIA_a : ∀ x ∈ vx_atS RX5 66 "java/lang/IllegalArgumentException" ["java/lang/RuntimeException", "java/lang/Exception"], x ∈ lw_tbl := by decide +kernel
theorem atIA_b : ∀ x ∈ vx_atS RX5 66 "java/lang/IllegalArgumentException" ["java/lang/RuntimeException", "java/lang/Exception"], mvW x = true := by decide +kernel
theorem atIA : ∀ x ∈ vx_atS RX5 66 "java/lang/IllegalArgumentException" ["java/lang/RuntimeException", "java/lang/Exception"], Wd x := fun x h => ⟨atIA_a x h, atIA_b x h⟩
theorem otIA : ∀ x ∈ Cond.classLink RX5 62 "java/lang/IllegalArgumentException" :: Cond.initialized "java/lang/IllegalArgumentException" :: vx_atS RX5 66 "java/lang/IllegalArgumentException" ["java/lang/RuntimeException", "java/lang/Exception"], vx_ot x = true := by decide +kernel
theorem atIS_a : ∀ x ∈ vx_atS RX5 108 "java/lang/IllegalStateException" ["java/lang/RuntimeException", "java/lang/Exception"], x ∈ lw_tbl := by decide +kernel
theorem atIS_b : ∀ x ∈ vx_atS RX5 108 "java/lang/IllegalStateException" ["java/lang/RuntimeException", "java/lang/Exception"], mvW x = true := by decide +kernel
theorem atIS : ∀ x ∈ vx_atS RX5 108 "java/lang/IllegalStateException" ["java/lang/RuntimeException", "java/lang/Exception"], Wd x := fun x h => ⟨atIS_a x h, atIS_b x h⟩
theorem otIS : ∀ x ∈ Cond.classLink RX5 104 "java/lang/IllegalStateException" :: Cond.initialized "java/lang/IllegalStateException" :: vx_atS RX5 108 "java/lang/IllegalStateException" ["java/lang/RuntimeException", "java/lang/Exception"], vx_ot x = true := by decide +kernel
theorem atIO_a : ∀ x ∈ vx_atS RX5 161 "java/lang/IndexOutOfBoundsException" ["java/lang/RuntimeException", "java/lang/Exception"], x ∈ lw_tbl := by decide +kernel
theorem atIO_b : ∀ x ∈ vx_atS RX5 161 "java/lang/IndexOutOfBoundsException" ["java/lang/RuntimeException", "java/lang/Exception"], mvW x = true := by decide +kernel
theorem atIO : ∀ x ∈ vx_atS RX5 161 "java/lang/IndexOutOfBoundsException" ["java/lang/RuntimeException", "java/lang/Exception"], Wd x := fun x h => ⟨atIO_a x h, atIO_b x h⟩
theorem otIO : ∀ x ∈ Cond.classLink RX5 157 "java/lang/IndexOutOfBoundsException" :: Cond.initialized "java/lang/IndexOutOfBoundsException" :: vx_atS RX5 161 "java/lang/IndexOutOfBoundsException" ["java/lang/RuntimeException", "java/lang/Exception"], vx_ot x = true := by decide +kernel
theorem str_64 : Str RX5 64 "channel or level out of range, or channel taken" := List.mem_of_getElem? (i := 373) (by decide +kernel)
theorem str_312 : Str RX5 312 "no room for a carrier" := List.mem_of_getElem? (i := 413) (by decide +kernel)
theorem str_317 : Str RX5 317 "no such carrier" := List.mem_of_getElem? (i := 468) (by decide +kernel)
theorem str_88 : Str RX5 88 "channel or level out of range" := List.mem_of_getElem? (i := 475) (by decide +kernel)
theorem str_90 : Str RX5 90 "another carrier has the channel" := List.mem_of_getElem? (i := 476) (by decide +kernel)
theorem str_102 : Str RX5 102 "shift out of range" := List.mem_of_getElem? (i := 509) (by decide +kernel)
theorem str_106 : Str RX5 106 "a channel would be out of the band" := List.mem_of_getElem? (i := 510) (by decide +kernel)
theorem str_116 : Str RX5 116 "kinds or loss out of range" := List.mem_of_getElem? (i := 525) (by decide +kernel)
theorem str_130 : Str RX5 130 "guard or spacing out of range" := List.mem_of_getElem? (i := 533) (by decide +kernel)
theorem str_141 : Str RX5 141 "what is out of range" := List.mem_of_getElem? (i := 541) (by decide +kernel)
theorem str_324 : Str RX5 324 "no such set of carriers" := List.mem_of_getElem? (i := 553) (by decide +kernel)
theorem str_215 : Str RX5 215 "no room for a mixer" := List.mem_of_getElem? (i := 554) (by decide +kernel)
theorem str_322 : Str RX5 322 "no such mixer" := List.mem_of_getElem? (i := 571) (by decide +kernel)
theorem str_306 : Str RX5 306 "channel out of range" := List.mem_of_getElem? (i := 584) (by decide +kernel)
theorem str_232 : Str RX5 232 "no room for a test" := List.mem_of_getElem? (i := 585) (by decide +kernel)
theorem str_285 : Str RX5 285 "no saved state" := List.mem_of_getElem? (i := 625) (by decide +kernel)
theorem str_159 : Str RX5 159 "no such product" := List.mem_of_getElem? (i := 670) (by decide +kernel)
theorem str_308 : Str RX5 308 "level out of range" := List.mem_of_getElem? (i := 703) (by decide +kernel)
theorem str_310 : Str RX5 310 "marks out of range" := List.mem_of_getElem? (i := 736) (by decide +kernel)
theorem str_199 : Str RX5 199 "span out of range" := List.mem_of_getElem? (i := 766) (by decide +kernel)
theorem str_247 : Str RX5 247 "no such test" := List.mem_of_getElem? (i := 842) (by decide +kernel)
theorem str_264 : Str RX5 264 "no such byte" := List.mem_of_getElem? (i := 850) (by decide +kernel)
theorem str_269 : Str RX5 269 "the text is full" := List.mem_of_getElem? (i := 851) (by decide +kernel)
theorem fitX : ∀ n ∈ (["java/lang/RuntimeException", "java/lang/Exception"] : List String), Bundle.fit n = true := by decide
end WDS
