section WDS
theorem uXa0 : ∀ x ∈ u_ws RX0 TX0 10, x ∈ lw_tbl := by decide +kernel
theorem uXb0 : ∀ x ∈ u_ws RX0 TX0 10, mvW x = true := by decide +kernel
theorem uX0 : ∀ x ∈ u_ws RX0 TX0 10, Wd x := fun x h => ⟨uXa0 x h, uXb0 x h⟩
theorem uXa1 : ∀ x ∈ u_ws RX1 TX1 15, x ∈ lw_tbl := by decide +kernel
theorem uXb1 : ∀ x ∈ u_ws RX1 TX1 15, mvW x = true := by decide +kernel
theorem uX1 : ∀ x ∈ u_ws RX1 TX1 15, Wd x := fun x h => ⟨uXa1 x h, uXb1 x h⟩
theorem uXa2 : ∀ x ∈ u_ws RX2 TX2 3, x ∈ lw_tbl := by decide +kernel
theorem uXb2 : ∀ x ∈ u_ws RX2 TX2 3, mvW x = true := by decide +kernel
theorem uX2 : ∀ x ∈ u_ws RX2 TX2 3, Wd x := fun x h => ⟨uXa2 x h, uXb2 x h⟩
theorem uXa3 : ∀ x ∈ u_ws RX3 TX3 2, x ∈ lw_tbl := by decide +kernel
theorem uXb3 : ∀ x ∈ u_ws RX3 TX3 2, mvW x = true := by decide +kernel
theorem uX3 : ∀ x ∈ u_ws RX3 TX3 2, Wd x := fun x h => ⟨uXa3 x h, uXb3 x h⟩
theorem uXa4 : ∀ x ∈ u_ws RX4 TX4 5, x ∈ lw_tbl := by decide +kernel
theorem uXb4 : ∀ x ∈ u_ws RX4 TX4 5, mvW x = true := by decide +kernel
theorem uX4 : ∀ x ∈ u_ws RX4 TX4 5, Wd x := fun x h => ⟨uXa4 x h, uXb4 x h⟩
theorem uXa5 : ∀ x ∈ u_ws RX5 TX5 7, x ∈ lw_tbl := by decide +kernel
theorem uXb5 : ∀ x ∈ u_ws RX5 TX5 7, mvW x = true := by decide +kernel
theorem uX5 : ∀ x ∈ u_ws RX5 TX5 7, Wd x := fun x h => ⟨uXa5 x h, uXb5 x h⟩
theorem uXa6 : ∀ x ∈ u_ws RX6 TX6 23, x ∈ lw_tbl := by decide +kernel
theorem uXb6 : ∀ x ∈ u_ws RX6 TX6 23, mvW x = true := by decide +kernel
theorem uX6 : ∀ x ∈ u_ws RX6 TX6 23, Wd x := fun x h => ⟨uXa6 x h, uXb6 x h⟩
theorem wc_yX5_init : Wd (.code yX5_init cX5_init 1 none) := ⟨List.mem_of_getElem? (i := 89) (by decide +kernel), rfl⟩
theorem wi_yX5_init : Wd (.instanceMethod yX5_init) := ⟨List.mem_of_getElem? (i := 88) (by decide +kernel), rfl⟩
theorem wc_yX1_init : Wd (.code yX1_init cX1_init 1 none) := ⟨List.mem_of_getElem? (i := 97) (by decide +kernel), rfl⟩
theorem wi_yX1_init : Wd (.instanceMethod yX1_init) := ⟨List.mem_of_getElem? (i := 96) (by decide +kernel), rfl⟩
theorem wc_yX2_init : Wd (.code yX2_init cX2_init 2 none) := ⟨List.mem_of_getElem? (i := 169) (by decide +kernel), rfl⟩
theorem wi_yX2_init : Wd (.instanceMethod yX2_init) := ⟨List.mem_of_getElem? (i := 168) (by decide +kernel), rfl⟩
theorem wc_yX3_init : Wd (.code yX3_init cX3_init 1 none) := ⟨List.mem_of_getElem? (i := 189) (by decide +kernel), rfl⟩
theorem wi_yX3_init : Wd (.instanceMethod yX3_init) := ⟨List.mem_of_getElem? (i := 188) (by decide +kernel), rfl⟩
theorem wc_yX0_init : Wd (.code yX0_init cX0_init 1 none) := ⟨List.mem_of_getElem? (i := 203) (by decide +kernel), rfl⟩
theorem wi_yX0_init : Wd (.instanceMethod yX0_init) := ⟨List.mem_of_getElem? (i := 202) (by decide +kernel), rfl⟩
theorem wc_yX4_init : Wd (.code yX4_init cX4_init 1 none) := ⟨List.mem_of_getElem? (i := 242) (by decide +kernel), rfl⟩
theorem wi_yX4_init : Wd (.instanceMethod yX4_init) := ⟨List.mem_of_getElem? (i := 241) (by decide +kernel), rfl⟩
theorem wc_yX5_channels : Wd (.code yX5_channels cX5_channels 4 (some .long)) := ⟨List.mem_of_getElem? (i := 286) (by decide +kernel), rfl⟩
theorem wi_yX5_channels : Wd (.instanceMethod yX5_channels) := ⟨List.mem_of_getElem? (i := 284) (by decide +kernel), rfl⟩
theorem we_yX5_channels : Wd (.selects yX5_channels.cls yX5_channels yX5_channels) := ⟨List.mem_of_getElem? (i := 285) (by decide +kernel), rfl⟩
theorem wc_yX1_channelOf : Wd (.code yX1_channelOf cX1_channelOf 2 (some .int)) := ⟨List.mem_of_getElem? (i := 290) (by decide +kernel), rfl⟩
theorem wi_yX1_channelOf : Wd (.instanceMethod yX1_channelOf) := ⟨List.mem_of_getElem? (i := 288) (by decide +kernel), rfl⟩
theorem we_yX1_channelOf : Wd (.selects yX1_channelOf.cls yX1_channelOf yX1_channelOf) := ⟨List.mem_of_getElem? (i := 289) (by decide +kernel), rfl⟩
theorem wc_yX1_hasCarrier : Wd (.code yX1_hasCarrier cX1_hasCarrier 2 (some .boolean)) := ⟨List.mem_of_getElem? (i := 294) (by decide +kernel), rfl⟩
theorem wi_yX1_hasCarrier : Wd (.instanceMethod yX1_hasCarrier) := ⟨List.mem_of_getElem? (i := 292) (by decide +kernel), rfl⟩
theorem we_yX1_hasCarrier : Wd (.selects yX1_hasCarrier.cls yX1_hasCarrier yX1_hasCarrier) := ⟨List.mem_of_getElem? (i := 293) (by decide +kernel), rfl⟩
theorem wc_yX5_products : Wd (.code yX5_products cX5_products 1 (some .int)) := ⟨List.mem_of_getElem? (i := 298) (by decide +kernel), rfl⟩
theorem wi_yX5_products : Wd (.instanceMethod yX5_products) := ⟨List.mem_of_getElem? (i := 296) (by decide +kernel), rfl⟩
theorem we_yX5_products : Wd (.selects yX5_products.cls yX5_products yX5_products) := ⟨List.mem_of_getElem? (i := 297) (by decide +kernel), rfl⟩
theorem wc_yX1_everyCarrier : Wd (.code yX1_everyCarrier cX1_everyCarrier 1 (some .int)) := ⟨List.mem_of_getElem? (i := 302) (by decide +kernel), rfl⟩
theorem wi_yX1_everyCarrier : Wd (.instanceMethod yX1_everyCarrier) := ⟨List.mem_of_getElem? (i := 300) (by decide +kernel), rfl⟩
theorem we_yX1_everyCarrier : Wd (.selects yX1_everyCarrier.cls yX1_everyCarrier yX1_everyCarrier) := ⟨List.mem_of_getElem? (i := 301) (by decide +kernel), rfl⟩
theorem wc_yX3_gather : Wd (.code yX3_gather cX3_gather 3 none) := ⟨List.mem_of_getElem? (i := 306) (by decide +kernel), rfl⟩
theorem wi_yX3_gather : Wd (.instanceMethod yX3_gather) := ⟨List.mem_of_getElem? (i := 304) (by decide +kernel), rfl⟩
theorem we_yX3_gather : Wd (.selects yX3_gather.cls yX3_gather yX3_gather) := ⟨List.mem_of_getElem? (i := 305) (by decide +kernel), rfl⟩
theorem wc_yX3_gatherPairs : Wd (.code yX3_gatherPairs cX3_gatherPairs 11 none) := ⟨List.mem_of_getElem? (i := 310) (by decide +kernel), rfl⟩
theorem wi_yX3_gatherPairs : Wd (.instanceMethod yX3_gatherPairs) := ⟨List.mem_of_getElem? (i := 309) (by decide +kernel), rfl⟩
theorem we_yX3_gatherPairs : Wd (.selects yX3_gatherPairs.cls yX3_gatherPairs yX3_gatherPairs) := ⟨List.mem_of_getElem? (i := 0) (by decide +kernel), rfl⟩
theorem wc_yX5_isIn : Wd (.code yX5_isIn cX5_isIn 3 (some .boolean)) := ⟨List.mem_of_getElem? (i := 313) (by decide +kernel), rfl⟩
theorem ws_yX5_isIn : Wd (.static yX5_isIn) := ⟨List.mem_of_getElem? (i := 312) (by decide +kernel), rfl⟩
theorem wc_yX1_levelOf : Wd (.code yX1_levelOf cX1_levelOf 2 (some .int)) := ⟨List.mem_of_getElem? (i := 318) (by decide +kernel), rfl⟩
theorem wi_yX1_levelOf : Wd (.instanceMethod yX1_levelOf) := ⟨List.mem_of_getElem? (i := 316) (by decide +kernel), rfl⟩
theorem we_yX1_levelOf : Wd (.selects yX1_levelOf.cls yX1_levelOf yX1_levelOf) := ⟨List.mem_of_getElem? (i := 317) (by decide +kernel), rfl⟩
theorem wc_yX3_put : Wd (.code yX3_put cX3_put 8 none) := ⟨List.mem_of_getElem? (i := 322) (by decide +kernel), rfl⟩
theorem wi_yX3_put : Wd (.instanceMethod yX3_put) := ⟨List.mem_of_getElem? (i := 321) (by decide +kernel), rfl⟩
theorem we_yX3_put : Wd (.selects yX3_put.cls yX3_put yX3_put) := ⟨List.mem_of_getElem? (i := 1) (by decide +kernel), rfl⟩
theorem wc_yX5_isChannel : Wd (.code yX5_isChannel cX5_isChannel 1 (some .boolean)) := ⟨List.mem_of_getElem? (i := 325) (by decide +kernel), rfl⟩
theorem ws_yX5_isChannel : Wd (.static yX5_isChannel) := ⟨List.mem_of_getElem? (i := 324) (by decide +kernel), rfl⟩
theorem wc_yX3_gatherTriples : Wd (.code yX3_gatherTriples cX3_gatherTriples 8 none) := ⟨List.mem_of_getElem? (i := 329) (by decide +kernel), rfl⟩
theorem wi_yX3_gatherTriples : Wd (.instanceMethod yX3_gatherTriples) := ⟨List.mem_of_getElem? (i := 328) (by decide +kernel), rfl⟩
theorem we_yX3_gatherTriples : Wd (.selects yX3_gatherTriples.cls yX3_gatherTriples yX3_gatherTriples) := ⟨List.mem_of_getElem? (i := 2) (by decide +kernel), rfl⟩
theorem wc_yX5_hits : Wd (.code yX5_hits cX5_hits 3 (some .int)) := ⟨List.mem_of_getElem? (i := 333) (by decide +kernel), rfl⟩
theorem wi_yX5_hits : Wd (.instanceMethod yX5_hits) := ⟨List.mem_of_getElem? (i := 331) (by decide +kernel), rfl⟩
theorem we_yX5_hits : Wd (.selects yX5_hits.cls yX5_hits yX5_hits) := ⟨List.mem_of_getElem? (i := 332) (by decide +kernel), rfl⟩
theorem wc_yX3_countNear : Wd (.code yX3_countNear cX3_countNear 5 (some .int)) := ⟨List.mem_of_getElem? (i := 337) (by decide +kernel), rfl⟩
theorem wi_yX3_countNear : Wd (.instanceMethod yX3_countNear) := ⟨List.mem_of_getElem? (i := 335) (by decide +kernel), rfl⟩
theorem we_yX3_countNear : Wd (.selects yX3_countNear.cls yX3_countNear yX3_countNear) := ⟨List.mem_of_getElem? (i := 336) (by decide +kernel), rfl⟩
theorem wc_yX3_fact : Wd (.code yX3_fact cX3_fact 3 (some .int)) := ⟨List.mem_of_getElem? (i := 341) (by decide +kernel), rfl⟩
theorem wi_yX3_fact : Wd (.instanceMethod yX3_fact) := ⟨List.mem_of_getElem? (i := 339) (by decide +kernel), rfl⟩
theorem we_yX3_fact : Wd (.selects yX3_fact.cls yX3_fact yX3_fact) := ⟨List.mem_of_getElem? (i := 340) (by decide +kernel), rfl⟩
theorem wc_yX5_isClean : Wd (.code yX5_isClean cX5_isClean 1 (some .boolean)) := ⟨List.mem_of_getElem? (i := 348) (by decide +kernel), rfl⟩
theorem wi_yX5_isClean : Wd (.instanceMethod yX5_isClean) := ⟨List.mem_of_getElem? (i := 346) (by decide +kernel), rfl⟩
theorem we_yX5_isClean : Wd (.selects yX5_isClean.cls yX5_isClean yX5_isClean) := ⟨List.mem_of_getElem? (i := 347) (by decide +kernel), rfl⟩
theorem wc_yX5_standsClean : Wd (.code yX5_standsClean cX5_standsClean 3 (some .boolean)) := ⟨List.mem_of_getElem? (i := 352) (by decide +kernel), rfl⟩
theorem wi_yX5_standsClean : Wd (.instanceMethod yX5_standsClean) := ⟨List.mem_of_getElem? (i := 351) (by decide +kernel), rfl⟩
theorem we_yX5_standsClean : Wd (.selects yX5_standsClean.cls yX5_standsClean yX5_standsClean) := ⟨List.mem_of_getElem? (i := 3) (by decide +kernel), rfl⟩
theorem wc_yX0_start : Wd (.code yX0_start cX0_start 2 none) := ⟨List.mem_of_getElem? (i := 356) (by decide +kernel), rfl⟩
theorem wi_yX0_start : Wd (.instanceMethod yX0_start) := ⟨List.mem_of_getElem? (i := 354) (by decide +kernel), rfl⟩
theorem we_yX0_start : Wd (.selects yX0_start.cls yX0_start yX0_start) := ⟨List.mem_of_getElem? (i := 355) (by decide +kernel), rfl⟩
theorem wc_yX0_join : Wd (.code yX0_join cX0_join 7 (some .boolean)) := ⟨List.mem_of_getElem? (i := 362) (by decide +kernel), rfl⟩
theorem wi_yX0_join : Wd (.instanceMethod yX0_join) := ⟨List.mem_of_getElem? (i := 360) (by decide +kernel), rfl⟩
theorem we_yX0_join : Wd (.selects yX0_join.cls yX0_join yX0_join) := ⟨List.mem_of_getElem? (i := 361) (by decide +kernel), rfl⟩
theorem wc_yX0_isCrowded : Wd (.code yX0_isCrowded cX0_isCrowded 3 (some .boolean)) := ⟨List.mem_of_getElem? (i := 366) (by decide +kernel), rfl⟩
theorem wi_yX0_isCrowded : Wd (.instanceMethod yX0_isCrowded) := ⟨List.mem_of_getElem? (i := 365) (by decide +kernel), rfl⟩
theorem we_yX0_isCrowded : Wd (.selects yX0_isCrowded.cls yX0_isCrowded yX0_isCrowded) := ⟨List.mem_of_getElem? (i := 4) (by decide +kernel), rfl⟩
theorem wc_yX0_guardedBy : Wd (.code yX0_guardedBy cX0_guardedBy 5 (some .long)) := ⟨List.mem_of_getElem? (i := 371) (by decide +kernel), rfl⟩
theorem wi_yX0_guardedBy : Wd (.instanceMethod yX0_guardedBy) := ⟨List.mem_of_getElem? (i := 370) (by decide +kernel), rfl⟩
theorem we_yX0_guardedBy : Wd (.selects yX0_guardedBy.cls yX0_guardedBy yX0_guardedBy) := ⟨List.mem_of_getElem? (i := 5) (by decide +kernel), rfl⟩
theorem wc_yX0_pairsWith : Wd (.code yX0_pairsWith cX0_pairsWith 8 (some .long)) := ⟨List.mem_of_getElem? (i := 375) (by decide +kernel), rfl⟩
theorem wi_yX0_pairsWith : Wd (.instanceMethod yX0_pairsWith) := ⟨List.mem_of_getElem? (i := 374) (by decide +kernel), rfl⟩
theorem we_yX0_pairsWith : Wd (.selects yX0_pairsWith.cls yX0_pairsWith yX0_pairsWith) := ⟨List.mem_of_getElem? (i := 6) (by decide +kernel), rfl⟩
theorem wc_yX0_bitOf : Wd (.code yX0_bitOf cX0_bitOf 2 (some .long)) := ⟨List.mem_of_getElem? (i := 378) (by decide +kernel), rfl⟩
theorem ws_yX0_bitOf : Wd (.static yX0_bitOf) := ⟨List.mem_of_getElem? (i := 377) (by decide +kernel), rfl⟩
theorem wc_yX0_triplesWith : Wd (.code yX0_triplesWith cX0_triplesWith 10 (some .long)) := ⟨List.mem_of_getElem? (i := 383) (by decide +kernel), rfl⟩
theorem wi_yX0_triplesWith : Wd (.instanceMethod yX0_triplesWith) := ⟨List.mem_of_getElem? (i := 382) (by decide +kernel), rfl⟩
theorem we_yX0_triplesWith : Wd (.selects yX0_triplesWith.cls yX0_triplesWith yX0_triplesWith) := ⟨List.mem_of_getElem? (i := 7) (by decide +kernel), rfl⟩
theorem wc_yX5_closest : Wd (.code yX5_closest cX5_closest 5 (some .int)) := ⟨List.mem_of_getElem? (i := 387) (by decide +kernel), rfl⟩
theorem wi_yX5_closest : Wd (.instanceMethod yX5_closest) := ⟨List.mem_of_getElem? (i := 385) (by decide +kernel), rfl⟩
theorem we_yX5_closest : Wd (.selects yX5_closest.cls yX5_closest yX5_closest) := ⟨List.mem_of_getElem? (i := 386) (by decide +kernel), rfl⟩
theorem wc_yX5_removal : Wd (.code yX5_removal cX5_removal 4 (some .int)) := ⟨List.mem_of_getElem? (i := 392) (by decide +kernel), rfl⟩
theorem wi_yX5_removal : Wd (.instanceMethod yX5_removal) := ⟨List.mem_of_getElem? (i := 390) (by decide +kernel), rfl⟩
theorem we_yX5_removal : Wd (.selects yX5_removal.cls yX5_removal yX5_removal) := ⟨List.mem_of_getElem? (i := 391) (by decide +kernel), rfl⟩
theorem wc_yJ6_bitCount_0f7a4 : Wd (.code yJ6_bitCount_0f7a4 cJ6_bitCount_0f7a4 1 (some .int)) := ⟨List.mem_of_getElem? (i := 395) (by decide +kernel), rfl⟩
theorem ws_yJ6_bitCount_0f7a4 : Wd (.static yJ6_bitCount_0f7a4) := ⟨List.mem_of_getElem? (i := 394) (by decide +kernel), rfl⟩
theorem wc_yX5_diagnoses : Wd (.code yX5_diagnoses cX5_diagnoses 1 (some .int)) := ⟨List.mem_of_getElem? (i := 402) (by decide +kernel), rfl⟩
theorem wi_yX5_diagnoses : Wd (.instanceMethod yX5_diagnoses) := ⟨List.mem_of_getElem? (i := 400) (by decide +kernel), rfl⟩
theorem we_yX5_diagnoses : Wd (.selects yX5_diagnoses.cls yX5_diagnoses yX5_diagnoses) := ⟨List.mem_of_getElem? (i := 401) (by decide +kernel), rfl⟩
theorem wc_yX5_countDiagnoses : Wd (.code yX5_countDiagnoses cX5_countDiagnoses 3 (some .int)) := ⟨List.mem_of_getElem? (i := 406) (by decide +kernel), rfl⟩
theorem wi_yX5_countDiagnoses : Wd (.instanceMethod yX5_countDiagnoses) := ⟨List.mem_of_getElem? (i := 405) (by decide +kernel), rfl⟩
theorem we_yX5_countDiagnoses : Wd (.selects yX5_countDiagnoses.cls yX5_countDiagnoses yX5_countDiagnoses) := ⟨List.mem_of_getElem? (i := 8) (by decide +kernel), rfl⟩
theorem wc_yX1_everyMixer : Wd (.code yX1_everyMixer cX1_everyMixer 1 (some .int)) := ⟨List.mem_of_getElem? (i := 410) (by decide +kernel), rfl⟩
theorem wi_yX1_everyMixer : Wd (.instanceMethod yX1_everyMixer) := ⟨List.mem_of_getElem? (i := 408) (by decide +kernel), rfl⟩
theorem we_yX1_everyMixer : Wd (.selects yX1_everyMixer.cls yX1_everyMixer yX1_everyMixer) := ⟨List.mem_of_getElem? (i := 409) (by decide +kernel), rfl⟩
theorem wc_yX1_fitsTests : Wd (.code yX1_fitsTests cX1_fitsTests 4 (some .boolean)) := ⟨List.mem_of_getElem? (i := 414) (by decide +kernel), rfl⟩
theorem wi_yX1_fitsTests : Wd (.instanceMethod yX1_fitsTests) := ⟨List.mem_of_getElem? (i := 412) (by decide +kernel), rfl⟩
theorem we_yX1_fitsTests : Wd (.selects yX1_fitsTests.cls yX1_fitsTests yX1_fitsTests) := ⟨List.mem_of_getElem? (i := 413) (by decide +kernel), rfl⟩
theorem wc_yX5_diagnosis : Wd (.code yX5_diagnosis cX5_diagnosis 3 (some .int)) := ⟨List.mem_of_getElem? (i := 418) (by decide +kernel), rfl⟩
theorem wi_yX5_diagnosis : Wd (.instanceMethod yX5_diagnosis) := ⟨List.mem_of_getElem? (i := 416) (by decide +kernel), rfl⟩
theorem we_yX5_diagnosis : Wd (.selects yX5_diagnosis.cls yX5_diagnosis yX5_diagnosis) := ⟨List.mem_of_getElem? (i := 417) (by decide +kernel), rfl⟩
theorem wc_yX5_certain : Wd (.code yX5_certain cX5_certain 5 (some .int)) := ⟨List.mem_of_getElem? (i := 422) (by decide +kernel), rfl⟩
theorem wi_yX5_certain : Wd (.instanceMethod yX5_certain) := ⟨List.mem_of_getElem? (i := 420) (by decide +kernel), rfl⟩
theorem we_yX5_certain : Wd (.selects yX5_certain.cls yX5_certain yX5_certain) := ⟨List.mem_of_getElem? (i := 421) (by decide +kernel), rfl⟩
theorem wc_yX5_clearText : Wd (.code yX5_clearText cX5_clearText 2 (some .int)) := ⟨List.mem_of_getElem? (i := 426) (by decide +kernel), rfl⟩
theorem wi_yX5_clearText : Wd (.instanceMethod yX5_clearText) := ⟨List.mem_of_getElem? (i := 424) (by decide +kernel), rfl⟩
theorem we_yX5_clearText : Wd (.selects yX5_clearText.cls yX5_clearText yX5_clearText) := ⟨List.mem_of_getElem? (i := 425) (by decide +kernel), rfl⟩
theorem wc_yX5_parse : Wd (.code yX5_parse cX5_parse 2 (some .int)) := ⟨List.mem_of_getElem? (i := 430) (by decide +kernel), rfl⟩
theorem wi_yX5_parse : Wd (.instanceMethod yX5_parse) := ⟨List.mem_of_getElem? (i := 428) (by decide +kernel), rfl⟩
theorem we_yX5_parse : Wd (.selects yX5_parse.cls yX5_parse yX5_parse) := ⟨List.mem_of_getElem? (i := 429) (by decide +kernel), rfl⟩
theorem wc_yX1_takeFrom : Wd (.code yX1_takeFrom cX1_takeFrom 2 none) := ⟨List.mem_of_getElem? (i := 434) (by decide +kernel), rfl⟩
theorem wi_yX1_takeFrom : Wd (.instanceMethod yX1_takeFrom) := ⟨List.mem_of_getElem? (i := 432) (by decide +kernel), rfl⟩
theorem we_yX1_takeFrom : Wd (.selects yX1_takeFrom.cls yX1_takeFrom yX1_takeFrom) := ⟨List.mem_of_getElem? (i := 433) (by decide +kernel), rfl⟩
theorem wc_yX1_empty : Wd (.code yX1_empty cX1_empty 1 none) := ⟨List.mem_of_getElem? (i := 441) (by decide +kernel), rfl⟩
theorem wi_yX1_empty : Wd (.instanceMethod yX1_empty) := ⟨List.mem_of_getElem? (i := 439) (by decide +kernel), rfl⟩
theorem we_yX1_empty : Wd (.selects yX1_empty.cls yX1_empty yX1_empty) := ⟨List.mem_of_getElem? (i := 440) (by decide +kernel), rfl⟩
theorem wc_yX4_readInto : Wd (.code yX4_readInto cX4_readInto 3 (some .int)) := ⟨List.mem_of_getElem? (i := 445) (by decide +kernel), rfl⟩
theorem wi_yX4_readInto : Wd (.instanceMethod yX4_readInto) := ⟨List.mem_of_getElem? (i := 443) (by decide +kernel), rfl⟩
theorem we_yX4_readInto : Wd (.selects yX4_readInto.cls yX4_readInto yX4_readInto) := ⟨List.mem_of_getElem? (i := 444) (by decide +kernel), rfl⟩
theorem wc_yX4_readItem : Wd (.code yX4_readItem cX4_readItem 3 none) := ⟨List.mem_of_getElem? (i := 449) (by decide +kernel), rfl⟩
theorem wi_yX4_readItem : Wd (.instanceMethod yX4_readItem) := ⟨List.mem_of_getElem? (i := 448) (by decide +kernel), rfl⟩
theorem we_yX4_readItem : Wd (.selects yX4_readItem.cls yX4_readItem yX4_readItem) := ⟨List.mem_of_getElem? (i := 9) (by decide +kernel), rfl⟩
theorem wc_yX4_byteAt : Wd (.code yX4_byteAt cX4_byteAt 2 (some .int)) := ⟨List.mem_of_getElem? (i := 453) (by decide +kernel), rfl⟩
theorem wi_yX4_byteAt : Wd (.instanceMethod yX4_byteAt) := ⟨List.mem_of_getElem? (i := 452) (by decide +kernel), rfl⟩
theorem we_yX4_byteAt : Wd (.selects yX4_byteAt.cls yX4_byteAt yX4_byteAt) := ⟨List.mem_of_getElem? (i := 10) (by decide +kernel), rfl⟩
theorem wc_yX4_readCarrier : Wd (.code yX4_readCarrier cX4_readCarrier 4 none) := ⟨List.mem_of_getElem? (i := 457) (by decide +kernel), rfl⟩
theorem wi_yX4_readCarrier : Wd (.instanceMethod yX4_readCarrier) := ⟨List.mem_of_getElem? (i := 456) (by decide +kernel), rfl⟩
theorem we_yX4_readCarrier : Wd (.selects yX4_readCarrier.cls yX4_readCarrier yX4_readCarrier) := ⟨List.mem_of_getElem? (i := 11) (by decide +kernel), rfl⟩
theorem wc_yX4_readNumber : Wd (.code yX4_readNumber cX4_readNumber 3 (some .int)) := ⟨List.mem_of_getElem? (i := 461) (by decide +kernel), rfl⟩
theorem wi_yX4_readNumber : Wd (.instanceMethod yX4_readNumber) := ⟨List.mem_of_getElem? (i := 460) (by decide +kernel), rfl⟩
theorem we_yX4_readNumber : Wd (.selects yX4_readNumber.cls yX4_readNumber yX4_readNumber) := ⟨List.mem_of_getElem? (i := 12) (by decide +kernel), rfl⟩
theorem wc_yX4_isDigit : Wd (.code yX4_isDigit cX4_isDigit 1 (some .boolean)) := ⟨List.mem_of_getElem? (i := 464) (by decide +kernel), rfl⟩
theorem ws_yX4_isDigit : Wd (.static yX4_isDigit) := ⟨List.mem_of_getElem? (i := 463) (by decide +kernel), rfl⟩
theorem wc_yX1_carrierOn : Wd (.code yX1_carrierOn cX1_carrierOn 3 (some .int)) := ⟨List.mem_of_getElem? (i := 469) (by decide +kernel), rfl⟩
theorem wi_yX1_carrierOn : Wd (.instanceMethod yX1_carrierOn) := ⟨List.mem_of_getElem? (i := 467) (by decide +kernel), rfl⟩
theorem we_yX1_carrierOn : Wd (.selects yX1_carrierOn.cls yX1_carrierOn yX1_carrierOn) := ⟨List.mem_of_getElem? (i := 468) (by decide +kernel), rfl⟩
theorem wc_yX4_refuseNumberIf : Wd (.code yX4_refuseNumberIf cX4_refuseNumberIf 2 none) := ⟨List.mem_of_getElem? (i := 474) (by decide +kernel), rfl⟩
theorem wi_yX4_refuseNumberIf : Wd (.instanceMethod yX4_refuseNumberIf) := ⟨List.mem_of_getElem? (i := 473) (by decide +kernel), rfl⟩
theorem we_yX4_refuseNumberIf : Wd (.selects yX4_refuseNumberIf.cls yX4_refuseNumberIf yX4_refuseNumberIf) := ⟨List.mem_of_getElem? (i := 13) (by decide +kernel), rfl⟩
theorem wc_yX4_expect : Wd (.code yX4_expect cX4_expect 2 none) := ⟨List.mem_of_getElem? (i := 478) (by decide +kernel), rfl⟩
theorem wi_yX4_expect : Wd (.instanceMethod yX4_expect) := ⟨List.mem_of_getElem? (i := 477) (by decide +kernel), rfl⟩
theorem we_yX4_expect : Wd (.selects yX4_expect.cls yX4_expect yX4_expect) := ⟨List.mem_of_getElem? (i := 14) (by decide +kernel), rfl⟩
theorem wc_yX5_isLevel : Wd (.code yX5_isLevel cX5_isLevel 1 (some .boolean)) := ⟨List.mem_of_getElem? (i := 481) (by decide +kernel), rfl⟩
theorem ws_yX5_isLevel : Wd (.static yX5_isLevel) := ⟨List.mem_of_getElem? (i := 480) (by decide +kernel), rfl⟩
theorem wc_yX1_putCarrier : Wd (.code yX1_putCarrier cX1_putCarrier 3 none) := ⟨List.mem_of_getElem? (i := 485) (by decide +kernel), rfl⟩
theorem wi_yX1_putCarrier : Wd (.instanceMethod yX1_putCarrier) := ⟨List.mem_of_getElem? (i := 483) (by decide +kernel), rfl⟩
theorem we_yX1_putCarrier : Wd (.selects yX1_putCarrier.cls yX1_putCarrier yX1_putCarrier) := ⟨List.mem_of_getElem? (i := 484) (by decide +kernel), rfl⟩
theorem wc_yX1_setCarrier : Wd (.code yX1_setCarrier cX1_setCarrier 4 none) := ⟨List.mem_of_getElem? (i := 489) (by decide +kernel), rfl⟩
theorem wi_yX1_setCarrier : Wd (.instanceMethod yX1_setCarrier) := ⟨List.mem_of_getElem? (i := 487) (by decide +kernel), rfl⟩
theorem we_yX1_setCarrier : Wd (.selects yX1_setCarrier.cls yX1_setCarrier yX1_setCarrier) := ⟨List.mem_of_getElem? (i := 488) (by decide +kernel), rfl⟩
theorem wc_yX4_readMixer : Wd (.code yX4_readMixer cX4_readMixer 4 none) := ⟨List.mem_of_getElem? (i := 493) (by decide +kernel), rfl⟩
theorem wi_yX4_readMixer : Wd (.instanceMethod yX4_readMixer) := ⟨List.mem_of_getElem? (i := 492) (by decide +kernel), rfl⟩
theorem we_yX4_readMixer : Wd (.selects yX4_readMixer.cls yX4_readMixer yX4_readMixer) := ⟨List.mem_of_getElem? (i := 15) (by decide +kernel), rfl⟩
theorem wc_yX4_readMember : Wd (.code yX4_readMember cX4_readMember 5 (some .int)) := ⟨List.mem_of_getElem? (i := 497) (by decide +kernel), rfl⟩
theorem wi_yX4_readMember : Wd (.instanceMethod yX4_readMember) := ⟨List.mem_of_getElem? (i := 496) (by decide +kernel), rfl⟩
theorem we_yX4_readMember : Wd (.selects yX4_readMember.cls yX4_readMember yX4_readMember) := ⟨List.mem_of_getElem? (i := 16) (by decide +kernel), rfl⟩
theorem wc_yX1_putMixer : Wd (.code yX1_putMixer cX1_putMixer 2 none) := ⟨List.mem_of_getElem? (i := 503) (by decide +kernel), rfl⟩
theorem wi_yX1_putMixer : Wd (.instanceMethod yX1_putMixer) := ⟨List.mem_of_getElem? (i := 501) (by decide +kernel), rfl⟩
theorem we_yX1_putMixer : Wd (.selects yX1_putMixer.cls yX1_putMixer yX1_putMixer) := ⟨List.mem_of_getElem? (i := 502) (by decide +kernel), rfl⟩
theorem wc_yX1_setMembers : Wd (.code yX1_setMembers cX1_setMembers 3 none) := ⟨List.mem_of_getElem? (i := 507) (by decide +kernel), rfl⟩
theorem wi_yX1_setMembers : Wd (.instanceMethod yX1_setMembers) := ⟨List.mem_of_getElem? (i := 505) (by decide +kernel), rfl⟩
theorem we_yX1_setMembers : Wd (.selects yX1_setMembers.cls yX1_setMembers yX1_setMembers) := ⟨List.mem_of_getElem? (i := 506) (by decide +kernel), rfl⟩
theorem wc_yX1_hasMixer : Wd (.code yX1_hasMixer cX1_hasMixer 2 (some .boolean)) := ⟨List.mem_of_getElem? (i := 511) (by decide +kernel), rfl⟩
theorem wi_yX1_hasMixer : Wd (.instanceMethod yX1_hasMixer) := ⟨List.mem_of_getElem? (i := 509) (by decide +kernel), rfl⟩
theorem we_yX1_hasMixer : Wd (.selects yX1_hasMixer.cls yX1_hasMixer yX1_hasMixer) := ⟨List.mem_of_getElem? (i := 510) (by decide +kernel), rfl⟩
theorem wc_yX2_push : Wd (.code yX2_push cX2_push 3 none) := ⟨List.mem_of_getElem? (i := 515) (by decide +kernel), rfl⟩
theorem wi_yX2_push : Wd (.instanceMethod yX2_push) := ⟨List.mem_of_getElem? (i := 513) (by decide +kernel), rfl⟩
theorem we_yX2_push : Wd (.selects yX2_push.cls yX2_push yX2_push) := ⟨List.mem_of_getElem? (i := 514) (by decide +kernel), rfl⟩
theorem wc_yX2_deskAt : Wd (.code yX2_deskAt cX2_deskAt 2 (some (.object "ChannelSpacer$Desk"))) := ⟨List.mem_of_getElem? (i := 519) (by decide +kernel), rfl⟩
theorem wi_yX2_deskAt : Wd (.instanceMethod yX2_deskAt) := ⟨List.mem_of_getElem? (i := 518) (by decide +kernel), rfl⟩
theorem we_yX2_deskAt : Wd (.selects yX2_deskAt.cls yX2_deskAt yX2_deskAt) := ⟨List.mem_of_getElem? (i := 17) (by decide +kernel), rfl⟩
theorem wc_yX5_digest : Wd (.code yX5_digest cX5_digest 5 (some .long)) := ⟨List.mem_of_getElem? (i := 527) (by decide +kernel), rfl⟩
theorem wi_yX5_digest : Wd (.instanceMethod yX5_digest) := ⟨List.mem_of_getElem? (i := 525) (by decide +kernel), rfl⟩
theorem we_yX5_digest : Wd (.selects yX5_digest.cls yX5_digest yX5_digest) := ⟨List.mem_of_getElem? (i := 526) (by decide +kernel), rfl⟩
theorem wc_yX1_membersOf : Wd (.code yX1_membersOf cX1_membersOf 2 (some .int)) := ⟨List.mem_of_getElem? (i := 535) (by decide +kernel), rfl⟩
theorem wi_yX1_membersOf : Wd (.instanceMethod yX1_membersOf) := ⟨List.mem_of_getElem? (i := 533) (by decide +kernel), rfl⟩
theorem we_yX1_membersOf : Wd (.selects yX1_membersOf.cls yX1_membersOf yX1_membersOf) := ⟨List.mem_of_getElem? (i := 534) (by decide +kernel), rfl⟩
theorem wc_yX1_testFact : Wd (.code yX1_testFact cX1_testFact 3 (some .int)) := ⟨List.mem_of_getElem? (i := 539) (by decide +kernel), rfl⟩
theorem wi_yX1_testFact : Wd (.instanceMethod yX1_testFact) := ⟨List.mem_of_getElem? (i := 537) (by decide +kernel), rfl⟩
theorem we_yX1_testFact : Wd (.selects yX1_testFact.cls yX1_testFact yX1_testFact) := ⟨List.mem_of_getElem? (i := 538) (by decide +kernel), rfl⟩
theorem wc_yX1_hasTest : Wd (.code yX1_hasTest cX1_hasTest 2 (some .boolean)) := ⟨List.mem_of_getElem? (i := 543) (by decide +kernel), rfl⟩
theorem wi_yX1_hasTest : Wd (.instanceMethod yX1_hasTest) := ⟨List.mem_of_getElem? (i := 541) (by decide +kernel), rfl⟩
theorem we_yX1_hasTest : Wd (.selects yX1_hasTest.cls yX1_hasTest yX1_hasTest) := ⟨List.mem_of_getElem? (i := 542) (by decide +kernel), rfl⟩
theorem wc_yX5_addCarrier : Wd (.code yX5_addCarrier cX5_addCarrier 3 (some .int)) := ⟨List.mem_of_getElem? (i := 554) (by decide +kernel), rfl⟩
theorem wi_yX5_addCarrier : Wd (.instanceMethod yX5_addCarrier) := ⟨List.mem_of_getElem? (i := 552) (by decide +kernel), rfl⟩
theorem we_yX5_addCarrier : Wd (.selects yX5_addCarrier.cls yX5_addCarrier yX5_addCarrier) := ⟨List.mem_of_getElem? (i := 553) (by decide +kernel), rfl⟩
theorem wc_yX5_needRoomForCarrier : Wd (.code yX5_needRoomForCarrier cX5_needRoomForCarrier 1 none) := ⟨List.mem_of_getElem? (i := 629) (by decide +kernel), rfl⟩
theorem wi_yX5_needRoomForCarrier : Wd (.instanceMethod yX5_needRoomForCarrier) := ⟨List.mem_of_getElem? (i := 628) (by decide +kernel), rfl⟩
theorem we_yX5_needRoomForCarrier : Wd (.selects yX5_needRoomForCarrier.cls yX5_needRoomForCarrier yX5_needRoomForCarrier) := ⟨List.mem_of_getElem? (i := 19) (by decide +kernel), rfl⟩
theorem wc_yX5_moveCarrier : Wd (.code yX5_moveCarrier cX5_moveCarrier 6 (some .int)) := ⟨List.mem_of_getElem? (i := 654) (by decide +kernel), rfl⟩
theorem wi_yX5_moveCarrier : Wd (.instanceMethod yX5_moveCarrier) := ⟨List.mem_of_getElem? (i := 652) (by decide +kernel), rfl⟩
theorem we_yX5_moveCarrier : Wd (.selects yX5_moveCarrier.cls yX5_moveCarrier yX5_moveCarrier) := ⟨List.mem_of_getElem? (i := 653) (by decide +kernel), rfl⟩
theorem wc_yX5_needCarrier : Wd (.code yX5_needCarrier cX5_needCarrier 2 none) := ⟨List.mem_of_getElem? (i := 658) (by decide +kernel), rfl⟩
theorem wi_yX5_needCarrier : Wd (.instanceMethod yX5_needCarrier) := ⟨List.mem_of_getElem? (i := 657) (by decide +kernel), rfl⟩
theorem we_yX5_needCarrier : Wd (.selects yX5_needCarrier.cls yX5_needCarrier yX5_needCarrier) := ⟨List.mem_of_getElem? (i := 20) (by decide +kernel), rfl⟩
theorem wc_yX5_removeCarrier : Wd (.code yX5_removeCarrier cX5_removeCarrier 2 (some .int)) := ⟨List.mem_of_getElem? (i := 685) (by decide +kernel), rfl⟩
theorem wi_yX5_removeCarrier : Wd (.instanceMethod yX5_removeCarrier) := ⟨List.mem_of_getElem? (i := 683) (by decide +kernel), rfl⟩
theorem we_yX5_removeCarrier : Wd (.selects yX5_removeCarrier.cls yX5_removeCarrier yX5_removeCarrier) := ⟨List.mem_of_getElem? (i := 684) (by decide +kernel), rfl⟩
theorem wc_yX1_takeOut : Wd (.code yX1_takeOut cX1_takeOut 5 none) := ⟨List.mem_of_getElem? (i := 689) (by decide +kernel), rfl⟩
theorem wi_yX1_takeOut : Wd (.instanceMethod yX1_takeOut) := ⟨List.mem_of_getElem? (i := 687) (by decide +kernel), rfl⟩
theorem we_yX1_takeOut : Wd (.selects yX1_takeOut.cls yX1_takeOut yX1_takeOut) := ⟨List.mem_of_getElem? (i := 688) (by decide +kernel), rfl⟩
theorem wc_yX5_shift : Wd (.code yX5_shift cX5_shift 3 (some .int)) := ⟨List.mem_of_getElem? (i := 698) (by decide +kernel), rfl⟩
theorem wi_yX5_shift : Wd (.instanceMethod yX5_shift) := ⟨List.mem_of_getElem? (i := 696) (by decide +kernel), rfl⟩
theorem we_yX5_shift : Wd (.selects yX5_shift.cls yX5_shift yX5_shift) := ⟨List.mem_of_getElem? (i := 697) (by decide +kernel), rfl⟩
theorem wc_yX1_shiftAll : Wd (.code yX1_shiftAll cX1_shiftAll 3 none) := ⟨List.mem_of_getElem? (i := 704) (by decide +kernel), rfl⟩
theorem wi_yX1_shiftAll : Wd (.instanceMethod yX1_shiftAll) := ⟨List.mem_of_getElem? (i := 702) (by decide +kernel), rfl⟩
theorem we_yX1_shiftAll : Wd (.selects yX1_shiftAll.cls yX1_shiftAll yX1_shiftAll) := ⟨List.mem_of_getElem? (i := 703) (by decide +kernel), rfl⟩
theorem wc_yX5_setProducts : Wd (.code yX5_setProducts cX5_setProducts 5 (some .int)) := ⟨List.mem_of_getElem? (i := 711) (by decide +kernel), rfl⟩
theorem wi_yX5_setProducts : Wd (.instanceMethod yX5_setProducts) := ⟨List.mem_of_getElem? (i := 709) (by decide +kernel), rfl⟩
theorem we_yX5_setProducts : Wd (.selects yX5_setProducts.cls yX5_setProducts yX5_setProducts) := ⟨List.mem_of_getElem? (i := 710) (by decide +kernel), rfl⟩
theorem wc_yX5_isWithin : Wd (.code yX5_isWithin cX5_isWithin 3 (some .boolean)) := ⟨List.mem_of_getElem? (i := 714) (by decide +kernel), rfl⟩
theorem ws_yX5_isWithin : Wd (.static yX5_isWithin) := ⟨List.mem_of_getElem? (i := 713) (by decide +kernel), rfl⟩
theorem wc_yX5_setSpacing : Wd (.code yX5_setSpacing cX5_setSpacing 4 (some .int)) := ⟨List.mem_of_getElem? (i := 722) (by decide +kernel), rfl⟩
theorem wi_yX5_setSpacing : Wd (.instanceMethod yX5_setSpacing) := ⟨List.mem_of_getElem? (i := 720) (by decide +kernel), rfl⟩
theorem we_yX5_setSpacing : Wd (.selects yX5_setSpacing.cls yX5_setSpacing yX5_setSpacing) := ⟨List.mem_of_getElem? (i := 721) (by decide +kernel), rfl⟩
theorem wc_yX5_size : Wd (.code yX5_size cX5_size 2 (some .int)) := ⟨List.mem_of_getElem? (i := 730) (by decide +kernel), rfl⟩
theorem wi_yX5_size : Wd (.instanceMethod yX5_size) := ⟨List.mem_of_getElem? (i := 728) (by decide +kernel), rfl⟩
theorem we_yX5_size : Wd (.selects yX5_size.cls yX5_size yX5_size) := ⟨List.mem_of_getElem? (i := 729) (by decide +kernel), rfl⟩
theorem wc_yX5_carrier : Wd (.code yX5_carrier cX5_carrier 3 (some .int)) := ⟨List.mem_of_getElem? (i := 738) (by decide +kernel), rfl⟩
theorem wi_yX5_carrier : Wd (.instanceMethod yX5_carrier) := ⟨List.mem_of_getElem? (i := 736) (by decide +kernel), rfl⟩
theorem we_yX5_carrier : Wd (.selects yX5_carrier.cls yX5_carrier yX5_carrier) := ⟨List.mem_of_getElem? (i := 737) (by decide +kernel), rfl⟩
theorem wc_yX5_product : Wd (.code yX5_product cX5_product 3 (some .int)) := ⟨List.mem_of_getElem? (i := 745) (by decide +kernel), rfl⟩
theorem wi_yX5_product : Wd (.instanceMethod yX5_product) := ⟨List.mem_of_getElem? (i := 743) (by decide +kernel), rfl⟩
theorem we_yX5_product : Wd (.selects yX5_product.cls yX5_product yX5_product) := ⟨List.mem_of_getElem? (i := 744) (by decide +kernel), rfl⟩
theorem wc_yX5_fallout : Wd (.code yX5_fallout cX5_fallout 2 (some .long)) := ⟨List.mem_of_getElem? (i := 754) (by decide +kernel), rfl⟩
theorem wi_yX5_fallout : Wd (.instanceMethod yX5_fallout) := ⟨List.mem_of_getElem? (i := 752) (by decide +kernel), rfl⟩
theorem we_yX5_fallout : Wd (.selects yX5_fallout.cls yX5_fallout yX5_fallout) := ⟨List.mem_of_getElem? (i := 753) (by decide +kernel), rfl⟩
theorem wc_yX5_needSetOfCarriers : Wd (.code yX5_needSetOfCarriers cX5_needSetOfCarriers 2 none) := ⟨List.mem_of_getElem? (i := 758) (by decide +kernel), rfl⟩
theorem wi_yX5_needSetOfCarriers : Wd (.instanceMethod yX5_needSetOfCarriers) := ⟨List.mem_of_getElem? (i := 757) (by decide +kernel), rfl⟩
theorem we_yX5_needSetOfCarriers : Wd (.selects yX5_needSetOfCarriers.cls yX5_needSetOfCarriers yX5_needSetOfCarriers) := ⟨List.mem_of_getElem? (i := 21) (by decide +kernel), rfl⟩
theorem wc_yX5_falloutOf : Wd (.code yX5_falloutOf cX5_falloutOf 2 (some .long)) := ⟨List.mem_of_getElem? (i := 763) (by decide +kernel), rfl⟩
theorem wi_yX5_falloutOf : Wd (.instanceMethod yX5_falloutOf) := ⟨List.mem_of_getElem? (i := 762) (by decide +kernel), rfl⟩
theorem we_yX5_falloutOf : Wd (.selects yX5_falloutOf.cls yX5_falloutOf yX5_falloutOf) := ⟨List.mem_of_getElem? (i := 22) (by decide +kernel), rfl⟩
theorem wc_yX3_channelSet : Wd (.code yX3_channelSet cX3_channelSet 4 (some .long)) := ⟨List.mem_of_getElem? (i := 767) (by decide +kernel), rfl⟩
theorem wi_yX3_channelSet : Wd (.instanceMethod yX3_channelSet) := ⟨List.mem_of_getElem? (i := 765) (by decide +kernel), rfl⟩
theorem we_yX3_channelSet : Wd (.selects yX3_channelSet.cls yX3_channelSet yX3_channelSet) := ⟨List.mem_of_getElem? (i := 766) (by decide +kernel), rfl⟩
theorem wc_yX5_hitsOn : Wd (.code yX5_hitsOn cX5_hitsOn 2 (some .int)) := ⟨List.mem_of_getElem? (i := 774) (by decide +kernel), rfl⟩
theorem wi_yX5_hitsOn : Wd (.instanceMethod yX5_hitsOn) := ⟨List.mem_of_getElem? (i := 772) (by decide +kernel), rfl⟩
theorem we_yX5_hitsOn : Wd (.selects yX5_hitsOn.cls yX5_hitsOn yX5_hitsOn) := ⟨List.mem_of_getElem? (i := 773) (by decide +kernel), rfl⟩
theorem wc_yX5_leastSpan : Wd (.code yX5_leastSpan cX5_leastSpan 2 (some .int)) := ⟨List.mem_of_getElem? (i := 781) (by decide +kernel), rfl⟩
theorem wi_yX5_leastSpan : Wd (.instanceMethod yX5_leastSpan) := ⟨List.mem_of_getElem? (i := 779) (by decide +kernel), rfl⟩
theorem we_yX5_leastSpan : Wd (.selects yX5_leastSpan.cls yX5_leastSpan yX5_leastSpan) := ⟨List.mem_of_getElem? (i := 780) (by decide +kernel), rfl⟩
theorem wc_yX5_needMarks : Wd (.code yX5_needMarks cX5_needMarks 2 none) := ⟨List.mem_of_getElem? (i := 784) (by decide +kernel), rfl⟩
theorem ws_yX5_needMarks : Wd (.static yX5_needMarks) := ⟨List.mem_of_getElem? (i := 783) (by decide +kernel), rfl⟩
theorem wc_yX5_findBestRuler : Wd (.code yX5_findBestRuler cX5_findBestRuler 3 (some .int)) := ⟨List.mem_of_getElem? (i := 789) (by decide +kernel), rfl⟩
theorem wi_yX5_findBestRuler : Wd (.instanceMethod yX5_findBestRuler) := ⟨List.mem_of_getElem? (i := 788) (by decide +kernel), rfl⟩
theorem we_yX5_findBestRuler : Wd (.selects yX5_findBestRuler.cls yX5_findBestRuler yX5_findBestRuler) := ⟨List.mem_of_getElem? (i := 23) (by decide +kernel), rfl⟩
theorem wc_yX5_countRulers : Wd (.code yX5_countRulers cX5_countRulers 4 (some .int)) := ⟨List.mem_of_getElem? (i := 793) (by decide +kernel), rfl⟩
theorem wi_yX5_countRulers : Wd (.instanceMethod yX5_countRulers) := ⟨List.mem_of_getElem? (i := 792) (by decide +kernel), rfl⟩
theorem we_yX5_countRulers : Wd (.selects yX5_countRulers.cls yX5_countRulers yX5_countRulers) := ⟨List.mem_of_getElem? (i := 24) (by decide +kernel), rfl⟩
theorem wc_yX5_countInner : Wd (.code yX5_countInner cX5_countInner 8 (some .int)) := ⟨List.mem_of_getElem? (i := 796) (by decide +kernel), rfl⟩
theorem ws_yX5_countInner : Wd (.static yX5_countInner) := ⟨List.mem_of_getElem? (i := 795) (by decide +kernel), rfl⟩
theorem wc_yX0_leave : Wd (.code yX0_leave cX0_leave 1 none) := ⟨List.mem_of_getElem? (i := 800) (by decide +kernel), rfl⟩
theorem wi_yX0_leave : Wd (.instanceMethod yX0_leave) := ⟨List.mem_of_getElem? (i := 798) (by decide +kernel), rfl⟩
theorem we_yX0_leave : Wd (.selects yX0_leave.cls yX0_leave yX0_leave) := ⟨List.mem_of_getElem? (i := 799) (by decide +kernel), rfl⟩
theorem wc_yX5_bestRuler : Wd (.code yX5_bestRuler cX5_bestRuler 2 (some .long)) := ⟨List.mem_of_getElem? (i := 810) (by decide +kernel), rfl⟩
theorem wi_yX5_bestRuler : Wd (.instanceMethod yX5_bestRuler) := ⟨List.mem_of_getElem? (i := 808) (by decide +kernel), rfl⟩
theorem we_yX5_bestRuler : Wd (.selects yX5_bestRuler.cls yX5_bestRuler yX5_bestRuler) := ⟨List.mem_of_getElem? (i := 809) (by decide +kernel), rfl⟩
theorem wc_yX0_channelSet : Wd (.code yX0_channelSet cX0_channelSet 4 (some .long)) := ⟨List.mem_of_getElem? (i := 814) (by decide +kernel), rfl⟩
theorem wi_yX0_channelSet : Wd (.instanceMethod yX0_channelSet) := ⟨List.mem_of_getElem? (i := 812) (by decide +kernel), rfl⟩
theorem we_yX0_channelSet : Wd (.selects yX0_channelSet.cls yX0_channelSet yX0_channelSet) := ⟨List.mem_of_getElem? (i := 813) (by decide +kernel), rfl⟩
theorem wc_yX5_rulers : Wd (.code yX5_rulers cX5_rulers 3 (some .int)) := ⟨List.mem_of_getElem? (i := 821) (by decide +kernel), rfl⟩
theorem wi_yX5_rulers : Wd (.instanceMethod yX5_rulers) := ⟨List.mem_of_getElem? (i := 819) (by decide +kernel), rfl⟩
theorem we_yX5_rulers : Wd (.selects yX5_rulers.cls yX5_rulers yX5_rulers) := ⟨List.mem_of_getElem? (i := 820) (by decide +kernel), rfl⟩
theorem wc_yX5_openings : Wd (.code yX5_openings cX5_openings 2 (some .long)) := ⟨List.mem_of_getElem? (i := 829) (by decide +kernel), rfl⟩
theorem wi_yX5_openings : Wd (.instanceMethod yX5_openings) := ⟨List.mem_of_getElem? (i := 827) (by decide +kernel), rfl⟩
theorem we_yX5_openings : Wd (.selects yX5_openings.cls yX5_openings yX5_openings) := ⟨List.mem_of_getElem? (i := 828) (by decide +kernel), rfl⟩
theorem wc_yX5_needLevel : Wd (.code yX5_needLevel cX5_needLevel 1 none) := ⟨List.mem_of_getElem? (i := 832) (by decide +kernel), rfl⟩
theorem ws_yX5_needLevel : Wd (.static yX5_needLevel) := ⟨List.mem_of_getElem? (i := 831) (by decide +kernel), rfl⟩
theorem wc_yX5_openChannels : Wd (.code yX5_openChannels cX5_openChannels 5 (some .long)) := ⟨List.mem_of_getElem? (i := 837) (by decide +kernel), rfl⟩
theorem wi_yX5_openChannels : Wd (.instanceMethod yX5_openChannels) := ⟨List.mem_of_getElem? (i := 836) (by decide +kernel), rfl⟩
theorem we_yX5_openChannels : Wd (.selects yX5_openChannels.cls yX5_openChannels yX5_openChannels) := ⟨List.mem_of_getElem? (i := 25) (by decide +kernel), rfl⟩
theorem wc_yX5_putIn : Wd (.code yX5_putIn cX5_putIn 3 (some .int)) := ⟨List.mem_of_getElem? (i := 844) (by decide +kernel), rfl⟩
theorem wi_yX5_putIn : Wd (.instanceMethod yX5_putIn) := ⟨List.mem_of_getElem? (i := 842) (by decide +kernel), rfl⟩
theorem we_yX5_putIn : Wd (.selects yX5_putIn.cls yX5_putIn yX5_putIn) := ⟨List.mem_of_getElem? (i := 843) (by decide +kernel), rfl⟩
theorem wc_yX5_lowestOf : Wd (.code yX5_lowestOf cX5_lowestOf 3 (some .int)) := ⟨List.mem_of_getElem? (i := 847) (by decide +kernel), rfl⟩
theorem ws_yX5_lowestOf : Wd (.static yX5_lowestOf) := ⟨List.mem_of_getElem? (i := 846) (by decide +kernel), rfl⟩
theorem wc_yX5_addMixer : Wd (.code yX5_addMixer cX5_addMixer 2 (some .int)) := ⟨List.mem_of_getElem? (i := 854) (by decide +kernel), rfl⟩
theorem wi_yX5_addMixer : Wd (.instanceMethod yX5_addMixer) := ⟨List.mem_of_getElem? (i := 852) (by decide +kernel), rfl⟩
theorem we_yX5_addMixer : Wd (.selects yX5_addMixer.cls yX5_addMixer yX5_addMixer) := ⟨List.mem_of_getElem? (i := 853) (by decide +kernel), rfl⟩
theorem wc_yX5_setMember : Wd (.code yX5_setMember cX5_setMember 6 (some .int)) := ⟨List.mem_of_getElem? (i := 863) (by decide +kernel), rfl⟩
theorem wi_yX5_setMember : Wd (.instanceMethod yX5_setMember) := ⟨List.mem_of_getElem? (i := 861) (by decide +kernel), rfl⟩
theorem we_yX5_setMember : Wd (.selects yX5_setMember.cls yX5_setMember yX5_setMember) := ⟨List.mem_of_getElem? (i := 862) (by decide +kernel), rfl⟩
theorem wc_yX5_needMixer : Wd (.code yX5_needMixer cX5_needMixer 2 none) := ⟨List.mem_of_getElem? (i := 867) (by decide +kernel), rfl⟩
theorem wi_yX5_needMixer : Wd (.instanceMethod yX5_needMixer) := ⟨List.mem_of_getElem? (i := 866) (by decide +kernel), rfl⟩
theorem we_yX5_needMixer : Wd (.selects yX5_needMixer.cls yX5_needMixer yX5_needMixer) := ⟨List.mem_of_getElem? (i := 26) (by decide +kernel), rfl⟩
theorem wc_yX5_mixer : Wd (.code yX5_mixer cX5_mixer 2 (some .int)) := ⟨List.mem_of_getElem? (i := 877) (by decide +kernel), rfl⟩
theorem wi_yX5_mixer : Wd (.instanceMethod yX5_mixer) := ⟨List.mem_of_getElem? (i := 875) (by decide +kernel), rfl⟩
theorem we_yX5_mixer : Wd (.selects yX5_mixer.cls yX5_mixer yX5_mixer) := ⟨List.mem_of_getElem? (i := 876) (by decide +kernel), rfl⟩
theorem wc_yX5_addTest : Wd (.code yX5_addTest cX5_addTest 4 (some .int)) := ⟨List.mem_of_getElem? (i := 884) (by decide +kernel), rfl⟩
theorem wi_yX5_addTest : Wd (.instanceMethod yX5_addTest) := ⟨List.mem_of_getElem? (i := 882) (by decide +kernel), rfl⟩
theorem we_yX5_addTest : Wd (.selects yX5_addTest.cls yX5_addTest yX5_addTest) := ⟨List.mem_of_getElem? (i := 883) (by decide +kernel), rfl⟩
theorem wc_yX5_needChannel : Wd (.code yX5_needChannel cX5_needChannel 1 none) := ⟨List.mem_of_getElem? (i := 887) (by decide +kernel), rfl⟩
theorem ws_yX5_needChannel : Wd (.static yX5_needChannel) := ⟨List.mem_of_getElem? (i := 886) (by decide +kernel), rfl⟩
theorem wc_yX5_mixActive : Wd (.code yX5_mixActive cX5_mixActive 3 none) := ⟨List.mem_of_getElem? (i := 893) (by decide +kernel), rfl⟩
theorem wi_yX5_mixActive : Wd (.instanceMethod yX5_mixActive) := ⟨List.mem_of_getElem? (i := 892) (by decide +kernel), rfl⟩
theorem we_yX5_mixActive : Wd (.selects yX5_mixActive.cls yX5_mixActive yX5_mixActive) := ⟨List.mem_of_getElem? (i := 27) (by decide +kernel), rfl⟩
theorem wc_yX5_mixersOn : Wd (.code yX5_mixersOn cX5_mixersOn 4 (some .int)) := ⟨List.mem_of_getElem? (i := 897) (by decide +kernel), rfl⟩
theorem wi_yX5_mixersOn : Wd (.instanceMethod yX5_mixersOn) := ⟨List.mem_of_getElem? (i := 896) (by decide +kernel), rfl⟩
theorem we_yX5_mixersOn : Wd (.selects yX5_mixersOn.cls yX5_mixersOn yX5_mixersOn) := ⟨List.mem_of_getElem? (i := 28) (by decide +kernel), rfl⟩
theorem wc_yX1_putTest : Wd (.code yX1_putTest cX1_putTest 5 none) := ⟨List.mem_of_getElem? (i := 901) (by decide +kernel), rfl⟩
theorem wi_yX1_putTest : Wd (.instanceMethod yX1_putTest) := ⟨List.mem_of_getElem? (i := 899) (by decide +kernel), rfl⟩
theorem we_yX1_putTest : Wd (.selects yX1_putTest.cls yX1_putTest yX1_putTest) := ⟨List.mem_of_getElem? (i := 900) (by decide +kernel), rfl⟩
theorem wc_yX5_test : Wd (.code yX5_test cX5_test 3 (some .int)) := ⟨List.mem_of_getElem? (i := 908) (by decide +kernel), rfl⟩
theorem wi_yX5_test : Wd (.instanceMethod yX5_test) := ⟨List.mem_of_getElem? (i := 906) (by decide +kernel), rfl⟩
theorem we_yX5_test : Wd (.selects yX5_test.cls yX5_test yX5_test) := ⟨List.mem_of_getElem? (i := 907) (by decide +kernel), rfl⟩
theorem wc_yX5_heard : Wd (.code yX5_heard cX5_heard 3 (some .int)) := ⟨List.mem_of_getElem? (i := 916) (by decide +kernel), rfl⟩
theorem wi_yX5_heard : Wd (.instanceMethod yX5_heard) := ⟨List.mem_of_getElem? (i := 914) (by decide +kernel), rfl⟩
theorem we_yX5_heard : Wd (.selects yX5_heard.cls yX5_heard yX5_heard) := ⟨List.mem_of_getElem? (i := 915) (by decide +kernel), rfl⟩
theorem wc_yX5_bestTest : Wd (.code yX5_bestTest cX5_bestTest 8 (some .int)) := ⟨List.mem_of_getElem? (i := 923) (by decide +kernel), rfl⟩
theorem wi_yX5_bestTest : Wd (.instanceMethod yX5_bestTest) := ⟨List.mem_of_getElem? (i := 921) (by decide +kernel), rfl⟩
theorem we_yX5_bestTest : Wd (.selects yX5_bestTest.cls yX5_bestTest yX5_bestTest) := ⟨List.mem_of_getElem? (i := 922) (by decide +kernel), rfl⟩
theorem wc_yX5_countHeard : Wd (.code yX5_countHeard cX5_countHeard 4 (some .int)) := ⟨List.mem_of_getElem? (i := 927) (by decide +kernel), rfl⟩
theorem wi_yX5_countHeard : Wd (.instanceMethod yX5_countHeard) := ⟨List.mem_of_getElem? (i := 926) (by decide +kernel), rfl⟩
theorem we_yX5_countHeard : Wd (.selects yX5_countHeard.cls yX5_countHeard yX5_countHeard) := ⟨List.mem_of_getElem? (i := 29) (by decide +kernel), rfl⟩
theorem wc_yX5_append : Wd (.code yX5_append cX5_append 2 (some .int)) := ⟨List.mem_of_getElem? (i := 935) (by decide +kernel), rfl⟩
theorem wi_yX5_append : Wd (.instanceMethod yX5_append) := ⟨List.mem_of_getElem? (i := 933) (by decide +kernel), rfl⟩
theorem we_yX5_append : Wd (.selects yX5_append.cls yX5_append yX5_append) := ⟨List.mem_of_getElem? (i := 934) (by decide +kernel), rfl⟩
theorem wc_yX4_put : Wd (.code yX4_put cX4_put 2 none) := ⟨List.mem_of_getElem? (i := 941) (by decide +kernel), rfl⟩
theorem wi_yX4_put : Wd (.instanceMethod yX4_put) := ⟨List.mem_of_getElem? (i := 939) (by decide +kernel), rfl⟩
theorem we_yX4_put : Wd (.selects yX4_put.cls yX4_put yX4_put) := ⟨List.mem_of_getElem? (i := 940) (by decide +kernel), rfl⟩
theorem wc_yX5_undo : Wd (.code yX5_undo cX5_undo 1 (some .int)) := ⟨List.mem_of_getElem? (i := 948) (by decide +kernel), rfl⟩
theorem wi_yX5_undo : Wd (.instanceMethod yX5_undo) := ⟨List.mem_of_getElem? (i := 946) (by decide +kernel), rfl⟩
theorem we_yX5_undo : Wd (.selects yX5_undo.cls yX5_undo yX5_undo) := ⟨List.mem_of_getElem? (i := 947) (by decide +kernel), rfl⟩
theorem wc_yX2_popInto : Wd (.code yX2_popInto cX2_popInto 3 none) := ⟨List.mem_of_getElem? (i := 953) (by decide +kernel), rfl⟩
theorem wi_yX2_popInto : Wd (.instanceMethod yX2_popInto) := ⟨List.mem_of_getElem? (i := 951) (by decide +kernel), rfl⟩
theorem we_yX2_popInto : Wd (.selects yX2_popInto.cls yX2_popInto yX2_popInto) := ⟨List.mem_of_getElem? (i := 952) (by decide +kernel), rfl⟩
theorem wc_yX6_init : Wd (.code yX6_init cX6_init 1 none) := ⟨List.mem_of_getElem? (i := 959) (by decide +kernel), rfl⟩
theorem wi_yX6_init : Wd (.instanceMethod yX6_init) := ⟨List.mem_of_getElem? (i := 958) (by decide +kernel), rfl⟩
theorem wc_yX6_thrown : Wd (.code yX6_thrown cX6_thrown 1 (some .int)) := ⟨List.mem_of_getElem? (i := 1034) (by decide +kernel), rfl⟩
theorem wi_yX6_thrown : Wd (.instanceMethod yX6_thrown) := ⟨List.mem_of_getElem? (i := 1032) (by decide +kernel), rfl⟩
theorem we_yX6_thrown : Wd (.selects yX6_thrown.cls yX6_thrown yX6_thrown) := ⟨List.mem_of_getElem? (i := 1033) (by decide +kernel), rfl⟩
theorem wc_yX6_addCarrier : Wd (.code yX6_addCarrier cX6_addCarrier 3 (some .int)) := ⟨List.mem_of_getElem? (i := 1038) (by decide +kernel), rfl⟩
theorem wi_yX6_addCarrier : Wd (.instanceMethod yX6_addCarrier) := ⟨List.mem_of_getElem? (i := 1036) (by decide +kernel), rfl⟩
theorem we_yX6_addCarrier : Wd (.selects yX6_addCarrier.cls yX6_addCarrier yX6_addCarrier) := ⟨List.mem_of_getElem? (i := 1037) (by decide +kernel), rfl⟩
theorem wc_yX6_isFit : Wd (.code yX6_isFit cX6_isFit 4 (some .boolean)) := ⟨List.mem_of_getElem? (i := 1042) (by decide +kernel), rfl⟩
theorem wi_yX6_isFit : Wd (.instanceMethod yX6_isFit) := ⟨List.mem_of_getElem? (i := 1041) (by decide +kernel), rfl⟩
theorem we_yX6_isFit : Wd (.selects yX6_isFit.cls yX6_isFit yX6_isFit) := ⟨List.mem_of_getElem? (i := 30) (by decide +kernel), rfl⟩
theorem wc_yX6_isChannel : Wd (.code yX6_isChannel cX6_isChannel 1 (some .boolean)) := ⟨List.mem_of_getElem? (i := 1045) (by decide +kernel), rfl⟩
theorem ws_yX6_isChannel : Wd (.static yX6_isChannel) := ⟨List.mem_of_getElem? (i := 1044) (by decide +kernel), rfl⟩
theorem wc_yX6_in : Wd (.code yX6_in cX6_in 3 (some .boolean)) := ⟨List.mem_of_getElem? (i := 1048) (by decide +kernel), rfl⟩
theorem ws_yX6_in : Wd (.static yX6_in) := ⟨List.mem_of_getElem? (i := 1047) (by decide +kernel), rfl⟩
theorem wc_yX6_isTaken : Wd (.code yX6_isTaken cX6_isTaken 5 (some .boolean)) := ⟨List.mem_of_getElem? (i := 1052) (by decide +kernel), rfl⟩
theorem wi_yX6_isTaken : Wd (.instanceMethod yX6_isTaken) := ⟨List.mem_of_getElem? (i := 1051) (by decide +kernel), rfl⟩
theorem we_yX6_isTaken : Wd (.selects yX6_isTaken.cls yX6_isTaken yX6_isTaken) := ⟨List.mem_of_getElem? (i := 31) (by decide +kernel), rfl⟩
theorem wc_yX6_channelOf : Wd (.code yX6_channelOf cX6_channelOf 2 (some .int)) := ⟨List.mem_of_getElem? (i := 1056) (by decide +kernel), rfl⟩
theorem wi_yX6_channelOf : Wd (.instanceMethod yX6_channelOf) := ⟨List.mem_of_getElem? (i := 1055) (by decide +kernel), rfl⟩
theorem we_yX6_channelOf : Wd (.selects yX6_channelOf.cls yX6_channelOf yX6_channelOf) := ⟨List.mem_of_getElem? (i := 32) (by decide +kernel), rfl⟩
theorem wc_yX6_change : Wd (.code yX6_change cX6_change 1 none) := ⟨List.mem_of_getElem? (i := 1060) (by decide +kernel), rfl⟩
theorem wi_yX6_change : Wd (.instanceMethod yX6_change) := ⟨List.mem_of_getElem? (i := 1059) (by decide +kernel), rfl⟩
theorem we_yX6_change : Wd (.selects yX6_change.cls yX6_change yX6_change) := ⟨List.mem_of_getElem? (i := 33) (by decide +kernel), rfl⟩
theorem wc_yX6_keep : Wd (.code yX6_keep cX6_keep 2 none) := ⟨List.mem_of_getElem? (i := 1064) (by decide +kernel), rfl⟩
theorem wi_yX6_keep : Wd (.instanceMethod yX6_keep) := ⟨List.mem_of_getElem? (i := 1063) (by decide +kernel), rfl⟩
theorem we_yX6_keep : Wd (.selects yX6_keep.cls yX6_keep yX6_keep) := ⟨List.mem_of_getElem? (i := 34) (by decide +kernel), rfl⟩
theorem wc_yX6_lay : Wd (.code yX6_lay cX6_lay 4 none) := ⟨List.mem_of_getElem? (i := 1068) (by decide +kernel), rfl⟩
theorem wi_yX6_lay : Wd (.instanceMethod yX6_lay) := ⟨List.mem_of_getElem? (i := 1067) (by decide +kernel), rfl⟩
theorem we_yX6_lay : Wd (.selects yX6_lay.cls yX6_lay yX6_lay) := ⟨List.mem_of_getElem? (i := 35) (by decide +kernel), rfl⟩
theorem wc_yX6_moveCarrier : Wd (.code yX6_moveCarrier cX6_moveCarrier 5 (some .int)) := ⟨List.mem_of_getElem? (i := 1072) (by decide +kernel), rfl⟩
theorem wi_yX6_moveCarrier : Wd (.instanceMethod yX6_moveCarrier) := ⟨List.mem_of_getElem? (i := 1070) (by decide +kernel), rfl⟩
theorem we_yX6_moveCarrier : Wd (.selects yX6_moveCarrier.cls yX6_moveCarrier yX6_moveCarrier) := ⟨List.mem_of_getElem? (i := 1071) (by decide +kernel), rfl⟩
theorem wc_yX6_isCarrier : Wd (.code yX6_isCarrier cX6_isCarrier 2 (some .boolean)) := ⟨List.mem_of_getElem? (i := 1076) (by decide +kernel), rfl⟩
theorem wi_yX6_isCarrier : Wd (.instanceMethod yX6_isCarrier) := ⟨List.mem_of_getElem? (i := 1075) (by decide +kernel), rfl⟩
theorem we_yX6_isCarrier : Wd (.selects yX6_isCarrier.cls yX6_isCarrier yX6_isCarrier) := ⟨List.mem_of_getElem? (i := 36) (by decide +kernel), rfl⟩
theorem wc_yX6_removeCarrier : Wd (.code yX6_removeCarrier cX6_removeCarrier 4 (some .int)) := ⟨List.mem_of_getElem? (i := 1080) (by decide +kernel), rfl⟩
theorem wi_yX6_removeCarrier : Wd (.instanceMethod yX6_removeCarrier) := ⟨List.mem_of_getElem? (i := 1078) (by decide +kernel), rfl⟩
theorem we_yX6_removeCarrier : Wd (.selects yX6_removeCarrier.cls yX6_removeCarrier yX6_removeCarrier) := ⟨List.mem_of_getElem? (i := 1079) (by decide +kernel), rfl⟩
theorem wc_yX6_levelOf : Wd (.code yX6_levelOf cX6_levelOf 2 (some .int)) := ⟨List.mem_of_getElem? (i := 1084) (by decide +kernel), rfl⟩
theorem wi_yX6_levelOf : Wd (.instanceMethod yX6_levelOf) := ⟨List.mem_of_getElem? (i := 1083) (by decide +kernel), rfl⟩
theorem we_yX6_levelOf : Wd (.selects yX6_levelOf.cls yX6_levelOf yX6_levelOf) := ⟨List.mem_of_getElem? (i := 37) (by decide +kernel), rfl⟩
theorem wc_yX6_shift : Wd (.code yX6_shift cX6_shift 4 (some .int)) := ⟨List.mem_of_getElem? (i := 1088) (by decide +kernel), rfl⟩
theorem wi_yX6_shift : Wd (.instanceMethod yX6_shift) := ⟨List.mem_of_getElem? (i := 1086) (by decide +kernel), rfl⟩
theorem we_yX6_shift : Wd (.selects yX6_shift.cls yX6_shift yX6_shift) := ⟨List.mem_of_getElem? (i := 1087) (by decide +kernel), rfl⟩
theorem wc_yX6_setProducts : Wd (.code yX6_setProducts cX6_setProducts 5 (some .int)) := ⟨List.mem_of_getElem? (i := 1092) (by decide +kernel), rfl⟩
theorem wi_yX6_setProducts : Wd (.instanceMethod yX6_setProducts) := ⟨List.mem_of_getElem? (i := 1090) (by decide +kernel), rfl⟩
theorem we_yX6_setProducts : Wd (.selects yX6_setProducts.cls yX6_setProducts yX6_setProducts) := ⟨List.mem_of_getElem? (i := 1091) (by decide +kernel), rfl⟩
theorem wc_yX6_setSpacing : Wd (.code yX6_setSpacing cX6_setSpacing 4 (some .int)) := ⟨List.mem_of_getElem? (i := 1096) (by decide +kernel), rfl⟩
theorem wi_yX6_setSpacing : Wd (.instanceMethod yX6_setSpacing) := ⟨List.mem_of_getElem? (i := 1094) (by decide +kernel), rfl⟩
theorem we_yX6_setSpacing : Wd (.selects yX6_setSpacing.cls yX6_setSpacing yX6_setSpacing) := ⟨List.mem_of_getElem? (i := 1095) (by decide +kernel), rfl⟩
theorem wc_yX6_size : Wd (.code yX6_size cX6_size 2 (some .int)) := ⟨List.mem_of_getElem? (i := 1100) (by decide +kernel), rfl⟩
theorem wi_yX6_size : Wd (.instanceMethod yX6_size) := ⟨List.mem_of_getElem? (i := 1098) (by decide +kernel), rfl⟩
theorem we_yX6_size : Wd (.selects yX6_size.cls yX6_size yX6_size) := ⟨List.mem_of_getElem? (i := 1099) (by decide +kernel), rfl⟩
theorem wc_yX6_carrier : Wd (.code yX6_carrier cX6_carrier 3 (some .int)) := ⟨List.mem_of_getElem? (i := 1104) (by decide +kernel), rfl⟩
theorem wi_yX6_carrier : Wd (.instanceMethod yX6_carrier) := ⟨List.mem_of_getElem? (i := 1102) (by decide +kernel), rfl⟩
theorem we_yX6_carrier : Wd (.selects yX6_carrier.cls yX6_carrier yX6_carrier) := ⟨List.mem_of_getElem? (i := 1103) (by decide +kernel), rfl⟩
theorem wc_yX6_channels : Wd (.code yX6_channels cX6_channels 4 (some .long)) := ⟨List.mem_of_getElem? (i := 1108) (by decide +kernel), rfl⟩
theorem wi_yX6_channels : Wd (.instanceMethod yX6_channels) := ⟨List.mem_of_getElem? (i := 1106) (by decide +kernel), rfl⟩
theorem we_yX6_channels : Wd (.selects yX6_channels.cls yX6_channels yX6_channels) := ⟨List.mem_of_getElem? (i := 1107) (by decide +kernel), rfl⟩
theorem wc_yX6_products : Wd (.code yX6_products cX6_products 1 (some .int)) := ⟨List.mem_of_getElem? (i := 1112) (by decide +kernel), rfl⟩
theorem wi_yX6_products : Wd (.instanceMethod yX6_products) := ⟨List.mem_of_getElem? (i := 1110) (by decide +kernel), rfl⟩
theorem we_yX6_products : Wd (.selects yX6_products.cls yX6_products yX6_products) := ⟨List.mem_of_getElem? (i := 1111) (by decide +kernel), rfl⟩
theorem wc_yX6_all : Wd (.code yX6_all cX6_all 1 (some .int)) := ⟨List.mem_of_getElem? (i := 1116) (by decide +kernel), rfl⟩
theorem wi_yX6_all : Wd (.instanceMethod yX6_all) := ⟨List.mem_of_getElem? (i := 1115) (by decide +kernel), rfl⟩
theorem we_yX6_all : Wd (.selects yX6_all.cls yX6_all yX6_all) := ⟨List.mem_of_getElem? (i := 38) (by decide +kernel), rfl⟩
theorem wc_yX6_listAll : Wd (.code yX6_listAll cX6_listAll 8 none) := ⟨List.mem_of_getElem? (i := 1120) (by decide +kernel), rfl⟩
theorem wi_yX6_listAll : Wd (.instanceMethod yX6_listAll) := ⟨List.mem_of_getElem? (i := 1119) (by decide +kernel), rfl⟩
theorem we_yX6_listAll : Wd (.selects yX6_listAll.cls yX6_listAll yX6_listAll) := ⟨List.mem_of_getElem? (i := 39) (by decide +kernel), rfl⟩
theorem wc_yX6_rowsOfAll : Wd (.code yX6_rowsOfAll cX6_rowsOfAll 2 none) := ⟨List.mem_of_getElem? (i := 1124) (by decide +kernel), rfl⟩
theorem wi_yX6_rowsOfAll : Wd (.instanceMethod yX6_rowsOfAll) := ⟨List.mem_of_getElem? (i := 1123) (by decide +kernel), rfl⟩
theorem we_yX6_rowsOfAll : Wd (.selects yX6_rowsOfAll.cls yX6_rowsOfAll yX6_rowsOfAll) := ⟨List.mem_of_getElem? (i := 40) (by decide +kernel), rfl⟩
theorem wc_yX6_has : Wd (.code yX6_has cX6_has 2 (some .boolean)) := ⟨List.mem_of_getElem? (i := 1127) (by decide +kernel), rfl⟩
theorem ws_yX6_has : Wd (.static yX6_has) := ⟨List.mem_of_getElem? (i := 1126) (by decide +kernel), rfl⟩
theorem wc_yX6_lists : Wd (.code yX6_lists cX6_lists 7 none) := ⟨List.mem_of_getElem? (i := 1131) (by decide +kernel), rfl⟩
theorem wi_yX6_lists : Wd (.instanceMethod yX6_lists) := ⟨List.mem_of_getElem? (i := 1130) (by decide +kernel), rfl⟩
theorem we_yX6_lists : Wd (.selects yX6_lists.cls yX6_lists yX6_lists) := ⟨List.mem_of_getElem? (i := 41) (by decide +kernel), rfl⟩
theorem wc_yX6_falls : Wd (.code yX6_falls cX6_falls 6 (some .int)) := ⟨List.mem_of_getElem? (i := 1135) (by decide +kernel), rfl⟩
theorem wi_yX6_falls : Wd (.instanceMethod yX6_falls) := ⟨List.mem_of_getElem? (i := 1134) (by decide +kernel), rfl⟩
theorem we_yX6_falls : Wd (.selects yX6_falls.cls yX6_falls yX6_falls) := ⟨List.mem_of_getElem? (i := 42) (by decide +kernel), rfl⟩
theorem wc_yX6_level : Wd (.code yX6_level cX6_level 5 (some .int)) := ⟨List.mem_of_getElem? (i := 1139) (by decide +kernel), rfl⟩
theorem wi_yX6_level : Wd (.instanceMethod yX6_level) := ⟨List.mem_of_getElem? (i := 1138) (by decide +kernel), rfl⟩
theorem we_yX6_level : Wd (.selects yX6_level.cls yX6_level yX6_level) := ⟨List.mem_of_getElem? (i := 43) (by decide +kernel), rfl⟩
theorem wc_yX6_product : Wd (.code yX6_product cX6_product 3 (some .int)) := ⟨List.mem_of_getElem? (i := 1143) (by decide +kernel), rfl⟩
theorem wi_yX6_product : Wd (.instanceMethod yX6_product) := ⟨List.mem_of_getElem? (i := 1141) (by decide +kernel), rfl⟩
theorem we_yX6_product : Wd (.selects yX6_product.cls yX6_product yX6_product) := ⟨List.mem_of_getElem? (i := 1142) (by decide +kernel), rfl⟩
theorem wc_yX6_fallout : Wd (.code yX6_fallout cX6_fallout 2 (some .long)) := ⟨List.mem_of_getElem? (i := 1147) (by decide +kernel), rfl⟩
theorem wi_yX6_fallout : Wd (.instanceMethod yX6_fallout) := ⟨List.mem_of_getElem? (i := 1145) (by decide +kernel), rfl⟩
theorem we_yX6_fallout : Wd (.selects yX6_fallout.cls yX6_fallout yX6_fallout) := ⟨List.mem_of_getElem? (i := 1146) (by decide +kernel), rfl⟩
theorem wc_yX6_isSet : Wd (.code yX6_isSet cX6_isSet 2 (some .boolean)) := ⟨List.mem_of_getElem? (i := 1151) (by decide +kernel), rfl⟩
theorem wi_yX6_isSet : Wd (.instanceMethod yX6_isSet) := ⟨List.mem_of_getElem? (i := 1150) (by decide +kernel), rfl⟩
theorem we_yX6_isSet : Wd (.selects yX6_isSet.cls yX6_isSet yX6_isSet) := ⟨List.mem_of_getElem? (i := 44) (by decide +kernel), rfl⟩
theorem wc_yX6_falloutOf : Wd (.code yX6_falloutOf cX6_falloutOf 5 (some .long)) := ⟨List.mem_of_getElem? (i := 1155) (by decide +kernel), rfl⟩
theorem wi_yX6_falloutOf : Wd (.instanceMethod yX6_falloutOf) := ⟨List.mem_of_getElem? (i := 1154) (by decide +kernel), rfl⟩
theorem we_yX6_falloutOf : Wd (.selects yX6_falloutOf.cls yX6_falloutOf yX6_falloutOf) := ⟨List.mem_of_getElem? (i := 45) (by decide +kernel), rfl⟩
theorem wc_yX6_hits : Wd (.code yX6_hits cX6_hits 1 (some .int)) := ⟨List.mem_of_getElem? (i := 1159) (by decide +kernel), rfl⟩
theorem wi_yX6_hits : Wd (.instanceMethod yX6_hits) := ⟨List.mem_of_getElem? (i := 1157) (by decide +kernel), rfl⟩
theorem we_yX6_hits : Wd (.selects yX6_hits.cls yX6_hits yX6_hits) := ⟨List.mem_of_getElem? (i := 1158) (by decide +kernel), rfl⟩
theorem wc_yX6_hitsAll : Wd (.code yX6_hitsAll cX6_hitsAll 3 (some .int)) := ⟨List.mem_of_getElem? (i := 1163) (by decide +kernel), rfl⟩
theorem wi_yX6_hitsAll : Wd (.instanceMethod yX6_hitsAll) := ⟨List.mem_of_getElem? (i := 1162) (by decide +kernel), rfl⟩
theorem we_yX6_hitsAll : Wd (.selects yX6_hitsAll.cls yX6_hitsAll yX6_hitsAll) := ⟨List.mem_of_getElem? (i := 46) (by decide +kernel), rfl⟩
theorem wc_yX6_hitsAt : Wd (.code yX6_hitsAt cX6_hitsAt 4 (some .int)) := ⟨List.mem_of_getElem? (i := 1167) (by decide +kernel), rfl⟩
theorem wi_yX6_hitsAt : Wd (.instanceMethod yX6_hitsAt) := ⟨List.mem_of_getElem? (i := 1166) (by decide +kernel), rfl⟩
theorem we_yX6_hitsAt : Wd (.selects yX6_hitsAt.cls yX6_hitsAt yX6_hitsAt) := ⟨List.mem_of_getElem? (i := 47) (by decide +kernel), rfl⟩
theorem wc_yX6_isNear : Wd (.code yX6_isNear cX6_isNear 3 (some .boolean)) := ⟨List.mem_of_getElem? (i := 1171) (by decide +kernel), rfl⟩
theorem wi_yX6_isNear : Wd (.instanceMethod yX6_isNear) := ⟨List.mem_of_getElem? (i := 1170) (by decide +kernel), rfl⟩
theorem we_yX6_isNear : Wd (.selects yX6_isNear.cls yX6_isNear yX6_isNear) := ⟨List.mem_of_getElem? (i := 48) (by decide +kernel), rfl⟩
theorem wc_yX6_hitsOn : Wd (.code yX6_hitsOn cX6_hitsOn 2 (some .int)) := ⟨List.mem_of_getElem? (i := 1175) (by decide +kernel), rfl⟩
theorem wi_yX6_hitsOn : Wd (.instanceMethod yX6_hitsOn) := ⟨List.mem_of_getElem? (i := 1173) (by decide +kernel), rfl⟩
theorem we_yX6_hitsOn : Wd (.selects yX6_hitsOn.cls yX6_hitsOn yX6_hitsOn) := ⟨List.mem_of_getElem? (i := 1174) (by decide +kernel), rfl⟩
theorem wc_yX6_isClean : Wd (.code yX6_isClean cX6_isClean 1 (some .boolean)) := ⟨List.mem_of_getElem? (i := 1179) (by decide +kernel), rfl⟩
theorem wi_yX6_isClean : Wd (.instanceMethod yX6_isClean) := ⟨List.mem_of_getElem? (i := 1177) (by decide +kernel), rfl⟩
theorem we_yX6_isClean : Wd (.selects yX6_isClean.cls yX6_isClean yX6_isClean) := ⟨List.mem_of_getElem? (i := 1178) (by decide +kernel), rfl⟩
theorem wc_yX6_isRowClean : Wd (.code yX6_isRowClean cX6_isRowClean 6 (some .boolean)) := ⟨List.mem_of_getElem? (i := 1183) (by decide +kernel), rfl⟩
theorem wi_yX6_isRowClean : Wd (.instanceMethod yX6_isRowClean) := ⟨List.mem_of_getElem? (i := 1182) (by decide +kernel), rfl⟩
theorem we_yX6_isRowClean : Wd (.selects yX6_isRowClean.cls yX6_isRowClean yX6_isRowClean) := ⟨List.mem_of_getElem? (i := 49) (by decide +kernel), rfl⟩
theorem wc_yX6_hitsRow : Wd (.code yX6_hitsRow cX6_hitsRow 5 (some .boolean)) := ⟨List.mem_of_getElem? (i := 1187) (by decide +kernel), rfl⟩
theorem wi_yX6_hitsRow : Wd (.instanceMethod yX6_hitsRow) := ⟨List.mem_of_getElem? (i := 1186) (by decide +kernel), rfl⟩
theorem we_yX6_hitsRow : Wd (.selects yX6_hitsRow.cls yX6_hitsRow yX6_hitsRow) := ⟨List.mem_of_getElem? (i := 50) (by decide +kernel), rfl⟩
theorem wc_yX6_closest : Wd (.code yX6_closest cX6_closest 5 (some .int)) := ⟨List.mem_of_getElem? (i := 1191) (by decide +kernel), rfl⟩
theorem wi_yX6_closest : Wd (.instanceMethod yX6_closest) := ⟨List.mem_of_getElem? (i := 1189) (by decide +kernel), rfl⟩
theorem we_yX6_closest : Wd (.selects yX6_closest.cls yX6_closest yX6_closest) := ⟨List.mem_of_getElem? (i := 1190) (by decide +kernel), rfl⟩
theorem wc_yX6_removal : Wd (.code yX6_removal cX6_removal 3 (some .int)) := ⟨List.mem_of_getElem? (i := 1195) (by decide +kernel), rfl⟩
theorem wi_yX6_removal : Wd (.instanceMethod yX6_removal) := ⟨List.mem_of_getElem? (i := 1193) (by decide +kernel), rfl⟩
theorem we_yX6_removal : Wd (.selects yX6_removal.cls yX6_removal yX6_removal) := ⟨List.mem_of_getElem? (i := 1194) (by decide +kernel), rfl⟩
theorem wc_yX6_bits : Wd (.code yX6_bits cX6_bits 3 (some .int)) := ⟨List.mem_of_getElem? (i := 1198) (by decide +kernel), rfl⟩
theorem ws_yX6_bits : Wd (.static yX6_bits) := ⟨List.mem_of_getElem? (i := 1197) (by decide +kernel), rfl⟩
theorem wc_yX6_isCleanWithout : Wd (.code yX6_isCleanWithout cX6_isCleanWithout 4 (some .boolean)) := ⟨List.mem_of_getElem? (i := 1202) (by decide +kernel), rfl⟩
theorem wi_yX6_isCleanWithout : Wd (.instanceMethod yX6_isCleanWithout) := ⟨List.mem_of_getElem? (i := 1201) (by decide +kernel), rfl⟩
theorem we_yX6_isCleanWithout : Wd (.selects yX6_isCleanWithout.cls yX6_isCleanWithout yX6_isCleanWithout) := ⟨List.mem_of_getElem? (i := 51) (by decide +kernel), rfl⟩
theorem wc_yX6_leastSpan : Wd (.code yX6_leastSpan cX6_leastSpan 2 (some .int)) := ⟨List.mem_of_getElem? (i := 1206) (by decide +kernel), rfl⟩
theorem wi_yX6_leastSpan : Wd (.instanceMethod yX6_leastSpan) := ⟨List.mem_of_getElem? (i := 1204) (by decide +kernel), rfl⟩
theorem we_yX6_leastSpan : Wd (.selects yX6_leastSpan.cls yX6_leastSpan yX6_leastSpan) := ⟨List.mem_of_getElem? (i := 1205) (by decide +kernel), rfl⟩
theorem wc_yX6_least : Wd (.code yX6_least cX6_least 3 (some .int)) := ⟨List.mem_of_getElem? (i := 1210) (by decide +kernel), rfl⟩
theorem wi_yX6_least : Wd (.instanceMethod yX6_least) := ⟨List.mem_of_getElem? (i := 1209) (by decide +kernel), rfl⟩
theorem we_yX6_least : Wd (.selects yX6_least.cls yX6_least yX6_least) := ⟨List.mem_of_getElem? (i := 52) (by decide +kernel), rfl⟩
theorem wc_yX6_seek : Wd (.code yX6_seek cX6_seek 6 (some .int)) := ⟨List.mem_of_getElem? (i := 1214) (by decide +kernel), rfl⟩
theorem wi_yX6_seek : Wd (.instanceMethod yX6_seek) := ⟨List.mem_of_getElem? (i := 1213) (by decide +kernel), rfl⟩
theorem we_yX6_seek : Wd (.selects yX6_seek.cls yX6_seek yX6_seek) := ⟨List.mem_of_getElem? (i := 53) (by decide +kernel), rfl⟩
theorem wc_yX6_laysFirst : Wd (.code yX6_laysFirst cX6_laysFirst 3 none) := ⟨List.mem_of_getElem? (i := 1218) (by decide +kernel), rfl⟩
theorem wi_yX6_laysFirst : Wd (.instanceMethod yX6_laysFirst) := ⟨List.mem_of_getElem? (i := 1217) (by decide +kernel), rfl⟩
theorem we_yX6_laysFirst : Wd (.selects yX6_laysFirst.cls yX6_laysFirst yX6_laysFirst) := ⟨List.mem_of_getElem? (i := 54) (by decide +kernel), rfl⟩
theorem wc_yX6_bestRuler : Wd (.code yX6_bestRuler cX6_bestRuler 2 (some .long)) := ⟨List.mem_of_getElem? (i := 1222) (by decide +kernel), rfl⟩
theorem wi_yX6_bestRuler : Wd (.instanceMethod yX6_bestRuler) := ⟨List.mem_of_getElem? (i := 1220) (by decide +kernel), rfl⟩
theorem we_yX6_bestRuler : Wd (.selects yX6_bestRuler.cls yX6_bestRuler yX6_bestRuler) := ⟨List.mem_of_getElem? (i := 1221) (by decide +kernel), rfl⟩
theorem wc_yX6_rulers : Wd (.code yX6_rulers cX6_rulers 3 (some .int)) := ⟨List.mem_of_getElem? (i := 1226) (by decide +kernel), rfl⟩
theorem wi_yX6_rulers : Wd (.instanceMethod yX6_rulers) := ⟨List.mem_of_getElem? (i := 1224) (by decide +kernel), rfl⟩
theorem we_yX6_rulers : Wd (.selects yX6_rulers.cls yX6_rulers yX6_rulers) := ⟨List.mem_of_getElem? (i := 1225) (by decide +kernel), rfl⟩
theorem wc_yX6_openings : Wd (.code yX6_openings cX6_openings 2 (some .long)) := ⟨List.mem_of_getElem? (i := 1230) (by decide +kernel), rfl⟩
theorem wi_yX6_openings : Wd (.instanceMethod yX6_openings) := ⟨List.mem_of_getElem? (i := 1228) (by decide +kernel), rfl⟩
theorem we_yX6_openings : Wd (.selects yX6_openings.cls yX6_openings yX6_openings) := ⟨List.mem_of_getElem? (i := 1229) (by decide +kernel), rfl⟩
theorem wc_yX6_openingsFor : Wd (.code yX6_openingsFor cX6_openingsFor 5 (some .long)) := ⟨List.mem_of_getElem? (i := 1234) (by decide +kernel), rfl⟩
theorem wi_yX6_openingsFor : Wd (.instanceMethod yX6_openingsFor) := ⟨List.mem_of_getElem? (i := 1233) (by decide +kernel), rfl⟩
theorem we_yX6_openingsFor : Wd (.selects yX6_openingsFor.cls yX6_openingsFor yX6_openingsFor) := ⟨List.mem_of_getElem? (i := 55) (by decide +kernel), rfl⟩
theorem wc_yX6_putIn : Wd (.code yX6_putIn cX6_putIn 5 (some .int)) := ⟨List.mem_of_getElem? (i := 1238) (by decide +kernel), rfl⟩
theorem wi_yX6_putIn : Wd (.instanceMethod yX6_putIn) := ⟨List.mem_of_getElem? (i := 1236) (by decide +kernel), rfl⟩
theorem we_yX6_putIn : Wd (.selects yX6_putIn.cls yX6_putIn yX6_putIn) := ⟨List.mem_of_getElem? (i := 1237) (by decide +kernel), rfl⟩
theorem wc_yX6_addMixer : Wd (.code yX6_addMixer cX6_addMixer 2 (some .int)) := ⟨List.mem_of_getElem? (i := 1242) (by decide +kernel), rfl⟩
theorem wi_yX6_addMixer : Wd (.instanceMethod yX6_addMixer) := ⟨List.mem_of_getElem? (i := 1240) (by decide +kernel), rfl⟩
theorem we_yX6_addMixer : Wd (.selects yX6_addMixer.cls yX6_addMixer yX6_addMixer) := ⟨List.mem_of_getElem? (i := 1241) (by decide +kernel), rfl⟩
theorem wc_yX6_setMember : Wd (.code yX6_setMember cX6_setMember 5 (some .int)) := ⟨List.mem_of_getElem? (i := 1246) (by decide +kernel), rfl⟩
theorem wi_yX6_setMember : Wd (.instanceMethod yX6_setMember) := ⟨List.mem_of_getElem? (i := 1244) (by decide +kernel), rfl⟩
theorem we_yX6_setMember : Wd (.selects yX6_setMember.cls yX6_setMember yX6_setMember) := ⟨List.mem_of_getElem? (i := 1245) (by decide +kernel), rfl⟩
theorem wc_yX6_isMixer : Wd (.code yX6_isMixer cX6_isMixer 2 (some .boolean)) := ⟨List.mem_of_getElem? (i := 1250) (by decide +kernel), rfl⟩
theorem wi_yX6_isMixer : Wd (.instanceMethod yX6_isMixer) := ⟨List.mem_of_getElem? (i := 1249) (by decide +kernel), rfl⟩
theorem we_yX6_isMixer : Wd (.selects yX6_isMixer.cls yX6_isMixer yX6_isMixer) := ⟨List.mem_of_getElem? (i := 56) (by decide +kernel), rfl⟩
theorem wc_yX6_mixer : Wd (.code yX6_mixer cX6_mixer 2 (some .int)) := ⟨List.mem_of_getElem? (i := 1254) (by decide +kernel), rfl⟩
theorem wi_yX6_mixer : Wd (.instanceMethod yX6_mixer) := ⟨List.mem_of_getElem? (i := 1252) (by decide +kernel), rfl⟩
theorem we_yX6_mixer : Wd (.selects yX6_mixer.cls yX6_mixer yX6_mixer) := ⟨List.mem_of_getElem? (i := 1253) (by decide +kernel), rfl⟩
theorem wc_yX6_addTest : Wd (.code yX6_addTest cX6_addTest 5 (some .int)) := ⟨List.mem_of_getElem? (i := 1258) (by decide +kernel), rfl⟩
theorem wi_yX6_addTest : Wd (.instanceMethod yX6_addTest) := ⟨List.mem_of_getElem? (i := 1256) (by decide +kernel), rfl⟩
theorem we_yX6_addTest : Wd (.selects yX6_addTest.cls yX6_addTest yX6_addTest) := ⟨List.mem_of_getElem? (i := 1257) (by decide +kernel), rfl⟩
theorem wc_yX6_diagnose : Wd (.code yX6_diagnose cX6_diagnose 4 none) := ⟨List.mem_of_getElem? (i := 1262) (by decide +kernel), rfl⟩
theorem wi_yX6_diagnose : Wd (.instanceMethod yX6_diagnose) := ⟨List.mem_of_getElem? (i := 1261) (by decide +kernel), rfl⟩
theorem we_yX6_diagnose : Wd (.selects yX6_diagnose.cls yX6_diagnose yX6_diagnose) := ⟨List.mem_of_getElem? (i := 57) (by decide +kernel), rfl⟩
theorem wc_yX6_heardBy : Wd (.code yX6_heardBy cX6_heardBy 5 (some .int)) := ⟨List.mem_of_getElem? (i := 1266) (by decide +kernel), rfl⟩
theorem wi_yX6_heardBy : Wd (.instanceMethod yX6_heardBy) := ⟨List.mem_of_getElem? (i := 1265) (by decide +kernel), rfl⟩
theorem we_yX6_heardBy : Wd (.selects yX6_heardBy.cls yX6_heardBy yX6_heardBy) := ⟨List.mem_of_getElem? (i := 58) (by decide +kernel), rfl⟩
theorem wc_yX6_test : Wd (.code yX6_test cX6_test 3 (some .int)) := ⟨List.mem_of_getElem? (i := 1270) (by decide +kernel), rfl⟩
theorem wi_yX6_test : Wd (.instanceMethod yX6_test) := ⟨List.mem_of_getElem? (i := 1268) (by decide +kernel), rfl⟩
theorem we_yX6_test : Wd (.selects yX6_test.cls yX6_test yX6_test) := ⟨List.mem_of_getElem? (i := 1269) (by decide +kernel), rfl⟩
theorem wc_yX6_heard : Wd (.code yX6_heard cX6_heard 3 (some .int)) := ⟨List.mem_of_getElem? (i := 1274) (by decide +kernel), rfl⟩
theorem wi_yX6_heard : Wd (.instanceMethod yX6_heard) := ⟨List.mem_of_getElem? (i := 1272) (by decide +kernel), rfl⟩
theorem we_yX6_heard : Wd (.selects yX6_heard.cls yX6_heard yX6_heard) := ⟨List.mem_of_getElem? (i := 1273) (by decide +kernel), rfl⟩
theorem wc_yX6_diagnoses : Wd (.code yX6_diagnoses cX6_diagnoses 1 (some .int)) := ⟨List.mem_of_getElem? (i := 1278) (by decide +kernel), rfl⟩
theorem wi_yX6_diagnoses : Wd (.instanceMethod yX6_diagnoses) := ⟨List.mem_of_getElem? (i := 1276) (by decide +kernel), rfl⟩
theorem we_yX6_diagnoses : Wd (.selects yX6_diagnoses.cls yX6_diagnoses yX6_diagnoses) := ⟨List.mem_of_getElem? (i := 1277) (by decide +kernel), rfl⟩
theorem wc_yX6_diagnosis : Wd (.code yX6_diagnosis cX6_diagnosis 1 (some .int)) := ⟨List.mem_of_getElem? (i := 1282) (by decide +kernel), rfl⟩
theorem wi_yX6_diagnosis : Wd (.instanceMethod yX6_diagnosis) := ⟨List.mem_of_getElem? (i := 1280) (by decide +kernel), rfl⟩
theorem we_yX6_diagnosis : Wd (.selects yX6_diagnosis.cls yX6_diagnosis yX6_diagnosis) := ⟨List.mem_of_getElem? (i := 1281) (by decide +kernel), rfl⟩
theorem wc_yX6_best : Wd (.code yX6_best cX6_best 3 (some .int)) := ⟨List.mem_of_getElem? (i := 1286) (by decide +kernel), rfl⟩
theorem wi_yX6_best : Wd (.instanceMethod yX6_best) := ⟨List.mem_of_getElem? (i := 1285) (by decide +kernel), rfl⟩
theorem we_yX6_best : Wd (.selects yX6_best.cls yX6_best yX6_best) := ⟨List.mem_of_getElem? (i := 59) (by decide +kernel), rfl⟩
theorem wc_yX6_certain : Wd (.code yX6_certain cX6_certain 4 (some .int)) := ⟨List.mem_of_getElem? (i := 1290) (by decide +kernel), rfl⟩
theorem wi_yX6_certain : Wd (.instanceMethod yX6_certain) := ⟨List.mem_of_getElem? (i := 1288) (by decide +kernel), rfl⟩
theorem we_yX6_certain : Wd (.selects yX6_certain.cls yX6_certain yX6_certain) := ⟨List.mem_of_getElem? (i := 1289) (by decide +kernel), rfl⟩
theorem wc_yX6_bestTest : Wd (.code yX6_bestTest cX6_bestTest 8 (some .int)) := ⟨List.mem_of_getElem? (i := 1294) (by decide +kernel), rfl⟩
theorem wi_yX6_bestTest : Wd (.instanceMethod yX6_bestTest) := ⟨List.mem_of_getElem? (i := 1292) (by decide +kernel), rfl⟩
theorem we_yX6_bestTest : Wd (.selects yX6_bestTest.cls yX6_bestTest yX6_bestTest) := ⟨List.mem_of_getElem? (i := 1293) (by decide +kernel), rfl⟩
theorem wc_yX6_append : Wd (.code yX6_append cX6_append 2 (some .int)) := ⟨List.mem_of_getElem? (i := 1298) (by decide +kernel), rfl⟩
theorem wi_yX6_append : Wd (.instanceMethod yX6_append) := ⟨List.mem_of_getElem? (i := 1296) (by decide +kernel), rfl⟩
theorem we_yX6_append : Wd (.selects yX6_append.cls yX6_append yX6_append) := ⟨List.mem_of_getElem? (i := 1297) (by decide +kernel), rfl⟩
theorem wc_yX6_clearText : Wd (.code yX6_clearText cX6_clearText 2 (some .int)) := ⟨List.mem_of_getElem? (i := 1302) (by decide +kernel), rfl⟩
theorem wi_yX6_clearText : Wd (.instanceMethod yX6_clearText) := ⟨List.mem_of_getElem? (i := 1300) (by decide +kernel), rfl⟩
theorem we_yX6_clearText : Wd (.selects yX6_clearText.cls yX6_clearText yX6_clearText) := ⟨List.mem_of_getElem? (i := 1301) (by decide +kernel), rfl⟩
theorem wc_yX6_parse : Wd (.code yX6_parse cX6_parse 3 (some .int)) := ⟨List.mem_of_getElem? (i := 1306) (by decide +kernel), rfl⟩
theorem wi_yX6_parse : Wd (.instanceMethod yX6_parse) := ⟨List.mem_of_getElem? (i := 1304) (by decide +kernel), rfl⟩
theorem we_yX6_parse : Wd (.selects yX6_parse.cls yX6_parse yX6_parse) := ⟨List.mem_of_getElem? (i := 1305) (by decide +kernel), rfl⟩
theorem wc_yX6_readAll : Wd (.code yX6_readAll cX6_readAll 3 (some .int)) := ⟨List.mem_of_getElem? (i := 1310) (by decide +kernel), rfl⟩
theorem wi_yX6_readAll : Wd (.instanceMethod yX6_readAll) := ⟨List.mem_of_getElem? (i := 1309) (by decide +kernel), rfl⟩
theorem we_yX6_readAll : Wd (.selects yX6_readAll.cls yX6_readAll yX6_readAll) := ⟨List.mem_of_getElem? (i := 60) (by decide +kernel), rfl⟩
theorem wc_yX6_here : Wd (.code yX6_here cX6_here 1 (some .int)) := ⟨List.mem_of_getElem? (i := 1314) (by decide +kernel), rfl⟩
theorem wi_yX6_here : Wd (.instanceMethod yX6_here) := ⟨List.mem_of_getElem? (i := 1313) (by decide +kernel), rfl⟩
theorem we_yX6_here : Wd (.selects yX6_here.cls yX6_here yX6_here) := ⟨List.mem_of_getElem? (i := 61) (by decide +kernel), rfl⟩
theorem wc_yX6_readCarrier : Wd (.code yX6_readCarrier cX6_readCarrier 3 (some .boolean)) := ⟨List.mem_of_getElem? (i := 1318) (by decide +kernel), rfl⟩
theorem wi_yX6_readCarrier : Wd (.instanceMethod yX6_readCarrier) := ⟨List.mem_of_getElem? (i := 1317) (by decide +kernel), rfl⟩
theorem we_yX6_readCarrier : Wd (.selects yX6_readCarrier.cls yX6_readCarrier yX6_readCarrier) := ⟨List.mem_of_getElem? (i := 62) (by decide +kernel), rfl⟩
theorem wc_yX6_readNumber : Wd (.code yX6_readNumber cX6_readNumber 1 (some .boolean)) := ⟨List.mem_of_getElem? (i := 1322) (by decide +kernel), rfl⟩
theorem wi_yX6_readNumber : Wd (.instanceMethod yX6_readNumber) := ⟨List.mem_of_getElem? (i := 1321) (by decide +kernel), rfl⟩
theorem we_yX6_readNumber : Wd (.selects yX6_readNumber.cls yX6_readNumber yX6_readNumber) := ⟨List.mem_of_getElem? (i := 63) (by decide +kernel), rfl⟩
theorem wc_yX6_refuse : Wd (.code yX6_refuse cX6_refuse 2 (some .boolean)) := ⟨List.mem_of_getElem? (i := 1326) (by decide +kernel), rfl⟩
theorem wi_yX6_refuse : Wd (.instanceMethod yX6_refuse) := ⟨List.mem_of_getElem? (i := 1325) (by decide +kernel), rfl⟩
theorem we_yX6_refuse : Wd (.selects yX6_refuse.cls yX6_refuse yX6_refuse) := ⟨List.mem_of_getElem? (i := 64) (by decide +kernel), rfl⟩
theorem wc_yX6_takes : Wd (.code yX6_takes cX6_takes 3 (some .boolean)) := ⟨List.mem_of_getElem? (i := 1330) (by decide +kernel), rfl⟩
theorem wi_yX6_takes : Wd (.instanceMethod yX6_takes) := ⟨List.mem_of_getElem? (i := 1329) (by decide +kernel), rfl⟩
theorem we_yX6_takes : Wd (.selects yX6_takes.cls yX6_takes yX6_takes) := ⟨List.mem_of_getElem? (i := 65) (by decide +kernel), rfl⟩
theorem wc_yX6_readMixer : Wd (.code yX6_readMixer cX6_readMixer 3 (some .boolean)) := ⟨List.mem_of_getElem? (i := 1334) (by decide +kernel), rfl⟩
theorem wi_yX6_readMixer : Wd (.instanceMethod yX6_readMixer) := ⟨List.mem_of_getElem? (i := 1333) (by decide +kernel), rfl⟩
theorem we_yX6_readMixer : Wd (.selects yX6_readMixer.cls yX6_readMixer yX6_readMixer) := ⟨List.mem_of_getElem? (i := 66) (by decide +kernel), rfl⟩
theorem wc_yX6_undo : Wd (.code yX6_undo cX6_undo 2 (some .int)) := ⟨List.mem_of_getElem? (i := 1338) (by decide +kernel), rfl⟩
theorem wi_yX6_undo : Wd (.instanceMethod yX6_undo) := ⟨List.mem_of_getElem? (i := 1336) (by decide +kernel), rfl⟩
theorem we_yX6_undo : Wd (.selects yX6_undo.cls yX6_undo yX6_undo) := ⟨List.mem_of_getElem? (i := 1337) (by decide +kernel), rfl⟩
theorem wc_yX6_digest : Wd (.code yX6_digest cX6_digest 2 (some .long)) := ⟨List.mem_of_getElem? (i := 1342) (by decide +kernel), rfl⟩
theorem wi_yX6_digest : Wd (.instanceMethod yX6_digest) := ⟨List.mem_of_getElem? (i := 1340) (by decide +kernel), rfl⟩
theorem we_yX6_digest : Wd (.selects yX6_digest.cls yX6_digest yX6_digest) := ⟨List.mem_of_getElem? (i := 1341) (by decide +kernel), rfl⟩
theorem wc_yX6_mix : Wd (.code yX6_mix cX6_mix 3 none) := ⟨List.mem_of_getElem? (i := 1347) (by decide +kernel), rfl⟩
theorem wi_yX6_mix : Wd (.instanceMethod yX6_mix) := ⟨List.mem_of_getElem? (i := 1346) (by decide +kernel), rfl⟩
theorem we_yX6_mix : Wd (.selects yX6_mix.cls yX6_mix yX6_mix) := ⟨List.mem_of_getElem? (i := 67) (by decide +kernel), rfl⟩
theorem wz_X0 : Wd (.initialized RX0) := ⟨List.mem_of_getElem? (i := 73) (by decide +kernel), rfl⟩
theorem wz_X1 : Wd (.initialized RX1) := ⟨List.mem_of_getElem? (i := 70) (by decide +kernel), rfl⟩
theorem wz_X2 : Wd (.initialized RX2) := ⟨List.mem_of_getElem? (i := 71) (by decide +kernel), rfl⟩
theorem wz_X3 : Wd (.initialized RX3) := ⟨List.mem_of_getElem? (i := 72) (by decide +kernel), rfl⟩
theorem wz_X4 : Wd (.initialized RX4) := ⟨List.mem_of_getElem? (i := 74) (by decide +kernel), rfl⟩
theorem wz_X5 : Wd (.initialized RX5) := ⟨List.mem_of_getElem? (i := 69) (by decide +kernel), rfl⟩
theorem wz_X6 : Wd (.initialized RX6) := ⟨List.mem_of_getElem? (i := 75) (by decide +kernel), rfl⟩
theorem wz_L : Wd (.initialized RL) := ⟨List.mem_of_getElem? (i := 68) (by decide +kernel), rfl⟩
theorem wz_J6 : Wd (.initialized RJ6) := ⟨List.mem_of_getElem? (i := 84) (by decide +kernel), rfl⟩
theorem cw_L_97 : CwE RL 97 yX5_init cX5_init 1 none 0 := ⟨⟨List.mem_of_getElem? (i := 87) (by decide +kernel), rfl⟩, wc_yX5_init, wz_X5, ⟨by decide, by decide⟩, by decide +kernel⟩
theorem wl_X5_1 : Wd (.methodLink RX5 1 objectInit) := ⟨List.mem_of_getElem? (i := 90) (by decide +kernel), rfl⟩
theorem cw_X5_9 : CwE RX5 9 yX1_init cX1_init 1 none 0 := ⟨⟨List.mem_of_getElem? (i := 95) (by decide +kernel), rfl⟩, wc_yX1_init, wz_X1, ⟨by decide, by decide⟩, by decide +kernel⟩
theorem wl_X1_3 : Wd (.methodLink RX1 3 objectInit) := ⟨List.mem_of_getElem? (i := 98) (by decide +kernel), rfl⟩
theorem cw_X5_21 : CwE RX5 21 yX2_init cX2_init 2 none 0 := ⟨⟨List.mem_of_getElem? (i := 167) (by decide +kernel), rfl⟩, wc_yX2_init, wz_X2, ⟨by decide, by decide⟩, by decide +kernel⟩
theorem wl_X2_3 : Wd (.methodLink RX2 3 objectInit) := ⟨List.mem_of_getElem? (i := 170) (by decide +kernel), rfl⟩
theorem cw_X2_17 : CwE RX2 17 yX1_init cX1_init 1 none 0 := ⟨⟨List.mem_of_getElem? (i := 173) (by decide +kernel), rfl⟩, wc_yX1_init, wz_X1, ⟨by decide, by decide⟩, by decide +kernel⟩
theorem cw_X5_28 : CwE RX5 28 yX3_init cX3_init 1 none 0 := ⟨⟨List.mem_of_getElem? (i := 187) (by decide +kernel), rfl⟩, wc_yX3_init, wz_X3, ⟨by decide, by decide⟩, by decide +kernel⟩
theorem wl_X3_3 : Wd (.methodLink RX3 3 objectInit) := ⟨List.mem_of_getElem? (i := 190) (by decide +kernel), rfl⟩
theorem cw_X5_35 : CwE RX5 35 yX0_init cX0_init 1 none 0 := ⟨⟨List.mem_of_getElem? (i := 201) (by decide +kernel), rfl⟩, wc_yX0_init, wz_X0, ⟨by decide, by decide⟩, by decide +kernel⟩
theorem wl_X0_3 : Wd (.methodLink RX0 3 objectInit) := ⟨List.mem_of_getElem? (i := 204) (by decide +kernel), rfl⟩
theorem cw_X5_42 : CwE RX5 42 yX4_init cX4_init 1 none 0 := ⟨⟨List.mem_of_getElem? (i := 240) (by decide +kernel), rfl⟩, wc_yX4_init, wz_X4, ⟨by decide, by decide⟩, by decide +kernel⟩
theorem wl_X4_3 : Wd (.methodLink RX4 3 objectInit) := ⟨List.mem_of_getElem? (i := 243) (by decide +kernel), rfl⟩
theorem cw_L_134 : CwE RL 134 yX5_channels cX5_channels 4 (some .long) 0 := ⟨⟨List.mem_of_getElem? (i := 283) (by decide +kernel), rfl⟩, wc_yX5_channels, wz_X5, ⟨by decide, by decide⟩, by decide +kernel⟩
theorem cw_X5_92 : CwE RX5 92 yX1_channelOf cX1_channelOf 2 (some .int) 1 := ⟨⟨List.mem_of_getElem? (i := 287) (by decide +kernel), rfl⟩, wc_yX1_channelOf, wz_X1, ⟨by decide, by decide⟩, by decide +kernel⟩
theorem cw_X1_64 : CwE RX1 64 yX1_hasCarrier cX1_hasCarrier 2 (some .boolean) 1 := ⟨⟨List.mem_of_getElem? (i := 291) (by decide +kernel), rfl⟩, wc_yX1_hasCarrier, wz_X1, ⟨by decide, by decide⟩, by decide +kernel⟩
theorem cw_L_139 : CwE RL 139 yX5_products cX5_products 1 (some .int) 0 := ⟨⟨List.mem_of_getElem? (i := 295) (by decide +kernel), rfl⟩, wc_yX5_products, wz_X5, ⟨by decide, by decide⟩, by decide +kernel⟩
theorem cw_X5_146 : CwE RX5 146 yX1_everyCarrier cX1_everyCarrier 1 (some .int) 0 := ⟨⟨List.mem_of_getElem? (i := 299) (by decide +kernel), rfl⟩, wc_yX1_everyCarrier, wz_X1, ⟨by decide, by decide⟩, by decide +kernel⟩
theorem cw_X5_150 : CwE RX5 150 yX3_gather cX3_gather 3 none 2 := ⟨⟨List.mem_of_getElem? (i := 303) (by decide +kernel), rfl⟩, wc_yX3_gather, wz_X3, ⟨by decide, by decide⟩, by decide +kernel⟩
theorem cw_X3_24 : CwE RX3 24 yX3_gatherPairs cX3_gatherPairs 11 none 3 := ⟨⟨List.mem_of_getElem? (i := 307) (by decide +kernel), rfl⟩, wc_yX3_gatherPairs, wz_X3, ⟨by decide, by decide⟩, by decide +kernel⟩
theorem cw_X3_41 : CwN RX3 41 yX5_isIn "ChannelSpacer" cX5_isIn 3 (some .boolean) 2 := ⟨⟨List.mem_of_getElem? (i := 311) (by decide +kernel), rfl⟩, wc_yX5_isIn, wz_X5, ⟨by decide, by decide⟩, by decide +kernel⟩
theorem cw_X3_45 : CwE RX3 45 yX1_channelOf cX1_channelOf 2 (some .int) 1 := ⟨⟨List.mem_of_getElem? (i := 314) (by decide +kernel), rfl⟩, wc_yX1_channelOf, wz_X1, ⟨by decide, by decide⟩, by decide +kernel⟩
theorem cw_X3_49 : CwE RX3 49 yX1_levelOf cX1_levelOf 2 (some .int) 1 := ⟨⟨List.mem_of_getElem? (i := 315) (by decide +kernel), rfl⟩, wc_yX1_levelOf, wz_X1, ⟨by decide, by decide⟩, by decide +kernel⟩
theorem cw_X3_52 : CwE RX3 52 yX3_put cX3_put 8 none 6 := ⟨⟨List.mem_of_getElem? (i := 319) (by decide +kernel), rfl⟩, wc_yX3_put, wz_X3, ⟨by decide, by decide⟩, by decide +kernel⟩
theorem cw_X3_56 : CwN RX3 56 yX5_isChannel "ChannelSpacer" cX5_isChannel 1 (some .boolean) 1 := ⟨⟨List.mem_of_getElem? (i := 323) (by decide +kernel), rfl⟩, wc_yX5_isChannel, wz_X5, ⟨by decide, by decide⟩, by decide +kernel⟩
theorem cw_X3_28 : CwE RX3 28 yX3_gatherTriples cX3_gatherTriples 8 none 2 := ⟨⟨List.mem_of_getElem? (i := 326) (by decide +kernel), rfl⟩, wc_yX3_gatherTriples, wz_X3, ⟨by decide, by decide⟩, by decide +kernel⟩
theorem cw_L_149 : CwE RL 149 yX5_hits cX5_hits 3 (some .int) 0 := ⟨⟨List.mem_of_getElem? (i := 330) (by decide +kernel), rfl⟩, wc_yX5_hits, wz_X5, ⟨by decide, by decide⟩, by decide +kernel⟩
theorem cw_X5_173 : CwE RX5 173 yX3_countNear cX3_countNear 5 (some .int) 2 := ⟨⟨List.mem_of_getElem? (i := 334) (by decide +kernel), rfl⟩, wc_yX3_countNear, wz_X3, ⟨by decide, by decide⟩, by decide +kernel⟩
theorem cw_X3_60 : CwE RX3 60 yX3_fact cX3_fact 3 (some .int) 2 := ⟨⟨List.mem_of_getElem? (i := 338) (by decide +kernel), rfl⟩, wc_yX3_fact, wz_X3, ⟨by decide, by decide⟩, by decide +kernel⟩
theorem wl_X3_64 : Wd (.methodLink RX3 64 Lib.Math.abs.name) := ⟨List.mem_of_getElem? (i := 342) (by decide +kernel), rfl⟩
theorem cw_L_156 : CwE RL 156 yX5_isClean cX5_isClean 1 (some .boolean) 0 := ⟨⟨List.mem_of_getElem? (i := 345) (by decide +kernel), rfl⟩, wc_yX5_isClean, wz_X5, ⟨by decide, by decide⟩, by decide +kernel⟩
theorem cw_X5_176 : CwE RX5 176 yX5_standsClean cX5_standsClean 3 (some .boolean) 1 := ⟨⟨List.mem_of_getElem? (i := 349) (by decide +kernel), rfl⟩, wc_yX5_standsClean, wz_X5, ⟨by decide, by decide⟩, by decide +kernel⟩
theorem cw_X5_331 : CwE RX5 331 yX0_start cX0_start 2 none 1 := ⟨⟨List.mem_of_getElem? (i := 353) (by decide +kernel), rfl⟩, wc_yX0_start, wz_X0, ⟨by decide, by decide⟩, by decide +kernel⟩
theorem cw_X5_326 : CwE RX5 326 yX5_isIn cX5_isIn 3 (some .boolean) 2 := ⟨⟨List.mem_of_getElem? (i := 357) (by decide +kernel), rfl⟩, wc_yX5_isIn, wz_X5, ⟨by decide, by decide⟩, by decide +kernel⟩
theorem cw_X5_143 : CwE RX5 143 yX1_levelOf cX1_levelOf 2 (some .int) 1 := ⟨⟨List.mem_of_getElem? (i := 358) (by decide +kernel), rfl⟩, wc_yX1_levelOf, wz_X1, ⟨by decide, by decide⟩, by decide +kernel⟩
theorem cw_X5_334 : CwE RX5 334 yX0_join cX0_join 7 (some .boolean) 2 := ⟨⟨List.mem_of_getElem? (i := 359) (by decide +kernel), rfl⟩, wc_yX0_join, wz_X0, ⟨by decide, by decide⟩, by decide +kernel⟩
theorem cw_X0_51 : CwE RX0 51 yX0_isCrowded cX0_isCrowded 3 (some .boolean) 1 := ⟨⟨List.mem_of_getElem? (i := 363) (by decide +kernel), rfl⟩, wc_yX0_isCrowded, wz_X0, ⟨by decide, by decide⟩, by decide +kernel⟩
theorem wl_X0_72 : Wd (.methodLink RX0 72 Lib.Math.abs.name) := ⟨List.mem_of_getElem? (i := 367) (by decide +kernel), rfl⟩
theorem cw_X0_55 : CwE RX0 55 yX0_guardedBy cX0_guardedBy 5 (some .long) 1 := ⟨⟨List.mem_of_getElem? (i := 368) (by decide +kernel), rfl⟩, wc_yX0_guardedBy, wz_X0, ⟨by decide, by decide⟩, by decide +kernel⟩
theorem cw_X0_59 : CwE RX0 59 yX0_pairsWith cX0_pairsWith 8 (some .long) 2 := ⟨⟨List.mem_of_getElem? (i := 372) (by decide +kernel), rfl⟩, wc_yX0_pairsWith, wz_X0, ⟨by decide, by decide⟩, by decide +kernel⟩
theorem cw_X0_76 : CwE RX0 76 yX0_bitOf cX0_bitOf 2 (some .long) 2 := ⟨⟨List.mem_of_getElem? (i := 376) (by decide +kernel), rfl⟩, wc_yX0_bitOf, wz_X0, ⟨by decide, by decide⟩, by decide +kernel⟩
theorem cw_X0_79 : CwN RX0 79 yX5_isChannel "ChannelSpacer" cX5_isChannel 1 (some .boolean) 1 := ⟨⟨List.mem_of_getElem? (i := 379) (by decide +kernel), rfl⟩, wc_yX5_isChannel, wz_X5, ⟨by decide, by decide⟩, by decide +kernel⟩
theorem cw_X0_63 : CwE RX0 63 yX0_triplesWith cX0_triplesWith 10 (some .long) 2 := ⟨⟨List.mem_of_getElem? (i := 380) (by decide +kernel), rfl⟩, wc_yX0_triplesWith, wz_X0, ⟨by decide, by decide⟩, by decide +kernel⟩
theorem cw_L_161 : CwE RL 161 yX5_closest cX5_closest 5 (some .int) 0 := ⟨⟨List.mem_of_getElem? (i := 384) (by decide +kernel), rfl⟩, wc_yX5_closest, wz_X5, ⟨by decide, by decide⟩, by decide +kernel⟩
theorem wl_X5_179 : Wd (.methodLink RX5 179 Lib.Math.abs.name) := ⟨List.mem_of_getElem? (i := 388) (by decide +kernel), rfl⟩
theorem cw_L_165 : CwE RL 165 yX5_removal cX5_removal 4 (some .int) 0 := ⟨⟨List.mem_of_getElem? (i := 389) (by decide +kernel), rfl⟩, wc_yX5_removal, wz_X5, ⟨by decide, by decide⟩, by decide +kernel⟩
theorem cw_X5_184 : CwE RX5 184 yJ6_bitCount_0f7a4 cJ6_bitCount_0f7a4 1 (some .int) 1 := ⟨⟨List.mem_of_getElem? (i := 393) (by decide +kernel), rfl⟩, wc_yJ6_bitCount_0f7a4, wz_J6, ⟨by decide, by decide⟩, by decide +kernel⟩
theorem cw_L_203 : CwE RL 203 yX5_diagnoses cX5_diagnoses 1 (some .int) 0 := ⟨⟨List.mem_of_getElem? (i := 399) (by decide +kernel), rfl⟩, wc_yX5_diagnoses, wz_X5, ⟨by decide, by decide⟩, by decide +kernel⟩
theorem cw_X5_244 : CwE RX5 244 yX5_countDiagnoses cX5_countDiagnoses 3 (some .int) 0 := ⟨⟨List.mem_of_getElem? (i := 403) (by decide +kernel), rfl⟩, wc_yX5_countDiagnoses, wz_X5, ⟨by decide, by decide⟩, by decide +kernel⟩
theorem cw_X5_252 : CwE RX5 252 yX1_everyMixer cX1_everyMixer 1 (some .int) 0 := ⟨⟨List.mem_of_getElem? (i := 407) (by decide +kernel), rfl⟩, wc_yX1_everyMixer, wz_X1, ⟨by decide, by decide⟩, by decide +kernel⟩
theorem cw_X5_255 : CwE RX5 255 yX1_fitsTests cX1_fitsTests 4 (some .boolean) 1 := ⟨⟨List.mem_of_getElem? (i := 411) (by decide +kernel), rfl⟩, wc_yX1_fitsTests, wz_X1, ⟨by decide, by decide⟩, by decide +kernel⟩
theorem cw_L_207 : CwE RL 207 yX5_diagnosis cX5_diagnosis 3 (some .int) 0 := ⟨⟨List.mem_of_getElem? (i := 415) (by decide +kernel), rfl⟩, wc_yX5_diagnosis, wz_X5, ⟨by decide, by decide⟩, by decide +kernel⟩
theorem cw_L_211 : CwE RL 211 yX5_certain cX5_certain 5 (some .int) 1 := ⟨⟨List.mem_of_getElem? (i := 419) (by decide +kernel), rfl⟩, wc_yX5_certain, wz_X5, ⟨by decide, by decide⟩, by decide +kernel⟩
theorem cw_L_222 : CwE RL 222 yX5_clearText cX5_clearText 2 (some .int) 0 := ⟨⟨List.mem_of_getElem? (i := 423) (by decide +kernel), rfl⟩, wc_yX5_clearText, wz_X5, ⟨by decide, by decide⟩, by decide +kernel⟩
theorem cw_L_226 : CwE RL 226 yX5_parse cX5_parse 2 (some .int) 0 := ⟨⟨List.mem_of_getElem? (i := 427) (by decide +kernel), rfl⟩, wc_yX5_parse, wz_X5, ⟨by decide, by decide⟩, by decide +kernel⟩
theorem cw_X5_274 : CwE RX5 274 yX1_takeFrom cX1_takeFrom 2 none 1 := ⟨⟨List.mem_of_getElem? (i := 431) (by decide +kernel), rfl⟩, wc_yX1_takeFrom, wz_X1, ⟨by decide, by decide⟩, by decide +kernel⟩
theorem wl_X1_58 : Wd (.methodLink RX1 58 arraycopyName) := ⟨List.mem_of_getElem? (i := 435) (by decide +kernel), rfl⟩
theorem cw_X5_277 : CwE RX5 277 yX1_empty cX1_empty 1 none 0 := ⟨⟨List.mem_of_getElem? (i := 438) (by decide +kernel), rfl⟩, wc_yX1_empty, wz_X1, ⟨by decide, by decide⟩, by decide +kernel⟩
theorem cw_X5_280 : CwE RX5 280 yX4_readInto cX4_readInto 3 (some .int) 1 := ⟨⟨List.mem_of_getElem? (i := 442) (by decide +kernel), rfl⟩, wc_yX4_readInto, wz_X4, ⟨by decide, by decide⟩, by decide +kernel⟩
theorem cw_X4_25 : CwE RX4 25 yX4_readItem cX4_readItem 3 none 1 := ⟨⟨List.mem_of_getElem? (i := 446) (by decide +kernel), rfl⟩, wc_yX4_readItem, wz_X4, ⟨by decide, by decide⟩, by decide +kernel⟩
theorem cw_X4_29 : CwE RX4 29 yX4_byteAt cX4_byteAt 2 (some .int) 1 := ⟨⟨List.mem_of_getElem? (i := 450) (by decide +kernel), rfl⟩, wc_yX4_byteAt, wz_X4, ⟨by decide, by decide⟩, by decide +kernel⟩
theorem cw_X4_38 : CwE RX4 38 yX4_readCarrier cX4_readCarrier 4 none 1 := ⟨⟨List.mem_of_getElem? (i := 454) (by decide +kernel), rfl⟩, wc_yX4_readCarrier, wz_X4, ⟨by decide, by decide⟩, by decide +kernel⟩
theorem cw_X4_47 : CwE RX4 47 yX4_readNumber cX4_readNumber 3 (some .int) 0 := ⟨⟨List.mem_of_getElem? (i := 458) (by decide +kernel), rfl⟩, wc_yX4_readNumber, wz_X4, ⟨by decide, by decide⟩, by decide +kernel⟩
theorem cw_X4_90 : CwE RX4 90 yX4_isDigit cX4_isDigit 1 (some .boolean) 1 := ⟨⟨List.mem_of_getElem? (i := 462) (by decide +kernel), rfl⟩, wc_yX4_isDigit, wz_X4, ⟨by decide, by decide⟩, by decide +kernel⟩
theorem cw_X4_51 : CwN RX4 51 yX5_isChannel "ChannelSpacer" cX5_isChannel 1 (some .boolean) 1 := ⟨⟨List.mem_of_getElem? (i := 465) (by decide +kernel), rfl⟩, wc_yX5_isChannel, wz_X5, ⟨by decide, by decide⟩, by decide +kernel⟩
theorem cw_X4_55 : CwE RX4 55 yX1_carrierOn cX1_carrierOn 3 (some .int) 1 := ⟨⟨List.mem_of_getElem? (i := 466) (by decide +kernel), rfl⟩, wc_yX1_carrierOn, wz_X1, ⟨by decide, by decide⟩, by decide +kernel⟩
theorem cw_X1_68 : CwE RX1 68 yX1_channelOf cX1_channelOf 2 (some .int) 1 := ⟨⟨List.mem_of_getElem? (i := 470) (by decide +kernel), rfl⟩, wc_yX1_channelOf, wz_X1, ⟨by decide, by decide⟩, by decide +kernel⟩
theorem cw_X4_58 : CwE RX4 58 yX4_refuseNumberIf cX4_refuseNumberIf 2 none 1 := ⟨⟨List.mem_of_getElem? (i := 471) (by decide +kernel), rfl⟩, wc_yX4_refuseNumberIf, wz_X4, ⟨by decide, by decide⟩, by decide +kernel⟩
theorem cw_X4_62 : CwE RX4 62 yX4_expect cX4_expect 2 none 1 := ⟨⟨List.mem_of_getElem? (i := 475) (by decide +kernel), rfl⟩, wc_yX4_expect, wz_X4, ⟨by decide, by decide⟩, by decide +kernel⟩
theorem cw_X4_66 : CwN RX4 66 yX5_isLevel "ChannelSpacer" cX5_isLevel 1 (some .boolean) 1 := ⟨⟨List.mem_of_getElem? (i := 479) (by decide +kernel), rfl⟩, wc_yX5_isLevel, wz_X5, ⟨by decide, by decide⟩, by decide +kernel⟩
theorem cw_X4_69 : CwE RX4 69 yX1_putCarrier cX1_putCarrier 3 none 2 := ⟨⟨List.mem_of_getElem? (i := 482) (by decide +kernel), rfl⟩, wc_yX1_putCarrier, wz_X1, ⟨by decide, by decide⟩, by decide +kernel⟩
theorem cw_X1_72 : CwE RX1 72 yX1_setCarrier cX1_setCarrier 4 none 3 := ⟨⟨List.mem_of_getElem? (i := 486) (by decide +kernel), rfl⟩, wc_yX1_setCarrier, wz_X1, ⟨by decide, by decide⟩, by decide +kernel⟩
theorem cw_X4_44 : CwE RX4 44 yX4_readMixer cX4_readMixer 4 none 1 := ⟨⟨List.mem_of_getElem? (i := 490) (by decide +kernel), rfl⟩, wc_yX4_readMixer, wz_X4, ⟨by decide, by decide⟩, by decide +kernel⟩
theorem cw_X4_73 : CwE RX4 73 yX4_readMember cX4_readMember 5 (some .int) 2 := ⟨⟨List.mem_of_getElem? (i := 494) (by decide +kernel), rfl⟩, wc_yX4_readMember, wz_X4, ⟨by decide, by decide⟩, by decide +kernel⟩
theorem cw_X4_80 : CwE RX4 80 yX1_hasCarrier cX1_hasCarrier 2 (some .boolean) 1 := ⟨⟨List.mem_of_getElem? (i := 498) (by decide +kernel), rfl⟩, wc_yX1_hasCarrier, wz_X1, ⟨by decide, by decide⟩, by decide +kernel⟩
theorem cw_X4_83 : CwN RX4 83 yX5_isIn "ChannelSpacer" cX5_isIn 3 (some .boolean) 2 := ⟨⟨List.mem_of_getElem? (i := 499) (by decide +kernel), rfl⟩, wc_yX5_isIn, wz_X5, ⟨by decide, by decide⟩, by decide +kernel⟩
theorem cw_X4_77 : CwE RX4 77 yX1_putMixer cX1_putMixer 2 none 1 := ⟨⟨List.mem_of_getElem? (i := 500) (by decide +kernel), rfl⟩, wc_yX1_putMixer, wz_X1, ⟨by decide, by decide⟩, by decide +kernel⟩
theorem cw_X1_82 : CwE RX1 82 yX1_setMembers cX1_setMembers 3 none 2 := ⟨⟨List.mem_of_getElem? (i := 504) (by decide +kernel), rfl⟩, wc_yX1_setMembers, wz_X1, ⟨by decide, by decide⟩, by decide +kernel⟩
theorem cw_X1_86 : CwE RX1 86 yX1_hasMixer cX1_hasMixer 2 (some .boolean) 1 := ⟨⟨List.mem_of_getElem? (i := 508) (by decide +kernel), rfl⟩, wc_yX1_hasMixer, wz_X1, ⟨by decide, by decide⟩, by decide +kernel⟩
theorem cw_X5_72 : CwE RX5 72 yX2_push cX2_push 3 none 1 := ⟨⟨List.mem_of_getElem? (i := 512) (by decide +kernel), rfl⟩, wc_yX2_push, wz_X2, ⟨by decide, by decide⟩, by decide +kernel⟩
theorem cw_X2_22 : CwE RX2 22 yX2_deskAt cX2_deskAt 2 (some (.object "ChannelSpacer$Desk")) 1 := ⟨⟨List.mem_of_getElem? (i := 516) (by decide +kernel), rfl⟩, wc_yX2_deskAt, wz_X2, ⟨by decide, by decide⟩, by decide +kernel⟩
theorem cw_X2_26 : CwE RX2 26 yX1_takeFrom cX1_takeFrom 2 none 1 := ⟨⟨List.mem_of_getElem? (i := 520) (by decide +kernel), rfl⟩, wc_yX1_takeFrom, wz_X1, ⟨by decide, by decide⟩, by decide +kernel⟩
theorem wl_X2_33 : Wd (.methodLink RX2 33 Lib.Math.min.name) := ⟨List.mem_of_getElem? (i := 521) (by decide +kernel), rfl⟩
theorem cw_L_234 : CwE RL 234 yX5_digest cX5_digest 5 (some .long) 0 := ⟨⟨List.mem_of_getElem? (i := 524) (by decide +kernel), rfl⟩, wc_yX5_digest, wz_X5, ⟨by decide, by decide⟩, by decide +kernel⟩
theorem cw_X5_294 : CwE RX5 294 yX5_products cX5_products 1 (some .int) 0 := ⟨⟨List.mem_of_getElem? (i := 530) (by decide +kernel), rfl⟩, wc_yX5_products, wz_X5, ⟨by decide, by decide⟩, by decide +kernel⟩
theorem cw_X5_297 : CwE RX5 297 yX5_hits cX5_hits 3 (some .int) 0 := ⟨⟨List.mem_of_getElem? (i := 531) (by decide +kernel), rfl⟩, wc_yX5_hits, wz_X5, ⟨by decide, by decide⟩, by decide +kernel⟩
theorem cw_X5_223 : CwE RX5 223 yX1_membersOf cX1_membersOf 2 (some .int) 1 := ⟨⟨List.mem_of_getElem? (i := 532) (by decide +kernel), rfl⟩, wc_yX1_membersOf, wz_X1, ⟨by decide, by decide⟩, by decide +kernel⟩
theorem cw_X5_249 : CwE RX5 249 yX1_testFact cX1_testFact 3 (some .int) 2 := ⟨⟨List.mem_of_getElem? (i := 536) (by decide +kernel), rfl⟩, wc_yX1_testFact, wz_X1, ⟨by decide, by decide⟩, by decide +kernel⟩
theorem cw_X1_89 : CwE RX1 89 yX1_hasTest cX1_hasTest 2 (some .boolean) 1 := ⟨⟨List.mem_of_getElem? (i := 540) (by decide +kernel), rfl⟩, wc_yX1_hasTest, wz_X1, ⟨by decide, by decide⟩, by decide +kernel⟩
theorem cw_X5_300 : CwE RX5 300 yX5_diagnoses cX5_diagnoses 1 (some .int) 0 := ⟨⟨List.mem_of_getElem? (i := 544) (by decide +kernel), rfl⟩, wc_yX5_diagnoses, wz_X5, ⟨by decide, by decide⟩, by decide +kernel⟩
theorem cw_X5_303 : CwE RX5 303 yX5_diagnosis cX5_diagnosis 3 (some .int) 0 := ⟨⟨List.mem_of_getElem? (i := 545) (by decide +kernel), rfl⟩, wc_yX5_diagnosis, wz_X5, ⟨by decide, by decide⟩, by decide +kernel⟩
theorem cw_L_7 : CwE RL 7 yX5_addCarrier cX5_addCarrier 3 (some .int) 2 := ⟨⟨List.mem_of_getElem? (i := 551) (by decide +kernel), rfl⟩, wc_yX5_addCarrier, wz_X5, ⟨by decide, by decide⟩, by decide +kernel⟩
theorem cw_X5_51 : CwE RX5 51 yX5_isChannel cX5_isChannel 1 (some .boolean) 1 := ⟨⟨List.mem_of_getElem? (i := 555) (by decide +kernel), rfl⟩, wc_yX5_isChannel, wz_X5, ⟨by decide, by decide⟩, by decide +kernel⟩
theorem cw_X5_55 : CwE RX5 55 yX5_isLevel cX5_isLevel 1 (some .boolean) 1 := ⟨⟨List.mem_of_getElem? (i := 556) (by decide +kernel), rfl⟩, wc_yX5_isLevel, wz_X5, ⟨by decide, by decide⟩, by decide +kernel⟩
theorem cw_X5_58 : CwE RX5 58 yX1_carrierOn cX1_carrierOn 3 (some .int) 1 := ⟨⟨List.mem_of_getElem? (i := 557) (by decide +kernel), rfl⟩, wc_yX1_carrierOn, wz_X1, ⟨by decide, by decide⟩, by decide +kernel⟩
theorem cw_X5_69 : CwE RX5 69 yX5_needRoomForCarrier cX5_needRoomForCarrier 1 none 0 := ⟨⟨List.mem_of_getElem? (i := 626) (by decide +kernel), rfl⟩, wc_yX5_needRoomForCarrier, wz_X5, ⟨by decide, by decide⟩, by decide +kernel⟩
theorem cw_X5_76 : CwE RX5 76 yX1_putCarrier cX1_putCarrier 3 none 2 := ⟨⟨List.mem_of_getElem? (i := 646) (by decide +kernel), rfl⟩, wc_yX1_putCarrier, wz_X1, ⟨by decide, by decide⟩, by decide +kernel⟩
theorem cw_L_17 : CwE RL 17 yX5_moveCarrier cX5_moveCarrier 6 (some .int) 3 := ⟨⟨List.mem_of_getElem? (i := 651) (by decide +kernel), rfl⟩, wc_yX5_moveCarrier, wz_X5, ⟨by decide, by decide⟩, by decide +kernel⟩
theorem cw_X5_84 : CwE RX5 84 yX5_needCarrier cX5_needCarrier 2 none 1 := ⟨⟨List.mem_of_getElem? (i := 655) (by decide +kernel), rfl⟩, wc_yX5_needCarrier, wz_X5, ⟨by decide, by decide⟩, by decide +kernel⟩
theorem cw_X5_314 : CwE RX5 314 yX1_hasCarrier cX1_hasCarrier 2 (some .boolean) 1 := ⟨⟨List.mem_of_getElem? (i := 659) (by decide +kernel), rfl⟩, wc_yX1_hasCarrier, wz_X1, ⟨by decide, by decide⟩, by decide +kernel⟩
theorem cw_X5_95 : CwE RX5 95 yX1_setCarrier cX1_setCarrier 4 none 3 := ⟨⟨List.mem_of_getElem? (i := 678) (by decide +kernel), rfl⟩, wc_yX1_setCarrier, wz_X1, ⟨by decide, by decide⟩, by decide +kernel⟩
theorem cw_L_23 : CwE RL 23 yX5_removeCarrier cX5_removeCarrier 2 (some .int) 1 := ⟨⟨List.mem_of_getElem? (i := 682) (by decide +kernel), rfl⟩, wc_yX5_removeCarrier, wz_X5, ⟨by decide, by decide⟩, by decide +kernel⟩
theorem cw_X5_99 : CwE RX5 99 yX1_takeOut cX1_takeOut 5 none 1 := ⟨⟨List.mem_of_getElem? (i := 686) (by decide +kernel), rfl⟩, wc_yX1_takeOut, wz_X1, ⟨by decide, by decide⟩, by decide +kernel⟩
theorem cw_X1_76 : CwE RX1 76 yX1_levelOf cX1_levelOf 2 (some .int) 1 := ⟨⟨List.mem_of_getElem? (i := 690) (by decide +kernel), rfl⟩, wc_yX1_levelOf, wz_X1, ⟨by decide, by decide⟩, by decide +kernel⟩
theorem cw_X1_79 : CwE RX1 79 yX1_membersOf cX1_membersOf 2 (some .int) 1 := ⟨⟨List.mem_of_getElem? (i := 691) (by decide +kernel), rfl⟩, wc_yX1_membersOf, wz_X1, ⟨by decide, by decide⟩, by decide +kernel⟩
theorem cw_L_27 : CwE RL 27 yX5_shift cX5_shift 3 (some .int) 1 := ⟨⟨List.mem_of_getElem? (i := 695) (by decide +kernel), rfl⟩, wc_yX5_shift, wz_X5, ⟨by decide, by decide⟩, by decide +kernel⟩
theorem cw_X5_109 : CwE RX5 109 yX1_shiftAll cX1_shiftAll 3 none 1 := ⟨⟨List.mem_of_getElem? (i := 701) (by decide +kernel), rfl⟩, wc_yX1_shiftAll, wz_X1, ⟨by decide, by decide⟩, by decide +kernel⟩
theorem cw_L_30 : CwE RL 30 yX5_setProducts cX5_setProducts 5 (some .int) 3 := ⟨⟨List.mem_of_getElem? (i := 708) (by decide +kernel), rfl⟩, wc_yX5_setProducts, wz_X5, ⟨by decide, by decide⟩, by decide +kernel⟩
theorem cw_X5_112 : CwE RX5 112 yX5_isWithin cX5_isWithin 3 (some .boolean) 3 := ⟨⟨List.mem_of_getElem? (i := 712) (by decide +kernel), rfl⟩, wc_yX5_isWithin, wz_X5, ⟨by decide, by decide⟩, by decide +kernel⟩
theorem cw_L_33 : CwE RL 33 yX5_setSpacing cX5_setSpacing 4 (some .int) 2 := ⟨⟨List.mem_of_getElem? (i := 719) (by decide +kernel), rfl⟩, wc_yX5_setSpacing, wz_X5, ⟨by decide, by decide⟩, by decide +kernel⟩
theorem cw_L_36 : CwE RL 36 yX5_size cX5_size 2 (some .int) 1 := ⟨⟨List.mem_of_getElem? (i := 727) (by decide +kernel), rfl⟩, wc_yX5_size, wz_X5, ⟨by decide, by decide⟩, by decide +kernel⟩
theorem cw_L_39 : CwE RL 39 yX5_carrier cX5_carrier 3 (some .int) 2 := ⟨⟨List.mem_of_getElem? (i := 735) (by decide +kernel), rfl⟩, wc_yX5_carrier, wz_X5, ⟨by decide, by decide⟩, by decide +kernel⟩
theorem cw_L_43 : CwE RL 43 yX5_product cX5_product 3 (some .int) 2 := ⟨⟨List.mem_of_getElem? (i := 742) (by decide +kernel), rfl⟩, wc_yX5_product, wz_X5, ⟨by decide, by decide⟩, by decide +kernel⟩
theorem cw_X5_162 : CwE RX5 162 yX3_fact cX3_fact 3 (some .int) 2 := ⟨⟨List.mem_of_getElem? (i := 747) (by decide +kernel), rfl⟩, wc_yX3_fact, wz_X3, ⟨by decide, by decide⟩, by decide +kernel⟩
theorem cw_L_46 : CwE RL 46 yX5_fallout cX5_fallout 2 (some .long) 1 := ⟨⟨List.mem_of_getElem? (i := 751) (by decide +kernel), rfl⟩, wc_yX5_fallout, wz_X5, ⟨by decide, by decide⟩, by decide +kernel⟩
theorem cw_X5_166 : CwE RX5 166 yX5_needSetOfCarriers cX5_needSetOfCarriers 2 none 1 := ⟨⟨List.mem_of_getElem? (i := 755) (by decide +kernel), rfl⟩, wc_yX5_needSetOfCarriers, wz_X5, ⟨by decide, by decide⟩, by decide +kernel⟩
theorem cw_X5_169 : CwE RX5 169 yX5_falloutOf cX5_falloutOf 2 (some .long) 1 := ⟨⟨List.mem_of_getElem? (i := 760) (by decide +kernel), rfl⟩, wc_yX5_falloutOf, wz_X5, ⟨by decide, by decide⟩, by decide +kernel⟩
theorem cw_X5_330 : CwE RX5 330 yX3_channelSet cX3_channelSet 4 (some .long) 0 := ⟨⟨List.mem_of_getElem? (i := 764) (by decide +kernel), rfl⟩, wc_yX3_channelSet, wz_X3, ⟨by decide, by decide⟩, by decide +kernel⟩
theorem cw_L_50 : CwE RL 50 yX5_hitsOn cX5_hitsOn 2 (some .int) 1 := ⟨⟨List.mem_of_getElem? (i := 771) (by decide +kernel), rfl⟩, wc_yX5_hitsOn, wz_X5, ⟨by decide, by decide⟩, by decide +kernel⟩
theorem cw_L_53 : CwE RL 53 yX5_leastSpan cX5_leastSpan 2 (some .int) 1 := ⟨⟨List.mem_of_getElem? (i := 778) (by decide +kernel), rfl⟩, wc_yX5_leastSpan, wz_X5, ⟨by decide, by decide⟩, by decide +kernel⟩
theorem cw_X5_189 : CwE RX5 189 yX5_needMarks cX5_needMarks 2 none 2 := ⟨⟨List.mem_of_getElem? (i := 782) (by decide +kernel), rfl⟩, wc_yX5_needMarks, wz_X5, ⟨by decide, by decide⟩, by decide +kernel⟩
theorem cw_X5_192 : CwE RX5 192 yX5_findBestRuler cX5_findBestRuler 3 (some .int) 1 := ⟨⟨List.mem_of_getElem? (i := 786) (by decide +kernel), rfl⟩, wc_yX5_findBestRuler, wz_X5, ⟨by decide, by decide⟩, by decide +kernel⟩
theorem cw_X5_201 : CwE RX5 201 yX5_countRulers cX5_countRulers 4 (some .int) 3 := ⟨⟨List.mem_of_getElem? (i := 790) (by decide +kernel), rfl⟩, wc_yX5_countRulers, wz_X5, ⟨by decide, by decide⟩, by decide +kernel⟩
theorem cw_X5_341 : CwE RX5 341 yX5_countInner cX5_countInner 8 (some .int) 5 := ⟨⟨List.mem_of_getElem? (i := 794) (by decide +kernel), rfl⟩, wc_yX5_countInner, wz_X5, ⟨by decide, by decide⟩, by decide +kernel⟩
theorem cw_X5_338 : CwE RX5 338 yX0_leave cX0_leave 1 none 0 := ⟨⟨List.mem_of_getElem? (i := 797) (by decide +kernel), rfl⟩, wc_yX0_leave, wz_X0, ⟨by decide, by decide⟩, by decide +kernel⟩
theorem wl_X0_66 : Wd (.methodLink RX0 66 Lib.Math.max.name) := ⟨List.mem_of_getElem? (i := 801) (by decide +kernel), rfl⟩
theorem cw_L_56 : CwE RL 56 yX5_bestRuler cX5_bestRuler 2 (some .long) 1 := ⟨⟨List.mem_of_getElem? (i := 807) (by decide +kernel), rfl⟩, wc_yX5_bestRuler, wz_X5, ⟨by decide, by decide⟩, by decide +kernel⟩
theorem cw_X5_195 : CwE RX5 195 yX0_channelSet cX0_channelSet 4 (some .long) 0 := ⟨⟨List.mem_of_getElem? (i := 811) (by decide +kernel), rfl⟩, wc_yX0_channelSet, wz_X0, ⟨by decide, by decide⟩, by decide +kernel⟩
theorem cw_L_59 : CwE RL 59 yX5_rulers cX5_rulers 3 (some .int) 2 := ⟨⟨List.mem_of_getElem? (i := 818) (by decide +kernel), rfl⟩, wc_yX5_rulers, wz_X5, ⟨by decide, by decide⟩, by decide +kernel⟩
theorem cw_L_62 : CwE RL 62 yX5_openings cX5_openings 2 (some .long) 1 := ⟨⟨List.mem_of_getElem? (i := 826) (by decide +kernel), rfl⟩, wc_yX5_openings, wz_X5, ⟨by decide, by decide⟩, by decide +kernel⟩
theorem cw_X5_205 : CwE RX5 205 yX5_needLevel cX5_needLevel 1 none 1 := ⟨⟨List.mem_of_getElem? (i := 830) (by decide +kernel), rfl⟩, wc_yX5_needLevel, wz_X5, ⟨by decide, by decide⟩, by decide +kernel⟩
theorem cw_X5_208 : CwE RX5 208 yX5_openChannels cX5_openChannels 5 (some .long) 1 := ⟨⟨List.mem_of_getElem? (i := 834) (by decide +kernel), rfl⟩, wc_yX5_openChannels, wz_X5, ⟨by decide, by decide⟩, by decide +kernel⟩
theorem cw_L_65 : CwE RL 65 yX5_putIn cX5_putIn 3 (some .int) 1 := ⟨⟨List.mem_of_getElem? (i := 841) (by decide +kernel), rfl⟩, wc_yX5_putIn, wz_X5, ⟨by decide, by decide⟩, by decide +kernel⟩
theorem cw_X5_211 : CwE RX5 211 yX5_lowestOf cX5_lowestOf 3 (some .int) 1 := ⟨⟨List.mem_of_getElem? (i := 845) (by decide +kernel), rfl⟩, wc_yX5_lowestOf, wz_X5, ⟨by decide, by decide⟩, by decide +kernel⟩
theorem cw_L_68 : CwE RL 68 yX5_addMixer cX5_addMixer 2 (some .int) 1 := ⟨⟨List.mem_of_getElem? (i := 851) (by decide +kernel), rfl⟩, wc_yX5_addMixer, wz_X5, ⟨by decide, by decide⟩, by decide +kernel⟩
theorem cw_X5_217 : CwE RX5 217 yX1_putMixer cX1_putMixer 2 none 1 := ⟨⟨List.mem_of_getElem? (i := 856) (by decide +kernel), rfl⟩, wc_yX1_putMixer, wz_X1, ⟨by decide, by decide⟩, by decide +kernel⟩
theorem cw_L_71 : CwE RL 71 yX5_setMember cX5_setMember 6 (some .int) 3 := ⟨⟨List.mem_of_getElem? (i := 860) (by decide +kernel), rfl⟩, wc_yX5_setMember, wz_X5, ⟨by decide, by decide⟩, by decide +kernel⟩
theorem cw_X5_220 : CwE RX5 220 yX5_needMixer cX5_needMixer 2 none 1 := ⟨⟨List.mem_of_getElem? (i := 864) (by decide +kernel), rfl⟩, wc_yX5_needMixer, wz_X5, ⟨by decide, by decide⟩, by decide +kernel⟩
theorem cw_X5_319 : CwE RX5 319 yX1_hasMixer cX1_hasMixer 2 (some .boolean) 1 := ⟨⟨List.mem_of_getElem? (i := 868) (by decide +kernel), rfl⟩, wc_yX1_hasMixer, wz_X1, ⟨by decide, by decide⟩, by decide +kernel⟩
theorem cw_X5_226 : CwE RX5 226 yX1_setMembers cX1_setMembers 3 none 2 := ⟨⟨List.mem_of_getElem? (i := 870) (by decide +kernel), rfl⟩, wc_yX1_setMembers, wz_X1, ⟨by decide, by decide⟩, by decide +kernel⟩
theorem cw_L_75 : CwE RL 75 yX5_mixer cX5_mixer 2 (some .int) 1 := ⟨⟨List.mem_of_getElem? (i := 874) (by decide +kernel), rfl⟩, wc_yX5_mixer, wz_X5, ⟨by decide, by decide⟩, by decide +kernel⟩
theorem cw_L_78 : CwE RL 78 yX5_addTest cX5_addTest 4 (some .int) 3 := ⟨⟨List.mem_of_getElem? (i := 881) (by decide +kernel), rfl⟩, wc_yX5_addTest, wz_X5, ⟨by decide, by decide⟩, by decide +kernel⟩
theorem cw_X5_229 : CwE RX5 229 yX5_needChannel cX5_needChannel 1 none 1 := ⟨⟨List.mem_of_getElem? (i := 885) (by decide +kernel), rfl⟩, wc_yX5_needChannel, wz_X5, ⟨by decide, by decide⟩, by decide +kernel⟩
theorem cw_X5_234 : CwE RX5 234 yX5_mixActive cX5_mixActive 3 none 1 := ⟨⟨List.mem_of_getElem? (i := 890) (by decide +kernel), rfl⟩, wc_yX5_mixActive, wz_X5, ⟨by decide, by decide⟩, by decide +kernel⟩
theorem cw_X5_237 : CwE RX5 237 yX5_mixersOn cX5_mixersOn 4 (some .int) 1 := ⟨⟨List.mem_of_getElem? (i := 894) (by decide +kernel), rfl⟩, wc_yX5_mixersOn, wz_X5, ⟨by decide, by decide⟩, by decide +kernel⟩
theorem cw_X5_240 : CwE RX5 240 yX1_putTest cX1_putTest 5 none 4 := ⟨⟨List.mem_of_getElem? (i := 898) (by decide +kernel), rfl⟩, wc_yX1_putTest, wz_X1, ⟨by decide, by decide⟩, by decide +kernel⟩
theorem cw_L_81 : CwE RL 81 yX5_test cX5_test 3 (some .int) 2 := ⟨⟨List.mem_of_getElem? (i := 905) (by decide +kernel), rfl⟩, wc_yX5_test, wz_X5, ⟨by decide, by decide⟩, by decide +kernel⟩
theorem cw_L_84 : CwE RL 84 yX5_heard cX5_heard 3 (some .int) 2 := ⟨⟨List.mem_of_getElem? (i := 913) (by decide +kernel), rfl⟩, wc_yX5_heard, wz_X5, ⟨by decide, by decide⟩, by decide +kernel⟩
theorem cw_L_87 : CwE RL 87 yX5_bestTest cX5_bestTest 8 (some .int) 1 := ⟨⟨List.mem_of_getElem? (i := 920) (by decide +kernel), rfl⟩, wc_yX5_bestTest, wz_X5, ⟨by decide, by decide⟩, by decide +kernel⟩
theorem cw_X5_258 : CwE RX5 258 yX5_countHeard cX5_countHeard 4 (some .int) 1 := ⟨⟨List.mem_of_getElem? (i := 924) (by decide +kernel), rfl⟩, wc_yX5_countHeard, wz_X5, ⟨by decide, by decide⟩, by decide +kernel⟩
theorem wl_X5_261 : Wd (.methodLink RX5 261 Lib.Math.max.name) := ⟨List.mem_of_getElem? (i := 928) (by decide +kernel), rfl⟩
theorem cw_L_90 : CwE RL 90 yX5_append cX5_append 2 (some .int) 1 := ⟨⟨List.mem_of_getElem? (i := 932) (by decide +kernel), rfl⟩, wc_yX5_append, wz_X5, ⟨by decide, by decide⟩, by decide +kernel⟩
theorem cw_X5_271 : CwE RX5 271 yX4_put cX4_put 2 none 1 := ⟨⟨List.mem_of_getElem? (i := 938) (by decide +kernel), rfl⟩, wc_yX4_put, wz_X4, ⟨by decide, by decide⟩, by decide +kernel⟩
theorem cw_L_93 : CwE RL 93 yX5_undo cX5_undo 1 (some .int) 0 := ⟨⟨List.mem_of_getElem? (i := 945) (by decide +kernel), rfl⟩, wc_yX5_undo, wz_X5, ⟨by decide, by decide⟩, by decide +kernel⟩
theorem cw_X5_287 : CwE RX5 287 yX2_popInto cX2_popInto 3 none 1 := ⟨⟨List.mem_of_getElem? (i := 950) (by decide +kernel), rfl⟩, wc_yX2_popInto, wz_X2, ⟨by decide, by decide⟩, by decide +kernel⟩
theorem wl_X2_39 : Wd (.methodLink RX2 39 Lib.Math.max.name) := ⟨List.mem_of_getElem? (i := 954) (by decide +kernel), rfl⟩
theorem cw_L_100 : CwE RL 100 yX6_init cX6_init 1 none 0 := ⟨⟨List.mem_of_getElem? (i := 957) (by decide +kernel), rfl⟩, wc_yX6_init, wz_X6, ⟨by decide, by decide⟩, by decide +kernel⟩
theorem wl_X6_1 : Wd (.methodLink RX6 1 objectInit) := ⟨List.mem_of_getElem? (i := 960) (by decide +kernel), rfl⟩
theorem cw_L_107 : CwE RL 107 yX6_thrown cX6_thrown 1 (some .int) 0 := ⟨⟨List.mem_of_getElem? (i := 1031) (by decide +kernel), rfl⟩, wc_yX6_thrown, wz_X6, ⟨by decide, by decide⟩, by decide +kernel⟩
theorem cw_L_106 : CwE RL 106 yX6_addCarrier cX6_addCarrier 3 (some .int) 2 := ⟨⟨List.mem_of_getElem? (i := 1035) (by decide +kernel), rfl⟩, wc_yX6_addCarrier, wz_X6, ⟨by decide, by decide⟩, by decide +kernel⟩
theorem cw_X6_69 : CwE RX6 69 yX6_isFit cX6_isFit 4 (some .boolean) 3 := ⟨⟨List.mem_of_getElem? (i := 1039) (by decide +kernel), rfl⟩, wc_yX6_isFit, wz_X6, ⟨by decide, by decide⟩, by decide +kernel⟩
theorem cw_X6_61 : CwE RX6 61 yX6_isChannel cX6_isChannel 1 (some .boolean) 1 := ⟨⟨List.mem_of_getElem? (i := 1043) (by decide +kernel), rfl⟩, wc_yX6_isChannel, wz_X6, ⟨by decide, by decide⟩, by decide +kernel⟩
theorem cw_X6_53 : CwE RX6 53 yX6_in cX6_in 3 (some .boolean) 3 := ⟨⟨List.mem_of_getElem? (i := 1046) (by decide +kernel), rfl⟩, wc_yX6_in, wz_X6, ⟨by decide, by decide⟩, by decide +kernel⟩
theorem cw_X6_65 : CwE RX6 65 yX6_isTaken cX6_isTaken 5 (some .boolean) 2 := ⟨⟨List.mem_of_getElem? (i := 1049) (by decide +kernel), rfl⟩, wc_yX6_isTaken, wz_X6, ⟨by decide, by decide⟩, by decide +kernel⟩
theorem cw_X6_57 : CwE RX6 57 yX6_channelOf cX6_channelOf 2 (some .int) 1 := ⟨⟨List.mem_of_getElem? (i := 1053) (by decide +kernel), rfl⟩, wc_yX6_channelOf, wz_X6, ⟨by decide, by decide⟩, by decide +kernel⟩
theorem cw_X6_72 : CwE RX6 72 yX6_change cX6_change 1 none 0 := ⟨⟨List.mem_of_getElem? (i := 1057) (by decide +kernel), rfl⟩, wc_yX6_change, wz_X6, ⟨by decide, by decide⟩, by decide +kernel⟩
theorem cw_X6_50 : CwE RX6 50 yX6_keep cX6_keep 2 none 0 := ⟨⟨List.mem_of_getElem? (i := 1061) (by decide +kernel), rfl⟩, wc_yX6_keep, wz_X6, ⟨by decide, by decide⟩, by decide +kernel⟩
theorem cw_X6_75 : CwE RX6 75 yX6_lay cX6_lay 4 none 3 := ⟨⟨List.mem_of_getElem? (i := 1065) (by decide +kernel), rfl⟩, wc_yX6_lay, wz_X6, ⟨by decide, by decide⟩, by decide +kernel⟩
theorem cw_L_113 : CwE RL 113 yX6_moveCarrier cX6_moveCarrier 5 (some .int) 3 := ⟨⟨List.mem_of_getElem? (i := 1069) (by decide +kernel), rfl⟩, wc_yX6_moveCarrier, wz_X6, ⟨by decide, by decide⟩, by decide +kernel⟩
theorem cw_X6_79 : CwE RX6 79 yX6_isCarrier cX6_isCarrier 2 (some .boolean) 1 := ⟨⟨List.mem_of_getElem? (i := 1073) (by decide +kernel), rfl⟩, wc_yX6_isCarrier, wz_X6, ⟨by decide, by decide⟩, by decide +kernel⟩
theorem cw_L_117 : CwE RL 117 yX6_removeCarrier cX6_removeCarrier 4 (some .int) 1 := ⟨⟨List.mem_of_getElem? (i := 1077) (by decide +kernel), rfl⟩, wc_yX6_removeCarrier, wz_X6, ⟨by decide, by decide⟩, by decide +kernel⟩
theorem cw_X6_82 : CwE RX6 82 yX6_levelOf cX6_levelOf 2 (some .int) 1 := ⟨⟨List.mem_of_getElem? (i := 1081) (by decide +kernel), rfl⟩, wc_yX6_levelOf, wz_X6, ⟨by decide, by decide⟩, by decide +kernel⟩
theorem cw_L_120 : CwE RL 120 yX6_shift cX6_shift 4 (some .int) 1 := ⟨⟨List.mem_of_getElem? (i := 1085) (by decide +kernel), rfl⟩, wc_yX6_shift, wz_X6, ⟨by decide, by decide⟩, by decide +kernel⟩
theorem cw_L_123 : CwE RL 123 yX6_setProducts cX6_setProducts 5 (some .int) 3 := ⟨⟨List.mem_of_getElem? (i := 1089) (by decide +kernel), rfl⟩, wc_yX6_setProducts, wz_X6, ⟨by decide, by decide⟩, by decide +kernel⟩
theorem cw_L_126 : CwE RL 126 yX6_setSpacing cX6_setSpacing 4 (some .int) 2 := ⟨⟨List.mem_of_getElem? (i := 1093) (by decide +kernel), rfl⟩, wc_yX6_setSpacing, wz_X6, ⟨by decide, by decide⟩, by decide +kernel⟩
theorem cw_L_129 : CwE RL 129 yX6_size cX6_size 2 (some .int) 1 := ⟨⟨List.mem_of_getElem? (i := 1097) (by decide +kernel), rfl⟩, wc_yX6_size, wz_X6, ⟨by decide, by decide⟩, by decide +kernel⟩
theorem cw_L_133 : CwE RL 133 yX6_carrier cX6_carrier 3 (some .int) 2 := ⟨⟨List.mem_of_getElem? (i := 1101) (by decide +kernel), rfl⟩, wc_yX6_carrier, wz_X6, ⟨by decide, by decide⟩, by decide +kernel⟩
theorem cw_L_138 : CwE RL 138 yX6_channels cX6_channels 4 (some .long) 0 := ⟨⟨List.mem_of_getElem? (i := 1105) (by decide +kernel), rfl⟩, wc_yX6_channels, wz_X6, ⟨by decide, by decide⟩, by decide +kernel⟩
theorem cw_L_142 : CwE RL 142 yX6_products cX6_products 1 (some .int) 0 := ⟨⟨List.mem_of_getElem? (i := 1109) (by decide +kernel), rfl⟩, wc_yX6_products, wz_X6, ⟨by decide, by decide⟩, by decide +kernel⟩
theorem cw_X6_105 : CwE RX6 105 yX6_all cX6_all 1 (some .int) 0 := ⟨⟨List.mem_of_getElem? (i := 1113) (by decide +kernel), rfl⟩, wc_yX6_all, wz_X6, ⟨by decide, by decide⟩, by decide +kernel⟩
theorem cw_X6_109 : CwE RX6 109 yX6_listAll cX6_listAll 8 none 1 := ⟨⟨List.mem_of_getElem? (i := 1117) (by decide +kernel), rfl⟩, wc_yX6_listAll, wz_X6, ⟨by decide, by decide⟩, by decide +kernel⟩
theorem cw_X6_98 : CwE RX6 98 yX6_rowsOfAll cX6_rowsOfAll 2 none 0 := ⟨⟨List.mem_of_getElem? (i := 1121) (by decide +kernel), rfl⟩, wc_yX6_rowsOfAll, wz_X6, ⟨by decide, by decide⟩, by decide +kernel⟩
theorem cw_X6_85 : CwE RX6 85 yX6_has cX6_has 2 (some .boolean) 2 := ⟨⟨List.mem_of_getElem? (i := 1125) (by decide +kernel), rfl⟩, wc_yX6_has, wz_X6, ⟨by decide, by decide⟩, by decide +kernel⟩
theorem cw_X6_101 : CwE RX6 101 yX6_lists cX6_lists 7 none 4 := ⟨⟨List.mem_of_getElem? (i := 1128) (by decide +kernel), rfl⟩, wc_yX6_lists, wz_X6, ⟨by decide, by decide⟩, by decide +kernel⟩
theorem cw_X6_92 : CwE RX6 92 yX6_falls cX6_falls 6 (some .int) 4 := ⟨⟨List.mem_of_getElem? (i := 1132) (by decide +kernel), rfl⟩, wc_yX6_falls, wz_X6, ⟨by decide, by decide⟩, by decide +kernel⟩
theorem cw_X6_88 : CwE RX6 88 yX6_level cX6_level 5 (some .int) 4 := ⟨⟨List.mem_of_getElem? (i := 1136) (by decide +kernel), rfl⟩, wc_yX6_level, wz_X6, ⟨by decide, by decide⟩, by decide +kernel⟩
theorem cw_L_145 : CwE RL 145 yX6_product cX6_product 3 (some .int) 2 := ⟨⟨List.mem_of_getElem? (i := 1140) (by decide +kernel), rfl⟩, wc_yX6_product, wz_X6, ⟨by decide, by decide⟩, by decide +kernel⟩
theorem cw_L_148 : CwE RL 148 yX6_fallout cX6_fallout 2 (some .long) 1 := ⟨⟨List.mem_of_getElem? (i := 1144) (by decide +kernel), rfl⟩, wc_yX6_fallout, wz_X6, ⟨by decide, by decide⟩, by decide +kernel⟩
theorem cw_X6_113 : CwE RX6 113 yX6_isSet cX6_isSet 2 (some .boolean) 1 := ⟨⟨List.mem_of_getElem? (i := 1148) (by decide +kernel), rfl⟩, wc_yX6_isSet, wz_X6, ⟨by decide, by decide⟩, by decide +kernel⟩
theorem cw_X6_116 : CwE RX6 116 yX6_falloutOf cX6_falloutOf 5 (some .long) 1 := ⟨⟨List.mem_of_getElem? (i := 1152) (by decide +kernel), rfl⟩, wc_yX6_falloutOf, wz_X6, ⟨by decide, by decide⟩, by decide +kernel⟩
theorem cw_L_152 : CwE RL 152 yX6_hits cX6_hits 1 (some .int) 0 := ⟨⟨List.mem_of_getElem? (i := 1156) (by decide +kernel), rfl⟩, wc_yX6_hits, wz_X6, ⟨by decide, by decide⟩, by decide +kernel⟩
theorem cw_X6_126 : CwE RX6 126 yX6_hitsAll cX6_hitsAll 3 (some .int) 0 := ⟨⟨List.mem_of_getElem? (i := 1160) (by decide +kernel), rfl⟩, wc_yX6_hitsAll, wz_X6, ⟨by decide, by decide⟩, by decide +kernel⟩
theorem cw_X6_123 : CwE RX6 123 yX6_hitsAt cX6_hitsAt 4 (some .int) 1 := ⟨⟨List.mem_of_getElem? (i := 1164) (by decide +kernel), rfl⟩, wc_yX6_hitsAt, wz_X6, ⟨by decide, by decide⟩, by decide +kernel⟩
theorem cw_X6_120 : CwE RX6 120 yX6_isNear cX6_isNear 3 (some .boolean) 2 := ⟨⟨List.mem_of_getElem? (i := 1168) (by decide +kernel), rfl⟩, wc_yX6_isNear, wz_X6, ⟨by decide, by decide⟩, by decide +kernel⟩
theorem cw_L_155 : CwE RL 155 yX6_hitsOn cX6_hitsOn 2 (some .int) 1 := ⟨⟨List.mem_of_getElem? (i := 1172) (by decide +kernel), rfl⟩, wc_yX6_hitsOn, wz_X6, ⟨by decide, by decide⟩, by decide +kernel⟩
theorem cw_L_160 : CwE RL 160 yX6_isClean cX6_isClean 1 (some .boolean) 0 := ⟨⟨List.mem_of_getElem? (i := 1176) (by decide +kernel), rfl⟩, wc_yX6_isClean, wz_X6, ⟨by decide, by decide⟩, by decide +kernel⟩
theorem cw_X6_132 : CwE RX6 132 yX6_isRowClean cX6_isRowClean 6 (some .boolean) 1 := ⟨⟨List.mem_of_getElem? (i := 1180) (by decide +kernel), rfl⟩, wc_yX6_isRowClean, wz_X6, ⟨by decide, by decide⟩, by decide +kernel⟩
theorem cw_X6_129 : CwE RX6 129 yX6_hitsRow cX6_hitsRow 5 (some .boolean) 2 := ⟨⟨List.mem_of_getElem? (i := 1184) (by decide +kernel), rfl⟩, wc_yX6_hitsRow, wz_X6, ⟨by decide, by decide⟩, by decide +kernel⟩
theorem cw_L_164 : CwE RL 164 yX6_closest cX6_closest 5 (some .int) 0 := ⟨⟨List.mem_of_getElem? (i := 1188) (by decide +kernel), rfl⟩, wc_yX6_closest, wz_X6, ⟨by decide, by decide⟩, by decide +kernel⟩
theorem cw_L_168 : CwE RL 168 yX6_removal cX6_removal 3 (some .int) 0 := ⟨⟨List.mem_of_getElem? (i := 1192) (by decide +kernel), rfl⟩, wc_yX6_removal, wz_X6, ⟨by decide, by decide⟩, by decide +kernel⟩
theorem cw_X6_135 : CwE RX6 135 yX6_bits cX6_bits 3 (some .int) 1 := ⟨⟨List.mem_of_getElem? (i := 1196) (by decide +kernel), rfl⟩, wc_yX6_bits, wz_X6, ⟨by decide, by decide⟩, by decide +kernel⟩
theorem cw_X6_138 : CwE RX6 138 yX6_isCleanWithout cX6_isCleanWithout 4 (some .boolean) 1 := ⟨⟨List.mem_of_getElem? (i := 1199) (by decide +kernel), rfl⟩, wc_yX6_isCleanWithout, wz_X6, ⟨by decide, by decide⟩, by decide +kernel⟩
theorem cw_L_171 : CwE RL 171 yX6_leastSpan cX6_leastSpan 2 (some .int) 1 := ⟨⟨List.mem_of_getElem? (i := 1203) (by decide +kernel), rfl⟩, wc_yX6_leastSpan, wz_X6, ⟨by decide, by decide⟩, by decide +kernel⟩
theorem cw_X6_152 : CwE RX6 152 yX6_least cX6_least 3 (some .int) 1 := ⟨⟨List.mem_of_getElem? (i := 1207) (by decide +kernel), rfl⟩, wc_yX6_least, wz_X6, ⟨by decide, by decide⟩, by decide +kernel⟩
theorem cw_X6_148 : CwE RX6 148 yX6_seek cX6_seek 6 (some .int) 3 := ⟨⟨List.mem_of_getElem? (i := 1211) (by decide +kernel), rfl⟩, wc_yX6_seek, wz_X6, ⟨by decide, by decide⟩, by decide +kernel⟩
theorem cw_X6_145 : CwE RX6 145 yX6_laysFirst cX6_laysFirst 3 none 1 := ⟨⟨List.mem_of_getElem? (i := 1215) (by decide +kernel), rfl⟩, wc_yX6_laysFirst, wz_X6, ⟨by decide, by decide⟩, by decide +kernel⟩
theorem cw_L_174 : CwE RL 174 yX6_bestRuler cX6_bestRuler 2 (some .long) 1 := ⟨⟨List.mem_of_getElem? (i := 1219) (by decide +kernel), rfl⟩, wc_yX6_bestRuler, wz_X6, ⟨by decide, by decide⟩, by decide +kernel⟩
theorem cw_L_177 : CwE RL 177 yX6_rulers cX6_rulers 3 (some .int) 2 := ⟨⟨List.mem_of_getElem? (i := 1223) (by decide +kernel), rfl⟩, wc_yX6_rulers, wz_X6, ⟨by decide, by decide⟩, by decide +kernel⟩
theorem cw_L_180 : CwE RL 180 yX6_openings cX6_openings 2 (some .long) 1 := ⟨⟨List.mem_of_getElem? (i := 1227) (by decide +kernel), rfl⟩, wc_yX6_openings, wz_X6, ⟨by decide, by decide⟩, by decide +kernel⟩
theorem cw_X6_155 : CwE RX6 155 yX6_openingsFor cX6_openingsFor 5 (some .long) 1 := ⟨⟨List.mem_of_getElem? (i := 1231) (by decide +kernel), rfl⟩, wc_yX6_openingsFor, wz_X6, ⟨by decide, by decide⟩, by decide +kernel⟩
theorem cw_L_183 : CwE RL 183 yX6_putIn cX6_putIn 5 (some .int) 1 := ⟨⟨List.mem_of_getElem? (i := 1235) (by decide +kernel), rfl⟩, wc_yX6_putIn, wz_X6, ⟨by decide, by decide⟩, by decide +kernel⟩
theorem cw_L_186 : CwE RL 186 yX6_addMixer cX6_addMixer 2 (some .int) 1 := ⟨⟨List.mem_of_getElem? (i := 1239) (by decide +kernel), rfl⟩, wc_yX6_addMixer, wz_X6, ⟨by decide, by decide⟩, by decide +kernel⟩
theorem cw_L_190 : CwE RL 190 yX6_setMember cX6_setMember 5 (some .int) 3 := ⟨⟨List.mem_of_getElem? (i := 1243) (by decide +kernel), rfl⟩, wc_yX6_setMember, wz_X6, ⟨by decide, by decide⟩, by decide +kernel⟩
theorem cw_X6_158 : CwE RX6 158 yX6_isMixer cX6_isMixer 2 (some .boolean) 1 := ⟨⟨List.mem_of_getElem? (i := 1247) (by decide +kernel), rfl⟩, wc_yX6_isMixer, wz_X6, ⟨by decide, by decide⟩, by decide +kernel⟩
theorem cw_L_193 : CwE RL 193 yX6_mixer cX6_mixer 2 (some .int) 1 := ⟨⟨List.mem_of_getElem? (i := 1251) (by decide +kernel), rfl⟩, wc_yX6_mixer, wz_X6, ⟨by decide, by decide⟩, by decide +kernel⟩
theorem cw_L_196 : CwE RL 196 yX6_addTest cX6_addTest 5 (some .int) 3 := ⟨⟨List.mem_of_getElem? (i := 1255) (by decide +kernel), rfl⟩, wc_yX6_addTest, wz_X6, ⟨by decide, by decide⟩, by decide +kernel⟩
theorem cw_X6_168 : CwE RX6 168 yX6_diagnose cX6_diagnose 4 none 0 := ⟨⟨List.mem_of_getElem? (i := 1259) (by decide +kernel), rfl⟩, wc_yX6_diagnose, wz_X6, ⟨by decide, by decide⟩, by decide +kernel⟩
theorem cw_X6_161 : CwE RX6 161 yX6_heardBy cX6_heardBy 5 (some .int) 2 := ⟨⟨List.mem_of_getElem? (i := 1263) (by decide +kernel), rfl⟩, wc_yX6_heardBy, wz_X6, ⟨by decide, by decide⟩, by decide +kernel⟩
theorem cw_L_199 : CwE RL 199 yX6_test cX6_test 3 (some .int) 2 := ⟨⟨List.mem_of_getElem? (i := 1267) (by decide +kernel), rfl⟩, wc_yX6_test, wz_X6, ⟨by decide, by decide⟩, by decide +kernel⟩
theorem cw_L_202 : CwE RL 202 yX6_heard cX6_heard 3 (some .int) 2 := ⟨⟨List.mem_of_getElem? (i := 1271) (by decide +kernel), rfl⟩, wc_yX6_heard, wz_X6, ⟨by decide, by decide⟩, by decide +kernel⟩
theorem cw_L_206 : CwE RL 206 yX6_diagnoses cX6_diagnoses 1 (some .int) 0 := ⟨⟨List.mem_of_getElem? (i := 1275) (by decide +kernel), rfl⟩, wc_yX6_diagnoses, wz_X6, ⟨by decide, by decide⟩, by decide +kernel⟩
theorem cw_L_210 : CwE RL 210 yX6_diagnosis cX6_diagnosis 1 (some .int) 0 := ⟨⟨List.mem_of_getElem? (i := 1279) (by decide +kernel), rfl⟩, wc_yX6_diagnosis, wz_X6, ⟨by decide, by decide⟩, by decide +kernel⟩
theorem cw_X6_171 : CwE RX6 171 yX6_best cX6_best 3 (some .int) 0 := ⟨⟨List.mem_of_getElem? (i := 1283) (by decide +kernel), rfl⟩, wc_yX6_best, wz_X6, ⟨by decide, by decide⟩, by decide +kernel⟩
theorem cw_L_215 : CwE RL 215 yX6_certain cX6_certain 4 (some .int) 1 := ⟨⟨List.mem_of_getElem? (i := 1287) (by decide +kernel), rfl⟩, wc_yX6_certain, wz_X6, ⟨by decide, by decide⟩, by decide +kernel⟩
theorem cw_L_218 : CwE RL 218 yX6_bestTest cX6_bestTest 8 (some .int) 1 := ⟨⟨List.mem_of_getElem? (i := 1291) (by decide +kernel), rfl⟩, wc_yX6_bestTest, wz_X6, ⟨by decide, by decide⟩, by decide +kernel⟩
theorem cw_L_221 : CwE RL 221 yX6_append cX6_append 2 (some .int) 1 := ⟨⟨List.mem_of_getElem? (i := 1295) (by decide +kernel), rfl⟩, wc_yX6_append, wz_X6, ⟨by decide, by decide⟩, by decide +kernel⟩
theorem cw_L_225 : CwE RL 225 yX6_clearText cX6_clearText 2 (some .int) 0 := ⟨⟨List.mem_of_getElem? (i := 1299) (by decide +kernel), rfl⟩, wc_yX6_clearText, wz_X6, ⟨by decide, by decide⟩, by decide +kernel⟩
theorem cw_L_229 : CwE RL 229 yX6_parse cX6_parse 3 (some .int) 0 := ⟨⟨List.mem_of_getElem? (i := 1303) (by decide +kernel), rfl⟩, wc_yX6_parse, wz_X6, ⟨by decide, by decide⟩, by decide +kernel⟩
theorem cw_X6_212 : CwE RX6 212 yX6_readAll cX6_readAll 3 (some .int) 0 := ⟨⟨List.mem_of_getElem? (i := 1307) (by decide +kernel), rfl⟩, wc_yX6_readAll, wz_X6, ⟨by decide, by decide⟩, by decide +kernel⟩
theorem cw_X6_180 : CwE RX6 180 yX6_here cX6_here 1 (some .int) 0 := ⟨⟨List.mem_of_getElem? (i := 1311) (by decide +kernel), rfl⟩, wc_yX6_here, wz_X6, ⟨by decide, by decide⟩, by decide +kernel⟩
theorem cw_X6_206 : CwE RX6 206 yX6_readCarrier cX6_readCarrier 3 (some .boolean) 0 := ⟨⟨List.mem_of_getElem? (i := 1315) (by decide +kernel), rfl⟩, wc_yX6_readCarrier, wz_X6, ⟨by decide, by decide⟩, by decide +kernel⟩
theorem cw_X6_192 : CwE RX6 192 yX6_readNumber cX6_readNumber 1 (some .boolean) 0 := ⟨⟨List.mem_of_getElem? (i := 1319) (by decide +kernel), rfl⟩, wc_yX6_readNumber, wz_X6, ⟨by decide, by decide⟩, by decide +kernel⟩
theorem cw_X6_196 : CwE RX6 196 yX6_refuse cX6_refuse 2 (some .boolean) 1 := ⟨⟨List.mem_of_getElem? (i := 1323) (by decide +kernel), rfl⟩, wc_yX6_refuse, wz_X6, ⟨by decide, by decide⟩, by decide +kernel⟩
theorem cw_X6_200 : CwE RX6 200 yX6_takes cX6_takes 3 (some .boolean) 1 := ⟨⟨List.mem_of_getElem? (i := 1327) (by decide +kernel), rfl⟩, wc_yX6_takes, wz_X6, ⟨by decide, by decide⟩, by decide +kernel⟩
theorem cw_X6_209 : CwE RX6 209 yX6_readMixer cX6_readMixer 3 (some .boolean) 0 := ⟨⟨List.mem_of_getElem? (i := 1331) (by decide +kernel), rfl⟩, wc_yX6_readMixer, wz_X6, ⟨by decide, by decide⟩, by decide +kernel⟩
theorem cw_L_233 : CwE RL 233 yX6_undo cX6_undo 2 (some .int) 0 := ⟨⟨List.mem_of_getElem? (i := 1335) (by decide +kernel), rfl⟩, wc_yX6_undo, wz_X6, ⟨by decide, by decide⟩, by decide +kernel⟩
theorem cw_L_237 : CwE RL 237 yX6_digest cX6_digest 2 (some .long) 0 := ⟨⟨List.mem_of_getElem? (i := 1339) (by decide +kernel), rfl⟩, wc_yX6_digest, wz_X6, ⟨by decide, by decide⟩, by decide +kernel⟩
theorem cw_X6_222 : CwE RX6 222 yX6_mix cX6_mix 3 none 1 := ⟨⟨List.mem_of_getElem? (i := 1344) (by decide +kernel), rfl⟩, wc_yX6_mix, wz_X6, ⟨by decide, by decide⟩, by decide +kernel⟩
theorem wc_abs : Wd (.code Lib.Math.abs.name Lib.Math.abs.code 1 (some .int)) := ⟨List.mem_of_getElem? (i := 344) (by decide +kernel), rfl⟩
theorem ws_abs : Wd (.static Lib.Math.abs.name) := ⟨List.mem_of_getElem? (i := 343) (by decide +kernel), rfl⟩
theorem wc_max : Wd (.code Lib.Math.max.name Lib.Math.max.code 2 (some .int)) := ⟨List.mem_of_getElem? (i := 803) (by decide +kernel), rfl⟩
theorem ws_max : Wd (.static Lib.Math.max.name) := ⟨List.mem_of_getElem? (i := 802) (by decide +kernel), rfl⟩
theorem wc_min : Wd (.code Lib.Math.min.name Lib.Math.min.code 2 (some .int)) := ⟨List.mem_of_getElem? (i := 523) (by decide +kernel), rfl⟩
theorem ws_min : Wd (.static Lib.Math.min.name) := ⟨List.mem_of_getElem? (i := 522) (by decide +kernel), rfl⟩
theorem wz_Math : Wd (.initialized "java/lang/Math") := ⟨List.mem_of_getElem? (i := 82) (by decide +kernel), rfl⟩
theorem wz_System : Wd (.initialized "java/lang/System") := ⟨List.mem_of_getElem? (i := 81) (by decide +kernel), rfl⟩
theorem ws_copy : Wd (.static arraycopyName) := ⟨List.mem_of_getElem? (i := 436) (by decide +kernel), rfl⟩
theorem wn_copy : Wd (.native arraycopyName) := ⟨List.mem_of_getElem? (i := 437) (by decide +kernel), rfl⟩
theorem wi_obj : Wd (.instanceMethod objectInit) := ⟨List.mem_of_getElem? (i := 91) (by decide +kernel), rfl⟩
theorem wc_obj : Wd (.code objectInit ⟨#[0xb1]⟩ 1 none) := ⟨List.mem_of_getElem? (i := 92) (by decide +kernel), rfl⟩
theorem wk_J6_265 : Wd (.constant RJ6 265 1431655765) := ⟨List.mem_of_getElem? (i := 396) (by decide +kernel), rfl⟩
theorem wk_J6_266 : Wd (.constant RJ6 266 858993459) := ⟨List.mem_of_getElem? (i := 397) (by decide +kernel), rfl⟩
theorem wk_J6_267 : Wd (.constant RJ6 267 252645135) := ⟨List.mem_of_getElem? (i := 398) (by decide +kernel), rfl⟩
theorem wk_X5_290 : Wd (.constantLong RX5 290 3067) := ⟨List.mem_of_getElem? (i := 528) (by decide +kernel), rfl⟩
theorem wk_X5_292 : Wd (.constantLong RX5 292 31) := ⟨List.mem_of_getElem? (i := 529) (by decide +kernel), rfl⟩
theorem wk_X6_220 : Wd (.constantLong RX6 220 3067) := ⟨List.mem_of_getElem? (i := 1343) (by decide +kernel), rfl⟩
theorem wk_X6_215 : Wd (.constantLong RX6 215 31) := ⟨List.mem_of_getElem? (i := 1348) (by decide +kernel), rfl⟩
theorem wcl_L_8 : Wd (.classLink RL 8 "ChannelSpacer") := ⟨List.mem_of_getElem? (i := 85) (by decide +kernel), rfl⟩
theorem wcl_X5_7 : Wd (.classLink RX5 7 "ChannelSpacer$Desk") := ⟨List.mem_of_getElem? (i := 93) (by decide +kernel), rfl⟩
theorem wcl_X5_19 : Wd (.classLink RX5 19 "ChannelSpacer$History") := ⟨List.mem_of_getElem? (i := 165) (by decide +kernel), rfl⟩
theorem wcl_X2_9 : Wd (.classLink RX2 9 "ChannelSpacer$Desk") := ⟨List.mem_of_getElem? (i := 171) (by decide +kernel), rfl⟩
theorem wcl_X5_26 : Wd (.classLink RX5 26 "ChannelSpacer$Mix") := ⟨List.mem_of_getElem? (i := 185) (by decide +kernel), rfl⟩
theorem wcl_X5_33 : Wd (.classLink RX5 33 "ChannelSpacer$CleanSet") := ⟨List.mem_of_getElem? (i := 199) (by decide +kernel), rfl⟩
theorem wcl_X5_40 : Wd (.classLink RX5 40 "ChannelSpacer$PlanText") := ⟨List.mem_of_getElem? (i := 238) (by decide +kernel), rfl⟩
theorem wcl_L_13 : Wd (.classLink RL 13 "java/lang/IllegalArgumentException") := ⟨List.mem_of_getElem? (i := 549) (by decide +kernel), rfl⟩
theorem wcl_L_15 : Wd (.classLink RL 15 "java/lang/IllegalStateException") := ⟨List.mem_of_getElem? (i := 550) (by decide +kernel), rfl⟩
theorem wcl_X5_62 : Wd (.classLink RX5 62 "java/lang/IllegalArgumentException") := ⟨List.mem_of_getElem? (i := 558) (by decide +kernel), rfl⟩
theorem wcl_X5_104 : Wd (.classLink RX5 104 "java/lang/IllegalStateException") := ⟨List.mem_of_getElem? (i := 630) (by decide +kernel), rfl⟩
theorem wcl_L_21 : Wd (.classLink RL 21 "java/lang/IndexOutOfBoundsException") := ⟨List.mem_of_getElem? (i := 650) (by decide +kernel), rfl⟩
theorem wcl_X5_157 : Wd (.classLink RX5 157 "java/lang/IndexOutOfBoundsException") := ⟨List.mem_of_getElem? (i := 660) (by decide +kernel), rfl⟩
theorem wcl_L_98 : Wd (.classLink RL 98 "ChannelSpacerModel") := ⟨List.mem_of_getElem? (i := 955) (by decide +kernel), rfl⟩
theorem wz_IllegalArgumentException : Wd (.initialized "java/lang/IllegalArgumentException") := ⟨List.mem_of_getElem? (i := 79) (by decide +kernel), rfl⟩
theorem wz_IllegalStateException : Wd (.initialized "java/lang/IllegalStateException") := ⟨List.mem_of_getElem? (i := 80) (by decide +kernel), rfl⟩
theorem wz_IndexOutOfBoundsException : Wd (.initialized "java/lang/IndexOutOfBoundsException") := ⟨List.mem_of_getElem? (i := 83) (by decide +kernel), rfl⟩
theorem atIA_a : ∀ x ∈ vx_atS RX5 66 "java/lang/IllegalArgumentException" ["java/lang/RuntimeException", "java/lang/Exception"], x ∈ lw_tbl := by decide +kernel
theorem atIA_b : ∀ x ∈ vx_atS RX5 66 "java/lang/IllegalArgumentException" ["java/lang/RuntimeException", "java/lang/Exception"], mvW x = true := by decide +kernel
theorem atIA : ∀ x ∈ vx_atS RX5 66 "java/lang/IllegalArgumentException" ["java/lang/RuntimeException", "java/lang/Exception"], Wd x := fun x h => ⟨atIA_a x h, atIA_b x h⟩
theorem otIA : ∀ x ∈ Cond.classLink RX5 62 "java/lang/IllegalArgumentException" :: Cond.initialized "java/lang/IllegalArgumentException" :: vx_atS RX5 66 "java/lang/IllegalArgumentException" ["java/lang/RuntimeException", "java/lang/Exception"], vx_ot x = true := by decide +kernel
theorem atIS_a : ∀ x ∈ vx_atS RX5 108 "java/lang/IllegalStateException" ["java/lang/RuntimeException", "java/lang/Exception"], x ∈ lw_tbl := by decide +kernel
theorem atIS_b : ∀ x ∈ vx_atS RX5 108 "java/lang/IllegalStateException" ["java/lang/RuntimeException", "java/lang/Exception"], mvW x = true := by decide +kernel
theorem atIS : ∀ x ∈ vx_atS RX5 108 "java/lang/IllegalStateException" ["java/lang/RuntimeException", "java/lang/Exception"], Wd x := fun x h => ⟨atIS_a x h, atIS_b x h⟩
theorem otIS : ∀ x ∈ Cond.classLink RX5 104 "java/lang/IllegalStateException" :: Cond.initialized "java/lang/IllegalStateException" :: vx_atS RX5 108 "java/lang/IllegalStateException" ["java/lang/RuntimeException", "java/lang/Exception"], vx_ot x = true := by decide +kernel
theorem atIO_a : ∀ x ∈ vx_atS RX5 161 "java/lang/IndexOutOfBoundsException" ["java/lang/RuntimeException", "java/lang/Exception"], x ∈ lw_tbl := by decide +kernel
theorem atIO_b : ∀ x ∈ vx_atS RX5 161 "java/lang/IndexOutOfBoundsException" ["java/lang/RuntimeException", "java/lang/Exception"], mvW x = true := by decide +kernel
theorem atIO : ∀ x ∈ vx_atS RX5 161 "java/lang/IndexOutOfBoundsException" ["java/lang/RuntimeException", "java/lang/Exception"], Wd x := fun x h => ⟨atIO_a x h, atIO_b x h⟩
theorem otIO : ∀ x ∈ Cond.classLink RX5 157 "java/lang/IndexOutOfBoundsException" :: Cond.initialized "java/lang/IndexOutOfBoundsException" :: vx_atS RX5 161 "java/lang/IndexOutOfBoundsException" ["java/lang/RuntimeException", "java/lang/Exception"], vx_ot x = true := by decide +kernel
theorem str_64 : Str RX5 64 "channel or level out of range, or channel taken" := List.mem_of_getElem? (i := 531) (by decide +kernel)
theorem str_312 : Str RX5 312 "no room for a carrier" := List.mem_of_getElem? (i := 571) (by decide +kernel)
theorem str_317 : Str RX5 317 "no such carrier" := List.mem_of_getElem? (i := 601) (by decide +kernel)
theorem str_88 : Str RX5 88 "channel or level out of range" := List.mem_of_getElem? (i := 608) (by decide +kernel)
theorem str_90 : Str RX5 90 "another carrier has the channel" := List.mem_of_getElem? (i := 609) (by decide +kernel)
theorem str_102 : Str RX5 102 "shift out of range" := List.mem_of_getElem? (i := 631) (by decide +kernel)
theorem str_106 : Str RX5 106 "a channel would be out of the band" := List.mem_of_getElem? (i := 632) (by decide +kernel)
theorem str_116 : Str RX5 116 "kinds or loss out of range" := List.mem_of_getElem? (i := 647) (by decide +kernel)
theorem str_130 : Str RX5 130 "guard or spacing out of range" := List.mem_of_getElem? (i := 655) (by decide +kernel)
theorem str_141 : Str RX5 141 "what is out of range" := List.mem_of_getElem? (i := 663) (by decide +kernel)
theorem str_159 : Str RX5 159 "no such product" := List.mem_of_getElem? (i := 678) (by decide +kernel)
theorem str_324 : Str RX5 324 "no such set of carriers" := List.mem_of_getElem? (i := 691) (by decide +kernel)
theorem str_310 : Str RX5 310 "marks out of range" := List.mem_of_getElem? (i := 717) (by decide +kernel)
theorem str_199 : Str RX5 199 "span out of range" := List.mem_of_getElem? (i := 754) (by decide +kernel)
theorem str_308 : Str RX5 308 "level out of range" := List.mem_of_getElem? (i := 765) (by decide +kernel)
theorem str_215 : Str RX5 215 "no room for a mixer" := List.mem_of_getElem? (i := 787) (by decide +kernel)
theorem str_322 : Str RX5 322 "no such mixer" := List.mem_of_getElem? (i := 801) (by decide +kernel)
theorem str_306 : Str RX5 306 "channel out of range" := List.mem_of_getElem? (i := 820) (by decide +kernel)
theorem str_232 : Str RX5 232 "no room for a test" := List.mem_of_getElem? (i := 821) (by decide +kernel)
theorem str_247 : Str RX5 247 "no such test" := List.mem_of_getElem? (i := 841) (by decide +kernel)
theorem str_264 : Str RX5 264 "no such byte" := List.mem_of_getElem? (i := 868) (by decide +kernel)
theorem str_269 : Str RX5 269 "the text is full" := List.mem_of_getElem? (i := 869) (by decide +kernel)
theorem str_285 : Str RX5 285 "no saved state" := List.mem_of_getElem? (i := 881) (by decide +kernel)
theorem fitX : ∀ n ∈ (["java/lang/RuntimeException", "java/lang/Exception"] : List String), Bundle.fit n = true := by decide
end WDS
