theorem aTB_at {w : Cond} (i : Nat) (h : lw_tbl[i]? = some w) (g : goodWord w = true) : w ∈ aTB := List.mem_filter.mpr ⟨List.mem_of_getElem? h, g⟩
theorem aNT_at {w : Cond} (i : Nat) (h : tables_1[i]? = some w) (g : aNest w = true) : w ∈ aNT := List.mem_filter.mpr ⟨List.mem_of_getElem? h, g⟩
set_option maxRecDepth 20000 in
theorem uX1 : ∀ w ∈ u_ws RX1 TX1 5, w ∈ aTB := by decide +kernel
set_option maxRecDepth 20000 in
theorem uX3 : ∀ w ∈ u_ws RX3 TX3 9, w ∈ aTB := by decide +kernel
set_option maxRecDepth 20000 in
theorem uX4 : ∀ w ∈ u_ws RX4 TX4 6, w ∈ aTB := by decide +kernel
set_option maxRecDepth 20000 in
theorem uX5 : ∀ w ∈ u_ws RX5 TX5 4, w ∈ aTB := by decide +kernel
set_option maxRecDepth 20000 in
theorem uX6 : ∀ w ∈ u_ws RX6 TX6 5, w ∈ aTB := by decide +kernel
set_option maxRecDepth 20000 in
theorem uX7 : ∀ w ∈ u_ws RX7 TX7 9, w ∈ aTB := by decide +kernel
set_option maxRecDepth 20000 in
theorem uX8 : ∀ w ∈ u_ws RX8 TX8 45, w ∈ aTB := by decide +kernel
abbrev mX7_init : aY := (yX7_init, cX7_init, 2, none)
set_option maxRecDepth 20000 in
theorem kX7_init : aMd mX7_init 0 := ⟨aTB_at 75 rfl rfl, aTB_at 60 (by decide +kernel) rfl, plainFor_of_name (by decide), ⟨by decide, by decide, by decide +kernel⟩, by decide⟩
theorem k_objectInit : Cond.code objectInit ⟨#[0xb1]⟩ 1 none ∈ aTB := aTB_at 78 (by decide +kernel) rfl
abbrev mX6_init : aY := (yX6_init, cX6_init, 1, none)
set_option maxRecDepth 20000 in
theorem kX6_init : aMd mX6_init 0 := ⟨aTB_at 83 rfl rfl, aTB_at 61 (by decide +kernel) rfl, plainFor_of_name (by decide), ⟨by decide, by decide, by decide +kernel⟩, by decide⟩
abbrev mX4_init : aY := (yX4_init, cX4_init, 1, none)
set_option maxRecDepth 20000 in
theorem kX4_init : aMd mX4_init 0 := ⟨aTB_at 89 rfl rfl, aTB_at 62 (by decide +kernel) rfl, plainFor_of_name (by decide), ⟨by decide, by decide, by decide +kernel⟩, by decide⟩
abbrev mX7_newValues : aY := (yX7_newValues, cX7_newValues, 3, some (.array (.object "PropertyTests$Value")))
set_option maxRecDepth 20000 in
theorem kX7_newValues : aMd mX7_newValues 1 := ⟨aTB_at 119 rfl rfl, aTB_at 60 (by decide +kernel) rfl, plainFor_of_name (by decide), ⟨by decide, by decide, by decide +kernel⟩, by decide⟩
abbrev mX5_init : aY := (yX5_init, cX5_init, 1, none)
set_option maxRecDepth 20000 in
theorem kX5_init : aMd mX5_init 0 := ⟨aTB_at 125 rfl rfl, aTB_at 63 (by decide +kernel) rfl, plainFor_of_name (by decide), ⟨by decide, by decide, by decide +kernel⟩, by decide⟩
abbrev mX1_init : aY := (yX1_init, cX1_init, 1, none)
set_option maxRecDepth 20000 in
theorem kX1_init : aMd mX1_init 0 := ⟨aTB_at 172 rfl rfl, aTB_at 64 (by decide +kernel) rfl, plainFor_of_name (by decide), ⟨by decide, by decide, by decide +kernel⟩, by decide⟩
abbrev mX3_init : aY := (yX3_init, cX3_init, 1, none)
set_option maxRecDepth 20000 in
theorem kX3_init : aMd mX3_init 0 := ⟨aTB_at 200 rfl rfl, aTB_at 65 (by decide +kernel) rfl, plainFor_of_name (by decide), ⟨by decide, by decide, by decide +kernel⟩, by decide⟩
abbrev mX7_term : aY := (yX7_term, cX7_term, 6, some (.int))
set_option maxRecDepth 20000 in
theorem kX7_term : aMd mX7_term 5 := ⟨aTB_at 267 rfl rfl, aTB_at 60 (by decide +kernel) rfl, plainFor_of_name (by decide), ⟨by decide, by decide, by decide +kernel⟩, by decide⟩
abbrev mX4_allows : aY := (yX4_allows, cX4_allows, 3, some (.boolean))
set_option maxRecDepth 20000 in
theorem kX4_allows : aMd mX4_allows 2 := ⟨aTB_at 271 rfl rfl, aTB_at 62 (by decide +kernel) rfl, plainFor_of_name (by decide), ⟨by decide, by decide, by decide +kernel⟩, by decide⟩
abbrev mX4_hasParts : aY := (yX4_hasParts, cX4_hasParts, 6, some (.boolean))
set_option maxRecDepth 20000 in
theorem kX4_hasParts : aMd mX4_hasParts 4 := ⟨aTB_at 275 rfl rfl, aTB_at 62 (by decide +kernel) rfl, plainFor_of_name (by decide), ⟨by decide, by decide, by decide +kernel⟩, by decide⟩
abbrev mX4_has : aY := (yX4_has, cX4_has, 2, some (.boolean))
set_option maxRecDepth 20000 in
theorem kX4_has : aMd mX4_has 1 := ⟨aTB_at 281 rfl rfl, aTB_at 62 (by decide +kernel) rfl, plainFor_of_name (by decide), ⟨by decide, by decide, by decide +kernel⟩, by decide⟩
abbrev mX4_add : aY := (yX4_add, cX4_add, 6, some (.int))
set_option maxRecDepth 20000 in
theorem kX4_add : aMd mX4_add 5 := ⟨aTB_at 285 rfl rfl, aTB_at 62 (by decide +kernel) rfl, plainFor_of_name (by decide), ⟨by decide, by decide, by decide +kernel⟩, by decide⟩
abbrev mX7_property : aY := (yX7_property, cX7_property, 9, some (.int))
set_option maxRecDepth 20000 in
theorem kX7_property : aMd mX7_property 7 := ⟨aTB_at 289 rfl rfl, aTB_at 60 (by decide +kernel) rfl, plainFor_of_name (by decide), ⟨by decide, by decide, by decide +kernel⟩, by decide⟩
abbrev mX7_isType : aY := (yX7_isType, cX7_isType, 1, some (.boolean))
set_option maxRecDepth 20000 in
theorem kX7_isType : aMd mX7_isType 1 := ⟨aTB_at 292 rfl rfl, aTB_at 60 (by decide +kernel) rfl, plainFor_of_name (by decide), ⟨by decide, by decide, by decide +kernel⟩, by decide⟩
abbrev mX4_hasOrNone : aY := (yX4_hasOrNone, cX4_hasOrNone, 2, some (.boolean))
set_option maxRecDepth 20000 in
theorem kX4_hasOrNone : aMd mX4_hasOrNone 1 := ⟨aTB_at 296 rfl rfl, aTB_at 62 (by decide +kernel) rfl, plainFor_of_name (by decide), ⟨by decide, by decide, by decide +kernel⟩, by decide⟩
abbrev mX1_setTypes : aY := (yX1_setTypes, cX1_setTypes, 4, none)
set_option maxRecDepth 20000 in
theorem kX1_setTypes : aMd mX1_setTypes 3 := ⟨aTB_at 301 rfl rfl, aTB_at 64 (by decide +kernel) rfl, plainFor_of_name (by decide), ⟨by decide, by decide, by decide +kernel⟩, by decide⟩
abbrev mX1_setTerms : aY := (yX1_setTerms, cX1_setTerms, 5, none)
set_option maxRecDepth 20000 in
theorem kX1_setTerms : aMd mX1_setTerms 4 := ⟨aTB_at 305 rfl rfl, aTB_at 64 (by decide +kernel) rfl, plainFor_of_name (by decide), ⟨by decide, by decide, by decide +kernel⟩, by decide⟩
abbrev mX7_run : aY := (yX7_run, cX7_run, 6, some (.int))
set_option maxRecDepth 20000 in
theorem kX7_run : aMd mX7_run 3 := ⟨aTB_at 309 rfl rfl, aTB_at 60 (by decide +kernel) rfl, plainFor_of_name (by decide), ⟨by decide, by decide, by decide +kernel⟩, by decide⟩
abbrev mX7_isProperty : aY := (yX7_isProperty, cX7_isProperty, 2, some (.boolean))
set_option maxRecDepth 20000 in
theorem kX7_isProperty : aMd mX7_isProperty 1 := ⟨aTB_at 313 rfl rfl, aTB_at 60 (by decide +kernel) rfl, plainFor_of_name (by decide), ⟨by decide, by decide, by decide +kernel⟩, by decide⟩
abbrev mX7_forgetLatest : aY := (yX7_forgetLatest, cX7_forgetLatest, 1, none)
set_option maxRecDepth 20000 in
theorem kX7_forgetLatest : aMd mX7_forgetLatest 0 := ⟨aTB_at 317 rfl rfl, aTB_at 60 (by decide +kernel) rfl, plainFor_of_name (by decide), ⟨by decide, by decide, by decide +kernel⟩, by decide⟩
abbrev mX3_clear : aY := (yX3_clear, cX3_clear, 2, none)
set_option maxRecDepth 20000 in
theorem kX3_clear : aMd mX3_clear 0 := ⟨aTB_at 321 rfl rfl, aTB_at 65 (by decide +kernel) rfl, plainFor_of_name (by decide), ⟨by decide, by decide, by decide +kernel⟩, by decide⟩
abbrev mX0_into : aY := (yX0_into, cX0_into, 8, none)
set_option maxRecDepth 20000 in
theorem kX0_into : aMd mX0_into 5 := ⟨aTB_at 324 rfl rfl, aTB_at 67 (by decide +kernel) rfl, plainFor_of_name (by decide), ⟨by decide, by decide, by decide +kernel⟩, by decide⟩
abbrev mX0_hash : aY := (yX0_hash, cX0_hash, 3, some (.int))
set_option maxRecDepth 20000 in
theorem kX0_hash : aMd mX0_hash 2 := ⟨aTB_at 327 rfl rfl, aTB_at 67 (by decide +kernel) rfl, plainFor_of_name (by decide), ⟨by decide, by decide, by decide +kernel⟩, by decide⟩
abbrev mX0_between : aY := (yX0_between, cX0_between, 2, some (.int))
set_option maxRecDepth 20000 in
theorem kX0_between : aMd mX0_between 2 := ⟨aTB_at 333 rfl rfl, aTB_at 67 (by decide +kernel) rfl, plainFor_of_name (by decide), ⟨by decide, by decide, by decide +kernel⟩, by decide⟩
abbrev mJ9_floorMod_7cf53 : aY := (yJ9_floorMod_7cf53, cJ9_floorMod_7cf53, 3, some (.int))
set_option maxRecDepth 20000 in
theorem kJ9_floorMod_7cf53 : aMd mJ9_floorMod_7cf53 2 := ⟨aTB_at 336 rfl rfl, aTB_at 68 (by decide +kernel) rfl, by decide +kernel, ⟨by decide, by decide, by decide +kernel⟩, by decide⟩
abbrev mX5_setWhole : aY := (yX5_setWhole, cX5_setWhole, 2, none)
set_option maxRecDepth 20000 in
theorem kX5_setWhole : aMd mX5_setWhole 1 := ⟨aTB_at 340 rfl rfl, aTB_at 63 (by decide +kernel) rfl, plainFor_of_name (by decide), ⟨by decide, by decide, by decide +kernel⟩, by decide⟩
abbrev mX5_setRow : aY := (yX5_setRow, cX5_setRow, 2, none)
set_option maxRecDepth 20000 in
theorem kX5_setRow : aMd mX5_setRow 1 := ⟨aTB_at 344 rfl rfl, aTB_at 63 (by decide +kernel) rfl, plainFor_of_name (by decide), ⟨by decide, by decide, by decide +kernel⟩, by decide⟩
abbrev mX5_setNothing : aY := (yX5_setNothing, cX5_setNothing, 1, none)
set_option maxRecDepth 20000 in
theorem kX5_setNothing : aMd mX5_setNothing 0 := ⟨aTB_at 348 rfl rfl, aTB_at 63 (by decide +kernel) rfl, plainFor_of_name (by decide), ⟨by decide, by decide, by decide +kernel⟩, by decide⟩
abbrev mX7_tryCase : aY := (yX7_tryCase, cX7_tryCase, 3, none)
set_option maxRecDepth 20000 in
theorem kX7_tryCase : aMd mX7_tryCase 1 := ⟨aTB_at 352 rfl rfl, aTB_at 60 (by decide +kernel) rfl, plainFor_of_name (by decide), ⟨by decide, by decide, by decide +kernel⟩, by decide⟩
abbrev mX6_outcome : aY := (yX6_outcome, cX6_outcome, 3, some (.int))
set_option maxRecDepth 20000 in
theorem kX6_outcome : aMd mX6_outcome 1 := ⟨aTB_at 356 rfl rfl, aTB_at 61 (by decide +kernel) rfl, plainFor_of_name (by decide), ⟨by decide, by decide, by decide +kernel⟩, by decide⟩
abbrev mX6_work : aY := (yX6_work, cX6_work, 9, some (.int))
set_option maxRecDepth 20000 in
theorem kX6_work : aMd mX6_work 1 := ⟨aTB_at 360 rfl rfl, aTB_at 61 (by decide +kernel) rfl, plainFor_of_name (by decide), ⟨by decide, by decide, by decide +kernel⟩, by decide⟩
abbrev mX6_asWhole : aY := (yX6_asWhole, cX6_asWhole, 3, some (.int))
set_option maxRecDepth 20000 in
theorem kX6_asWhole : aMd mX6_asWhole 1 := ⟨aTB_at 365 rfl rfl, aTB_at 61 (by decide +kernel) rfl, plainFor_of_name (by decide), ⟨by decide, by decide, by decide +kernel⟩, by decide⟩
abbrev mX6_lookAt : aY := (yX6_lookAt, cX6_lookAt, 2, some (.int))
set_option maxRecDepth 20000 in
theorem kX6_lookAt : aMd mX6_lookAt 2 := ⟨aTB_at 368 rfl rfl, aTB_at 61 (by decide +kernel) rfl, plainFor_of_name (by decide), ⟨by decide, by decide, by decide +kernel⟩, by decide⟩
abbrev mX6_workChosen : aY := (yX6_workChosen, cX6_workChosen, 6, some (.int))
set_option maxRecDepth 20000 in
theorem kX6_workChosen : aMd mX6_workChosen 3 := ⟨aTB_at 372 rfl rfl, aTB_at 61 (by decide +kernel) rfl, plainFor_of_name (by decide), ⟨by decide, by decide, by decide +kernel⟩, by decide⟩
abbrev mX6_setTruth : aY := (yX6_setTruth, cX6_setTruth, 2, none)
set_option maxRecDepth 20000 in
theorem kX6_setTruth : aMd mX6_setTruth 2 := ⟨aTB_at 375 rfl rfl, aTB_at 61 (by decide +kernel) rfl, plainFor_of_name (by decide), ⟨by decide, by decide, by decide +kernel⟩, by decide⟩
abbrev mX6_lookAtAll : aY := (yX6_lookAtAll, cX6_lookAtAll, 5, some (.int))
set_option maxRecDepth 20000 in
theorem kX6_lookAtAll : aMd mX6_lookAtAll 4 := ⟨aTB_at 379 rfl rfl, aTB_at 61 (by decide +kernel) rfl, plainFor_of_name (by decide), ⟨by decide, by decide, by decide +kernel⟩, by decide⟩
abbrev mX6_comeTo : aY := (yX6_comeTo, cX6_comeTo, 7, some (.int))
set_option maxRecDepth 20000 in
theorem kX6_comeTo : aMd mX6_comeTo 5 := ⟨aTB_at 389 rfl rfl, aTB_at 61 (by decide +kernel) rfl, plainFor_of_name (by decide), ⟨by decide, by decide, by decide +kernel⟩, by decide⟩
abbrev mX5_copy : aY := (yX5_copy, cX5_copy, 3, none)
set_option maxRecDepth 20000 in
theorem kX5_copy : aMd mX5_copy 1 := ⟨aTB_at 393 rfl rfl, aTB_at 63 (by decide +kernel) rfl, plainFor_of_name (by decide), ⟨by decide, by decide, by decide +kernel⟩, by decide⟩
abbrev mX6_areLike : aY := (yX6_areLike, cX6_areLike, 3, some (.boolean))
set_option maxRecDepth 20000 in
theorem kX6_areLike : aMd mX6_areLike 2 := ⟨aTB_at 397 rfl rfl, aTB_at 61 (by decide +kernel) rfl, plainFor_of_name (by decide), ⟨by decide, by decide, by decide +kernel⟩, by decide⟩
abbrev mX6_setAt : aY := (yX6_setAt, cX6_setAt, 3, some (.int))
set_option maxRecDepth 20000 in
theorem kX6_setAt : aMd mX6_setAt 3 := ⟨aTB_at 400 rfl rfl, aTB_at 61 (by decide +kernel) rfl, plainFor_of_name (by decide), ⟨by decide, by decide, by decide +kernel⟩, by decide⟩
abbrev mX5_hasPlace : aY := (yX5_hasPlace, cX5_hasPlace, 2, some (.boolean))
set_option maxRecDepth 20000 in
theorem kX5_hasPlace : aMd mX5_hasPlace 1 := ⟨aTB_at 404 rfl rfl, aTB_at 63 (by decide +kernel) rfl, plainFor_of_name (by decide), ⟨by decide, by decide, by decide +kernel⟩, by decide⟩
abbrev mX6_setZeros : aY := (yX6_setZeros, cX6_setZeros, 3, some (.int))
set_option maxRecDepth 20000 in
theorem kX6_setZeros : aMd mX6_setZeros 2 := ⟨aTB_at 407 rfl rfl, aTB_at 61 (by decide +kernel) rfl, plainFor_of_name (by decide), ⟨by decide, by decide, by decide +kernel⟩, by decide⟩
abbrev mX6_setPut : aY := (yX6_setPut, cX6_setPut, 4, some (.int))
set_option maxRecDepth 20000 in
theorem kX6_setPut : aMd mX6_setPut 4 := ⟨aTB_at 411 rfl rfl, aTB_at 61 (by decide +kernel) rfl, plainFor_of_name (by decide), ⟨by decide, by decide, by decide +kernel⟩, by decide⟩
abbrev mX6_setJoined : aY := (yX6_setJoined, cX6_setJoined, 3, some (.int))
set_option maxRecDepth 20000 in
theorem kX6_setJoined : aMd mX6_setJoined 3 := ⟨aTB_at 414 rfl rfl, aTB_at 61 (by decide +kernel) rfl, plainFor_of_name (by decide), ⟨by decide, by decide, by decide +kernel⟩, by decide⟩
abbrev mX6_setPart : aY := (yX6_setPart, cX6_setPart, 4, some (.int))
set_option maxRecDepth 20000 in
theorem kX6_setPart : aMd mX6_setPart 4 := ⟨aTB_at 420 rfl rfl, aTB_at 61 (by decide +kernel) rfl, plainFor_of_name (by decide), ⟨by decide, by decide, by decide +kernel⟩, by decide⟩
abbrev mX6_setSorted : aY := (yX6_setSorted, cX6_setSorted, 5, none)
set_option maxRecDepth 20000 in
theorem kX6_setSorted : aMd mX6_setSorted 2 := ⟨aTB_at 423 rfl rfl, aTB_at 61 (by decide +kernel) rfl, plainFor_of_name (by decide), ⟨by decide, by decide, by decide +kernel⟩, by decide⟩
abbrev mX6_setTurned : aY := (yX6_setTurned, cX6_setTurned, 3, none)
set_option maxRecDepth 20000 in
theorem kX6_setTurned : aMd mX6_setTurned 2 := ⟨aTB_at 426 rfl rfl, aTB_at 61 (by decide +kernel) rfl, plainFor_of_name (by decide), ⟨by decide, by decide, by decide +kernel⟩, by decide⟩
abbrev mX6_sum : aY := (yX6_sum, cX6_sum, 3, some (.int))
set_option maxRecDepth 20000 in
theorem kX6_sum : aMd mX6_sum 1 := ⟨aTB_at 429 rfl rfl, aTB_at 61 (by decide +kernel) rfl, plainFor_of_name (by decide), ⟨by decide, by decide, by decide +kernel⟩, by decide⟩
abbrev mX6_setOfWholes : aY := (yX6_setOfWholes, cX6_setOfWholes, 4, some (.int))
set_option maxRecDepth 20000 in
theorem kX6_setOfWholes : aMd mX6_setOfWholes 4 := ⟨aTB_at 432 rfl rfl, aTB_at 61 (by decide +kernel) rfl, plainFor_of_name (by decide), ⟨by decide, by decide, by decide +kernel⟩, by decide⟩
abbrev mX3_countCase : aY := (yX3_countCase, cX3_countCase, 2, none)
set_option maxRecDepth 20000 in
theorem kX3_countCase : aMd mX3_countCase 1 := ⟨aTB_at 436 rfl rfl, aTB_at 65 (by decide +kernel) rfl, plainFor_of_name (by decide), ⟨by decide, by decide, by decide +kernel⟩, by decide⟩
abbrev mX6_labelled : aY := (yX6_labelled, cX6_labelled, 4, some (.int))
set_option maxRecDepth 20000 in
theorem kX6_labelled : aMd mX6_labelled 1 := ⟨aTB_at 440 rfl rfl, aTB_at 61 (by decide +kernel) rfl, plainFor_of_name (by decide), ⟨by decide, by decide, by decide +kernel⟩, by decide⟩
abbrev mX7_copyAll : aY := (yX7_copyAll, cX7_copyAll, 3, none)
set_option maxRecDepth 20000 in
theorem kX7_copyAll : aMd mX7_copyAll 2 := ⟨aTB_at 443 rfl rfl, aTB_at 60 (by decide +kernel) rfl, plainFor_of_name (by decide), ⟨by decide, by decide, by decide +kernel⟩, by decide⟩
abbrev mX7_makeSmaller : aY := (yX7_makeSmaller, cX7_makeSmaller, 3, none)
set_option maxRecDepth 20000 in
theorem kX7_makeSmaller : aMd mX7_makeSmaller 0 := ⟨aTB_at 448 rfl rfl, aTB_at 60 (by decide +kernel) rfl, plainFor_of_name (by decide), ⟨by decide, by decide, by decide +kernel⟩, by decide⟩
abbrev mX7_takeCandidate : aY := (yX7_takeCandidate, cX7_takeCandidate, 5, some (.boolean))
set_option maxRecDepth 20000 in
theorem kX7_takeCandidate : aMd mX7_takeCandidate 1 := ⟨aTB_at 452 rfl rfl, aTB_at 60 (by decide +kernel) rfl, plainFor_of_name (by decide), ⟨by decide, by decide, by decide +kernel⟩, by decide⟩
abbrev mX5_candidateCount : aY := (yX5_candidateCount, cX5_candidateCount, 3, some (.int))
set_option maxRecDepth 20000 in
theorem kX5_candidateCount : aMd mX5_candidateCount 0 := ⟨aTB_at 456 rfl rfl, aTB_at 63 (by decide +kernel) rfl, plainFor_of_name (by decide), ⟨by decide, by decide, by decide +kernel⟩, by decide⟩
abbrev mX5_becomeCandidate : aY := (yX5_becomeCandidate, cX5_becomeCandidate, 2, none)
set_option maxRecDepth 20000 in
theorem kX5_becomeCandidate : aMd mX5_becomeCandidate 1 := ⟨aTB_at 460 rfl rfl, aTB_at 63 (by decide +kernel) rfl, plainFor_of_name (by decide), ⟨by decide, by decide, by decide +kernel⟩, by decide⟩
abbrev mX5_nearerToZero : aY := (yX5_nearerToZero, cX5_nearerToZero, 2, some (.int))
set_option maxRecDepth 20000 in
theorem kX5_nearerToZero : aMd mX5_nearerToZero 2 := ⟨aTB_at 463 rfl rfl, aTB_at 63 (by decide +kernel) rfl, plainFor_of_name (by decide), ⟨by decide, by decide, by decide +kernel⟩, by decide⟩
abbrev mX5_dropPlace : aY := (yX5_dropPlace, cX5_dropPlace, 3, none)
set_option maxRecDepth 20000 in
theorem kX5_dropPlace : aMd mX5_dropPlace 1 := ⟨aTB_at 467 rfl rfl, aTB_at 63 (by decide +kernel) rfl, plainFor_of_name (by decide), ⟨by decide, by decide, by decide +kernel⟩, by decide⟩
abbrev mX5_shrinkAnInt : aY := (yX5_shrinkAnInt, cX5_shrinkAnInt, 4, none)
set_option maxRecDepth 20000 in
theorem kX5_shrinkAnInt : aMd mX5_shrinkAnInt 1 := ⟨aTB_at 471 rfl rfl, aTB_at 63 (by decide +kernel) rfl, plainFor_of_name (by decide), ⟨by decide, by decide, by decide +kernel⟩, by decide⟩
abbrev mX7_small : aY := (yX7_small, cX7_small, 5, some (.int))
set_option maxRecDepth 20000 in
theorem kX7_small : aMd mX7_small 2 := ⟨aTB_at 475 rfl rfl, aTB_at 60 (by decide +kernel) rfl, plainFor_of_name (by decide), ⟨by decide, by decide, by decide +kernel⟩, by decide⟩
abbrev mX7_isSmall : aY := (yX7_isSmall, cX7_isSmall, 1, some (.boolean))
set_option maxRecDepth 20000 in
theorem kX7_isSmall : aMd mX7_isSmall 1 := ⟨aTB_at 478 rfl rfl, aTB_at 60 (by decide +kernel) rfl, plainFor_of_name (by decide), ⟨by decide, by decide, by decide +kernel⟩, by decide⟩
abbrev mX2_countFor : aY := (yX2_countFor, cX2_countFor, 4, some (.int))
set_option maxRecDepth 20000 in
theorem kX2_countFor : aMd mX2_countFor 2 := ⟨aTB_at 481 rfl rfl, aTB_at 70 (by decide +kernel) rfl, plainFor_of_name (by decide), ⟨by decide, by decide, by decide +kernel⟩, by decide⟩
abbrev mX2_count : aY := (yX2_count, cX2_count, 5, some (.int))
set_option maxRecDepth 20000 in
theorem kX2_count : aMd mX2_count 2 := ⟨aTB_at 484 rfl rfl, aTB_at 70 (by decide +kernel) rfl, plainFor_of_name (by decide), ⟨by decide, by decide, by decide +kernel⟩, by decide⟩
abbrev mX2_wholes : aY := (yX2_wholes, cX2_wholes, 1, some (.int))
set_option maxRecDepth 20000 in
theorem kX2_wholes : aMd mX2_wholes 1 := ⟨aTB_at 487 rfl rfl, aTB_at 70 (by decide +kernel) rfl, plainFor_of_name (by decide), ⟨by decide, by decide, by decide +kernel⟩, by decide⟩
abbrev mX2_fill : aY := (yX2_fill, cX2_fill, 7, none)
set_option maxRecDepth 20000 in
theorem kX2_fill : aMd mX2_fill 4 := ⟨aTB_at 490 rfl rfl, aTB_at 70 (by decide +kernel) rfl, plainFor_of_name (by decide), ⟨by decide, by decide, by decide +kernel⟩, by decide⟩
abbrev mX2_into : aY := (yX2_into, cX2_into, 4, none)
set_option maxRecDepth 20000 in
theorem kX2_into : aMd mX2_into 4 := ⟨aTB_at 493 rfl rfl, aTB_at 70 (by decide +kernel) rfl, plainFor_of_name (by decide), ⟨by decide, by decide, by decide +kernel⟩, by decide⟩
abbrev mX2_whole : aY := (yX2_whole, cX2_whole, 1, some (.int))
set_option maxRecDepth 20000 in
theorem kX2_whole : aMd mX2_whole 1 := ⟨aTB_at 496 rfl rfl, aTB_at 70 (by decide +kernel) rfl, plainFor_of_name (by decide), ⟨by decide, by decide, by decide +kernel⟩, by decide⟩
abbrev mX2_rowInto : aY := (yX2_rowInto, cX2_rowInto, 7, none)
set_option maxRecDepth 20000 in
theorem kX2_rowInto : aMd mX2_rowInto 3 := ⟨aTB_at 500 rfl rfl, aTB_at 70 (by decide +kernel) rfl, plainFor_of_name (by decide), ⟨by decide, by decide, by decide +kernel⟩, by decide⟩
abbrev mX7_many : aY := (yX7_many, cX7_many, 4, some (.int))
set_option maxRecDepth 20000 in
theorem kX7_many : aMd mX7_many 2 := ⟨aTB_at 506 rfl rfl, aTB_at 60 (by decide +kernel) rfl, plainFor_of_name (by decide), ⟨by decide, by decide, by decide +kernel⟩, by decide⟩
abbrev mX7_again : aY := (yX7_again, cX7_again, 1, some (.int))
set_option maxRecDepth 20000 in
theorem kX7_again : aMd mX7_again 0 := ⟨aTB_at 510 rfl rfl, aTB_at 60 (by decide +kernel) rfl, plainFor_of_name (by decide), ⟨by decide, by decide, by decide +kernel⟩, by decide⟩
abbrev mX7_counter : aY := (yX7_counter, cX7_counter, 3, some (.int))
set_option maxRecDepth 20000 in
theorem kX7_counter : aMd mX7_counter 2 := ⟨aTB_at 514 rfl rfl, aTB_at 60 (by decide +kernel) rfl, plainFor_of_name (by decide), ⟨by decide, by decide, by decide +kernel⟩, by decide⟩
abbrev mX5_read : aY := (yX5_read, cX5_read, 2, some (.int))
set_option maxRecDepth 20000 in
theorem kX5_read : aMd mX5_read 1 := ⟨aTB_at 519 rfl rfl, aTB_at 63 (by decide +kernel) rfl, plainFor_of_name (by decide), ⟨by decide, by decide, by decide +kernel⟩, by decide⟩
abbrev mX7_drawn : aY := (yX7_drawn, cX7_drawn, 6, some (.int))
set_option maxRecDepth 20000 in
theorem kX7_drawn : aMd mX7_drawn 5 := ⟨aTB_at 524 rfl rfl, aTB_at 60 (by decide +kernel) rfl, plainFor_of_name (by decide), ⟨by decide, by decide, by decide +kernel⟩, by decide⟩
abbrev mX7_told : aY := (yX7_told, cX7_told, 2, some (.int))
set_option maxRecDepth 20000 in
theorem kX7_told : aMd mX7_told 1 := ⟨aTB_at 528 rfl rfl, aTB_at 60 (by decide +kernel) rfl, plainFor_of_name (by decide), ⟨by decide, by decide, by decide +kernel⟩, by decide⟩
abbrev mX3_read : aY := (yX3_read, cX3_read, 2, some (.int))
set_option maxRecDepth 20000 in
theorem kX3_read : aMd mX3_read 1 := ⟨aTB_at 532 rfl rfl, aTB_at 65 (by decide +kernel) rfl, plainFor_of_name (by decide), ⟨by decide, by decide, by decide +kernel⟩, by decide⟩
abbrev mX7_label : aY := (yX7_label, cX7_label, 2, some (.int))
set_option maxRecDepth 20000 in
theorem kX7_label : aMd mX7_label 1 := ⟨aTB_at 536 rfl rfl, aTB_at 60 (by decide +kernel) rfl, plainFor_of_name (by decide), ⟨by decide, by decide, by decide +kernel⟩, by decide⟩
abbrev mX8_init : aY := (yX8_init, cX8_init, 2, none)
set_option maxRecDepth 20000 in
theorem kX8_init : aMd mX8_init 0 := ⟨aTB_at 541 rfl rfl, aTB_at 66 (by decide +kernel) rfl, plainFor_of_name (by decide), ⟨by decide, by decide, by decide +kernel⟩, by decide⟩
abbrev mX8_term : aY := (yX8_term, cX8_term, 6, some (.int))
set_option maxRecDepth 20000 in
theorem kX8_term : aMd mX8_term 5 := ⟨aTB_at 682 rfl rfl, aTB_at 66 (by decide +kernel) rfl, plainFor_of_name (by decide), ⟨by decide, by decide, by decide +kernel⟩, by decide⟩
abbrev mX8_in : aY := (yX8_in, cX8_in, 3, some (.boolean))
set_option maxRecDepth 20000 in
theorem kX8_in : aMd mX8_in 3 := ⟨aTB_at 685 rfl rfl, aTB_at 66 (by decide +kernel) rfl, plainFor_of_name (by decide), ⟨by decide, by decide, by decide +kernel⟩, by decide⟩
abbrev mX8_parts : aY := (yX8_parts, cX8_parts, 1, some (.int))
set_option maxRecDepth 20000 in
theorem kX8_parts : aMd mX8_parts 1 := ⟨aTB_at 688 rfl rfl, aTB_at 66 (by decide +kernel) rfl, plainFor_of_name (by decide), ⟨by decide, by decide, by decide +kernel⟩, by decide⟩
abbrev mX8_isTerm : aY := (yX8_isTerm, cX8_isTerm, 2, some (.boolean))
set_option maxRecDepth 20000 in
theorem kX8_isTerm : aMd mX8_isTerm 1 := ⟨aTB_at 692 rfl rfl, aTB_at 66 (by decide +kernel) rfl, plainFor_of_name (by decide), ⟨by decide, by decide, by decide +kernel⟩, by decide⟩
abbrev mX8_property : aY := (yX8_property, cX8_property, 8, some (.int))
set_option maxRecDepth 20000 in
theorem kX8_property : aMd mX8_property 7 := ⟨aTB_at 696 rfl rfl, aTB_at 66 (by decide +kernel) rfl, plainFor_of_name (by decide), ⟨by decide, by decide, by decide +kernel⟩, by decide⟩
abbrev mX8_drawn : aY := (yX8_drawn, cX8_drawn, 6, some (.int))
set_option maxRecDepth 20000 in
theorem kX8_drawn : aMd mX8_drawn 5 := ⟨aTB_at 700 rfl rfl, aTB_at 66 (by decide +kernel) rfl, plainFor_of_name (by decide), ⟨by decide, by decide, by decide +kernel⟩, by decide⟩
abbrev mX8_draw : aY := (yX8_draw, cX8_draw, 8, none)
set_option maxRecDepth 20000 in
theorem kX8_draw : aMd mX8_draw 4 := ⟨aTB_at 705 rfl rfl, aTB_at 66 (by decide +kernel) rfl, plainFor_of_name (by decide), ⟨by decide, by decide, by decide +kernel⟩, by decide⟩
abbrev mX8_hash : aY := (yX8_hash, cX8_hash, 3, some (.int))
set_option maxRecDepth 20000 in
theorem kX8_hash : aMd mX8_hash 2 := ⟨aTB_at 708 rfl rfl, aTB_at 66 (by decide +kernel) rfl, plainFor_of_name (by decide), ⟨by decide, by decide, by decide +kernel⟩, by decide⟩
abbrev mX8_modulo : aY := (yX8_modulo, cX8_modulo, 3, some (.int))
set_option maxRecDepth 20000 in
theorem kX8_modulo : aMd mX8_modulo 2 := ⟨aTB_at 714 rfl rfl, aTB_at 66 (by decide +kernel) rfl, plainFor_of_name (by decide), ⟨by decide, by decide, by decide +kernel⟩, by decide⟩
abbrev mX8_run : aY := (yX8_run, cX8_run, 8, some (.int))
set_option maxRecDepth 20000 in
theorem kX8_run : aMd mX8_run 3 := ⟨aTB_at 718 rfl rfl, aTB_at 66 (by decide +kernel) rfl, plainFor_of_name (by decide), ⟨by decide, by decide, by decide +kernel⟩, by decide⟩
abbrev mX8_isProperty : aY := (yX8_isProperty, cX8_isProperty, 2, some (.boolean))
set_option maxRecDepth 20000 in
theorem kX8_isProperty : aMd mX8_isProperty 1 := ⟨aTB_at 722 rfl rfl, aTB_at 66 (by decide +kernel) rfl, plainFor_of_name (by decide), ⟨by decide, by decide, by decide +kernel⟩, by decide⟩
abbrev mX8_anew : aY := (yX8_anew, cX8_anew, 2, none)
set_option maxRecDepth 20000 in
theorem kX8_anew : aMd mX8_anew 0 := ⟨aTB_at 726 rfl rfl, aTB_at 66 (by decide +kernel) rfl, plainFor_of_name (by decide), ⟨by decide, by decide, by decide +kernel⟩, by decide⟩
abbrev mX8_isFailed : aY := (yX8_isFailed, cX8_isFailed, 3, some (.boolean))
set_option maxRecDepth 20000 in
theorem kX8_isFailed : aMd mX8_isFailed 1 := ⟨aTB_at 730 rfl rfl, aTB_at 66 (by decide +kernel) rfl, plainFor_of_name (by decide), ⟨by decide, by decide, by decide +kernel⟩, by decide⟩
abbrev mX8_outcome : aY := (yX8_outcome, cX8_outcome, 5, some (.int))
set_option maxRecDepth 20000 in
theorem kX8_outcome : aMd mX8_outcome 2 := ⟨aTB_at 734 rfl rfl, aTB_at 66 (by decide +kernel) rfl, plainFor_of_name (by decide), ⟨by decide, by decide, by decide +kernel⟩, by decide⟩
abbrev mX8_work : aY := (yX8_work, cX8_work, 6, some (.boolean))
set_option maxRecDepth 20000 in
theorem kX8_work : aMd mX8_work 1 := ⟨aTB_at 738 rfl rfl, aTB_at 66 (by decide +kernel) rfl, plainFor_of_name (by decide), ⟨by decide, by decide, by decide +kernel⟩, by decide⟩
abbrev mX8_begin : aY := (yX8_begin, cX8_begin, 2, none)
set_option maxRecDepth 20000 in
theorem kX8_begin : aMd mX8_begin 1 := ⟨aTB_at 742 rfl rfl, aTB_at 66 (by decide +kernel) rfl, plainFor_of_name (by decide), ⟨by decide, by decide, by decide +kernel⟩, by decide⟩
abbrev mX8_nextPart : aY := (yX8_nextPart, cX8_nextPart, 5, some (.int))
set_option maxRecDepth 20000 in
theorem kX8_nextPart : aMd mX8_nextPart 2 := ⟨aTB_at 746 rfl rfl, aTB_at 66 (by decide +kernel) rfl, plainFor_of_name (by decide), ⟨by decide, by decide, by decide +kernel⟩, by decide⟩
abbrev mX8_nextOfChoice : aY := (yX8_nextOfChoice, cX8_nextOfChoice, 5, some (.int))
set_option maxRecDepth 20000 in
theorem kX8_nextOfChoice : aMd mX8_nextOfChoice 3 := ⟨aTB_at 750 rfl rfl, aTB_at 66 (by decide +kernel) rfl, plainFor_of_name (by decide), ⟨by decide, by decide, by decide +kernel⟩, by decide⟩
abbrev mX8_wrong : aY := (yX8_wrong, cX8_wrong, 3, some (.int))
set_option maxRecDepth 20000 in
theorem kX8_wrong : aMd mX8_wrong 2 := ⟨aTB_at 754 rfl rfl, aTB_at 66 (by decide +kernel) rfl, plainFor_of_name (by decide), ⟨by decide, by decide, by decide +kernel⟩, by decide⟩
abbrev mX8_end : aY := (yX8_end, cX8_end, 5, none)
set_option maxRecDepth 20000 in
theorem kX8_end : aMd mX8_end 2 := ⟨aTB_at 758 rfl rfl, aTB_at 66 (by decide +kernel) rfl, plainFor_of_name (by decide), ⟨by decide, by decide, by decide +kernel⟩, by decide⟩
abbrev mX8_input : aY := (yX8_input, cX8_input, 2, none)
set_option maxRecDepth 20000 in
theorem kX8_input : aMd mX8_input 1 := ⟨aTB_at 762 rfl rfl, aTB_at 66 (by decide +kernel) rfl, plainFor_of_name (by decide), ⟨by decide, by decide, by decide +kernel⟩, by decide⟩
abbrev mX8_whole : aY := (yX8_whole, cX8_whole, 2, none)
set_option maxRecDepth 20000 in
theorem kX8_whole : aMd mX8_whole 1 := ⟨aTB_at 766 rfl rfl, aTB_at 66 (by decide +kernel) rfl, plainFor_of_name (by decide), ⟨by decide, by decide, by decide +kernel⟩, by decide⟩
abbrev mX8_numbers : aY := (yX8_numbers, cX8_numbers, 5, none)
set_option maxRecDepth 20000 in
theorem kX8_numbers : aMd mX8_numbers 2 := ⟨aTB_at 770 rfl rfl, aTB_at 66 (by decide +kernel) rfl, plainFor_of_name (by decide), ⟨by decide, by decide, by decide +kernel⟩, by decide⟩
abbrev mX8_like : aY := (yX8_like, cX8_like, 4, none)
set_option maxRecDepth 20000 in
theorem kX8_like : aMd mX8_like 1 := ⟨aTB_at 774 rfl rfl, aTB_at 66 (by decide +kernel) rfl, plainFor_of_name (by decide), ⟨by decide, by decide, by decide +kernel⟩, by decide⟩
abbrev mX8_both : aY := (yX8_both, cX8_both, 3, none)
set_option maxRecDepth 20000 in
theorem kX8_both : aMd mX8_both 2 := ⟨aTB_at 778 rfl rfl, aTB_at 66 (by decide +kernel) rfl, plainFor_of_name (by decide), ⟨by decide, by decide, by decide +kernel⟩, by decide⟩
abbrev mX8_rows : aY := (yX8_rows, cX8_rows, 8, none)
set_option maxRecDepth 20000 in
theorem kX8_rows : aMd mX8_rows 2 := ⟨aTB_at 782 rfl rfl, aTB_at 66 (by decide +kernel) rfl, plainFor_of_name (by decide), ⟨by decide, by decide, by decide +kernel⟩, by decide⟩
abbrev mX8_refused : aY := (yX8_refused, cX8_refused, 4, some (.int))
set_option maxRecDepth 20000 in
theorem kX8_refused : aMd mX8_refused 4 := ⟨aTB_at 785 rfl rfl, aTB_at 66 (by decide +kernel) rfl, plainFor_of_name (by decide), ⟨by decide, by decide, by decide +kernel⟩, by decide⟩
abbrev mX8_rowOf : aY := (yX8_rowOf, cX8_rowOf, 13, none)
set_option maxRecDepth 20000 in
theorem kX8_rowOf : aMd mX8_rowOf 4 := ⟨aTB_at 789 rfl rfl, aTB_at 66 (by decide +kernel) rfl, plainFor_of_name (by decide), ⟨by decide, by decide, by decide +kernel⟩, by decide⟩
abbrev mX8_row : aY := (yX8_row, cX8_row, 2, some (.int))
set_option maxRecDepth 20000 in
theorem kX8_row : aMd mX8_row 1 := ⟨aTB_at 793 rfl rfl, aTB_at 66 (by decide +kernel) rfl, plainFor_of_name (by decide), ⟨by decide, by decide, by decide +kernel⟩, by decide⟩
abbrev mX8_ended : aY := (yX8_ended, cX8_ended, 3, some (.int))
set_option maxRecDepth 20000 in
theorem kX8_ended : aMd mX8_ended 1 := ⟨aTB_at 797 rfl rfl, aTB_at 66 (by decide +kernel) rfl, plainFor_of_name (by decide), ⟨by decide, by decide, by decide +kernel⟩, by decide⟩
abbrev mX8_keep : aY := (yX8_keep, cX8_keep, 3, none)
set_option maxRecDepth 20000 in
theorem kX8_keep : aMd mX8_keep 1 := ⟨aTB_at 801 rfl rfl, aTB_at 66 (by decide +kernel) rfl, plainFor_of_name (by decide), ⟨by decide, by decide, by decide +kernel⟩, by decide⟩
abbrev mX8_smaller : aY := (yX8_smaller, cX8_smaller, 5, none)
set_option maxRecDepth 20000 in
theorem kX8_smaller : aMd mX8_smaller 1 := ⟨aTB_at 805 rfl rfl, aTB_at 66 (by decide +kernel) rfl, plainFor_of_name (by decide), ⟨by decide, by decide, by decide +kernel⟩, by decide⟩
abbrev mX8_candidate : aY := (yX8_candidate, cX8_candidate, 6, some (.boolean))
set_option maxRecDepth 20000 in
theorem kX8_candidate : aMd mX8_candidate 1 := ⟨aTB_at 809 rfl rfl, aTB_at 66 (by decide +kernel) rfl, plainFor_of_name (by decide), ⟨by decide, by decide, by decide +kernel⟩, by decide⟩
abbrev mX8_takeCounter : aY := (yX8_takeCounter, cX8_takeCounter, 2, none)
set_option maxRecDepth 20000 in
theorem kX8_takeCounter : aMd mX8_takeCounter 0 := ⟨aTB_at 813 rfl rfl, aTB_at 66 (by decide +kernel) rfl, plainFor_of_name (by decide), ⟨by decide, by decide, by decide +kernel⟩, by decide⟩
abbrev mX8_less : aY := (yX8_less, cX8_less, 2, some (.int))
set_option maxRecDepth 20000 in
theorem kX8_less : aMd mX8_less 2 := ⟨aTB_at 816 rfl rfl, aTB_at 66 (by decide +kernel) rfl, plainFor_of_name (by decide), ⟨by decide, by decide, by decide +kernel⟩, by decide⟩
abbrev mX8_without : aY := (yX8_without, cX8_without, 4, none)
set_option maxRecDepth 20000 in
theorem kX8_without : aMd mX8_without 2 := ⟨aTB_at 820 rfl rfl, aTB_at 66 (by decide +kernel) rfl, plainFor_of_name (by decide), ⟨by decide, by decide, by decide +kernel⟩, by decide⟩
abbrev mX8_many : aY := (yX8_many, cX8_many, 4, some (.int))
set_option maxRecDepth 20000 in
theorem kX8_many : aMd mX8_many 2 := ⟨aTB_at 824 rfl rfl, aTB_at 66 (by decide +kernel) rfl, plainFor_of_name (by decide), ⟨by decide, by decide, by decide +kernel⟩, by decide⟩
abbrev mX8_all : aY := (yX8_all, cX8_all, 3, some (.int))
set_option maxRecDepth 20000 in
theorem kX8_all : aMd mX8_all 2 := ⟨aTB_at 828 rfl rfl, aTB_at 66 (by decide +kernel) rfl, plainFor_of_name (by decide), ⟨by decide, by decide, by decide +kernel⟩, by decide⟩
abbrev mX8_sort : aY := (yX8_sort, cX8_sort, 4, some (.int))
set_option maxRecDepth 20000 in
theorem kX8_sort : aMd mX8_sort 2 := ⟨aTB_at 831 rfl rfl, aTB_at 66 (by decide +kernel) rfl, plainFor_of_name (by decide), ⟨by decide, by decide, by decide +kernel⟩, by decide⟩
abbrev mX8_power : aY := (yX8_power, cX8_power, 4, some (.int))
set_option maxRecDepth 20000 in
theorem kX8_power : aMd mX8_power 2 := ⟨aTB_at 834 rfl rfl, aTB_at 66 (by decide +kernel) rfl, plainFor_of_name (by decide), ⟨by decide, by decide, by decide +kernel⟩, by decide⟩
abbrev mX8_small : aY := (yX8_small, cX8_small, 10, some (.int))
set_option maxRecDepth 20000 in
theorem kX8_small : aMd mX8_small 2 := ⟨aTB_at 838 rfl rfl, aTB_at 66 (by decide +kernel) rfl, plainFor_of_name (by decide), ⟨by decide, by decide, by decide +kernel⟩, by decide⟩
abbrev mX8_takeSmall : aY := (yX8_takeSmall, cX8_takeSmall, 9, none)
set_option maxRecDepth 20000 in
theorem kX8_takeSmall : aMd mX8_takeSmall 4 := ⟨aTB_at 842 rfl rfl, aTB_at 66 (by decide +kernel) rfl, plainFor_of_name (by decide), ⟨by decide, by decide, by decide +kernel⟩, by decide⟩
abbrev mX8_ranked : aY := (yX8_ranked, cX8_ranked, 1, some (.int))
set_option maxRecDepth 20000 in
theorem kX8_ranked : aMd mX8_ranked 1 := ⟨aTB_at 845 rfl rfl, aTB_at 66 (by decide +kernel) rfl, plainFor_of_name (by decide), ⟨by decide, by decide, by decide +kernel⟩, by decide⟩
abbrev mX8_again : aY := (yX8_again, cX8_again, 1, some (.int))
set_option maxRecDepth 20000 in
theorem kX8_again : aMd mX8_again 0 := ⟨aTB_at 849 rfl rfl, aTB_at 66 (by decide +kernel) rfl, plainFor_of_name (by decide), ⟨by decide, by decide, by decide +kernel⟩, by decide⟩
abbrev mX8_counter : aY := (yX8_counter, cX8_counter, 3, some (.int))
set_option maxRecDepth 20000 in
theorem kX8_counter : aMd mX8_counter 2 := ⟨aTB_at 853 rfl rfl, aTB_at 66 (by decide +kernel) rfl, plainFor_of_name (by decide), ⟨by decide, by decide, by decide +kernel⟩, by decide⟩
abbrev mX8_told : aY := (yX8_told, cX8_told, 2, some (.int))
set_option maxRecDepth 20000 in
theorem kX8_told : aMd mX8_told 1 := ⟨aTB_at 857 rfl rfl, aTB_at 66 (by decide +kernel) rfl, plainFor_of_name (by decide), ⟨by decide, by decide, by decide +kernel⟩, by decide⟩
abbrev mX8_label : aY := (yX8_label, cX8_label, 2, some (.int))
set_option maxRecDepth 20000 in
theorem kX8_label : aMd mX8_label 1 := ⟨aTB_at 861 rfl rfl, aTB_at 66 (by decide +kernel) rfl, plainFor_of_name (by decide), ⟨by decide, by decide, by decide +kernel⟩, by decide⟩
theorem z_PropertyTestsLaw : Cond.initialized "PropertyTestsLaw" ∈ aTB := aTB_at 59 (by decide +kernel) rfl
theorem z_PropertyTests : Cond.initialized "PropertyTests" ∈ aTB := aTB_at 60 (by decide +kernel) rfl
theorem z_PropertyTests_Worker : Cond.initialized "PropertyTests$Worker" ∈ aTB := aTB_at 61 (by decide +kernel) rfl
theorem z_PropertyTests_Terms : Cond.initialized "PropertyTests$Terms" ∈ aTB := aTB_at 62 (by decide +kernel) rfl
theorem z_PropertyTests_Value : Cond.initialized "PropertyTests$Value" ∈ aTB := aTB_at 63 (by decide +kernel) rfl
theorem z_PropertyTests_Property : Cond.initialized "PropertyTests$Property" ∈ aTB := aTB_at 64 (by decide +kernel) rfl
theorem z_PropertyTests_Tally : Cond.initialized "PropertyTests$Tally" ∈ aTB := aTB_at 65 (by decide +kernel) rfl
theorem z_PropertyTestsModel : Cond.initialized "PropertyTestsModel" ∈ aTB := aTB_at 66 (by decide +kernel) rfl
theorem z_PropertyTests_Draw : Cond.initialized "PropertyTests$Draw" ∈ aTB := aTB_at 67 (by decide +kernel) rfl
theorem z_java_lang_Math : Cond.initialized "java/lang/Math" ∈ aTB := aTB_at 68 (by decide +kernel) rfl
theorem z_java_lang_System : Cond.initialized "java/lang/System" ∈ aTB := aTB_at 69 (by decide +kernel) rfl
theorem z_PropertyTests_Small : Cond.initialized "PropertyTests$Small" ∈ aTB := aTB_at 70 (by decide +kernel) rfl
theorem gL_9 : aLk RL 9 yX7_init := Or.inl (aTB_at 73 (by decide +kernel) rfl)
theorem iyX7_init : Cond.instanceMethod yX7_init ∈ aTB := aTB_at 74 (by decide +kernel) rfl
theorem gX7_1 : Cond.methodLink RX7 1 objectInit ∈ aTB := aTB_at 76 (by decide +kernel) rfl
theorem iobjectInit : Cond.instanceMethod objectInit ∈ aTB := aTB_at 77 (by decide +kernel) rfl
theorem gX7_9 : aLk RX7 9 yX6_init := Or.inr ⟨"PropertyTests", aNT_at 22 (by decide +kernel) rfl⟩
theorem iyX6_init : Cond.instanceMethod yX6_init ∈ aTB := aTB_at 82 (by decide +kernel) rfl
theorem gX6_3 : Cond.methodLink RX6 3 objectInit ∈ aTB := aTB_at 84 (by decide +kernel) rfl
theorem gX6_11 : aLk RX6 11 yX4_init := Or.inr ⟨"PropertyTests", aNT_at 28 (by decide +kernel) rfl⟩
theorem iyX4_init : Cond.instanceMethod yX4_init ∈ aTB := aTB_at 88 (by decide +kernel) rfl
theorem gX4_3 : Cond.methodLink RX4 3 objectInit ∈ aTB := aTB_at 90 (by decide +kernel) rfl
theorem fX4_9 : aFd RX4 9 2 0 := ⟨RX4, TX4, 6, rfl, by decide, uX4, Or.inl (aTB_at 91 (by decide +kernel) rfl)⟩
theorem pX4_9 : aFp RX4 9 2 0 true (.array .int) := ⟨RX4, TX4, 6, tyX4, rfl, by decide, uX4, tyX4_ok, nmX4, rfl, by decide +kernel, Or.inl ⟨aTB_at 91 (by decide +kernel) rfl, fun _ => rfl⟩⟩
theorem fX6_66 : aFd RX6 66 2 0 := ⟨RX4, TX4, 6, rfl, by decide, uX4, Or.inr ⟨"PropertyTests", aNT_at 33 (by decide +kernel) rfl⟩⟩
theorem fX4_15 : aFd RX4 15 2 1 := ⟨RX4, TX4, 6, rfl, by decide, uX4, Or.inl (aTB_at 93 (by decide +kernel) rfl)⟩
theorem pX4_15 : aFp RX4 15 2 1 true (.array .int) := ⟨RX4, TX4, 6, tyX4, rfl, by decide, uX4, tyX4_ok, nmX4, rfl, by decide +kernel, Or.inl ⟨aTB_at 93 (by decide +kernel) rfl, fun _ => rfl⟩⟩
theorem fX6_73 : aFd RX6 73 2 1 := ⟨RX4, TX4, 6, rfl, by decide, uX4, Or.inr ⟨"PropertyTests", aNT_at 35 (by decide +kernel) rfl⟩⟩
theorem fX4_18 : aFd RX4 18 2 2 := ⟨RX4, TX4, 6, rfl, by decide, uX4, Or.inl (aTB_at 95 (by decide +kernel) rfl)⟩
theorem pX4_18 : aFp RX4 18 2 2 true (.array .int) := ⟨RX4, TX4, 6, tyX4, rfl, by decide, uX4, tyX4_ok, nmX4, rfl, by decide +kernel, Or.inl ⟨aTB_at 95 (by decide +kernel) rfl, fun _ => rfl⟩⟩
theorem fX6_80 : aFd RX6 80 2 2 := ⟨RX4, TX4, 6, rfl, by decide, uX4, Or.inr ⟨"PropertyTests", aNT_at 37 (by decide +kernel) rfl⟩⟩
theorem fX4_21 : aFd RX4 21 2 3 := ⟨RX4, TX4, 6, rfl, by decide, uX4, Or.inl (aTB_at 97 (by decide +kernel) rfl)⟩
theorem pX4_21 : aFp RX4 21 2 3 true (.array .int) := ⟨RX4, TX4, 6, tyX4, rfl, by decide, uX4, tyX4_ok, nmX4, rfl, by decide +kernel, Or.inl ⟨aTB_at 97 (by decide +kernel) rfl, fun _ => rfl⟩⟩
theorem fX6_83 : aFd RX6 83 2 3 := ⟨RX4, TX4, 6, rfl, by decide, uX4, Or.inr ⟨"PropertyTests", aNT_at 39 (by decide +kernel) rfl⟩⟩
theorem fX4_24 : aFd RX4 24 2 4 := ⟨RX4, TX4, 6, rfl, by decide, uX4, Or.inl (aTB_at 99 (by decide +kernel) rfl)⟩
theorem pX4_24 : aFp RX4 24 2 4 true (.array .int) := ⟨RX4, TX4, 6, tyX4, rfl, by decide, uX4, tyX4_ok, nmX4, rfl, by decide +kernel, Or.inl ⟨aTB_at 99 (by decide +kernel) rfl, fun _ => rfl⟩⟩
theorem fX6_110 : aFd RX6 110 2 4 := ⟨RX4, TX4, 6, rfl, by decide, uX4, Or.inr ⟨"PropertyTests", aNT_at 41 (by decide +kernel) rfl⟩⟩
theorem fX4_27 : aFd RX4 27 2 5 := ⟨RX4, TX4, 6, rfl, by decide, uX4, Or.inl (aTB_at 101 (by decide +kernel) rfl)⟩
theorem pX4_27 : aFp RX4 27 2 5 false (.int) := ⟨RX4, TX4, 6, tyX4, rfl, by decide, uX4, tyX4_ok, nmX4, rfl, by decide +kernel, Or.inl ⟨aTB_at 101 (by decide +kernel) rfl, fun h => by cases h⟩⟩
theorem fX7_73 : aFd RX7 73 2 5 := ⟨RX4, TX4, 6, rfl, by decide, uX4, Or.inr ⟨"PropertyTests", aNT_at 43 (by decide +kernel) rfl⟩⟩
theorem pX7_73 : aFp RX7 73 2 5 false (.int) := ⟨RX4, TX4, 6, tyX4, rfl, by decide, uX4, tyX4_ok, nmX4, rfl, by decide +kernel, Or.inr ⟨rfl, "PropertyTests", aNT_at 43 (by decide +kernel) rfl⟩⟩
theorem arrI : Cond.arrayClass .int ∈ aTB := aTB_at 116 (by decide +kernel) rfl
theorem gX6_18 : aLk RX6 18 yX7_newValues := Or.inr ⟨"PropertyTests", aNT_at 58 (by decide +kernel) rfl⟩
theorem syX7_newValues : Cond.static yX7_newValues ∈ aTB := aTB_at 118 (by decide +kernel) rfl
theorem gX7_37 : aLk RX7 37 yX5_init := Or.inr ⟨"PropertyTests", aNT_at 64 (by decide +kernel) rfl⟩
theorem iyX5_init : Cond.instanceMethod yX5_init ∈ aTB := aTB_at 124 (by decide +kernel) rfl
theorem gX5_3 : Cond.methodLink RX5 3 objectInit ∈ aTB := aTB_at 126 (by decide +kernel) rfl
theorem fX5_9 : aFd RX5 9 3 0 := ⟨RX5, TX5, 4, rfl, by decide, uX5, Or.inl (aTB_at 127 (by decide +kernel) rfl)⟩
theorem pX5_9 : aFp RX5 9 3 0 false (.int) := ⟨RX5, TX5, 4, tyX5, rfl, by decide, uX5, tyX5_ok, nmX5, rfl, by decide +kernel, Or.inl ⟨aTB_at 127 (by decide +kernel) rfl, fun h => by cases h⟩⟩
theorem fX6_104 : aFd RX6 104 3 0 := ⟨RX5, TX5, 4, rfl, by decide, uX5, Or.inr ⟨"PropertyTests", aNT_at 69 (by decide +kernel) rfl⟩⟩
theorem pX6_104 : aFp RX6 104 3 0 false (.int) := ⟨RX5, TX5, 4, tyX5, rfl, by decide, uX5, tyX5_ok, nmX5, rfl, by decide +kernel, Or.inr ⟨rfl, "PropertyTests", aNT_at 69 (by decide +kernel) rfl⟩⟩
theorem fX5_15 : aFd RX5 15 3 1 := ⟨RX5, TX5, 4, rfl, by decide, uX5, Or.inl (aTB_at 129 (by decide +kernel) rfl)⟩
theorem pX5_15 : aFp RX5 15 3 1 false (.int) := ⟨RX5, TX5, 4, tyX5, rfl, by decide, uX5, tyX5_ok, nmX5, rfl, by decide +kernel, Or.inl ⟨aTB_at 129 (by decide +kernel) rfl, fun h => by cases h⟩⟩
theorem fX6_48 : aFd RX6 48 3 1 := ⟨RX5, TX5, 4, rfl, by decide, uX5, Or.inr ⟨"PropertyTests", aNT_at 71 (by decide +kernel) rfl⟩⟩
theorem pX6_48 : aFp RX6 48 3 1 false (.int) := ⟨RX5, TX5, 4, tyX5, rfl, by decide, uX5, tyX5_ok, nmX5, rfl, by decide +kernel, Or.inr ⟨rfl, "PropertyTests", aNT_at 71 (by decide +kernel) rfl⟩⟩
theorem fX5_18 : aFd RX5 18 3 2 := ⟨RX5, TX5, 4, rfl, by decide, uX5, Or.inl (aTB_at 131 (by decide +kernel) rfl)⟩
theorem pX5_18 : aFp RX5 18 3 2 false (.int) := ⟨RX5, TX5, 4, tyX5, rfl, by decide, uX5, tyX5_ok, nmX5, rfl, by decide +kernel, Or.inl ⟨aTB_at 131 (by decide +kernel) rfl, fun h => by cases h⟩⟩
theorem fX0_35 : aFd RX0 35 3 2 := ⟨RX5, TX5, 4, rfl, by decide, uX5, Or.inr ⟨"PropertyTests", aNT_at 73 (by decide +kernel) rfl⟩⟩
theorem pX0_35 : aFp RX0 35 3 2 false (.int) := ⟨RX5, TX5, 4, tyX5, rfl, by decide, uX5, tyX5_ok, nmX5, rfl, by decide +kernel, Or.inr ⟨rfl, "PropertyTests", aNT_at 73 (by decide +kernel) rfl⟩⟩
theorem fX6_132 : aFd RX6 132 3 2 := ⟨RX5, TX5, 4, rfl, by decide, uX5, Or.inr ⟨"PropertyTests", aNT_at 74 (by decide +kernel) rfl⟩⟩
theorem pX6_132 : aFp RX6 132 3 2 false (.int) := ⟨RX5, TX5, 4, tyX5, rfl, by decide, uX5, tyX5_ok, nmX5, rfl, by decide +kernel, Or.inr ⟨rfl, "PropertyTests", aNT_at 74 (by decide +kernel) rfl⟩⟩
theorem fX5_21 : aFd RX5 21 3 3 := ⟨RX5, TX5, 4, rfl, by decide, uX5, Or.inl (aTB_at 134 (by decide +kernel) rfl)⟩
theorem pX5_21 : aFp RX5 21 3 3 true (.array .int) := ⟨RX5, TX5, 4, tyX5, rfl, by decide, uX5, tyX5_ok, nmX5, rfl, by decide +kernel, Or.inl ⟨aTB_at 134 (by decide +kernel) rfl, fun _ => rfl⟩⟩
theorem fX0_39 : aFd RX0 39 3 3 := ⟨RX5, TX5, 4, rfl, by decide, uX5, Or.inr ⟨"PropertyTests", aNT_at 76 (by decide +kernel) rfl⟩⟩
theorem fX2_42 : aFd RX2 42 3 3 := ⟨RX5, TX5, 4, rfl, by decide, uX5, Or.inr ⟨"PropertyTests", aNT_at 77 (by decide +kernel) rfl⟩⟩
theorem fX6_164 : aFd RX6 164 3 3 := ⟨RX5, TX5, 4, rfl, by decide, uX5, Or.inr ⟨"PropertyTests", aNT_at 78 (by decide +kernel) rfl⟩⟩
theorem fX6_12 : aFd RX6 12 4 0 := ⟨RX6, TX6, 5, rfl, by decide, uX6, Or.inl (aTB_at 147 (by decide +kernel) rfl)⟩
theorem pX6_12 : aFp RX6 12 4 0 true (.object "PropertyTests$Terms") := ⟨RX6, TX6, 5, tyX6, rfl, by decide, uX6, tyX6_ok, nmX6, rfl, by decide +kernel, Or.inl ⟨aTB_at 147 (by decide +kernel) rfl, fun _ => rfl⟩⟩
theorem fX7_16 : aFd RX7 16 4 0 := ⟨RX6, TX6, 5, rfl, by decide, uX6, Or.inr ⟨"PropertyTests", aNT_at 89 (by decide +kernel) rfl⟩⟩
theorem fX6_22 : aFd RX6 22 4 1 := ⟨RX6, TX6, 5, rfl, by decide, uX6, Or.inl (aTB_at 149 (by decide +kernel) rfl)⟩
theorem pX6_22 : aFp RX6 22 4 1 true (.array (.object "PropertyTests$Value")) := ⟨RX6, TX6, 5, tyX6, rfl, by decide, uX6, tyX6_ok, nmX6, rfl, by decide +kernel, Or.inl ⟨aTB_at 149 (by decide +kernel) rfl, fun _ => rfl⟩⟩
theorem fX7_21 : aFd RX7 21 4 1 := ⟨RX6, TX6, 5, rfl, by decide, uX6, Or.inr ⟨"PropertyTests", aNT_at 91 (by decide +kernel) rfl⟩⟩
theorem fX6_26 : aFd RX6 26 4 2 := ⟨RX6, TX6, 5, rfl, by decide, uX6, Or.inl (aTB_at 151 (by decide +kernel) rfl)⟩
theorem pX6_26 : aFp RX6 26 4 2 true (.array (.object "PropertyTests$Value")) := ⟨RX6, TX6, 5, tyX6, rfl, by decide, uX6, tyX6_ok, nmX6, rfl, by decide +kernel, Or.inl ⟨aTB_at 151 (by decide +kernel) rfl, fun _ => rfl⟩⟩
theorem fX6_29 : aFd RX6 29 4 3 := ⟨RX6, TX6, 5, rfl, by decide, uX6, Or.inl (aTB_at 152 (by decide +kernel) rfl)⟩
theorem pX6_29 : aFp RX6 29 4 3 false (.int) := ⟨RX6, TX6, 5, tyX6, rfl, by decide, uX6, tyX6_ok, nmX6, rfl, by decide +kernel, Or.inl ⟨aTB_at 152 (by decide +kernel) rfl, fun h => by cases h⟩⟩
theorem fX6_33 : aFd RX6 33 4 4 := ⟨RX6, TX6, 5, rfl, by decide, uX6, Or.inl (aTB_at 153 (by decide +kernel) rfl)⟩
theorem pX6_33 : aFp RX6 33 4 4 false (.int) := ⟨RX6, TX6, 5, tyX6, rfl, by decide, uX6, tyX6_ok, nmX6, rfl, by decide +kernel, Or.inl ⟨aTB_at 153 (by decide +kernel) rfl, fun h => by cases h⟩⟩
theorem fX7_101 : aFd RX7 101 4 4 := ⟨RX6, TX6, 5, rfl, by decide, uX6, Or.inr ⟨"PropertyTests", aNT_at 95 (by decide +kernel) rfl⟩⟩
theorem pX7_101 : aFp RX7 101 4 4 false (.int) := ⟨RX6, TX6, 5, tyX6, rfl, by decide, uX6, tyX6_ok, nmX6, rfl, by decide +kernel, Or.inr ⟨rfl, "PropertyTests", aNT_at 95 (by decide +kernel) rfl⟩⟩
theorem gX7_28 : aLk RX7 28 yX7_newValues := Or.inl (aTB_at 166 (by decide +kernel) rfl)
theorem gX7_48 : aLk RX7 48 yX1_init := Or.inr ⟨"PropertyTests", aNT_at 111 (by decide +kernel) rfl⟩
theorem iyX1_init : Cond.instanceMethod yX1_init ∈ aTB := aTB_at 171 (by decide +kernel) rfl
theorem gX1_3 : Cond.methodLink RX1 3 objectInit ∈ aTB := aTB_at 173 (by decide +kernel) rfl
theorem fX1_9 : aFd RX1 9 0 0 := ⟨RX1, TX1, 5, rfl, by decide, uX1, Or.inl (aTB_at 174 (by decide +kernel) rfl)⟩
theorem pX1_9 : aFp RX1 9 0 0 true (.array .int) := ⟨RX1, TX1, 5, tyX1, rfl, by decide, uX1, tyX1_ok, nmX1, rfl, by decide +kernel, Or.inl ⟨aTB_at 174 (by decide +kernel) rfl, fun _ => rfl⟩⟩
theorem fX7_107 : aFd RX7 107 0 0 := ⟨RX1, TX1, 5, rfl, by decide, uX1, Or.inr ⟨"PropertyTests", aNT_at 116 (by decide +kernel) rfl⟩⟩
theorem fX1_15 : aFd RX1 15 0 1 := ⟨RX1, TX1, 5, rfl, by decide, uX1, Or.inl (aTB_at 176 (by decide +kernel) rfl)⟩
theorem pX1_15 : aFp RX1 15 0 1 false (.int) := ⟨RX1, TX1, 5, tyX1, rfl, by decide, uX1, tyX1_ok, nmX1, rfl, by decide +kernel, Or.inl ⟨aTB_at 176 (by decide +kernel) rfl, fun h => by cases h⟩⟩
theorem fX6_36 : aFd RX6 36 0 1 := ⟨RX1, TX1, 5, rfl, by decide, uX1, Or.inr ⟨"PropertyTests", aNT_at 118 (by decide +kernel) rfl⟩⟩
theorem pX6_36 : aFp RX6 36 0 1 false (.int) := ⟨RX1, TX1, 5, tyX1, rfl, by decide, uX1, tyX1_ok, nmX1, rfl, by decide +kernel, Or.inr ⟨rfl, "PropertyTests", aNT_at 118 (by decide +kernel) rfl⟩⟩
theorem fX1_19 : aFd RX1 19 0 2 := ⟨RX1, TX1, 5, rfl, by decide, uX1, Or.inl (aTB_at 178 (by decide +kernel) rfl)⟩
theorem pX1_19 : aFp RX1 19 0 2 false (.int) := ⟨RX1, TX1, 5, tyX1, rfl, by decide, uX1, tyX1_ok, nmX1, rfl, by decide +kernel, Or.inl ⟨aTB_at 178 (by decide +kernel) rfl, fun h => by cases h⟩⟩
theorem fX6_53 : aFd RX6 53 0 2 := ⟨RX1, TX1, 5, rfl, by decide, uX1, Or.inr ⟨"PropertyTests", aNT_at 120 (by decide +kernel) rfl⟩⟩
theorem pX6_53 : aFp RX6 53 0 2 false (.int) := ⟨RX1, TX1, 5, tyX1, rfl, by decide, uX1, tyX1_ok, nmX1, rfl, by decide +kernel, Or.inr ⟨rfl, "PropertyTests", aNT_at 120 (by decide +kernel) rfl⟩⟩
theorem fX1_22 : aFd RX1 22 0 3 := ⟨RX1, TX1, 5, rfl, by decide, uX1, Or.inl (aTB_at 180 (by decide +kernel) rfl)⟩
theorem pX1_22 : aFp RX1 22 0 3 false (.int) := ⟨RX1, TX1, 5, tyX1, rfl, by decide, uX1, tyX1_ok, nmX1, rfl, by decide +kernel, Or.inl ⟨aTB_at 180 (by decide +kernel) rfl, fun h => by cases h⟩⟩
theorem fX6_59 : aFd RX6 59 0 3 := ⟨RX1, TX1, 5, rfl, by decide, uX1, Or.inr ⟨"PropertyTests", aNT_at 122 (by decide +kernel) rfl⟩⟩
theorem pX6_59 : aFp RX6 59 0 3 false (.int) := ⟨RX1, TX1, 5, tyX1, rfl, by decide, uX1, tyX1_ok, nmX1, rfl, by decide +kernel, Or.inr ⟨rfl, "PropertyTests", aNT_at 122 (by decide +kernel) rfl⟩⟩
theorem fX7_167 : aFd RX7 167 0 3 := ⟨RX1, TX1, 5, rfl, by decide, uX1, Or.inr ⟨"PropertyTests", aNT_at 123 (by decide +kernel) rfl⟩⟩
theorem pX7_167 : aFp RX7 167 0 3 false (.int) := ⟨RX1, TX1, 5, tyX1, rfl, by decide, uX1, tyX1_ok, nmX1, rfl, by decide +kernel, Or.inr ⟨rfl, "PropertyTests", aNT_at 123 (by decide +kernel) rfl⟩⟩
theorem fX1_25 : aFd RX1 25 0 4 := ⟨RX1, TX1, 5, rfl, by decide, uX1, Or.inl (aTB_at 183 (by decide +kernel) rfl)⟩
theorem pX1_25 : aFp RX1 25 0 4 false (.int) := ⟨RX1, TX1, 5, tyX1, rfl, by decide, uX1, tyX1_ok, nmX1, rfl, by decide +kernel, Or.inl ⟨aTB_at 183 (by decide +kernel) rfl, fun h => by cases h⟩⟩
theorem fX6_56 : aFd RX6 56 0 4 := ⟨RX1, TX1, 5, rfl, by decide, uX1, Or.inr ⟨"PropertyTests", aNT_at 125 (by decide +kernel) rfl⟩⟩
theorem pX6_56 : aFp RX6 56 0 4 false (.int) := ⟨RX1, TX1, 5, tyX1, rfl, by decide, uX1, tyX1_ok, nmX1, rfl, by decide +kernel, Or.inr ⟨rfl, "PropertyTests", aNT_at 125 (by decide +kernel) rfl⟩⟩
theorem gX7_51 : aLk RX7 51 yX3_init := Or.inr ⟨"PropertyTests", aNT_at 139 (by decide +kernel) rfl⟩
theorem iyX3_init : Cond.instanceMethod yX3_init ∈ aTB := aTB_at 199 (by decide +kernel) rfl
theorem gX3_3 : Cond.methodLink RX3 3 objectInit ∈ aTB := aTB_at 201 (by decide +kernel) rfl
theorem fX3_9 : aFd RX3 9 1 0 := ⟨RX3, TX3, 9, rfl, by decide, uX3, Or.inl (aTB_at 202 (by decide +kernel) rfl)⟩
theorem pX3_9 : aFp RX3 9 1 0 true (.array .int) := ⟨RX3, TX3, 9, tyX3, rfl, by decide, uX3, tyX3_ok, nmX3, rfl, by decide +kernel, Or.inl ⟨aTB_at 202 (by decide +kernel) rfl, fun _ => rfl⟩⟩
theorem fX7_154 : aFd RX7 154 1 0 := ⟨RX3, TX3, 9, rfl, by decide, uX3, Or.inr ⟨"PropertyTests", aNT_at 144 (by decide +kernel) rfl⟩⟩
theorem fX3_15 : aFd RX3 15 1 1 := ⟨RX3, TX3, 9, rfl, by decide, uX3, Or.inl (aTB_at 204 (by decide +kernel) rfl)⟩
theorem pX3_15 : aFp RX3 15 1 1 false (.int) := ⟨RX3, TX3, 9, tyX3, rfl, by decide, uX3, tyX3_ok, nmX3, rfl, by decide +kernel, Or.inl ⟨aTB_at 204 (by decide +kernel) rfl, fun h => by cases h⟩⟩
theorem fX3_19 : aFd RX3 19 1 2 := ⟨RX3, TX3, 9, rfl, by decide, uX3, Or.inl (aTB_at 205 (by decide +kernel) rfl)⟩
theorem pX3_19 : aFp RX3 19 1 2 false (.int) := ⟨RX3, TX3, 9, tyX3, rfl, by decide, uX3, tyX3_ok, nmX3, rfl, by decide +kernel, Or.inl ⟨aTB_at 205 (by decide +kernel) rfl, fun h => by cases h⟩⟩
theorem fX7_124 : aFd RX7 124 1 2 := ⟨RX3, TX3, 9, rfl, by decide, uX3, Or.inr ⟨"PropertyTests", aNT_at 147 (by decide +kernel) rfl⟩⟩
theorem pX7_124 : aFp RX7 124 1 2 false (.int) := ⟨RX3, TX3, 9, tyX3, rfl, by decide, uX3, tyX3_ok, nmX3, rfl, by decide +kernel, Or.inr ⟨rfl, "PropertyTests", aNT_at 147 (by decide +kernel) rfl⟩⟩
theorem fX3_22 : aFd RX3 22 1 3 := ⟨RX3, TX3, 9, rfl, by decide, uX3, Or.inl (aTB_at 207 (by decide +kernel) rfl)⟩
theorem pX3_22 : aFp RX3 22 1 3 false (.int) := ⟨RX3, TX3, 9, tyX3, rfl, by decide, uX3, tyX3_ok, nmX3, rfl, by decide +kernel, Or.inl ⟨aTB_at 207 (by decide +kernel) rfl, fun h => by cases h⟩⟩
theorem fX3_25 : aFd RX3 25 1 4 := ⟨RX3, TX3, 9, rfl, by decide, uX3, Or.inl (aTB_at 208 (by decide +kernel) rfl)⟩
theorem pX3_25 : aFp RX3 25 1 4 false (.int) := ⟨RX3, TX3, 9, tyX3, rfl, by decide, uX3, tyX3_ok, nmX3, rfl, by decide +kernel, Or.inl ⟨aTB_at 208 (by decide +kernel) rfl, fun h => by cases h⟩⟩
theorem fX7_179 : aFd RX7 179 1 4 := ⟨RX3, TX3, 9, rfl, by decide, uX3, Or.inr ⟨"PropertyTests", aNT_at 150 (by decide +kernel) rfl⟩⟩
theorem pX7_179 : aFp RX7 179 1 4 false (.int) := ⟨RX3, TX3, 9, tyX3, rfl, by decide, uX3, tyX3_ok, nmX3, rfl, by decide +kernel, Or.inr ⟨rfl, "PropertyTests", aNT_at 150 (by decide +kernel) rfl⟩⟩
theorem fX3_28 : aFd RX3 28 1 5 := ⟨RX3, TX3, 9, rfl, by decide, uX3, Or.inl (aTB_at 210 (by decide +kernel) rfl)⟩
theorem pX3_28 : aFp RX3 28 1 5 false (.int) := ⟨RX3, TX3, 9, tyX3, rfl, by decide, uX3, tyX3_ok, nmX3, rfl, by decide +kernel, Or.inl ⟨aTB_at 210 (by decide +kernel) rfl, fun h => by cases h⟩⟩
theorem fX3_31 : aFd RX3 31 1 6 := ⟨RX3, TX3, 9, rfl, by decide, uX3, Or.inl (aTB_at 211 (by decide +kernel) rfl)⟩
theorem pX3_31 : aFp RX3 31 1 6 false (.int) := ⟨RX3, TX3, 9, tyX3, rfl, by decide, uX3, tyX3_ok, nmX3, rfl, by decide +kernel, Or.inl ⟨aTB_at 211 (by decide +kernel) rfl, fun h => by cases h⟩⟩
theorem fX7_176 : aFd RX7 176 1 6 := ⟨RX3, TX3, 9, rfl, by decide, uX3, Or.inr ⟨"PropertyTests", aNT_at 153 (by decide +kernel) rfl⟩⟩
theorem pX7_176 : aFp RX7 176 1 6 false (.int) := ⟨RX3, TX3, 9, tyX3, rfl, by decide, uX3, tyX3_ok, nmX3, rfl, by decide +kernel, Or.inr ⟨rfl, "PropertyTests", aNT_at 153 (by decide +kernel) rfl⟩⟩
theorem fX3_34 : aFd RX3 34 1 7 := ⟨RX3, TX3, 9, rfl, by decide, uX3, Or.inl (aTB_at 213 (by decide +kernel) rfl)⟩
theorem pX3_34 : aFp RX3 34 1 7 false (.int) := ⟨RX3, TX3, 9, tyX3, rfl, by decide, uX3, tyX3_ok, nmX3, rfl, by decide +kernel, Or.inl ⟨aTB_at 213 (by decide +kernel) rfl, fun h => by cases h⟩⟩
theorem fX7_181 : aFd RX7 181 1 7 := ⟨RX3, TX3, 9, rfl, by decide, uX3, Or.inr ⟨"PropertyTests", aNT_at 155 (by decide +kernel) rfl⟩⟩
theorem pX7_181 : aFp RX7 181 1 7 false (.int) := ⟨RX3, TX3, 9, tyX3, rfl, by decide, uX3, tyX3_ok, nmX3, rfl, by decide +kernel, Or.inr ⟨rfl, "PropertyTests", aNT_at 155 (by decide +kernel) rfl⟩⟩
theorem fX3_37 : aFd RX3 37 1 8 := ⟨RX3, TX3, 9, rfl, by decide, uX3, Or.inl (aTB_at 215 (by decide +kernel) rfl)⟩
theorem pX3_37 : aFp RX3 37 1 8 false (.boolean) := ⟨RX3, TX3, 9, tyX3, rfl, by decide, uX3, tyX3_ok, nmX3, rfl, by decide +kernel, Or.inl ⟨aTB_at 215 (by decide +kernel) rfl, fun h => by cases h⟩⟩
theorem fX7_184 : aFd RX7 184 1 8 := ⟨RX3, TX3, 9, rfl, by decide, uX3, Or.inr ⟨"PropertyTests", aNT_at 157 (by decide +kernel) rfl⟩⟩
theorem pX7_184 : aFp RX7 184 1 8 false (.boolean) := ⟨RX3, TX3, 9, tyX3, rfl, by decide, uX3, tyX3_ok, nmX3, rfl, by decide +kernel, Or.inr ⟨rfl, "PropertyTests", aNT_at 157 (by decide +kernel) rfl⟩⟩
theorem fX7_10 : aFd RX7 10 5 0 := ⟨RX7, TX7, 9, rfl, by decide, uX7, Or.inl (aTB_at 236 (by decide +kernel) rfl)⟩
theorem pX7_10 : aFp RX7 10 5 0 true (.object "PropertyTests$Worker") := ⟨RX7, TX7, 9, tyX7, rfl, by decide, uX7, tyX7_ok, nmX7, rfl, by decide +kernel, Or.inl ⟨aTB_at 236 (by decide +kernel) rfl, fun _ => rfl⟩⟩
theorem fX7_20 : aFd RX7 20 5 1 := ⟨RX7, TX7, 9, rfl, by decide, uX7, Or.inl (aTB_at 237 (by decide +kernel) rfl)⟩
theorem pX7_20 : aFp RX7 20 5 1 true (.object "PropertyTests$Terms") := ⟨RX7, TX7, 9, tyX7, rfl, by decide, uX7, tyX7_ok, nmX7, rfl, by decide +kernel, Or.inl ⟨aTB_at 237 (by decide +kernel) rfl, fun _ => rfl⟩⟩
theorem fX7_25 : aFd RX7 25 5 2 := ⟨RX7, TX7, 9, rfl, by decide, uX7, Or.inl (aTB_at 238 (by decide +kernel) rfl)⟩
theorem pX7_25 : aFp RX7 25 5 2 true (.array (.object "PropertyTests$Value")) := ⟨RX7, TX7, 9, tyX7, rfl, by decide, uX7, tyX7_ok, nmX7, rfl, by decide +kernel, Or.inl ⟨aTB_at 238 (by decide +kernel) rfl, fun _ => rfl⟩⟩
theorem fX7_32 : aFd RX7 32 5 3 := ⟨RX7, TX7, 9, rfl, by decide, uX7, Or.inl (aTB_at 239 (by decide +kernel) rfl)⟩
theorem pX7_32 : aFp RX7 32 5 3 true (.array (.object "PropertyTests$Value")) := ⟨RX7, TX7, 9, tyX7, rfl, by decide, uX7, tyX7_ok, nmX7, rfl, by decide +kernel, Or.inl ⟨aTB_at 239 (by decide +kernel) rfl, fun _ => rfl⟩⟩
theorem fX7_38 : aFd RX7 38 5 4 := ⟨RX7, TX7, 9, rfl, by decide, uX7, Or.inl (aTB_at 240 (by decide +kernel) rfl)⟩
theorem pX7_38 : aFp RX7 38 5 4 true (.object "PropertyTests$Value") := ⟨RX7, TX7, 9, tyX7, rfl, by decide, uX7, tyX7_ok, nmX7, rfl, by decide +kernel, Or.inl ⟨aTB_at 240 (by decide +kernel) rfl, fun _ => rfl⟩⟩
theorem fX7_44 : aFd RX7 44 5 5 := ⟨RX7, TX7, 9, rfl, by decide, uX7, Or.inl (aTB_at 241 (by decide +kernel) rfl)⟩
theorem pX7_44 : aFp RX7 44 5 5 true (.array (.object "PropertyTests$Property")) := ⟨RX7, TX7, 9, tyX7, rfl, by decide, uX7, tyX7_ok, nmX7, rfl, by decide +kernel, Or.inl ⟨aTB_at 241 (by decide +kernel) rfl, fun _ => rfl⟩⟩
theorem fX7_52 : aFd RX7 52 5 6 := ⟨RX7, TX7, 9, rfl, by decide, uX7, Or.inl (aTB_at 242 (by decide +kernel) rfl)⟩
theorem pX7_52 : aFp RX7 52 5 6 true (.object "PropertyTests$Tally") := ⟨RX7, TX7, 9, tyX7, rfl, by decide, uX7, tyX7_ok, nmX7, rfl, by decide +kernel, Or.inl ⟨aTB_at 242 (by decide +kernel) rfl, fun _ => rfl⟩⟩
theorem fX7_56 : aFd RX7 56 5 7 := ⟨RX7, TX7, 9, rfl, by decide, uX7, Or.inl (aTB_at 243 (by decide +kernel) rfl)⟩
theorem pX7_56 : aFp RX7 56 5 7 false (.int) := ⟨RX7, TX7, 9, tyX7, rfl, by decide, uX7, tyX7_ok, nmX7, rfl, by decide +kernel, Or.inl ⟨aTB_at 243 (by decide +kernel) rfl, fun h => by cases h⟩⟩
theorem fX7_60 : aFd RX7 60 5 8 := ⟨RX7, TX7, 9, rfl, by decide, uX7, Or.inl (aTB_at 244 (by decide +kernel) rfl)⟩
theorem pX7_60 : aFp RX7 60 5 8 false (.int) := ⟨RX7, TX7, 9, tyX7, rfl, by decide, uX7, tyX7_ok, nmX7, rfl, by decide +kernel, Or.inl ⟨aTB_at 244 (by decide +kernel) rfl, fun h => by cases h⟩⟩
theorem gL_13 : aLk RL 13 yX7_term := Or.inl (aTB_at 264 (by decide +kernel) rfl)
theorem iyX7_term : Cond.instanceMethod yX7_term ∈ aTB := aTB_at 265 (by decide +kernel) rfl
theorem eyX7_term : Cond.selects RX7 yX7_term yX7_term ∈ aTB := aTB_at 266 (by decide +kernel) rfl
theorem gX7_63 : aLk RX7 63 yX4_allows := Or.inr ⟨"PropertyTests", aNT_at 209 (by decide +kernel) rfl⟩
theorem iyX4_allows : Cond.instanceMethod yX4_allows ∈ aTB := aTB_at 270 (by decide +kernel) rfl
theorem gX7_69 : aLk RX7 69 yX4_hasParts := Or.inr ⟨"PropertyTests", aNT_at 213 (by decide +kernel) rfl⟩
theorem iyX4_hasParts : Cond.instanceMethod yX4_hasParts ∈ aTB := aTB_at 274 (by decide +kernel) rfl
theorem tX4_35 : Cond.fieldLink RX4 35 (aSn 0).1 (aSn 0).2 "[I" ∈ aTB ∨ ∃ host, Cond.fieldLinkNest RX4 35 (aSn 0).1 (aSn 0).2 "[I" host ∈ aNT := Or.inl (aTB_at 276 (by decide +kernel) rfl)
theorem gX4_31 : aLk RX4 31 yX4_has := Or.inl (aTB_at 278 (by decide +kernel) rfl)
theorem iyX4_has : Cond.instanceMethod yX4_has ∈ aTB := aTB_at 280 (by decide +kernel) rfl
theorem gX7_76 : aLk RX7 76 yX4_add := Or.inr ⟨"PropertyTests", aNT_at 223 (by decide +kernel) rfl⟩
theorem iyX4_add : Cond.instanceMethod yX4_add ∈ aTB := aTB_at 284 (by decide +kernel) rfl
theorem gL_18 : aLk RL 18 yX7_property := Or.inl (aTB_at 286 (by decide +kernel) rfl)
theorem iyX7_property : Cond.instanceMethod yX7_property ∈ aTB := aTB_at 287 (by decide +kernel) rfl
theorem eyX7_property : Cond.selects RX7 yX7_property yX7_property ∈ aTB := aTB_at 288 (by decide +kernel) rfl
theorem gX7_80 : aLk RX7 80 yX7_isType := Or.inl (aTB_at 290 (by decide +kernel) rfl)
theorem syX7_isType : Cond.static yX7_isType ∈ aTB := aTB_at 291 (by decide +kernel) rfl
theorem gX7_84 : aLk RX7 84 yX4_hasOrNone := Or.inr ⟨"PropertyTests", aNT_at 234 (by decide +kernel) rfl⟩
theorem iyX4_hasOrNone : Cond.instanceMethod yX4_hasOrNone ∈ aTB := aTB_at 295 (by decide +kernel) rfl
theorem gX7_87 : aLk RX7 87 yX4_has := Or.inr ⟨"PropertyTests", aNT_at 238 (by decide +kernel) rfl⟩
theorem gX7_90 : aLk RX7 90 yX1_setTypes := Or.inr ⟨"PropertyTests", aNT_at 239 (by decide +kernel) rfl⟩
theorem iyX1_setTypes : Cond.instanceMethod yX1_setTypes ∈ aTB := aTB_at 300 (by decide +kernel) rfl
theorem gX7_94 : aLk RX7 94 yX1_setTerms := Or.inr ⟨"PropertyTests", aNT_at 243 (by decide +kernel) rfl⟩
theorem iyX1_setTerms : Cond.instanceMethod yX1_setTerms ∈ aTB := aTB_at 304 (by decide +kernel) rfl
theorem gL_23 : aLk RL 23 yX7_run := Or.inl (aTB_at 306 (by decide +kernel) rfl)
theorem iyX7_run : Cond.instanceMethod yX7_run ∈ aTB := aTB_at 307 (by decide +kernel) rfl
theorem eyX7_run : Cond.selects RX7 yX7_run yX7_run ∈ aTB := aTB_at 308 (by decide +kernel) rfl
theorem gX7_98 : aLk RX7 98 yX7_isProperty := Or.inl (aTB_at 310 (by decide +kernel) rfl)
theorem iyX7_isProperty : Cond.instanceMethod yX7_isProperty ∈ aTB := aTB_at 312 (by decide +kernel) rfl
theorem gX7_104 : aLk RX7 104 yX7_forgetLatest := Or.inl (aTB_at 314 (by decide +kernel) rfl)
theorem iyX7_forgetLatest : Cond.instanceMethod yX7_forgetLatest ∈ aTB := aTB_at 316 (by decide +kernel) rfl
theorem gX7_161 : aLk RX7 161 yX3_clear := Or.inr ⟨"PropertyTests", aNT_at 259 (by decide +kernel) rfl⟩
theorem iyX3_clear : Cond.instanceMethod yX3_clear ∈ aTB := aTB_at 320 (by decide +kernel) rfl
theorem gX7_111 : aLk RX7 111 yX0_into := Or.inr ⟨"PropertyTests", aNT_at 263 (by decide +kernel) rfl⟩
theorem syX0_into : Cond.static yX0_into ∈ aTB := aTB_at 323 (by decide +kernel) rfl
theorem gX0_20 : aLk RX0 20 yX0_hash := Or.inl (aTB_at 325 (by decide +kernel) rfl)
theorem syX0_hash : Cond.static yX0_hash ∈ aTB := aTB_at 326 (by decide +kernel) rfl
theorem qX0_9 : Cond.constant RX0 9 (-1640531527) ∈ aTB := aTB_at 328 (by decide +kernel) rfl
theorem qX0_10 : Cond.constant RX0 10 (-2048144789) ∈ aTB := aTB_at 329 (by decide +kernel) rfl
theorem qX0_11 : Cond.constant RX0 11 (-1028477387) ∈ aTB := aTB_at 330 (by decide +kernel) rfl
theorem gX0_23 : aLk RX0 23 yX0_between := Or.inl (aTB_at 331 (by decide +kernel) rfl)
theorem syX0_between : Cond.static yX0_between ∈ aTB := aTB_at 332 (by decide +kernel) rfl
theorem gX0_12 : aLk RX0 12 yJ9_floorMod_7cf53 := Or.inl (aTB_at 334 (by decide +kernel) rfl)
theorem syJ9_floorMod_7cf53 : Cond.static yJ9_floorMod_7cf53 ∈ aTB := aTB_at 335 (by decide +kernel) rfl
theorem gX0_26 : aLk RX0 26 yX5_setWhole := Or.inr ⟨"PropertyTests", aNT_at 278 (by decide +kernel) rfl⟩
theorem iyX5_setWhole : Cond.instanceMethod yX5_setWhole ∈ aTB := aTB_at 339 (by decide +kernel) rfl
theorem gX0_32 : aLk RX0 32 yX5_setRow := Or.inr ⟨"PropertyTests", aNT_at 282 (by decide +kernel) rfl⟩
theorem iyX5_setRow : Cond.instanceMethod yX5_setRow ∈ aTB := aTB_at 343 (by decide +kernel) rfl
theorem gX0_43 : aLk RX0 43 yX5_setNothing := Or.inr ⟨"PropertyTests", aNT_at 286 (by decide +kernel) rfl⟩
theorem iyX5_setNothing : Cond.instanceMethod yX5_setNothing ∈ aTB := aTB_at 347 (by decide +kernel) rfl
theorem gX7_117 : aLk RX7 117 yX7_tryCase := Or.inl (aTB_at 349 (by decide +kernel) rfl)
theorem iyX7_tryCase : Cond.instanceMethod yX7_tryCase ∈ aTB := aTB_at 351 (by decide +kernel) rfl
theorem gX7_144 : aLk RX7 144 yX6_outcome := Or.inr ⟨"PropertyTests", aNT_at 294 (by decide +kernel) rfl⟩
theorem iyX6_outcome : Cond.instanceMethod yX6_outcome ∈ aTB := aTB_at 355 (by decide +kernel) rfl
theorem gX6_41 : aLk RX6 41 yX6_work := Or.inl (aTB_at 357 (by decide +kernel) rfl)
theorem iyX6_work : Cond.instanceMethod yX6_work ∈ aTB := aTB_at 359 (by decide +kernel) rfl
theorem tX6_70 : Cond.fieldLink RX6 70 (aSn 0).1 (aSn 0).2 "[I" ∈ aTB ∨ ∃ host, Cond.fieldLinkNest RX6 70 (aSn 0).1 (aSn 0).2 "[I" host ∈ aNT := Or.inr ⟨"PropertyTests", aNT_at 302 (by decide +kernel) rfl⟩
theorem gX6_45 : aLk RX6 45 yX6_asWhole := Or.inl (aTB_at 362 (by decide +kernel) rfl)
theorem iyX6_asWhole : Cond.instanceMethod yX6_asWhole ∈ aTB := aTB_at 364 (by decide +kernel) rfl
theorem gX6_62 : aLk RX6 62 yX6_lookAt := Or.inl (aTB_at 366 (by decide +kernel) rfl)
theorem syX6_lookAt : Cond.static yX6_lookAt ∈ aTB := aTB_at 367 (by decide +kernel) rfl
theorem gX6_76 : aLk RX6 76 yX6_workChosen := Or.inl (aTB_at 369 (by decide +kernel) rfl)
theorem iyX6_workChosen : Cond.instanceMethod yX6_workChosen ∈ aTB := aTB_at 371 (by decide +kernel) rfl
theorem gX6_94 : aLk RX6 94 yX6_setTruth := Or.inl (aTB_at 373 (by decide +kernel) rfl)
theorem syX6_setTruth : Cond.static yX6_setTruth ∈ aTB := aTB_at 374 (by decide +kernel) rfl
theorem gX6_117 : aLk RX6 117 yX5_setWhole := Or.inr ⟨"PropertyTests", aNT_at 317 (by decide +kernel) rfl⟩
theorem gX6_86 : aLk RX6 86 yX6_lookAtAll := Or.inl (aTB_at 377 (by decide +kernel) rfl)
theorem syX6_lookAtAll : Cond.static yX6_lookAtAll ∈ aTB := aTB_at 378 (by decide +kernel) rfl
theorem tX6_98 : Cond.fieldLink RX6 98 (aSn 1).1 (aSn 1).2 "[I" ∈ aTB ∨ ∃ host, Cond.fieldLinkNest RX6 98 (aSn 1).1 (aSn 1).2 "[I" host ∈ aNT := Or.inl (aTB_at 380 (by decide +kernel) rfl)
theorem tX6_101 : Cond.fieldLink RX6 101 (aSn 2).1 (aSn 2).2 "[I" ∈ aTB ∨ ∃ host, Cond.fieldLinkNest RX6 101 (aSn 2).1 (aSn 2).2 "[I" host ∈ aNT := Or.inl (aTB_at 382 (by decide +kernel) rfl)
theorem tX6_107 : Cond.fieldLink RX6 107 (aSn 3).1 (aSn 3).2 "[I" ∈ aTB ∨ ∃ host, Cond.fieldLinkNest RX6 107 (aSn 3).1 (aSn 3).2 "[I" host ∈ aNT := Or.inl (aTB_at 384 (by decide +kernel) rfl)
theorem gX6_90 : aLk RX6 90 yX6_comeTo := Or.inl (aTB_at 386 (by decide +kernel) rfl)
theorem iyX6_comeTo : Cond.instanceMethod yX6_comeTo ∈ aTB := aTB_at 388 (by decide +kernel) rfl
theorem gX6_113 : aLk RX6 113 yX5_copy := Or.inr ⟨"PropertyTests", aNT_at 331 (by decide +kernel) rfl⟩
theorem iyX5_copy : Cond.instanceMethod yX5_copy ∈ aTB := aTB_at 392 (by decide +kernel) rfl
theorem gX6_121 : aLk RX6 121 yX5_setNothing := Or.inr ⟨"PropertyTests", aNT_at 335 (by decide +kernel) rfl⟩
theorem gX6_124 : aLk RX6 124 yX6_areLike := Or.inl (aTB_at 395 (by decide +kernel) rfl)
theorem syX6_areLike : Cond.static yX6_areLike ∈ aTB := aTB_at 396 (by decide +kernel) rfl
theorem gX6_128 : aLk RX6 128 yX6_setAt := Or.inl (aTB_at 398 (by decide +kernel) rfl)
theorem syX6_setAt : Cond.static yX6_setAt ∈ aTB := aTB_at 399 (by decide +kernel) rfl
theorem gX6_167 : aLk RX6 167 yX5_hasPlace := Or.inr ⟨"PropertyTests", aNT_at 342 (by decide +kernel) rfl⟩
theorem iyX5_hasPlace : Cond.instanceMethod yX5_hasPlace ∈ aTB := aTB_at 403 (by decide +kernel) rfl
theorem gX6_135 : aLk RX6 135 yX6_setZeros := Or.inl (aTB_at 405 (by decide +kernel) rfl)
theorem syX6_setZeros : Cond.static yX6_setZeros ∈ aTB := aTB_at 406 (by decide +kernel) rfl
theorem gX6_171 : aLk RX6 171 yX5_setRow := Or.inr ⟨"PropertyTests", aNT_at 349 (by decide +kernel) rfl⟩
theorem gX6_138 : aLk RX6 138 yX6_setPut := Or.inl (aTB_at 409 (by decide +kernel) rfl)
theorem syX6_setPut : Cond.static yX6_setPut ∈ aTB := aTB_at 410 (by decide +kernel) rfl
theorem gX6_142 : aLk RX6 142 yX6_setJoined := Or.inl (aTB_at 412 (by decide +kernel) rfl)
theorem syX6_setJoined : Cond.static yX6_setJoined ∈ aTB := aTB_at 413 (by decide +kernel) rfl
theorem gX6_174 : Cond.methodLink RX6 174 arraycopyName ∈ aTB := aTB_at 415 (by decide +kernel) rfl
theorem sarraycopyName : Cond.static arraycopyName ∈ aTB := aTB_at 416 (by decide +kernel) rfl
theorem narraycopyName : Cond.native arraycopyName ∈ aTB := aTB_at 417 (by decide +kernel) rfl
theorem gX6_146 : aLk RX6 146 yX6_setPart := Or.inl (aTB_at 418 (by decide +kernel) rfl)
theorem syX6_setPart : Cond.static yX6_setPart ∈ aTB := aTB_at 419 (by decide +kernel) rfl
theorem gX6_149 : aLk RX6 149 yX6_setSorted := Or.inl (aTB_at 421 (by decide +kernel) rfl)
theorem syX6_setSorted : Cond.static yX6_setSorted ∈ aTB := aTB_at 422 (by decide +kernel) rfl
theorem gX6_153 : aLk RX6 153 yX6_setTurned := Or.inl (aTB_at 424 (by decide +kernel) rfl)
theorem syX6_setTurned : Cond.static yX6_setTurned ∈ aTB := aTB_at 425 (by decide +kernel) rfl
theorem gX6_156 : aLk RX6 156 yX6_sum := Or.inl (aTB_at 427 (by decide +kernel) rfl)
theorem syX6_sum : Cond.static yX6_sum ∈ aTB := aTB_at 428 (by decide +kernel) rfl
theorem gX6_160 : aLk RX6 160 yX6_setOfWholes := Or.inl (aTB_at 430 (by decide +kernel) rfl)
theorem syX6_setOfWholes : Cond.static yX6_setOfWholes ∈ aTB := aTB_at 431 (by decide +kernel) rfl
theorem gX7_164 : aLk RX7 164 yX3_countCase := Or.inr ⟨"PropertyTests", aNT_at 374 (by decide +kernel) rfl⟩
theorem iyX3_countCase : Cond.instanceMethod yX3_countCase ∈ aTB := aTB_at 435 (by decide +kernel) rfl
theorem gX7_170 : aLk RX7 170 yX6_labelled := Or.inr ⟨"PropertyTests", aNT_at 378 (by decide +kernel) rfl⟩
theorem iyX6_labelled : Cond.instanceMethod yX6_labelled ∈ aTB := aTB_at 439 (by decide +kernel) rfl
theorem gX7_140 : aLk RX7 140 yX7_copyAll := Or.inl (aTB_at 441 (by decide +kernel) rfl)
theorem syX7_copyAll : Cond.static yX7_copyAll ∈ aTB := aTB_at 442 (by decide +kernel) rfl
theorem gX7_157 : aLk RX7 157 yX5_copy := Or.inr ⟨"PropertyTests", aNT_at 385 (by decide +kernel) rfl⟩
theorem gX7_121 : aLk RX7 121 yX7_makeSmaller := Or.inl (aTB_at 445 (by decide +kernel) rfl)
theorem iyX7_makeSmaller : Cond.instanceMethod yX7_makeSmaller ∈ aTB := aTB_at 447 (by decide +kernel) rfl
theorem gX7_173 : aLk RX7 173 yX7_takeCandidate := Or.inl (aTB_at 449 (by decide +kernel) rfl)
theorem iyX7_takeCandidate : Cond.instanceMethod yX7_takeCandidate ∈ aTB := aTB_at 451 (by decide +kernel) rfl
theorem gX7_188 : aLk RX7 188 yX5_candidateCount := Or.inr ⟨"PropertyTests", aNT_at 394 (by decide +kernel) rfl⟩
theorem iyX5_candidateCount : Cond.instanceMethod yX5_candidateCount ∈ aTB := aTB_at 455 (by decide +kernel) rfl
theorem gX7_192 : aLk RX7 192 yX5_becomeCandidate := Or.inr ⟨"PropertyTests", aNT_at 398 (by decide +kernel) rfl⟩
theorem iyX5_becomeCandidate : Cond.instanceMethod yX5_becomeCandidate ∈ aTB := aTB_at 459 (by decide +kernel) rfl
theorem gX5_26 : aLk RX5 26 yX5_nearerToZero := Or.inl (aTB_at 461 (by decide +kernel) rfl)
theorem syX5_nearerToZero : Cond.static yX5_nearerToZero ∈ aTB := aTB_at 462 (by decide +kernel) rfl
theorem gX5_30 : aLk RX5 30 yX5_dropPlace := Or.inl (aTB_at 464 (by decide +kernel) rfl)
theorem iyX5_dropPlace : Cond.instanceMethod yX5_dropPlace ∈ aTB := aTB_at 466 (by decide +kernel) rfl
theorem gX5_34 : aLk RX5 34 yX5_shrinkAnInt := Or.inl (aTB_at 468 (by decide +kernel) rfl)
theorem iyX5_shrinkAnInt : Cond.instanceMethod yX5_shrinkAnInt ∈ aTB := aTB_at 470 (by decide +kernel) rfl
theorem gL_28 : aLk RL 28 yX7_small := Or.inl (aTB_at 472 (by decide +kernel) rfl)
theorem iyX7_small : Cond.instanceMethod yX7_small ∈ aTB := aTB_at 473 (by decide +kernel) rfl
theorem eyX7_small : Cond.selects RX7 yX7_small yX7_small ∈ aTB := aTB_at 474 (by decide +kernel) rfl
theorem gX7_127 : aLk RX7 127 yX7_isSmall := Or.inl (aTB_at 476 (by decide +kernel) rfl)
theorem syX7_isSmall : Cond.static yX7_isSmall ∈ aTB := aTB_at 477 (by decide +kernel) rfl
theorem gX7_130 : aLk RX7 130 yX2_countFor := Or.inr ⟨"PropertyTests", aNT_at 420 (by decide +kernel) rfl⟩
theorem syX2_countFor : Cond.static yX2_countFor ∈ aTB := aTB_at 480 (by decide +kernel) rfl
theorem gX2_15 : aLk RX2 15 yX2_count := Or.inl (aTB_at 482 (by decide +kernel) rfl)
theorem syX2_count : Cond.static yX2_count ∈ aTB := aTB_at 483 (by decide +kernel) rfl
theorem gX2_9 : aLk RX2 9 yX2_wholes := Or.inl (aTB_at 485 (by decide +kernel) rfl)
theorem syX2_wholes : Cond.static yX2_wholes ∈ aTB := aTB_at 486 (by decide +kernel) rfl
theorem gX7_136 : aLk RX7 136 yX2_fill := Or.inr ⟨"PropertyTests", aNT_at 429 (by decide +kernel) rfl⟩
theorem syX2_fill : Cond.static yX2_fill ∈ aTB := aTB_at 489 (by decide +kernel) rfl
theorem gX2_19 : aLk RX2 19 yX2_into := Or.inl (aTB_at 491 (by decide +kernel) rfl)
theorem syX2_into : Cond.static yX2_into ∈ aTB := aTB_at 492 (by decide +kernel) rfl
theorem gX2_23 : aLk RX2 23 yX2_whole := Or.inl (aTB_at 494 (by decide +kernel) rfl)
theorem syX2_whole : Cond.static yX2_whole ∈ aTB := aTB_at 495 (by decide +kernel) rfl
theorem gX2_26 : aLk RX2 26 yX5_setWhole := Or.inr ⟨"PropertyTests", aNT_at 438 (by decide +kernel) rfl⟩
theorem gX2_32 : aLk RX2 32 yX2_rowInto := Or.inl (aTB_at 498 (by decide +kernel) rfl)
theorem syX2_rowInto : Cond.static yX2_rowInto ∈ aTB := aTB_at 499 (by decide +kernel) rfl
theorem gX2_39 : aLk RX2 39 yX5_setRow := Or.inr ⟨"PropertyTests", aNT_at 442 (by decide +kernel) rfl⟩
theorem gX2_36 : aLk RX2 36 yX5_setNothing := Or.inr ⟨"PropertyTests", aNT_at 443 (by decide +kernel) rfl⟩
theorem gL_33 : aLk RL 33 yX7_many := Or.inl (aTB_at 503 (by decide +kernel) rfl)
theorem iyX7_many : Cond.instanceMethod yX7_many ∈ aTB := aTB_at 504 (by decide +kernel) rfl
theorem eyX7_many : Cond.selects RX7 yX7_many yX7_many ∈ aTB := aTB_at 505 (by decide +kernel) rfl
theorem gL_37 : aLk RL 37 yX7_again := Or.inl (aTB_at 507 (by decide +kernel) rfl)
theorem iyX7_again : Cond.instanceMethod yX7_again ∈ aTB := aTB_at 508 (by decide +kernel) rfl
theorem eyX7_again : Cond.selects RX7 yX7_again yX7_again ∈ aTB := aTB_at 509 (by decide +kernel) rfl
theorem gL_42 : aLk RL 42 yX7_counter := Or.inl (aTB_at 511 (by decide +kernel) rfl)
theorem iyX7_counter : Cond.instanceMethod yX7_counter ∈ aTB := aTB_at 512 (by decide +kernel) rfl
theorem eyX7_counter : Cond.selects RX7 yX7_counter yX7_counter ∈ aTB := aTB_at 513 (by decide +kernel) rfl
theorem qX7_148 : Cond.constant RX7 148 (-2147483648) ∈ aTB := aTB_at 515 (by decide +kernel) rfl
theorem gX7_149 : aLk RX7 149 yX5_read := Or.inr ⟨"PropertyTests", aNT_at 457 (by decide +kernel) rfl⟩
theorem iyX5_read : Cond.instanceMethod yX5_read ∈ aTB := aTB_at 518 (by decide +kernel) rfl
theorem qX5_25 : Cond.constant RX5 25 (-2147483648) ∈ aTB := aTB_at 520 (by decide +kernel) rfl
theorem gL_46 : aLk RL 46 yX7_drawn := Or.inl (aTB_at 521 (by decide +kernel) rfl)
theorem iyX7_drawn : Cond.instanceMethod yX7_drawn ∈ aTB := aTB_at 522 (by decide +kernel) rfl
theorem eyX7_drawn : Cond.selects RX7 yX7_drawn yX7_drawn ∈ aTB := aTB_at 523 (by decide +kernel) rfl
theorem gL_50 : aLk RL 50 yX7_told := Or.inl (aTB_at 525 (by decide +kernel) rfl)
theorem iyX7_told : Cond.instanceMethod yX7_told ∈ aTB := aTB_at 526 (by decide +kernel) rfl
theorem eyX7_told : Cond.selects RX7 yX7_told yX7_told ∈ aTB := aTB_at 527 (by decide +kernel) rfl
theorem gX7_153 : aLk RX7 153 yX3_read := Or.inr ⟨"PropertyTests", aNT_at 470 (by decide +kernel) rfl⟩
theorem iyX3_read : Cond.instanceMethod yX3_read ∈ aTB := aTB_at 531 (by decide +kernel) rfl
theorem gL_55 : aLk RL 55 yX7_label := Or.inl (aTB_at 533 (by decide +kernel) rfl)
theorem iyX7_label : Cond.instanceMethod yX7_label ∈ aTB := aTB_at 534 (by decide +kernel) rfl
theorem eyX7_label : Cond.selects RX7 yX7_label yX7_label ∈ aTB := aTB_at 535 (by decide +kernel) rfl
theorem gL_12 : aLk RL 12 yX8_init := Or.inl (aTB_at 539 (by decide +kernel) rfl)
theorem iyX8_init : Cond.instanceMethod yX8_init ∈ aTB := aTB_at 540 (by decide +kernel) rfl
theorem gX8_1 : Cond.methodLink RX8 1 objectInit ∈ aTB := aTB_at 542 (by decide +kernel) rfl
theorem fX8_92 : aFd RX8 92 6 0 := ⟨RX8, TX8, 45, rfl, by decide, uX8, Or.inl (aTB_at 543 (by decide +kernel) rfl)⟩
theorem pX8_92 : aFp RX8 92 6 0 false (.int) := ⟨RX8, TX8, 45, tyX8, rfl, by decide, uX8, tyX8_ok, nmX8, rfl, by decide +kernel, Or.inl ⟨aTB_at 543 (by decide +kernel) rfl, fun h => by cases h⟩⟩
theorem fX8_7 : aFd RX8 7 6 1 := ⟨RX8, TX8, 45, rfl, by decide, uX8, Or.inl (aTB_at 544 (by decide +kernel) rfl)⟩
theorem pX8_7 : aFp RX8 7 6 1 true (.array .int) := ⟨RX8, TX8, 45, tyX8, rfl, by decide, uX8, tyX8_ok, nmX8, rfl, by decide +kernel, Or.inl ⟨aTB_at 544 (by decide +kernel) rfl, fun _ => rfl⟩⟩
theorem fX8_13 : aFd RX8 13 6 2 := ⟨RX8, TX8, 45, rfl, by decide, uX8, Or.inl (aTB_at 545 (by decide +kernel) rfl)⟩
theorem pX8_13 : aFp RX8 13 6 2 true (.array .int) := ⟨RX8, TX8, 45, tyX8, rfl, by decide, uX8, tyX8_ok, nmX8, rfl, by decide +kernel, Or.inl ⟨aTB_at 545 (by decide +kernel) rfl, fun _ => rfl⟩⟩
theorem fX8_16 : aFd RX8 16 6 3 := ⟨RX8, TX8, 45, rfl, by decide, uX8, Or.inl (aTB_at 546 (by decide +kernel) rfl)⟩
theorem pX8_16 : aFp RX8 16 6 3 true (.array .int) := ⟨RX8, TX8, 45, tyX8, rfl, by decide, uX8, tyX8_ok, nmX8, rfl, by decide +kernel, Or.inl ⟨aTB_at 546 (by decide +kernel) rfl, fun _ => rfl⟩⟩
theorem fX8_19 : aFd RX8 19 6 4 := ⟨RX8, TX8, 45, rfl, by decide, uX8, Or.inl (aTB_at 547 (by decide +kernel) rfl)⟩
theorem pX8_19 : aFp RX8 19 6 4 true (.array .int) := ⟨RX8, TX8, 45, tyX8, rfl, by decide, uX8, tyX8_ok, nmX8, rfl, by decide +kernel, Or.inl ⟨aTB_at 547 (by decide +kernel) rfl, fun _ => rfl⟩⟩
theorem fX8_22 : aFd RX8 22 6 5 := ⟨RX8, TX8, 45, rfl, by decide, uX8, Or.inl (aTB_at 548 (by decide +kernel) rfl)⟩
theorem pX8_22 : aFp RX8 22 6 5 true (.array .int) := ⟨RX8, TX8, 45, tyX8, rfl, by decide, uX8, tyX8_ok, nmX8, rfl, by decide +kernel, Or.inl ⟨aTB_at 548 (by decide +kernel) rfl, fun _ => rfl⟩⟩
theorem fX8_25 : aFd RX8 25 6 6 := ⟨RX8, TX8, 45, rfl, by decide, uX8, Or.inl (aTB_at 549 (by decide +kernel) rfl)⟩
theorem pX8_25 : aFp RX8 25 6 6 true (.array .int) := ⟨RX8, TX8, 45, tyX8, rfl, by decide, uX8, tyX8_ok, nmX8, rfl, by decide +kernel, Or.inl ⟨aTB_at 549 (by decide +kernel) rfl, fun _ => rfl⟩⟩
theorem fX8_28 : aFd RX8 28 6 7 := ⟨RX8, TX8, 45, rfl, by decide, uX8, Or.inl (aTB_at 550 (by decide +kernel) rfl)⟩
theorem pX8_28 : aFp RX8 28 6 7 true (.array .int) := ⟨RX8, TX8, 45, tyX8, rfl, by decide, uX8, tyX8_ok, nmX8, rfl, by decide +kernel, Or.inl ⟨aTB_at 550 (by decide +kernel) rfl, fun _ => rfl⟩⟩
theorem fX8_31 : aFd RX8 31 6 8 := ⟨RX8, TX8, 45, rfl, by decide, uX8, Or.inl (aTB_at 551 (by decide +kernel) rfl)⟩
theorem pX8_31 : aFp RX8 31 6 8 true (.array .int) := ⟨RX8, TX8, 45, tyX8, rfl, by decide, uX8, tyX8_ok, nmX8, rfl, by decide +kernel, Or.inl ⟨aTB_at 551 (by decide +kernel) rfl, fun _ => rfl⟩⟩
theorem fX8_107 : aFd RX8 107 6 9 := ⟨RX8, TX8, 45, rfl, by decide, uX8, Or.inl (aTB_at 552 (by decide +kernel) rfl)⟩
theorem pX8_107 : aFp RX8 107 6 9 false (.int) := ⟨RX8, TX8, 45, tyX8, rfl, by decide, uX8, tyX8_ok, nmX8, rfl, by decide +kernel, Or.inl ⟨aTB_at 552 (by decide +kernel) rfl, fun h => by cases h⟩⟩
theorem fX8_34 : aFd RX8 34 6 10 := ⟨RX8, TX8, 45, rfl, by decide, uX8, Or.inl (aTB_at 553 (by decide +kernel) rfl)⟩
theorem pX8_34 : aFp RX8 34 6 10 true (.array .int) := ⟨RX8, TX8, 45, tyX8, rfl, by decide, uX8, tyX8_ok, nmX8, rfl, by decide +kernel, Or.inl ⟨aTB_at 553 (by decide +kernel) rfl, fun _ => rfl⟩⟩
theorem fX8_37 : aFd RX8 37 6 11 := ⟨RX8, TX8, 45, rfl, by decide, uX8, Or.inl (aTB_at 554 (by decide +kernel) rfl)⟩
theorem pX8_37 : aFp RX8 37 6 11 true (.array .int) := ⟨RX8, TX8, 45, tyX8, rfl, by decide, uX8, tyX8_ok, nmX8, rfl, by decide +kernel, Or.inl ⟨aTB_at 554 (by decide +kernel) rfl, fun _ => rfl⟩⟩
theorem fX8_40 : aFd RX8 40 6 12 := ⟨RX8, TX8, 45, rfl, by decide, uX8, Or.inl (aTB_at 555 (by decide +kernel) rfl)⟩
theorem pX8_40 : aFp RX8 40 6 12 true (.array .int) := ⟨RX8, TX8, 45, tyX8, rfl, by decide, uX8, tyX8_ok, nmX8, rfl, by decide +kernel, Or.inl ⟨aTB_at 555 (by decide +kernel) rfl, fun _ => rfl⟩⟩
theorem fX8_43 : aFd RX8 43 6 13 := ⟨RX8, TX8, 45, rfl, by decide, uX8, Or.inl (aTB_at 556 (by decide +kernel) rfl)⟩
theorem pX8_43 : aFp RX8 43 6 13 true (.array .int) := ⟨RX8, TX8, 45, tyX8, rfl, by decide, uX8, tyX8_ok, nmX8, rfl, by decide +kernel, Or.inl ⟨aTB_at 556 (by decide +kernel) rfl, fun _ => rfl⟩⟩
theorem fX8_46 : aFd RX8 46 6 14 := ⟨RX8, TX8, 45, rfl, by decide, uX8, Or.inl (aTB_at 557 (by decide +kernel) rfl)⟩
theorem pX8_46 : aFp RX8 46 6 14 true (.array .int) := ⟨RX8, TX8, 45, tyX8, rfl, by decide, uX8, tyX8_ok, nmX8, rfl, by decide +kernel, Or.inl ⟨aTB_at 557 (by decide +kernel) rfl, fun _ => rfl⟩⟩
theorem fX8_113 : aFd RX8 113 6 15 := ⟨RX8, TX8, 45, rfl, by decide, uX8, Or.inl (aTB_at 558 (by decide +kernel) rfl)⟩
theorem pX8_113 : aFp RX8 113 6 15 false (.int) := ⟨RX8, TX8, 45, tyX8, rfl, by decide, uX8, tyX8_ok, nmX8, rfl, by decide +kernel, Or.inl ⟨aTB_at 558 (by decide +kernel) rfl, fun h => by cases h⟩⟩
theorem fX8_49 : aFd RX8 49 6 16 := ⟨RX8, TX8, 45, rfl, by decide, uX8, Or.inl (aTB_at 559 (by decide +kernel) rfl)⟩
theorem pX8_49 : aFp RX8 49 6 16 true (.array .int) := ⟨RX8, TX8, 45, tyX8, rfl, by decide, uX8, tyX8_ok, nmX8, rfl, by decide +kernel, Or.inl ⟨aTB_at 559 (by decide +kernel) rfl, fun _ => rfl⟩⟩
theorem fX8_128 : aFd RX8 128 6 17 := ⟨RX8, TX8, 45, rfl, by decide, uX8, Or.inl (aTB_at 560 (by decide +kernel) rfl)⟩
theorem pX8_128 : aFp RX8 128 6 17 false (.int) := ⟨RX8, TX8, 45, tyX8, rfl, by decide, uX8, tyX8_ok, nmX8, rfl, by decide +kernel, Or.inl ⟨aTB_at 560 (by decide +kernel) rfl, fun h => by cases h⟩⟩
theorem fX8_131 : aFd RX8 131 6 18 := ⟨RX8, TX8, 45, rfl, by decide, uX8, Or.inl (aTB_at 561 (by decide +kernel) rfl)⟩
theorem pX8_131 : aFp RX8 131 6 18 false (.int) := ⟨RX8, TX8, 45, tyX8, rfl, by decide, uX8, tyX8_ok, nmX8, rfl, by decide +kernel, Or.inl ⟨aTB_at 561 (by decide +kernel) rfl, fun h => by cases h⟩⟩
theorem fX8_134 : aFd RX8 134 6 19 := ⟨RX8, TX8, 45, rfl, by decide, uX8, Or.inl (aTB_at 562 (by decide +kernel) rfl)⟩
theorem pX8_134 : aFp RX8 134 6 19 false (.int) := ⟨RX8, TX8, 45, tyX8, rfl, by decide, uX8, tyX8_ok, nmX8, rfl, by decide +kernel, Or.inl ⟨aTB_at 562 (by decide +kernel) rfl, fun h => by cases h⟩⟩
theorem fX8_110 : aFd RX8 110 6 20 := ⟨RX8, TX8, 45, rfl, by decide, uX8, Or.inl (aTB_at 563 (by decide +kernel) rfl)⟩
theorem pX8_110 : aFp RX8 110 6 20 false (.int) := ⟨RX8, TX8, 45, tyX8, rfl, by decide, uX8, tyX8_ok, nmX8, rfl, by decide +kernel, Or.inl ⟨aTB_at 563 (by decide +kernel) rfl, fun h => by cases h⟩⟩
theorem fX8_52 : aFd RX8 52 6 21 := ⟨RX8, TX8, 45, rfl, by decide, uX8, Or.inl (aTB_at 564 (by decide +kernel) rfl)⟩
theorem pX8_52 : aFp RX8 52 6 21 true (.array .int) := ⟨RX8, TX8, 45, tyX8, rfl, by decide, uX8, tyX8_ok, nmX8, rfl, by decide +kernel, Or.inl ⟨aTB_at 564 (by decide +kernel) rfl, fun _ => rfl⟩⟩
theorem fX8_144 : aFd RX8 144 6 22 := ⟨RX8, TX8, 45, rfl, by decide, uX8, Or.inl (aTB_at 565 (by decide +kernel) rfl)⟩
theorem pX8_144 : aFp RX8 144 6 22 false (.int) := ⟨RX8, TX8, 45, tyX8, rfl, by decide, uX8, tyX8_ok, nmX8, rfl, by decide +kernel, Or.inl ⟨aTB_at 565 (by decide +kernel) rfl, fun h => by cases h⟩⟩
theorem fX8_175 : aFd RX8 175 6 23 := ⟨RX8, TX8, 45, rfl, by decide, uX8, Or.inl (aTB_at 566 (by decide +kernel) rfl)⟩
theorem pX8_175 : aFp RX8 175 6 23 false (.int) := ⟨RX8, TX8, 45, tyX8, rfl, by decide, uX8, tyX8_ok, nmX8, rfl, by decide +kernel, Or.inl ⟨aTB_at 566 (by decide +kernel) rfl, fun h => by cases h⟩⟩
theorem fX8_55 : aFd RX8 55 6 24 := ⟨RX8, TX8, 45, rfl, by decide, uX8, Or.inl (aTB_at 567 (by decide +kernel) rfl)⟩
theorem pX8_55 : aFp RX8 55 6 24 true (.array .int) := ⟨RX8, TX8, 45, tyX8, rfl, by decide, uX8, tyX8_ok, nmX8, rfl, by decide +kernel, Or.inl ⟨aTB_at 567 (by decide +kernel) rfl, fun _ => rfl⟩⟩
theorem fX8_58 : aFd RX8 58 6 25 := ⟨RX8, TX8, 45, rfl, by decide, uX8, Or.inl (aTB_at 568 (by decide +kernel) rfl)⟩
theorem pX8_58 : aFp RX8 58 6 25 true (.array .int) := ⟨RX8, TX8, 45, tyX8, rfl, by decide, uX8, tyX8_ok, nmX8, rfl, by decide +kernel, Or.inl ⟨aTB_at 568 (by decide +kernel) rfl, fun _ => rfl⟩⟩
theorem fX8_61 : aFd RX8 61 6 26 := ⟨RX8, TX8, 45, rfl, by decide, uX8, Or.inl (aTB_at 569 (by decide +kernel) rfl)⟩
theorem pX8_61 : aFp RX8 61 6 26 true (.array .int) := ⟨RX8, TX8, 45, tyX8, rfl, by decide, uX8, tyX8_ok, nmX8, rfl, by decide +kernel, Or.inl ⟨aTB_at 569 (by decide +kernel) rfl, fun _ => rfl⟩⟩
theorem fX8_64 : aFd RX8 64 6 27 := ⟨RX8, TX8, 45, rfl, by decide, uX8, Or.inl (aTB_at 570 (by decide +kernel) rfl)⟩
theorem pX8_64 : aFp RX8 64 6 27 true (.array .int) := ⟨RX8, TX8, 45, tyX8, rfl, by decide, uX8, tyX8_ok, nmX8, rfl, by decide +kernel, Or.inl ⟨aTB_at 570 (by decide +kernel) rfl, fun _ => rfl⟩⟩
theorem fX8_67 : aFd RX8 67 6 28 := ⟨RX8, TX8, 45, rfl, by decide, uX8, Or.inl (aTB_at 571 (by decide +kernel) rfl)⟩
theorem pX8_67 : aFp RX8 67 6 28 true (.array .int) := ⟨RX8, TX8, 45, tyX8, rfl, by decide, uX8, tyX8_ok, nmX8, rfl, by decide +kernel, Or.inl ⟨aTB_at 571 (by decide +kernel) rfl, fun _ => rfl⟩⟩
theorem fX8_178 : aFd RX8 178 6 29 := ⟨RX8, TX8, 45, rfl, by decide, uX8, Or.inl (aTB_at 572 (by decide +kernel) rfl)⟩
theorem pX8_178 : aFp RX8 178 6 29 false (.int) := ⟨RX8, TX8, 45, tyX8, rfl, by decide, uX8, tyX8_ok, nmX8, rfl, by decide +kernel, Or.inl ⟨aTB_at 572 (by decide +kernel) rfl, fun h => by cases h⟩⟩
theorem fX8_70 : aFd RX8 70 6 30 := ⟨RX8, TX8, 45, rfl, by decide, uX8, Or.inl (aTB_at 573 (by decide +kernel) rfl)⟩
theorem pX8_70 : aFp RX8 70 6 30 true (.array .int) := ⟨RX8, TX8, 45, tyX8, rfl, by decide, uX8, tyX8_ok, nmX8, rfl, by decide +kernel, Or.inl ⟨aTB_at 573 (by decide +kernel) rfl, fun _ => rfl⟩⟩
theorem fX8_196 : aFd RX8 196 6 31 := ⟨RX8, TX8, 45, rfl, by decide, uX8, Or.inl (aTB_at 574 (by decide +kernel) rfl)⟩
theorem pX8_196 : aFp RX8 196 6 31 false (.int) := ⟨RX8, TX8, 45, tyX8, rfl, by decide, uX8, tyX8_ok, nmX8, rfl, by decide +kernel, Or.inl ⟨aTB_at 574 (by decide +kernel) rfl, fun h => by cases h⟩⟩
theorem fX8_73 : aFd RX8 73 6 32 := ⟨RX8, TX8, 45, rfl, by decide, uX8, Or.inl (aTB_at 575 (by decide +kernel) rfl)⟩
theorem pX8_73 : aFp RX8 73 6 32 true (.array .int) := ⟨RX8, TX8, 45, tyX8, rfl, by decide, uX8, tyX8_ok, nmX8, rfl, by decide +kernel, Or.inl ⟨aTB_at 575 (by decide +kernel) rfl, fun _ => rfl⟩⟩
theorem fX8_203 : aFd RX8 203 6 33 := ⟨RX8, TX8, 45, rfl, by decide, uX8, Or.inl (aTB_at 576 (by decide +kernel) rfl)⟩
theorem pX8_203 : aFp RX8 203 6 33 false (.int) := ⟨RX8, TX8, 45, tyX8, rfl, by decide, uX8, tyX8_ok, nmX8, rfl, by decide +kernel, Or.inl ⟨aTB_at 576 (by decide +kernel) rfl, fun h => by cases h⟩⟩
theorem fX8_206 : aFd RX8 206 6 34 := ⟨RX8, TX8, 45, rfl, by decide, uX8, Or.inl (aTB_at 577 (by decide +kernel) rfl)⟩
theorem pX8_206 : aFp RX8 206 6 34 false (.int) := ⟨RX8, TX8, 45, tyX8, rfl, by decide, uX8, tyX8_ok, nmX8, rfl, by decide +kernel, Or.inl ⟨aTB_at 577 (by decide +kernel) rfl, fun h => by cases h⟩⟩
theorem fX8_209 : aFd RX8 209 6 35 := ⟨RX8, TX8, 45, rfl, by decide, uX8, Or.inl (aTB_at 578 (by decide +kernel) rfl)⟩
theorem pX8_209 : aFp RX8 209 6 35 false (.int) := ⟨RX8, TX8, 45, tyX8, rfl, by decide, uX8, tyX8_ok, nmX8, rfl, by decide +kernel, Or.inl ⟨aTB_at 578 (by decide +kernel) rfl, fun h => by cases h⟩⟩
theorem fX8_212 : aFd RX8 212 6 36 := ⟨RX8, TX8, 45, rfl, by decide, uX8, Or.inl (aTB_at 579 (by decide +kernel) rfl)⟩
theorem pX8_212 : aFp RX8 212 6 36 false (.int) := ⟨RX8, TX8, 45, tyX8, rfl, by decide, uX8, tyX8_ok, nmX8, rfl, by decide +kernel, Or.inl ⟨aTB_at 579 (by decide +kernel) rfl, fun h => by cases h⟩⟩
theorem fX8_89 : aFd RX8 89 6 37 := ⟨RX8, TX8, 45, rfl, by decide, uX8, Or.inl (aTB_at 580 (by decide +kernel) rfl)⟩
theorem pX8_89 : aFp RX8 89 6 37 false (.int) := ⟨RX8, TX8, 45, tyX8, rfl, by decide, uX8, tyX8_ok, nmX8, rfl, by decide +kernel, Or.inl ⟨aTB_at 580 (by decide +kernel) rfl, fun h => by cases h⟩⟩
theorem fX8_215 : aFd RX8 215 6 38 := ⟨RX8, TX8, 45, rfl, by decide, uX8, Or.inl (aTB_at 581 (by decide +kernel) rfl)⟩
theorem pX8_215 : aFp RX8 215 6 38 false (.int) := ⟨RX8, TX8, 45, tyX8, rfl, by decide, uX8, tyX8_ok, nmX8, rfl, by decide +kernel, Or.inl ⟨aTB_at 581 (by decide +kernel) rfl, fun h => by cases h⟩⟩
theorem fX8_218 : aFd RX8 218 6 39 := ⟨RX8, TX8, 45, rfl, by decide, uX8, Or.inl (aTB_at 582 (by decide +kernel) rfl)⟩
theorem pX8_218 : aFp RX8 218 6 39 false (.int) := ⟨RX8, TX8, 45, tyX8, rfl, by decide, uX8, tyX8_ok, nmX8, rfl, by decide +kernel, Or.inl ⟨aTB_at 582 (by decide +kernel) rfl, fun h => by cases h⟩⟩
theorem fX8_221 : aFd RX8 221 6 40 := ⟨RX8, TX8, 45, rfl, by decide, uX8, Or.inl (aTB_at 583 (by decide +kernel) rfl)⟩
theorem pX8_221 : aFp RX8 221 6 40 false (.int) := ⟨RX8, TX8, 45, tyX8, rfl, by decide, uX8, tyX8_ok, nmX8, rfl, by decide +kernel, Or.inl ⟨aTB_at 583 (by decide +kernel) rfl, fun h => by cases h⟩⟩
theorem fX8_76 : aFd RX8 76 6 41 := ⟨RX8, TX8, 45, rfl, by decide, uX8, Or.inl (aTB_at 584 (by decide +kernel) rfl)⟩
theorem pX8_76 : aFp RX8 76 6 41 false (.int) := ⟨RX8, TX8, 45, tyX8, rfl, by decide, uX8, tyX8_ok, nmX8, rfl, by decide +kernel, Or.inl ⟨aTB_at 584 (by decide +kernel) rfl, fun h => by cases h⟩⟩
theorem fX8_80 : aFd RX8 80 6 42 := ⟨RX8, TX8, 45, rfl, by decide, uX8, Or.inl (aTB_at 585 (by decide +kernel) rfl)⟩
theorem pX8_80 : aFp RX8 80 6 42 true (.array .int) := ⟨RX8, TX8, 45, tyX8, rfl, by decide, uX8, tyX8_ok, nmX8, rfl, by decide +kernel, Or.inl ⟨aTB_at 585 (by decide +kernel) rfl, fun _ => rfl⟩⟩
theorem fX8_83 : aFd RX8 83 6 43 := ⟨RX8, TX8, 45, rfl, by decide, uX8, Or.inl (aTB_at 586 (by decide +kernel) rfl)⟩
theorem pX8_83 : aFp RX8 83 6 43 true (.array .int) := ⟨RX8, TX8, 45, tyX8, rfl, by decide, uX8, tyX8_ok, nmX8, rfl, by decide +kernel, Or.inl ⟨aTB_at 586 (by decide +kernel) rfl, fun _ => rfl⟩⟩
theorem fX8_86 : aFd RX8 86 6 44 := ⟨RX8, TX8, 45, rfl, by decide, uX8, Or.inl (aTB_at 587 (by decide +kernel) rfl)⟩
theorem pX8_86 : aFp RX8 86 6 44 true (.array .int) := ⟨RX8, TX8, 45, tyX8, rfl, by decide, uX8, tyX8_ok, nmX8, rfl, by decide +kernel, Or.inl ⟨aTB_at 587 (by decide +kernel) rfl, fun _ => rfl⟩⟩
theorem gL_17 : aLk RL 17 yX8_term := Or.inl (aTB_at 679 (by decide +kernel) rfl)
theorem iyX8_term : Cond.instanceMethod yX8_term ∈ aTB := aTB_at 680 (by decide +kernel) rfl
theorem eyX8_term : Cond.selects RX8 yX8_term yX8_term ∈ aTB := aTB_at 681 (by decide +kernel) rfl
theorem gX8_95 : aLk RX8 95 yX8_in := Or.inl (aTB_at 683 (by decide +kernel) rfl)
theorem syX8_in : Cond.static yX8_in ∈ aTB := aTB_at 684 (by decide +kernel) rfl
theorem gX8_99 : aLk RX8 99 yX8_parts := Or.inl (aTB_at 686 (by decide +kernel) rfl)
theorem syX8_parts : Cond.static yX8_parts ∈ aTB := aTB_at 687 (by decide +kernel) rfl
theorem gX8_103 : aLk RX8 103 yX8_isTerm := Or.inl (aTB_at 689 (by decide +kernel) rfl)
theorem iyX8_isTerm : Cond.instanceMethod yX8_isTerm ∈ aTB := aTB_at 691 (by decide +kernel) rfl
theorem gL_22 : aLk RL 22 yX8_property := Or.inl (aTB_at 693 (by decide +kernel) rfl)
theorem iyX8_property : Cond.instanceMethod yX8_property ∈ aTB := aTB_at 694 (by decide +kernel) rfl
theorem eyX8_property : Cond.selects RX8 yX8_property yX8_property ∈ aTB := aTB_at 695 (by decide +kernel) rfl
theorem gL_49 : aLk RL 49 yX8_drawn := Or.inl (aTB_at 697 (by decide +kernel) rfl)
theorem iyX8_drawn : Cond.instanceMethod yX8_drawn ∈ aTB := aTB_at 698 (by decide +kernel) rfl
theorem eyX8_drawn : Cond.selects RX8 yX8_drawn yX8_drawn ∈ aTB := aTB_at 699 (by decide +kernel) rfl
theorem qX8_199 : Cond.constant RX8 199 (-2147483648) ∈ aTB := aTB_at 701 (by decide +kernel) rfl
theorem gX8_200 : aLk RX8 200 yX8_draw := Or.inl (aTB_at 702 (by decide +kernel) rfl)
theorem iyX8_draw : Cond.instanceMethod yX8_draw ∈ aTB := aTB_at 704 (by decide +kernel) rfl
theorem gX8_190 : aLk RX8 190 yX8_hash := Or.inl (aTB_at 706 (by decide +kernel) rfl)
theorem syX8_hash : Cond.static yX8_hash ∈ aTB := aTB_at 707 (by decide +kernel) rfl
theorem qX8_187 : Cond.constant RX8 187 (-1640531527) ∈ aTB := aTB_at 709 (by decide +kernel) rfl
theorem qX8_188 : Cond.constant RX8 188 (-2048144789) ∈ aTB := aTB_at 710 (by decide +kernel) rfl
theorem qX8_189 : Cond.constant RX8 189 (-1028477387) ∈ aTB := aTB_at 711 (by decide +kernel) rfl
theorem gX8_193 : aLk RX8 193 yX8_modulo := Or.inl (aTB_at 712 (by decide +kernel) rfl)
theorem syX8_modulo : Cond.static yX8_modulo ∈ aTB := aTB_at 713 (by decide +kernel) rfl
theorem gL_27 : aLk RL 27 yX8_run := Or.inl (aTB_at 715 (by decide +kernel) rfl)
theorem iyX8_run : Cond.instanceMethod yX8_run ∈ aTB := aTB_at 716 (by decide +kernel) rfl
theorem eyX8_run : Cond.selects RX8 yX8_run yX8_run ∈ aTB := aTB_at 717 (by decide +kernel) rfl
theorem gX8_231 : aLk RX8 231 yX8_isProperty := Or.inl (aTB_at 719 (by decide +kernel) rfl)
theorem iyX8_isProperty : Cond.instanceMethod yX8_isProperty ∈ aTB := aTB_at 721 (by decide +kernel) rfl
theorem gX8_234 : aLk RX8 234 yX8_anew := Or.inl (aTB_at 723 (by decide +kernel) rfl)
theorem iyX8_anew : Cond.instanceMethod yX8_anew ∈ aTB := aTB_at 725 (by decide +kernel) rfl
theorem gX8_237 : aLk RX8 237 yX8_isFailed := Or.inl (aTB_at 727 (by decide +kernel) rfl)
theorem iyX8_isFailed : Cond.instanceMethod yX8_isFailed ∈ aTB := aTB_at 729 (by decide +kernel) rfl
theorem gX8_224 : aLk RX8 224 yX8_outcome := Or.inl (aTB_at 731 (by decide +kernel) rfl)
theorem iyX8_outcome : Cond.instanceMethod yX8_outcome ∈ aTB := aTB_at 733 (by decide +kernel) rfl
theorem gX8_181 : aLk RX8 181 yX8_work := Or.inl (aTB_at 735 (by decide +kernel) rfl)
theorem iyX8_work : Cond.instanceMethod yX8_work ∈ aTB := aTB_at 737 (by decide +kernel) rfl
theorem gX8_116 : aLk RX8 116 yX8_begin := Or.inl (aTB_at 739 (by decide +kernel) rfl)
theorem iyX8_begin : Cond.instanceMethod yX8_begin ∈ aTB := aTB_at 741 (by decide +kernel) rfl
theorem gX8_120 : aLk RX8 120 yX8_nextPart := Or.inl (aTB_at 743 (by decide +kernel) rfl)
theorem iyX8_nextPart : Cond.instanceMethod yX8_nextPart ∈ aTB := aTB_at 745 (by decide +kernel) rfl
theorem gX8_137 : aLk RX8 137 yX8_nextOfChoice := Or.inl (aTB_at 747 (by decide +kernel) rfl)
theorem iyX8_nextOfChoice : Cond.instanceMethod yX8_nextOfChoice ∈ aTB := aTB_at 749 (by decide +kernel) rfl
theorem gX8_141 : aLk RX8 141 yX8_wrong := Or.inl (aTB_at 751 (by decide +kernel) rfl)
theorem iyX8_wrong : Cond.instanceMethod yX8_wrong ∈ aTB := aTB_at 753 (by decide +kernel) rfl
theorem gX8_124 : aLk RX8 124 yX8_end := Or.inl (aTB_at 755 (by decide +kernel) rfl)
theorem iyX8_end : Cond.instanceMethod yX8_end ∈ aTB := aTB_at 757 (by decide +kernel) rfl
theorem gX8_147 : aLk RX8 147 yX8_input := Or.inl (aTB_at 759 (by decide +kernel) rfl)
theorem iyX8_input : Cond.instanceMethod yX8_input ∈ aTB := aTB_at 761 (by decide +kernel) rfl
theorem gX8_149 : aLk RX8 149 yX8_whole := Or.inl (aTB_at 763 (by decide +kernel) rfl)
theorem iyX8_whole : Cond.instanceMethod yX8_whole ∈ aTB := aTB_at 765 (by decide +kernel) rfl
theorem gX8_152 : aLk RX8 152 yX8_numbers := Or.inl (aTB_at 767 (by decide +kernel) rfl)
theorem iyX8_numbers : Cond.instanceMethod yX8_numbers ∈ aTB := aTB_at 769 (by decide +kernel) rfl
theorem gX8_155 : aLk RX8 155 yX8_like := Or.inl (aTB_at 771 (by decide +kernel) rfl)
theorem iyX8_like : Cond.instanceMethod yX8_like ∈ aTB := aTB_at 773 (by decide +kernel) rfl
theorem gX8_158 : aLk RX8 158 yX8_both := Or.inl (aTB_at 775 (by decide +kernel) rfl)
theorem iyX8_both : Cond.instanceMethod yX8_both ∈ aTB := aTB_at 777 (by decide +kernel) rfl
theorem gX8_161 : aLk RX8 161 yX8_rows := Or.inl (aTB_at 779 (by decide +kernel) rfl)
theorem iyX8_rows : Cond.instanceMethod yX8_rows ∈ aTB := aTB_at 781 (by decide +kernel) rfl
theorem gX8_164 : aLk RX8 164 yX8_refused := Or.inl (aTB_at 783 (by decide +kernel) rfl)
theorem syX8_refused : Cond.static yX8_refused ∈ aTB := aTB_at 784 (by decide +kernel) rfl
theorem gX8_168 : aLk RX8 168 yX8_rowOf := Or.inl (aTB_at 786 (by decide +kernel) rfl)
theorem iyX8_rowOf : Cond.instanceMethod yX8_rowOf ∈ aTB := aTB_at 788 (by decide +kernel) rfl
theorem gX8_172 : aLk RX8 172 yX8_row := Or.inl (aTB_at 790 (by decide +kernel) rfl)
theorem iyX8_row : Cond.instanceMethod yX8_row ∈ aTB := aTB_at 792 (by decide +kernel) rfl
theorem gX8_184 : aLk RX8 184 yX8_ended := Or.inl (aTB_at 794 (by decide +kernel) rfl)
theorem iyX8_ended : Cond.instanceMethod yX8_ended ∈ aTB := aTB_at 796 (by decide +kernel) rfl
theorem gX8_228 : aLk RX8 228 yX8_keep := Or.inl (aTB_at 798 (by decide +kernel) rfl)
theorem iyX8_keep : Cond.instanceMethod yX8_keep ∈ aTB := aTB_at 800 (by decide +kernel) rfl
theorem gX8_240 : aLk RX8 240 yX8_smaller := Or.inl (aTB_at 802 (by decide +kernel) rfl)
theorem iyX8_smaller : Cond.instanceMethod yX8_smaller ∈ aTB := aTB_at 804 (by decide +kernel) rfl
theorem gX8_243 : aLk RX8 243 yX8_candidate := Or.inl (aTB_at 806 (by decide +kernel) rfl)
theorem iyX8_candidate : Cond.instanceMethod yX8_candidate ∈ aTB := aTB_at 808 (by decide +kernel) rfl
theorem gX8_246 : aLk RX8 246 yX8_takeCounter := Or.inl (aTB_at 810 (by decide +kernel) rfl)
theorem iyX8_takeCounter : Cond.instanceMethod yX8_takeCounter ∈ aTB := aTB_at 812 (by decide +kernel) rfl
theorem gX8_249 : aLk RX8 249 yX8_less := Or.inl (aTB_at 814 (by decide +kernel) rfl)
theorem syX8_less : Cond.static yX8_less ∈ aTB := aTB_at 815 (by decide +kernel) rfl
theorem gX8_252 : aLk RX8 252 yX8_without := Or.inl (aTB_at 817 (by decide +kernel) rfl)
theorem iyX8_without : Cond.instanceMethod yX8_without ∈ aTB := aTB_at 819 (by decide +kernel) rfl
theorem gL_36 : aLk RL 36 yX8_many := Or.inl (aTB_at 821 (by decide +kernel) rfl)
theorem iyX8_many : Cond.instanceMethod yX8_many ∈ aTB := aTB_at 822 (by decide +kernel) rfl
theorem eyX8_many : Cond.selects RX8 yX8_many yX8_many ∈ aTB := aTB_at 823 (by decide +kernel) rfl
theorem gX8_261 : aLk RX8 261 yX8_all := Or.inl (aTB_at 825 (by decide +kernel) rfl)
theorem iyX8_all : Cond.instanceMethod yX8_all ∈ aTB := aTB_at 827 (by decide +kernel) rfl
theorem gX8_258 : aLk RX8 258 yX8_sort := Or.inl (aTB_at 829 (by decide +kernel) rfl)
theorem syX8_sort : Cond.static yX8_sort ∈ aTB := aTB_at 830 (by decide +kernel) rfl
theorem gX8_255 : aLk RX8 255 yX8_power := Or.inl (aTB_at 832 (by decide +kernel) rfl)
theorem syX8_power : Cond.static yX8_power ∈ aTB := aTB_at 833 (by decide +kernel) rfl
theorem gL_32 : aLk RL 32 yX8_small := Or.inl (aTB_at 835 (by decide +kernel) rfl)
theorem iyX8_small : Cond.instanceMethod yX8_small ∈ aTB := aTB_at 836 (by decide +kernel) rfl
theorem eyX8_small : Cond.selects RX8 yX8_small yX8_small ∈ aTB := aTB_at 837 (by decide +kernel) rfl
theorem gX8_267 : aLk RX8 267 yX8_takeSmall := Or.inl (aTB_at 839 (by decide +kernel) rfl)
theorem iyX8_takeSmall : Cond.instanceMethod yX8_takeSmall ∈ aTB := aTB_at 841 (by decide +kernel) rfl
theorem gX8_264 : aLk RX8 264 yX8_ranked := Or.inl (aTB_at 843 (by decide +kernel) rfl)
theorem syX8_ranked : Cond.static yX8_ranked ∈ aTB := aTB_at 844 (by decide +kernel) rfl
theorem gL_41 : aLk RL 41 yX8_again := Or.inl (aTB_at 846 (by decide +kernel) rfl)
theorem iyX8_again : Cond.instanceMethod yX8_again ∈ aTB := aTB_at 847 (by decide +kernel) rfl
theorem eyX8_again : Cond.selects RX8 yX8_again yX8_again ∈ aTB := aTB_at 848 (by decide +kernel) rfl
theorem gL_45 : aLk RL 45 yX8_counter := Or.inl (aTB_at 850 (by decide +kernel) rfl)
theorem iyX8_counter : Cond.instanceMethod yX8_counter ∈ aTB := aTB_at 851 (by decide +kernel) rfl
theorem eyX8_counter : Cond.selects RX8 yX8_counter yX8_counter ∈ aTB := aTB_at 852 (by decide +kernel) rfl
theorem gL_54 : aLk RL 54 yX8_told := Or.inl (aTB_at 854 (by decide +kernel) rfl)
theorem iyX8_told : Cond.instanceMethod yX8_told ∈ aTB := aTB_at 855 (by decide +kernel) rfl
theorem eyX8_told : Cond.selects RX8 yX8_told yX8_told ∈ aTB := aTB_at 856 (by decide +kernel) rfl
theorem gL_58 : aLk RL 58 yX8_label := Or.inl (aTB_at 858 (by decide +kernel) rfl)
theorem iyX8_label : Cond.instanceMethod yX8_label ∈ aTB := aTB_at 859 (by decide +kernel) rfl
theorem eyX8_label : Cond.selects RX8 yX8_label yX8_label ∈ aTB := aTB_at 860 (by decide +kernel) rfl
theorem lL_7 : Cond.classLink RL 7 RX7 ∈ aTB := aTB_at 71 (by decide +kernel) rfl
theorem wL_7 : aNwk RL 7 5 9 [some none, some none, some none, some none, some none, some none, some none, none, none] := ⟨RX7, TX7, tyX7, rfl, uX7, tyX7_ok, lL_7, aTB_at 72 (by decide +kernel) rfl, aTB_at 60 (by decide +kernel) rfl, fun j hj => by
  rcases (show j = 0 ∨ j = 1 ∨ j = 2 ∨ j = 3 ∨ j = 4 ∨ j = 5 ∨ j = 6 ∨ j = 7 ∨ j = 8 by omega) with rfl | rfl | rfl | rfl | rfl | rfl | rfl | rfl | rfl
  · exact Or.inr ⟨rfl, rfl⟩
  · exact Or.inr ⟨rfl, rfl⟩
  · exact Or.inr ⟨rfl, rfl⟩
  · exact Or.inr ⟨rfl, rfl⟩
  · exact Or.inr ⟨rfl, rfl⟩
  · exact Or.inr ⟨rfl, rfl⟩
  · exact Or.inr ⟨rfl, rfl⟩
  · exact Or.inl ⟨rfl, rfl⟩
  · exact Or.inl ⟨rfl, rfl⟩
⟩
theorem lX7_7 : Cond.classLink RX7 7 RX6 ∈ aTB := aTB_at 79 (by decide +kernel) rfl
theorem wX7_7 : aNwk RX7 7 4 5 [some none, some none, some none, none, none] := ⟨RX6, TX6, tyX6, rfl, uX6, tyX6_ok, lX7_7, aTB_at 80 (by decide +kernel) rfl, aTB_at 61 (by decide +kernel) rfl, fun j hj => by
  rcases (show j = 0 ∨ j = 1 ∨ j = 2 ∨ j = 3 ∨ j = 4 by omega) with rfl | rfl | rfl | rfl | rfl
  · exact Or.inr ⟨rfl, rfl⟩
  · exact Or.inr ⟨rfl, rfl⟩
  · exact Or.inr ⟨rfl, rfl⟩
  · exact Or.inl ⟨rfl, rfl⟩
  · exact Or.inl ⟨rfl, rfl⟩
⟩
theorem lX6_9 : Cond.classLink RX6 9 RX4 ∈ aTB := aTB_at 85 (by decide +kernel) rfl
theorem wX6_9 : aNwk RX6 9 2 6 [some none, some none, some none, some none, some none, none] := ⟨RX4, TX4, tyX4, rfl, uX4, tyX4_ok, lX6_9, aTB_at 86 (by decide +kernel) rfl, aTB_at 62 (by decide +kernel) rfl, fun j hj => by
  rcases (show j = 0 ∨ j = 1 ∨ j = 2 ∨ j = 3 ∨ j = 4 ∨ j = 5 by omega) with rfl | rfl | rfl | rfl | rfl | rfl
  · exact Or.inr ⟨rfl, rfl⟩
  · exact Or.inr ⟨rfl, rfl⟩
  · exact Or.inr ⟨rfl, rfl⟩
  · exact Or.inr ⟨rfl, rfl⟩
  · exact Or.inr ⟨rfl, rfl⟩
  · exact Or.inl ⟨rfl, rfl⟩
⟩
theorem lX7_35 : Cond.classLink RX7 35 RX5 ∈ aTB := aTB_at 120 (by decide +kernel) rfl
theorem wX7_35 : aNwk RX7 35 3 4 [none, none, none, some none] := ⟨RX5, TX5, tyX5, rfl, uX5, tyX5_ok, lX7_35, aTB_at 122 (by decide +kernel) rfl, aTB_at 63 (by decide +kernel) rfl, fun j hj => by
  rcases (show j = 0 ∨ j = 1 ∨ j = 2 ∨ j = 3 by omega) with rfl | rfl | rfl | rfl
  · exact Or.inl ⟨rfl, rfl⟩
  · exact Or.inl ⟨rfl, rfl⟩
  · exact Or.inl ⟨rfl, rfl⟩
  · exact Or.inr ⟨rfl, rfl⟩
⟩
theorem lX7_42 : Cond.classLink RX7 42 RX1 ∈ aTB := aTB_at 167 (by decide +kernel) rfl
theorem wX7_42 : aNwk RX7 42 0 5 [some none, none, none, none, none] := ⟨RX1, TX1, tyX1, rfl, uX1, tyX1_ok, lX7_42, aTB_at 169 (by decide +kernel) rfl, aTB_at 64 (by decide +kernel) rfl, fun j hj => by
  rcases (show j = 0 ∨ j = 1 ∨ j = 2 ∨ j = 3 ∨ j = 4 by omega) with rfl | rfl | rfl | rfl | rfl
  · exact Or.inr ⟨rfl, rfl⟩
  · exact Or.inl ⟨rfl, rfl⟩
  · exact Or.inl ⟨rfl, rfl⟩
  · exact Or.inl ⟨rfl, rfl⟩
  · exact Or.inl ⟨rfl, rfl⟩
⟩
theorem lX7_49 : Cond.classLink RX7 49 RX3 ∈ aTB := aTB_at 196 (by decide +kernel) rfl
theorem wX7_49 : aNwk RX7 49 1 9 [some none, none, none, none, none, none, none, none, none] := ⟨RX3, TX3, tyX3, rfl, uX3, tyX3_ok, lX7_49, aTB_at 197 (by decide +kernel) rfl, aTB_at 65 (by decide +kernel) rfl, fun j hj => by
  rcases (show j = 0 ∨ j = 1 ∨ j = 2 ∨ j = 3 ∨ j = 4 ∨ j = 5 ∨ j = 6 ∨ j = 7 ∨ j = 8 by omega) with rfl | rfl | rfl | rfl | rfl | rfl | rfl | rfl | rfl
  · exact Or.inr ⟨rfl, rfl⟩
  · exact Or.inl ⟨rfl, rfl⟩
  · exact Or.inl ⟨rfl, rfl⟩
  · exact Or.inl ⟨rfl, rfl⟩
  · exact Or.inl ⟨rfl, rfl⟩
  · exact Or.inl ⟨rfl, rfl⟩
  · exact Or.inl ⟨rfl, rfl⟩
  · exact Or.inl ⟨rfl, rfl⟩
  · exact Or.inl ⟨rfl, rfl⟩
⟩
theorem lL_10 : Cond.classLink RL 10 RX8 ∈ aTB := aTB_at 537 (by decide +kernel) rfl
theorem wL_10 : aNwk RL 10 6 45 [none, some none, some none, some none, some none, some none, some none, some none, some none, none, some none, some none, some none, some none, some none, none, some none, none, none, none, none, some none, none, none, some none, some none, some none, some none, some none, none, some none, none, some none, none, none, none, none, none, none, none, none, none, some none, some none, some none] := ⟨RX8, TX8, tyX8, rfl, uX8, tyX8_ok, lL_10, aTB_at 538 (by decide +kernel) rfl, aTB_at 66 (by decide +kernel) rfl, fun j hj => by
  rcases (show j = 0 ∨ j = 1 ∨ j = 2 ∨ j = 3 ∨ j = 4 ∨ j = 5 ∨ j = 6 ∨ j = 7 ∨ j = 8 ∨ j = 9 ∨ j = 10 ∨ j = 11 ∨ j = 12 ∨ j = 13 ∨ j = 14 ∨ j = 15 ∨ j = 16 ∨ j = 17 ∨ j = 18 ∨ j = 19 ∨ j = 20 ∨ j = 21 ∨ j = 22 ∨ j = 23 ∨ j = 24 ∨ j = 25 ∨ j = 26 ∨ j = 27 ∨ j = 28 ∨ j = 29 ∨ j = 30 ∨ j = 31 ∨ j = 32 ∨ j = 33 ∨ j = 34 ∨ j = 35 ∨ j = 36 ∨ j = 37 ∨ j = 38 ∨ j = 39 ∨ j = 40 ∨ j = 41 ∨ j = 42 ∨ j = 43 ∨ j = 44 by omega) with rfl | rfl | rfl | rfl | rfl | rfl | rfl | rfl | rfl | rfl | rfl | rfl | rfl | rfl | rfl | rfl | rfl | rfl | rfl | rfl | rfl | rfl | rfl | rfl | rfl | rfl | rfl | rfl | rfl | rfl | rfl | rfl | rfl | rfl | rfl | rfl | rfl | rfl | rfl | rfl | rfl | rfl | rfl | rfl | rfl
  · exact Or.inl ⟨rfl, rfl⟩
  · exact Or.inr ⟨rfl, rfl⟩
  · exact Or.inr ⟨rfl, rfl⟩
  · exact Or.inr ⟨rfl, rfl⟩
  · exact Or.inr ⟨rfl, rfl⟩
  · exact Or.inr ⟨rfl, rfl⟩
  · exact Or.inr ⟨rfl, rfl⟩
  · exact Or.inr ⟨rfl, rfl⟩
  · exact Or.inr ⟨rfl, rfl⟩
  · exact Or.inl ⟨rfl, rfl⟩
  · exact Or.inr ⟨rfl, rfl⟩
  · exact Or.inr ⟨rfl, rfl⟩
  · exact Or.inr ⟨rfl, rfl⟩
  · exact Or.inr ⟨rfl, rfl⟩
  · exact Or.inr ⟨rfl, rfl⟩
  · exact Or.inl ⟨rfl, rfl⟩
  · exact Or.inr ⟨rfl, rfl⟩
  · exact Or.inl ⟨rfl, rfl⟩
  · exact Or.inl ⟨rfl, rfl⟩
  · exact Or.inl ⟨rfl, rfl⟩
  · exact Or.inl ⟨rfl, rfl⟩
  · exact Or.inr ⟨rfl, rfl⟩
  · exact Or.inl ⟨rfl, rfl⟩
  · exact Or.inl ⟨rfl, rfl⟩
  · exact Or.inr ⟨rfl, rfl⟩
  · exact Or.inr ⟨rfl, rfl⟩
  · exact Or.inr ⟨rfl, rfl⟩
  · exact Or.inr ⟨rfl, rfl⟩
  · exact Or.inr ⟨rfl, rfl⟩
  · exact Or.inl ⟨rfl, rfl⟩
  · exact Or.inr ⟨rfl, rfl⟩
  · exact Or.inl ⟨rfl, rfl⟩
  · exact Or.inr ⟨rfl, rfl⟩
  · exact Or.inl ⟨rfl, rfl⟩
  · exact Or.inl ⟨rfl, rfl⟩
  · exact Or.inl ⟨rfl, rfl⟩
  · exact Or.inl ⟨rfl, rfl⟩
  · exact Or.inl ⟨rfl, rfl⟩
  · exact Or.inl ⟨rfl, rfl⟩
  · exact Or.inl ⟨rfl, rfl⟩
  · exact Or.inl ⟨rfl, rfl⟩
  · exact Or.inl ⟨rfl, rfl⟩
  · exact Or.inr ⟨rfl, rfl⟩
  · exact Or.inr ⟨rfl, rfl⟩
  · exact Or.inr ⟨rfl, rfl⟩
⟩
theorem eyX4_allows : Cond.selects RX4 yX4_allows yX4_allows ∈ aTB := aTB_at 0 (by decide +kernel) rfl
theorem eyX4_hasParts : Cond.selects RX4 yX4_hasParts yX4_hasParts ∈ aTB := aTB_at 1 (by decide +kernel) rfl
theorem eyX4_has : Cond.selects RX4 yX4_has yX4_has ∈ aTB := aTB_at 2 (by decide +kernel) rfl
theorem eyX4_add : Cond.selects RX4 yX4_add yX4_add ∈ aTB := aTB_at 3 (by decide +kernel) rfl
theorem eyX4_hasOrNone : Cond.selects RX4 yX4_hasOrNone yX4_hasOrNone ∈ aTB := aTB_at 4 (by decide +kernel) rfl
theorem eyX1_setTypes : Cond.selects RX1 yX1_setTypes yX1_setTypes ∈ aTB := aTB_at 5 (by decide +kernel) rfl
theorem eyX1_setTerms : Cond.selects RX1 yX1_setTerms yX1_setTerms ∈ aTB := aTB_at 6 (by decide +kernel) rfl
theorem eyX7_isProperty : Cond.selects RX7 yX7_isProperty yX7_isProperty ∈ aTB := aTB_at 7 (by decide +kernel) rfl
theorem eyX7_forgetLatest : Cond.selects RX7 yX7_forgetLatest yX7_forgetLatest ∈ aTB := aTB_at 8 (by decide +kernel) rfl
theorem eyX3_clear : Cond.selects RX3 yX3_clear yX3_clear ∈ aTB := aTB_at 9 (by decide +kernel) rfl
theorem eyX5_setWhole : Cond.selects RX5 yX5_setWhole yX5_setWhole ∈ aTB := aTB_at 10 (by decide +kernel) rfl
theorem eyX5_setRow : Cond.selects RX5 yX5_setRow yX5_setRow ∈ aTB := aTB_at 11 (by decide +kernel) rfl
theorem eyX5_setNothing : Cond.selects RX5 yX5_setNothing yX5_setNothing ∈ aTB := aTB_at 12 (by decide +kernel) rfl
theorem eyX7_tryCase : Cond.selects RX7 yX7_tryCase yX7_tryCase ∈ aTB := aTB_at 13 (by decide +kernel) rfl
theorem eyX6_outcome : Cond.selects RX6 yX6_outcome yX6_outcome ∈ aTB := aTB_at 14 (by decide +kernel) rfl
theorem eyX6_work : Cond.selects RX6 yX6_work yX6_work ∈ aTB := aTB_at 15 (by decide +kernel) rfl
theorem eyX6_asWhole : Cond.selects RX6 yX6_asWhole yX6_asWhole ∈ aTB := aTB_at 16 (by decide +kernel) rfl
theorem eyX6_workChosen : Cond.selects RX6 yX6_workChosen yX6_workChosen ∈ aTB := aTB_at 17 (by decide +kernel) rfl
theorem eyX6_comeTo : Cond.selects RX6 yX6_comeTo yX6_comeTo ∈ aTB := aTB_at 18 (by decide +kernel) rfl
theorem eyX5_copy : Cond.selects RX5 yX5_copy yX5_copy ∈ aTB := aTB_at 19 (by decide +kernel) rfl
theorem eyX5_hasPlace : Cond.selects RX5 yX5_hasPlace yX5_hasPlace ∈ aTB := aTB_at 20 (by decide +kernel) rfl
theorem eyX3_countCase : Cond.selects RX3 yX3_countCase yX3_countCase ∈ aTB := aTB_at 21 (by decide +kernel) rfl
theorem eyX6_labelled : Cond.selects RX6 yX6_labelled yX6_labelled ∈ aTB := aTB_at 22 (by decide +kernel) rfl
theorem eyX7_makeSmaller : Cond.selects RX7 yX7_makeSmaller yX7_makeSmaller ∈ aTB := aTB_at 23 (by decide +kernel) rfl
theorem eyX7_takeCandidate : Cond.selects RX7 yX7_takeCandidate yX7_takeCandidate ∈ aTB := aTB_at 24 (by decide +kernel) rfl
theorem eyX5_candidateCount : Cond.selects RX5 yX5_candidateCount yX5_candidateCount ∈ aTB := aTB_at 25 (by decide +kernel) rfl
theorem eyX5_becomeCandidate : Cond.selects RX5 yX5_becomeCandidate yX5_becomeCandidate ∈ aTB := aTB_at 26 (by decide +kernel) rfl
theorem eyX5_dropPlace : Cond.selects RX5 yX5_dropPlace yX5_dropPlace ∈ aTB := aTB_at 27 (by decide +kernel) rfl
theorem eyX5_shrinkAnInt : Cond.selects RX5 yX5_shrinkAnInt yX5_shrinkAnInt ∈ aTB := aTB_at 28 (by decide +kernel) rfl
theorem eyX5_read : Cond.selects RX5 yX5_read yX5_read ∈ aTB := aTB_at 29 (by decide +kernel) rfl
theorem eyX3_read : Cond.selects RX3 yX3_read yX3_read ∈ aTB := aTB_at 30 (by decide +kernel) rfl
theorem eyX8_isTerm : Cond.selects RX8 yX8_isTerm yX8_isTerm ∈ aTB := aTB_at 31 (by decide +kernel) rfl
theorem eyX8_draw : Cond.selects RX8 yX8_draw yX8_draw ∈ aTB := aTB_at 32 (by decide +kernel) rfl
theorem eyX8_isProperty : Cond.selects RX8 yX8_isProperty yX8_isProperty ∈ aTB := aTB_at 33 (by decide +kernel) rfl
theorem eyX8_anew : Cond.selects RX8 yX8_anew yX8_anew ∈ aTB := aTB_at 34 (by decide +kernel) rfl
theorem eyX8_isFailed : Cond.selects RX8 yX8_isFailed yX8_isFailed ∈ aTB := aTB_at 35 (by decide +kernel) rfl
theorem eyX8_outcome : Cond.selects RX8 yX8_outcome yX8_outcome ∈ aTB := aTB_at 36 (by decide +kernel) rfl
theorem eyX8_work : Cond.selects RX8 yX8_work yX8_work ∈ aTB := aTB_at 37 (by decide +kernel) rfl
theorem eyX8_begin : Cond.selects RX8 yX8_begin yX8_begin ∈ aTB := aTB_at 38 (by decide +kernel) rfl
theorem eyX8_nextPart : Cond.selects RX8 yX8_nextPart yX8_nextPart ∈ aTB := aTB_at 39 (by decide +kernel) rfl
theorem eyX8_nextOfChoice : Cond.selects RX8 yX8_nextOfChoice yX8_nextOfChoice ∈ aTB := aTB_at 40 (by decide +kernel) rfl
theorem eyX8_wrong : Cond.selects RX8 yX8_wrong yX8_wrong ∈ aTB := aTB_at 41 (by decide +kernel) rfl
theorem eyX8_end : Cond.selects RX8 yX8_end yX8_end ∈ aTB := aTB_at 42 (by decide +kernel) rfl
theorem eyX8_input : Cond.selects RX8 yX8_input yX8_input ∈ aTB := aTB_at 43 (by decide +kernel) rfl
theorem eyX8_whole : Cond.selects RX8 yX8_whole yX8_whole ∈ aTB := aTB_at 44 (by decide +kernel) rfl
theorem eyX8_numbers : Cond.selects RX8 yX8_numbers yX8_numbers ∈ aTB := aTB_at 45 (by decide +kernel) rfl
theorem eyX8_like : Cond.selects RX8 yX8_like yX8_like ∈ aTB := aTB_at 46 (by decide +kernel) rfl
theorem eyX8_both : Cond.selects RX8 yX8_both yX8_both ∈ aTB := aTB_at 47 (by decide +kernel) rfl
theorem eyX8_rows : Cond.selects RX8 yX8_rows yX8_rows ∈ aTB := aTB_at 48 (by decide +kernel) rfl
theorem eyX8_rowOf : Cond.selects RX8 yX8_rowOf yX8_rowOf ∈ aTB := aTB_at 49 (by decide +kernel) rfl
theorem eyX8_row : Cond.selects RX8 yX8_row yX8_row ∈ aTB := aTB_at 50 (by decide +kernel) rfl
theorem eyX8_ended : Cond.selects RX8 yX8_ended yX8_ended ∈ aTB := aTB_at 51 (by decide +kernel) rfl
theorem eyX8_keep : Cond.selects RX8 yX8_keep yX8_keep ∈ aTB := aTB_at 52 (by decide +kernel) rfl
theorem eyX8_smaller : Cond.selects RX8 yX8_smaller yX8_smaller ∈ aTB := aTB_at 53 (by decide +kernel) rfl
theorem eyX8_candidate : Cond.selects RX8 yX8_candidate yX8_candidate ∈ aTB := aTB_at 54 (by decide +kernel) rfl
theorem eyX8_takeCounter : Cond.selects RX8 yX8_takeCounter yX8_takeCounter ∈ aTB := aTB_at 55 (by decide +kernel) rfl
theorem eyX8_without : Cond.selects RX8 yX8_without yX8_without ∈ aTB := aTB_at 56 (by decide +kernel) rfl
theorem eyX8_all : Cond.selects RX8 yX8_all yX8_all ∈ aTB := aTB_at 57 (by decide +kernel) rfl
theorem eyX8_takeSmall : Cond.selects RX8 yX8_takeSmall yX8_takeSmall ∈ aTB := aTB_at 58 (by decide +kernel) rfl
